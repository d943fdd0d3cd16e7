def w_s_readLine : List Cond := .code yX12_readLine cX12_readLine 3 (some .boolean) :: (HAppend.hAppend (α := List Cond) (β := List Cond) (γ := List Cond) [.code yX12_word cX12_word 1 none, .code yX12_blanks cX12_blanks 1 none, .code yX12_isAt cX12_isAt 3 (some .boolean), .fieldLink RX12 335 "SeaLandModel" "point" "I", .fieldLink RX12 338 "SeaLandModel" "end" "I", .fieldLink RX12 31 "SeaLandModel" "tape" "[B", .methodLink RX12 341 yX12_isAt, .instanceMethod yX12_isAt, .selects RX12 yX12_isAt yX12_isAt, .initialized RX12, .fieldLink RX12 345 "SeaLandModel" "begin" "I", .methodLink RX12 348 yX12_blanks, .instanceMethod yX12_blanks, .selects RX12 yX12_blanks yX12_blanks, .methodLink RX12 360 yX12_word, .instanceMethod yX12_word, .selects RX12 yX12_word yX12_word, .fieldLink RX12 45 "SeaLandModel" "sort" "[I", .code yX12_sortOf cX12_sortOf 1 (some .int), .code yX12_isWord cX12_isWord 4 (some .boolean), .code yJ0_length_8abf5 cJ0_length_8abf5 1 (some .int), .fieldLink RJ0 9 "java/lang/String" "value" "[B", .code yJ0_coder_7d493 cJ0_coder_7d493 1 (some .byte), .fieldLink RJ0 38 "java/lang/String" "COMPACT_STRINGS" "Z", .fieldLink RJ0 15 "java/lang/String" "coder" "B", .methodLink RJ0 335 yJ0_coder_7d493, .instanceMethod yJ0_coder_7d493, .selects RJ0 yJ0_coder_7d493 yJ0_coder_7d493, .initialized RJ0, .methodLink RX12 351 yJ0_length_8abf5, .instanceMethod yJ0_length_8abf5, .selects RJ0 yJ0_length_8abf5 yJ0_length_8abf5, .code yJ0_charAt_5068e cJ0_charAt_5068e 2 (some .char), .code yJ0_isLatin1_aae02 cJ0_isLatin1_aae02 1 (some .boolean), .methodLink RJ0 492 yJ0_isLatin1_aae02, .instanceMethod yJ0_isLatin1_aae02, .selects RJ0 yJ0_isLatin1_aae02 yJ0_isLatin1_aae02, .code yJ1_charAt_3b067 cJ1_charAt_3b067 2 (some .char), .code yJ0_checkIndex_df160 cJ0_checkIndex_df160 2 none, .fieldLink RJ0 1053 "jdk/internal/util/Preconditions" "SIOOBE_FORMATTER" "Ljava/util/function/BiFunction;", .code yJ3_checkIndex_8e157 cJ3_checkIndex_8e157 3 (some .int), .methodLink RJ0 1059 yJ3_checkIndex_8e157, .static yJ3_checkIndex_8e157, .initialized RJ3, .methodLink RJ1 9 yJ0_checkIndex_df160, .static yJ0_checkIndex_df160, .methodLink RJ0 495 yJ1_charAt_3b067, .static yJ1_charAt_3b067, .initialized RJ1, .methodLink RX12 356 yJ0_charAt_5068e, .instanceMethod yJ0_charAt_5068e, .selects RJ0 yJ0_charAt_5068e yJ0_charAt_5068e, .methodLink RX12 363 yX12_isWord, .instanceMethod yX12_isWord, .selects RX12 yX12_isWord yX12_isWord, .methodLink RX12 443 yX12_sortOf, .instanceMethod yX12_sortOf, .selects RX12 yX12_sortOf yX12_sortOf, .fieldLink RX12 60 "SeaLandModel" "begins" "[I", .fieldLink RX12 367 "SeaLandModel" "steps" "I", .fieldLink RX12 63 "SeaLandModel" "ends" "[I", .fieldLink RX12 48 "SeaLandModel" "told" "[I", .code yX12_passes cX12_passes 2 (some .boolean), .methodLink RX12 409 yX12_passes, .instanceMethod yX12_passes, .selects RX12 yX12_passes yX12_passes, .fieldLink RX12 401 "SeaLandModel" "deep" "I", .code yX12_readCond cX12_readCond 1 (some .boolean), .code yX12_readAllOf cX12_readAllOf 1 (some .boolean), .code yX12_readAtom cX12_readAtom 2 (some .boolean), .code yX12_sign cX12_sign 2 (some .boolean), .methodLink RX12 398 yX12_sign, .instanceMethod yX12_sign, .selects RX12 yX12_sign yX12_sign, .code yX12_readSum cX12_readSum 1 (some .boolean), .code yX12_readPart cX12_readPart 2 (some .boolean), .constant RX12 390 99999, .code yX12_number cX12_number 3 (some .int), .methodLink RX12 391 yX12_number, .instanceMethod yX12_number, .selects RX12 yX12_number yX12_number, .code yX12_adds cX12_adds 3 none, .fieldLink RX12 66 "SeaLandModel" "step" "[I", .fieldLink RX12 69 "SeaLandModel" "than" "[I", .methodLink RX12 387 yX12_adds, .instanceMethod yX12_adds, .selects RX12 yX12_adds yX12_adds, .code yX12_fact cX12_fact 1 (some (.object "java/lang/String")), .methodLink RX12 383 yX12_fact, .static yX12_fact, .methodLink RX12 394 yX12_readPart, .instanceMethod yX12_readPart, .selects RX12 yX12_readPart yX12_readPart, .methodLink RX12 415 yX12_readSum, .instanceMethod yX12_readSum, .selects RX12 yX12_readSum yX12_readSum, .methodLink RX12 412 yX12_readAtom, .instanceMethod yX12_readAtom, .selects RX12 yX12_readAtom yX12_readAtom, .methodLink RX12 420 yX12_readAllOf, .instanceMethod yX12_readAllOf, .selects RX12 yX12_readAllOf yX12_readAllOf, .methodLink RX12 404 yX12_readCond, .instanceMethod yX12_readCond, .selects RX12 yX12_readCond yX12_readCond, .code yX12_readLevel cX12_readLevel 2 (some .boolean), .fieldLink RX12 51 "SeaLandModel" "winter" "[I", .fieldLink RX12 54 "SeaLandModel" "from" "[I", .fieldLink RX12 57 "SeaLandModel" "to" "[I", .methodLink RX12 446 yX12_readLevel, .instanceMethod yX12_readLevel, .selects RX12 yX12_readLevel yX12_readLevel] bs)
set_option maxHeartbeats 4000000 in
set_option maxRecDepth 100000 in
theorem s_readLine (l : Launch) (dC : Nat → ClassId) (dI : Nat → Nat → Nat) (kA : Nat → ClassId) (adK adV : Nat → Nat) (G : gT) (H0 : Heap) (q : Nat → Nat) (wZ wN : Nat → Int) (wH wB wC : Int) (wL wK : Nat → Prop) (wU wV : Nat → Nat) (PI : Nat → Int → Prop) (im : Int) (PM PT : Nat → Int → Prop) (lS lB lE : Nat → Nat → Int → Prop) (lN : Nat → Int) (o0 : Nat) (nl : Int32) (pt : Int32) (en : Int32) (sv : Int32) (vt : Nat → Int32) (vO : Nat → Int32) (vB : Nat → Int32) (vX : Nat → Int32) (vS : Nat → Int32) (vN : Nat → Int32) (S0 dB dE : Nat → Int → Prop) (N : Nat) (hT : gH (dC, dI) kA (SHm q (wP wZ wN wH wB wC wL wK wU wV) PI im PM PT (lD S0 lS) (lD dB lB) (lD dE lE) lN) G H0) (hr_o0 : G o0 = some 0) (hm_pt : el H0 o0 (dI 15 12) = some (.int pt)) (hm_en : el H0 o0 (dI 15 13) = some (.int en)) (hm_sv : el H0 o0 (dI 15 28) = some (.int sv)) (hq0 : 0 ≤ pt.toInt ∧ pt.toInt ≤ 400) (hq1 : 0 ≤ en.toInt ∧ en.toInt ≤ 400) (hq2 : 0 ≤ sv.toInt ∧ sv.toInt ≤ 400) (hN : en.toInt = ((N : Nat) : Int)) (hq4 : 0 ≤ nl.toInt ∧ nl.toInt ≤ 20) (hpe : pt.toInt ≤ en.toInt) (hsp : sv.toInt ≤ pt.toInt) (hlw : lwOK S0 dB dE nl.toNatClampNeg sv.toInt) (hc_vt : ct H0 (q 10) 400 vt) (hc_vO : ct H0 (q 19) 60 vO) (hc_vB : ct H0 (q 24) 60 vB) (hc_vX : ct H0 (q 25) 60 vX) (hc_vS : ct H0 (q 26) 1200 vS) (hc_vN : ct H0 (q 27) 1200 vN) (hgz : ∀ i, 0 ≤ wZ i) (hgn : ∀ i, 6500000 ≤ wN i ∧ wN i ≤ 20200000) (hgh : 0 ≤ wH ∧ wH ≤ 40000) (hgb : 0 ≤ wB ∧ wB ≤ 3850000) (hgc : 0 ≤ wC ∧ wC ≤ 30) (hgi : 0 ≤ im ∧ im ≤ 1) (hgu : ∀ a t, G a = some (t + 1) → a = q t) : Met l yX12_readLine w_s_readLine ({ frames := 28, cells := 0, slots := 0, locals := 576 }) (va_Pc [.ref o0, .int nl] (fun U => U.heap = H0 ∧ va_K (dC, dI) vwCl (tyl kA) U ∧ EVS adK adV (gA G H0.size) U U.heap)) (va_Qi (fun (r : Int32) (u : Int32 × Int32 × Int32 × (Nat → Int → Prop) × (Nat → Int → Prop) × (Nat → Int → Prop) × (Nat → Int32) × (Nat → Int32) × (Nat → Int32) × (Nat → Int32) × (Nat → Int32)) => match u with | (p1, b1, s1, S1, dB1, dE1, vO1, vB1, vX1, vS1, vN1) => (0 ≤ p1.toInt ∧ p1.toInt ≤ 400) ∧ (0 ≤ b1.toInt ∧ b1.toInt ≤ 400) ∧ (0 ≤ s1.toInt ∧ s1.toInt ≤ 400) ∧ (0 ≤ r.toInt ∧ r.toInt ≤ 1) ∧ (r = 1 → lwOK S1 dB1 dE1 (nl.toNatClampNeg + 1) s1.toInt ∧ nl.toInt < 20) ∧ (pt.toInt ≤ p1.toInt ∧ p1.toInt ≤ en.toInt ∧ sv.toInt ≤ s1.toInt ∧ s1.toInt - sv.toInt ≤ p1.toInt - pt.toInt) ∧ ((nl.toInt = 20 ∧ r.toInt = 0 ∧ skp (tx vt) N pt.toNatClampNeg = b1.toNatClampNeg) ∨ (nl.toInt < 20 ∧ ((r.toInt = 1 ∧ lnR (kd (tx vt) N) (xn (tx vt) N) (skp (tx vt) N pt.toNatClampNeg) 1 (skp (tx vt) N p1.toNatClampNeg)) ∨ (r.toInt = 0 ∧ lnR (kd (tx vt) N) (xn (tx vt) N) (skp (tx vt) N pt.toNatClampNeg) 0 b1.toNatClampNeg)))) ∧ (zKp vO vO1 (40 + nl.toNatClampNeg)) ∧ (zKp vB vB1 (40 + nl.toNatClampNeg)) ∧ (zKp vX vX1 (40 + nl.toNatClampNeg)) ∧ (zKp vS vS1 (800 + sv.toNatClampNeg)) ∧ (zKp vN vN1 (800 + sv.toNatClampNeg)) ∧ (r.toInt = 1 → zLn (kd (tx vt) N) (xn (tx vt) N) (skp (tx vt) N pt.toNatClampNeg) (skp (tx vt) N p1.toNatClampNeg) (zwo 800 vS1 vN1) sv.toNatClampNeg s1.toNatClampNeg (vO1 (40 + nl.toNatClampNeg)) (vB1 (40 + nl.toNatClampNeg)) (vX1 (40 + nl.toNatClampNeg)))) (fun (u : Int32 × Int32 × Int32 × (Nat → Int → Prop) × (Nat → Int → Prop) × (Nat → Int → Prop) × (Nat → Int32) × (Nat → Int32) × (Nat → Int32) × (Nat → Int32) × (Nat → Int32)) (t : State) => match u with | (p1, b1, s1, S1, dB1, dE1, vO1, vB1, vX1, vS1, vN1) => gH (dC, dI) kA (SHm q (wP wZ wN wH wB wC wL wK wU wV) PI im PM PT (lD S1 lS) (lD dB1 lB) (lD dE1 lE) lN) G t.heap ∧ gF (dC, dI) SKm G ([(0, 12), (0, 14), (0, 15), (0, 28), (20, 0), (21, 0), (22, 0), (23, 0), (24, 0), (25, 0), (26, 0), (27, 0), (28, 0)] : List (Nat × Nat)) H0 t.heap ∧ el t.heap o0 (dI 15 12) = some (.int p1) ∧ el t.heap o0 (dI 15 14) = some (.int b1) ∧ el t.heap o0 (dI 15 28) = some (.int s1) ∧ ct t.heap (q 19) 60 vO1 ∧ ct t.heap (q 24) 60 vB1 ∧ ct t.heap (q 25) 60 vX1 ∧ ct t.heap (q 26) 1200 vS1 ∧ ct t.heap (q 27) 1200 vN1) (gA G H0.size)) 0 0 (gA G H0.size) := by
  refine Met.ofW (cc := cX12_readLine) (maxL := 3) (ret := (some .boolean)) (by decide) rfl ?_
  intro p e s m args below meth c s₁ B hml hv
  obtain ⟨rfl, hH0, hK, hE⟩ := hv
  have hx := B.exec
  have hb := B.bytes
  have hr := B.returns
  have hts := atoms_spec (ws := w_s_readLine) B.pre
  have hown : s.vm.findClass RX12 = some m.cls := findClass_of_methodNamed B.named
  have hlocks := B.notSynchronized
  subst hH0
  generalize hAe : gA G s.heap.size = A at hE ⊢
  have hA : ∀ q : Nat, s.heap.size ≤ q → A q := fun q h => by rw [← hAe]; exact Or.inr h
  have hG := gA_of hAe
  have hS : va_S A s.heap s.heap [] := va_S.rf
  have hF : gF (dC, dI) SKm G ([(0, 12), (0, 14), (0, 15), (0, 28), (20, 0), (21, 0), (22, 0), (23, 0), (24, 0), (25, 0), (26, 0), (27, 0), (28, 0)] : List (Nat × Nat)) s.heap s.heap := gF.rf
  have hl := lv_entry ([.ref o0, .int nl]) (n := 3) (Nat.le_of_ble_eq_true rfl)
  rw [lg_entry_eq]
  generalize (lg_sl ([.ref o0, .int nl]) ++ List.replicate (3 - (lg_sl ([.ref o0, .int nl])).length) Slot.unset).toArray = ls at hl ⊢
  have hl : lv_has ls 3 [(0, .ref o0), (1, .int nl)] := hl
  have hg1 : G (q 10) = some 11 := gx_of hT hr_o0 shm_0 (k := 10) (by decide) rfl
  have hg2 : G (q 19) = some 20 := gx_of hT hr_o0 shm_0 (k := 19) (by decide) rfl
  have hg3 : G (q 24) = some 25 := gx_of hT hr_o0 shm_0 (k := 24) (by decide) rfl
  have hg4 : G (q 25) = some 26 := gx_of hT hr_o0 shm_0 (k := 25) (by decide) rfl
  have hg5 : G (q 26) = some 27 := gx_of hT hr_o0 shm_0 (k := 26) (by decide) rfl
  have hg6 : G (q 27) = some 28 := gx_of hT hr_o0 shm_0 (k := 27) (by decide) rfl
  refine lv_aload_n hx hb dX12_readLine_0 rfl (lv_at hl 0 rfl) ?_
  have hFc := gA_free hG hA hS
  refine va_callv (va_runV (As := []) (rest := []) ⟨hx, hb, hml, hown, hts⟩ (s_word l dC dI kA adK adV G s.heap q wZ wN wH wB wC wL wK wU wV PI im PM PT (lD S0 lS) (lD dB lB) (lD dE lE) lN o0 pt en vt N hT hr_o0 hm_pt hm_en (by have q8 := ti_all pt; omega) (by have q8 := ti_all en; omega) (by have := (show pt.toInt = pt.toInt from rfl); have := (show en.toInt = en.toInt from rfl); omega) hN hc_vt hgz hgn hgh hgb hgc hgi hgu) (cwV 0 hts (goodIn_app (goodIn_r _ [15, 16, 17, 10] rfl (by decide +kernel)) (goodIn_ca (goodIn_r _ [1, 2, 3, 4, 5, 6, 7, 8, 9, 10, 11, 12, 13, 14] rfl (by decide +kernel)) (bs_in _ _))) rfl rfl rfl (by decide +kernel) ⟨(Nat.le_of_ble_eq_true rfl), (Nat.le_of_ble_eq_true rfl)⟩) ⟨fun a U g mk q => by obtain ⟨q0, q1, qK, qE⟩ := q; exact ⟨q0, q1, va_K.moved (u := U) (U := U.calling g mk a) (Vm.Alike.refl U.vm) qK, EVS.blind g mk a qE⟩, gH_rc hK hT hr_o0 shm_0 rfl, fun U hU hW => ⟨rfl, hU, va_K.moved hW.alike hK, hE.call hS hFc hU hW⟩⟩ rfl rfl hl.1 rfl (lv_room (Nat.le_of_ble_eq_true rfl)) dX12_readLine_1 ⟨(Nat.le_of_ble_eq_true rfl), (Nat.le_of_ble_eq_true rfl)⟩) hS (fun q _ h => hFc q h) hFc (fun u t H locs ht hvm hw8 hB _ _ hS => ?_)
  obtain ⟨u9, u10⟩ := u
  obtain ⟨hT, hF1, m11, m12⟩ := hB
  rw [ht] at hT hF1 m11 m12
  have m14 := (hF1.fld hr_o0 skm_0 (k := 13) (by decide) (by decide)).trans hm_en
  have m15 := (hF1.fld hr_o0 skm_0 (k := 28) (by decide) (by decide)).trans hm_sv
  have m16 := hc_vt.kept (hF1.arr hg1 skm_11 (by decide))
  have m17 := hc_vO.kept (hF1.arr hg2 skm_20 (by decide))
  have m18 := hc_vB.kept (hF1.arr hg3 skm_25 (by decide))
  have m19 := hc_vX.kept (hF1.arr hg4 skm_26 (by decide))
  have m20 := hc_vS.kept (hF1.arr hg5 skm_27 (by decide))
  have m21 := hc_vN.kept (hF1.arr hg6 skm_28 (by decide))
  have hF := hF.more hF1 (by decide)
  try dsimp only at hw8
  obtain ⟨h22, h23, hf24, hf25, hf26⟩ := hw8
  refine lv_iload_n hx hb dX12_readLine_4 rfl (lv_at hl 1 rfl) ?_
  refine lv_bipush (v := 20) hx hb dX12_readLine_5 (by decide) ?_
  refine lv_icmp_ne (tgt := 12) hx hb dX12_readLine_7 (by decide) (fun c27 => ?_) (fun c27 => ?_)
  · have t28 : nl.toInt ≠ 20 := ti_ne c27 rfl (by decide)
    refine lv_bipush (v := 40) hx hb dX12_readLine_12 (by decide) ?_
    refine lv_iload_n hx hb dX12_readLine_14 rfl (lv_at hl 1 rfl) ?_
    refine lv_iadd hx hb dX12_readLine_15 ?_
    refine lv_topi (fun x29 ex29 => ?_)
    have t30 : x29.toInt = 40 + nl.toInt := ti_add ex29 (by decide) rfl (by omega) (by omega)
    refine lv_istore_n (lv' := [(2, .int x29), (0, .ref o0), (1, .int nl)]) hx hb dX12_readLine_16 rfl hl (by decide) rfl (fun ls hl => ?_)
    refine lv_aload_n hx hb dX12_readLine_17 rfl (lv_at hl 1 rfl) ?_
    refine tw_get hx hb hts bF_X12 hown hK hT hr_o0 shm_0 rfl 19 (by decide) (ht_at hts 17 rfl) (fun _ h9 => h9) dX12_readLine_18 (fun v9 m31 h9 => ?_)
    obtain ⟨rfl, hg32⟩ := h9 _ rfl
    refine lv_iload_n hx hb dX12_readLine_21 rfl (lv_at hl 0 rfl) ?_
    refine lv_aload_n hx hb dX12_readLine_22 rfl (lv_at hl 1 rfl) ?_
    have hFc := gA_free hG hA hS
    refine va_calli (va_runV (As := []) (rest := [.int x29, .ref (q 19)]) ⟨hx, hb, hml, hown, hts⟩ (s_sortOf l dC dI kA adK adV G H q wZ wN wH wB wC wL wK wU wV PI im PM PT (lD S0 lS) (lD dB lB) (lD dE lE) lN o0 u9 u10 vt hT hr_o0 m11 m12 (by have q8 := ti_all u9; omega) (by have q8 := ti_all u10; omega) (by have := (show u9.toInt = u9.toInt from rfl); have := (show u10.toInt = u10.toInt from rfl); omega) m16 hgz hgn hgh hgb hgc hgi hgu) (cwV 0 hts (goodIn_app (goodIn_r _ [56, 57, 58, 10] rfl (by decide +kernel)) (goodIn_ca (goodIn_r _ [19, 20, 4, 11, 21, 22, 23, 24, 25, 26, 27, 28, 29, 30, 31, 32, 6, 33, 34, 35, 36, 37, 38, 39, 40, 41, 42, 43, 44, 45, 46, 47, 48, 49, 50, 51, 52, 53, 54, 55, 10] rfl (by decide +kernel)) (bs_in _ _))) rfl rfl rfl (by decide +kernel) ⟨(Nat.le_of_ble_eq_true rfl), (Nat.le_of_ble_eq_true rfl)⟩) ⟨fun a U g mk q => by obtain ⟨q0, q1, qK, qE⟩ := q; exact ⟨q0, q1, va_K.moved (u := U) (U := U.calling g mk a) (Vm.Alike.refl U.vm) qK, EVS.blind g mk a qE⟩, gH_rc hK hT hr_o0 shm_0 rfl, fun U hU hW => ⟨rfl, hU, va_K.moved hW.alike hK, hE.call hS hFc hU hW⟩⟩ rfl rfl hl.1 rfl (lv_room (Nat.le_of_ble_eq_true rfl)) dX12_readLine_23 ⟨(Nat.le_of_ble_eq_true rfl), (Nat.le_of_ble_eq_true rfl)⟩) hS (fun q _ h => hFc q h) hFc (fun r33 u t H locs ht hvm hw34 hB _ _ hS => ?_)
    obtain ⟨hT, hF1⟩ := hB
    rw [ht] at hT hF1
    have m35 := (hF1.fld hr_o0 skm_0 (k := 13) (by decide) (by decide)).trans m14
    have m36 := (hF1.fld hr_o0 skm_0 (k := 28) (by decide) (by decide)).trans m15
    have m37 := m16.kept (hF1.arr hg1 skm_11 (by decide))
    have m38 := m17.kept (hF1.arr hg2 skm_20 (by decide))
    have m39 := m18.kept (hF1.arr hg3 skm_25 (by decide))
    have m40 := m19.kept (hF1.arr hg4 skm_26 (by decide))
    have m41 := m20.kept (hF1.arr hg5 skm_27 (by decide))
    have m42 := m21.kept (hF1.arr hg6 skm_28 (by decide))
    have m43 := (hF1.fld hr_o0 skm_0 (k := 12) (by decide) (by decide)).trans m11
    have m44 := (hF1.fld hr_o0 skm_0 (k := 14) (by decide) (by decide)).trans m12
    have hF := hF.more hF1 (by decide)
    try dsimp only at hw34
    obtain ⟨h45, hf46⟩ := hw34
    refine tw_iast (i := x29) (x := r33) hx hb hK hT hG hS hg2 shm_20 rfl (vin_t (a := x29.toInt) rfl (by omega) (by omega)) (gi_all _) dX12_readLine_26 (fun H locs hT oq m47 oi hS => ?_)
    have hF := hF.ast hg2 skm_20 oq (by decide)
    have m48 := (el_kept (oq _ (gne hr_o0 hg2 (by decide)))).trans m35
    have m49 := (el_kept (oq _ (gne hr_o0 hg2 (by decide)))).trans m36
    have m50 := m37.kept (oq _ (gne hg1 hg2 (by decide)))
    have m51 := m38.put m47 oi
    have m52 := m39.kept (oq _ (gne hg3 hg2 (by decide)))
    have m53 := m40.kept (oq _ (gne hg4 hg2 (by decide)))
    have m54 := m41.kept (oq _ (gne hg5 hg2 (by decide)))
    have m55 := m42.kept (oq _ (gne hg6 hg2 (by decide)))
    have m56 := (el_kept (oq _ (gne hr_o0 hg2 (by decide)))).trans m43
    have m57 := (el_kept (oq _ (gne hr_o0 hg2 (by decide)))).trans m44
    refine lv_aload_n hx hb dX12_readLine_27 rfl (lv_at hl 1 rfl) ?_
    refine tw_get hx hb hts bF_X12 hown hK hT hr_o0 shm_0 rfl 24 (by decide) (ht_at hts 58 rfl) (fun _ h9 => h9) dX12_readLine_28 (fun v9 m58 h9 => ?_)
    obtain ⟨rfl, hg59⟩ := h9 _ rfl
    refine lv_iload_n hx hb dX12_readLine_31 rfl (lv_at hl 0 rfl) ?_
    refine lv_aload_n hx hb dX12_readLine_32 rfl (lv_at hl 1 rfl) ?_
    refine tw_getM (v := .int sv) hx hb hts bF_X12 hown hK hT hr_o0 shm_0 rfl 28 (by decide) (ht_at hts 59 rfl) (fun _ h9 => h9) m49 dX12_readLine_33 ?_
    have t60 : ((x29.toNatClampNeg : Nat) : Int) = x29.toInt := tn_of (show x29.toInt = x29.toInt from rfl) (by omega)
    have t61 : ((nl.toNatClampNeg : Nat) : Int) = nl.toInt := tn_of rfl (by omega)
    refine tw_iast2 (Sg1 := (SHm q (wP wZ wN wH wB wC wL wK wU wV) PI im PM PT (lD S0 lS) (lD (pset dB nl.toNatClampNeg (fun y => y = sv.toInt)) lB) (lD dE lE) lN)) (i := x29) (x := sv) hx hb hK hT hG hS hg3 shm_25 rfl shm_25 shm_o25 (fun b9 h9 => hgu b9 24 h9) (vin_t (a := x29.toInt) rfl (by omega) (by omega)) (⟨_, rfl, lb_hv (n := nl.toNatClampNeg) (by omega) (by omega) (by have q8 := ti_all sv; omega) rfl⟩) (fun k9 hk9 hne9 v9 hv9 he9 => by obtain ⟨x9, rfl, p9⟩ := he9; exact ⟨x9, rfl, lb_hm (n := nl.toNatClampNeg) hk9 (by omega) p9⟩) dX12_readLine_36 (fun H locs hT oq m62 oi hS => ?_)
    have hF := hF.ast hg3 skm_25 oq (by decide)
    have m63 := (el_kept (oq _ (gne hr_o0 hg3 (by decide)))).trans m48
    have m64 := (el_kept (oq _ (gne hr_o0 hg3 (by decide)))).trans m49
    have m65 := m50.kept (oq _ (gne hg1 hg3 (by decide)))
    have m66 := m51.kept (oq _ (gne hg2 hg3 (by decide)))
    have m67 := m52.put m62 oi
    have m68 := m53.kept (oq _ (gne hg4 hg3 (by decide)))
    have m69 := m54.kept (oq _ (gne hg5 hg3 (by decide)))
    have m70 := m55.kept (oq _ (gne hg6 hg3 (by decide)))
    have m71 := (el_kept (oq _ (gne hr_o0 hg3 (by decide)))).trans m56
    have m72 := (el_kept (oq _ (gne hr_o0 hg3 (by decide)))).trans m57
    have m73 := (el_kept (oq _ (gne hg2 hg3 (by decide)))).trans m47
    refine lv_aload_n hx hb dX12_readLine_37 rfl (lv_at hl 1 rfl) ?_
    refine tw_get hx hb hts bF_X12 hown hK hT hr_o0 shm_0 rfl 25 (by decide) (ht_at hts 60 rfl) (fun _ h9 => h9) dX12_readLine_38 (fun v9 m74 h9 => ?_)
    obtain ⟨rfl, hg75⟩ := h9 _ rfl
    refine lv_iload_n hx hb dX12_readLine_41 rfl (lv_at hl 0 rfl) ?_
    refine lv_aload_n hx hb dX12_readLine_42 rfl (lv_at hl 1 rfl) ?_
    refine tw_getM (v := .int sv) hx hb hts bF_X12 hown hK hT hr_o0 shm_0 rfl 28 (by decide) (ht_at hts 59 rfl) (fun _ h9 => h9) m64 dX12_readLine_43 ?_
    have t76 : ((x29.toNatClampNeg : Nat) : Int) = x29.toInt := tn_of (show x29.toInt = x29.toInt from rfl) (by omega)
    have t77 : ((nl.toNatClampNeg : Nat) : Int) = nl.toInt := tn_of rfl (by omega)
    refine tw_iast2 (Sg1 := (SHm q (wP wZ wN wH wB wC wL wK wU wV) PI im PM PT (lD S0 lS) (lD (pset dB nl.toNatClampNeg (fun y => y = sv.toInt)) lB) (lD (pset dE nl.toNatClampNeg (fun y => y ≤ sv.toInt)) lE) lN)) (i := x29) (x := sv) hx hb hK hT hG hS hg4 shm_26 rfl shm_26 shm_o26 (fun b9 h9 => hgu b9 25 h9) (vin_t (a := x29.toInt) rfl (by omega) (by omega)) (⟨_, rfl, lb_hv (n := nl.toNatClampNeg) (by omega) (by omega) (by have q8 := ti_all sv; omega) (Int.le_refl _)⟩) (fun k9 hk9 hne9 v9 hv9 he9 => by obtain ⟨x9, rfl, p9⟩ := he9; exact ⟨x9, rfl, lb_hm (n := nl.toNatClampNeg) hk9 (by omega) p9⟩) dX12_readLine_46 (fun H locs hT oq m78 oi hS => ?_)
    have hF := hF.ast hg4 skm_26 oq (by decide)
    have m79 := (el_kept (oq _ (gne hr_o0 hg4 (by decide)))).trans m63
    have m80 := (el_kept (oq _ (gne hr_o0 hg4 (by decide)))).trans m64
    have m81 := m65.kept (oq _ (gne hg1 hg4 (by decide)))
    have m82 := m66.kept (oq _ (gne hg2 hg4 (by decide)))
    have m83 := m67.kept (oq _ (gne hg3 hg4 (by decide)))
    have m84 := m68.put m78 oi
    have m85 := m69.kept (oq _ (gne hg5 hg4 (by decide)))
    have m86 := m70.kept (oq _ (gne hg6 hg4 (by decide)))
    have m87 := (el_kept (oq _ (gne hr_o0 hg4 (by decide)))).trans m71
    have m88 := (el_kept (oq _ (gne hr_o0 hg4 (by decide)))).trans m72
    have m89 := (el_kept (oq _ (gne hg2 hg4 (by decide)))).trans m73
    refine lv_aload_n hx hb dX12_readLine_47 rfl (lv_at hl 1 rfl) ?_
    refine tw_get hx hb hts bF_X12 hown hK hT hr_o0 shm_0 rfl 20 (by decide) (ht_at hts 61 rfl) (fun _ h9 => h9) dX12_readLine_48 (fun v9 m91 h9 => ?_)
    obtain ⟨rfl, hg92⟩ := h9 _ rfl
    refine lv_iload_n hx hb dX12_readLine_51 rfl (lv_at hl 0 rfl) ?_
    refine lv_iconst (v := 0) hx hb dX12_readLine_52 (by decide) ?_
    refine tw_iast (i := x29) (x := 0) hx hb hK hT hG hS hg92 shm_21 rfl (vin_t (a := x29.toInt) rfl (by omega) (by omega)) (gi_all _) dX12_readLine_53 (fun H locs hT oq m93 oi hS => ?_)
    have hF := hF.ast hg92 skm_21 oq (by decide)
    have m94 := (el_kept (oq _ (gne hr_o0 hg92 (by decide)))).trans m79
    have m95 := (el_kept (oq _ (gne hr_o0 hg92 (by decide)))).trans m80
    have m96 := m81.kept (oq _ (gne hg1 hg92 (by decide)))
    have m97 := m82.kept (oq _ (gne hg2 hg92 (by decide)))
    have m98 := m83.kept (oq _ (gne hg3 hg92 (by decide)))
    have m99 := m84.kept (oq _ (gne hg4 hg92 (by decide)))
    have m100 := m85.kept (oq _ (gne hg5 hg92 (by decide)))
    have m101 := m86.kept (oq _ (gne hg6 hg92 (by decide)))
    have m102 := (el_kept (oq _ (gne hr_o0 hg92 (by decide)))).trans m87
    have m103 := (el_kept (oq _ (gne hr_o0 hg92 (by decide)))).trans m88
    have m104 := (el_kept (oq _ (gne hg2 hg92 (by decide)))).trans m89
    refine lv_aload_n hx hb dX12_readLine_54 rfl (lv_at hl 1 rfl) ?_
    refine tw_get hx hb hts bF_X12 hown hK hT hr_o0 shm_0 rfl 19 (by decide) (ht_at hts 17 rfl) (fun _ h9 => h9) dX12_readLine_55 (fun v9 m107 h9 => ?_)
    obtain ⟨rfl, hg108⟩ := h9 _ rfl
    refine lv_iload_n hx hb dX12_readLine_58 rfl (lv_at hl 0 rfl) ?_
    refine tw_iald (i := x29) hx hb hK hT hg2 shm_20 rfl (vin_t (a := x29.toInt) rfl (by omega) (by omega)) dX12_readLine_59 (fun v9 m109 h9 => ?_)
    obtain ⟨x110, rfl, gx110, kx110⟩ := h9
    have cx110 := m97.at m109 (by have q9 := tn_of (show x29.toInt = x29.toInt from rfl) (by omega); omega)
    obtain rfl : r33 = x110 := (el_same m109 m104 rfl).symm
    refine lv_if_ge (tgt := 65) hx hb dX12_readLine_60 (by decide) (fun c111 => ?_) (fun c111 => ?_)
    · have t112 : 0 ≤ r33.toInt := ti_le c111 (by decide) rfl
      refine lv_aload_n hx hb dX12_readLine_65 rfl (lv_at hl 1 rfl) ?_
      refine tw_get hx hb hts bF_X12 hown hK hT hr_o0 shm_0 rfl 19 (by decide) (ht_at hts 17 rfl) (fun _ h9 => h9) dX12_readLine_66 (fun v9 m113 h9 => ?_)
      obtain ⟨rfl, hg114⟩ := h9 _ rfl
      refine lv_iload_n hx hb dX12_readLine_69 rfl (lv_at hl 0 rfl) ?_
      refine tw_iald (i := x29) hx hb hK hT hg2 shm_20 rfl (vin_t (a := x29.toInt) rfl (by omega) (by omega)) dX12_readLine_70 (fun v9 m115 h9 => ?_)
      obtain ⟨x116, rfl, gx116, kx116⟩ := h9
      have cx116 := m97.at m115 (by have q9 := tn_of (show x29.toInt = x29.toInt from rfl) (by omega); omega)
      obtain rfl : r33 = x116 := (el_same m115 m104 rfl).symm
      refine lv_bipush (v := 7) hx hb dX12_readLine_71 (by decide) ?_
      refine lv_icmp_ne (tgt := 82) hx hb dX12_readLine_73 (by decide) (fun c117 => ?_) (fun c117 => ?_)
      · have t118 : r33.toInt ≠ 7 := ti_ne c117 rfl (by decide)
        refine lv_aload_n hx hb dX12_readLine_82 rfl (lv_at hl 1 rfl) ?_
        refine tw_get hx hb hts bF_X12 hown hK hT hr_o0 shm_0 rfl 19 (by decide) (ht_at hts 17 rfl) (fun _ h9 => h9) dX12_readLine_83 (fun v9 m119 h9 => ?_)
        obtain ⟨rfl, hg120⟩ := h9 _ rfl
        refine lv_iload_n hx hb dX12_readLine_86 rfl (lv_at hl 0 rfl) ?_
        refine tw_iald (i := x29) hx hb hK hT hg2 shm_20 rfl (vin_t (a := x29.toInt) rfl (by omega) (by omega)) dX12_readLine_87 (fun v9 m121 h9 => ?_)
        obtain ⟨x122, rfl, gx122, kx122⟩ := h9
        have cx122 := m97.at m121 (by have q9 := tn_of (show x29.toInt = x29.toInt from rfl) (by omega); omega)
        obtain rfl : r33 = x122 := (el_same m121 m104 rfl).symm
        refine lv_iconst (v := 5) hx hb dX12_readLine_88 (by decide) ?_
        refine lv_icmp_eq (tgt := 159) hx hb dX12_readLine_89 (by decide) (fun c123 => ?_) (fun c123 => ?_)
        · have t124 : r33.toInt = 5 := ti_eq c123 rfl (by decide)
          refine lv_aload_n hx hb dX12_readLine_159 rfl (lv_at hl 1 rfl) ?_
          refine tw_get hx hb hts bF_X12 hown hK hT hr_o0 shm_0 rfl 19 (by decide) (ht_at hts 17 rfl) (fun _ h9 => h9) dX12_readLine_160 (fun v9 m125 h9 => ?_)
          obtain ⟨rfl, hg126⟩ := h9 _ rfl
          refine lv_iload_n hx hb dX12_readLine_163 rfl (lv_at hl 0 rfl) ?_
          refine tw_iald (i := x29) hx hb hK hT hg2 shm_20 rfl (vin_t (a := x29.toInt) rfl (by omega) (by omega)) dX12_readLine_164 (fun v9 m127 h9 => ?_)
          obtain ⟨x128, rfl, gx128, kx128⟩ := h9
          have cx128 := m97.at m127 (by have q9 := tn_of (show x29.toInt = x29.toInt from rfl) (by omega); omega)
          obtain rfl : r33 = x128 := (el_same m127 m104 rfl).symm
          refine lv_bipush (v := 6) hx hb dX12_readLine_165 (by decide) ?_
          refine lv_icmp_le (tgt := 172) hx hb dX12_readLine_167 (by decide) (fun c129 => ?_) (fun c129 => (by exfalso; have q9 : 6 < r33.toInt := ti_nle c129 rfl (by decide); omega))
          have t130 : r33.toInt ≤ 6 := ti_le c129 rfl (by decide)
          refine lv_aload_n hx hb dX12_readLine_172 rfl (lv_at hl 1 rfl) ?_
          refine tw_ldcwS hx hb hown hE.s23 dX12_readLine_173 ?_
          have hFc := gA_free hG hA hS
          refine va_calli (va_runV (As := [.ref (adK 23)]) (rest := []) ⟨hx, hb, hml, hown, hts⟩ (s_passes l dC dI kA adK adV G H q wZ wN wH wB wC wL wK wU wV PI im PM PT (lD S0 lS) (lD (pset dB nl.toNatClampNeg (fun y => y = sv.toInt)) lB) (lD (pset dE nl.toNatClampNeg (fun y => y ≤ sv.toInt)) lE) lN o0 u9 en vt 23 N hT hr_o0 m102 m94 (by have q8 := ti_all u9; omega) (by have q8 := ti_all en; omega) (by have := (show u9.toInt = u9.toInt from rfl); have := (show en.toInt = en.toInt from rfl); omega) hN (by first | omega | decide) m96 hgz hgn hgh hgb hgc hgi hgu) (cwV 1 hts (goodIn_app (goodIn_r _ [64, 65, 66, 10] rfl (by decide +kernel)) (goodIn_ca (goodIn_r _ [63, 1, 2, 3, 4, 5, 6, 7, 8, 9, 10, 11, 12, 13, 14, 15, 16, 17, 20, 21, 22, 23, 24, 25, 26, 27, 28, 29, 30, 31, 32, 33, 34, 35, 36, 37, 38, 39, 40, 41, 42, 43, 44, 45, 46, 47, 48, 49, 50, 51, 52, 53, 54, 55] rfl (by decide +kernel)) (bs_in _ _))) rfl rfl rfl (by decide +kernel) ⟨(Nat.le_of_ble_eq_true rfl), (Nat.le_of_ble_eq_true rfl)⟩) ⟨fun a U g mk q => by obtain ⟨q0, q1, qK, qE⟩ := q; exact ⟨q0, q1, va_K.moved (u := U) (U := U.calling g mk a) (Vm.Alike.refl U.vm) qK, EVS.blind g mk a qE⟩, gH_rc hK hT hr_o0 shm_0 rfl, fun U hU hW => ⟨rfl, hU, va_K.moved hW.alike hK, hE.call hS hFc hU hW⟩⟩ rfl rfl hl.1 rfl (lv_room (Nat.le_of_ble_eq_true rfl)) dX12_readLine_176 ⟨(Nat.le_of_ble_eq_true rfl), (Nat.le_of_ble_eq_true rfl)⟩) hS (fun q _ h => hFc q h) hFc (fun r131 u t H locs ht hvm hw132 hB _ _ hS => ?_)
          obtain ⟨u133, u134⟩ := u
          obtain ⟨hT, hF1, m135, m136⟩ := hB
          rw [ht] at hT hF1 m135 m136
          have m137 := (hF1.fld hr_o0 skm_0 (k := 13) (by decide) (by decide)).trans m94
          have m138 := (hF1.fld hr_o0 skm_0 (k := 28) (by decide) (by decide)).trans m95
          have m139 := m96.kept (hF1.arr hg1 skm_11 (by decide))
          have m140 := m97.kept (hF1.arr hg2 skm_20 (by decide))
          have m141 := m98.kept (hF1.arr hg3 skm_25 (by decide))
          have m142 := m99.kept (hF1.arr hg4 skm_26 (by decide))
          have m143 := m100.kept (hF1.arr hg5 skm_27 (by decide))
          have m144 := m101.kept (hF1.arr hg6 skm_28 (by decide))
          have hF := hF.more hF1 (by decide)
          try dsimp only at hw132
          obtain ⟨h151, h152, h153, hi154, hf155, hf156, hf157⟩ := hw132
          refine lv_if_eq (tgt := 196) hx hb dX12_readLine_179 (by decide) (fun c158 => ?_) (fun c158 => ?_)
          · have t159 : r131.toInt = 0 := ti_eq c158 rfl (by decide)
            refine lv_aload_n hx hb dX12_readLine_196 rfl (lv_at hl 1 rfl) ?_
            refine tw_get hx hb hts bF_X12 hown hK hT hr_o0 shm_0 rfl 25 (by decide) (ht_at hts 60 rfl) (fun _ h9 => h9) dX12_readLine_197 (fun v9 m160 h9 => ?_)
            obtain ⟨rfl, hg161⟩ := h9 _ rfl
            refine lv_iload_n hx hb dX12_readLine_200 rfl (lv_at hl 0 rfl) ?_
            refine lv_aload_n hx hb dX12_readLine_201 rfl (lv_at hl 1 rfl) ?_
            refine tw_getM (v := .int sv) hx hb hts bF_X12 hown hK hT hr_o0 shm_0 rfl 28 (by decide) (ht_at hts 59 rfl) (fun _ h9 => h9) m138 dX12_readLine_202 ?_
            have t162 : ((x29.toNatClampNeg : Nat) : Int) = x29.toInt := tn_of (show x29.toInt = x29.toInt from rfl) (by omega)
            have t163 : ((nl.toNatClampNeg : Nat) : Int) = nl.toInt := tn_of rfl (by omega)
            refine tw_iast2 (Sg1 := (SHm q (wP wZ wN wH wB wC wL wK wU wV) PI im PM PT (lD S0 lS) (lD (pset dB nl.toNatClampNeg (fun y => y = sv.toInt)) lB) (lD (pset (pset dE nl.toNatClampNeg (fun y => y ≤ sv.toInt)) nl.toNatClampNeg (fun y => y ≤ sv.toInt)) lE) lN)) (i := x29) (x := sv) hx hb hK hT hG hS hg4 shm_26 rfl shm_26 shm_o26 (fun b9 h9 => hgu b9 25 h9) (vin_t (a := x29.toInt) rfl (by omega) (by omega)) (⟨_, rfl, lb_hv (n := nl.toNatClampNeg) (by omega) (by omega) (by have q8 := ti_all sv; omega) (Int.le_refl _)⟩) (fun k9 hk9 hne9 v9 hv9 he9 => by obtain ⟨x9, rfl, p9⟩ := he9; exact ⟨x9, rfl, lb_hm (n := nl.toNatClampNeg) hk9 (by omega) p9⟩) dX12_readLine_205 (fun H locs hT oq m164 oi hS => ?_)
            have hF := hF.ast hg4 skm_26 oq (by decide)
            have m166 := (el_kept (oq _ (gne hr_o0 hg4 (by decide)))).trans m138
            have m168 := m140.kept (oq _ (gne hg2 hg4 (by decide)))
            have m169 := m141.kept (oq _ (gne hg3 hg4 (by decide)))
            have m170 := m142.put m164 oi
            have m171 := m143.kept (oq _ (gne hg5 hg4 (by decide)))
            have m172 := m144.kept (oq _ (gne hg6 hg4 (by decide)))
            have m176 := (el_kept (oq _ (gne hr_o0 hg4 (by decide)))).trans m135
            have m177 := (el_kept (oq _ (gne hr_o0 hg4 (by decide)))).trans m136
            refine lv_iconst (v := 1) hx hb dX12_readLine_206 (by decide) ?_
            exact W.zret (v := 1) hx hb hr (by decide) (fun t ht hW => ⟨⟨1, (u133, u134, sv, S0, (pset dB nl.toNatClampNeg (fun y => y = sv.toInt)), (pset (pset dE nl.toNatClampNeg (fun y => y ≤ sv.toInt)) nl.toNatClampNeg (fun y => y ≤ sv.toInt)), (cu vO x29.toNatClampNeg r33), (cu vB x29.toNatClampNeg sv), (cu (cu vX x29.toNatClampNeg sv) x29.toNatClampNeg sv), vS, vN), rfl, (by exact ⟨(by have q8 := ti_all u133; omega), (by have q8 := ti_all u134; omega), (by have q8 := ti_all sv; omega), (rg_t (a := 1) (by decide) (by first | decide | omega) (by first | decide | omega)), (fun _ => ⟨lw_next1 hlw, by omega⟩), (by omega), (by have := tn_of (show u10.toInt = u10.toInt from rfl) (by omega); have := tn_of (show u9.toInt = u9.toInt from rfl) (by omega); have := tn_of (show en.toInt = en.toInt from rfl) (by omega); have s9 := hf46; rw [← hf26] at s9; have l9 := so_k (t := (tx vt)) (n := N) (by omega) s9; rw [← hf25] at l9; have x9 : skp (tx vt) N u9.toNatClampNeg = xn (tx vt) N (skp (tx vt) N pt.toNatClampNeg) := (by have z9 := lk_x (t := (tx vt)) (n := N) (b := (skp (tx vt) N pt.toNatClampNeg)) (by omega); unfold xn; rw [z9, hf25, hf26]; rfl); exact Or.inr ⟨by omega, Or.inl ⟨by decide, Or.inr (Or.inr (Or.inr (Or.inr (Or.inl ⟨by omega, (by rw [← x9]; exact (by have a9 := (hf157.resolve_left (fun h8 => by have := h8.2.1; omega)); exact Or.inl ⟨fun h7 => a9.1 (h7.trans (by decide)), rfl, a9.2.2⟩))⟩))))⟩⟩), (zKp.rf.st (by have := tn_of (show x29.toInt = x29.toInt from rfl) (by omega); have := tn_of (show nl.toInt = nl.toInt from rfl) (by omega); omega)), (zKp.rf.st (by have := tn_of (show x29.toInt = x29.toInt from rfl) (by omega); have := tn_of (show nl.toInt = nl.toInt from rfl) (by omega); omega)), ((zKp.rf.st (by have := tn_of (show x29.toInt = x29.toInt from rfl) (by omega); have := tn_of (show nl.toInt = nl.toInt from rfl) (by omega); omega)).st (by have := tn_of (show x29.toInt = x29.toInt from rfl) (by omega); have := tn_of (show nl.toInt = nl.toInt from rfl) (by omega); omega)), zKp.rf, zKp.rf, (fun _ => by have := tn_of (show u10.toInt = u10.toInt from rfl) (by omega); have := tn_of (show u9.toInt = u9.toInt from rfl) (by omega); have := tn_of (show en.toInt = en.toInt from rfl) (by omega); have s9 := hf46; rw [← hf26] at s9; have l9 := so_k (t := (tx vt)) (n := N) (by omega) s9; rw [← hf25] at l9; have x9 : skp (tx vt) N u9.toNatClampNeg = xn (tx vt) N (skp (tx vt) N pt.toNatClampNeg) := (by have z9 := lk_x (t := (tx vt)) (n := N) (b := (skp (tx vt) N pt.toNatClampNeg)) (by omega); unfold xn; rw [z9, hf25, hf26]; rfl); exact ⟨((lkT (kd (tx vt) N (skp (tx vt) N pt.toNatClampNeg))), (zC (zwo 800 vS vN) sv.toNatClampNeg sv.toNatClampNeg)), ⟨rfl, Or.inr (Or.inr (Or.inr (Or.inl ⟨by omega, (by rw [← x9]; exact (by have a9 := (hf157.resolve_left (fun h8 => by have := h8.2.1; omega)); exact Or.inl ⟨fun h7 => a9.1 (h7.trans (by decide)), zC_0, a9.2.2⟩))⟩)))⟩, (congrArg Int32.toInt (cu_s (show 40 + nl.toNatClampNeg = x29.toNatClampNeg from by have := tn_of (show x29.toInt = x29.toInt from rfl) (by omega); have := tn_of (show nl.toInt = nl.toInt from rfl) (by omega); omega))).trans (by have := (show r33.toInt = r33.toInt from rfl); omega), fun _ => ⟨congrArg Int32.toNatClampNeg (cu_s (show 40 + nl.toNatClampNeg = x29.toNatClampNeg from by have := tn_of (show x29.toInt = x29.toInt from rfl) (by omega); have := tn_of (show nl.toInt = nl.toInt from rfl) (by omega); omega)), congrArg Int32.toNatClampNeg (cu_s (show 40 + nl.toNatClampNeg = x29.toNatClampNeg from by have := tn_of (show x29.toInt = x29.toInt from rfl) (by omega); have := tn_of (show nl.toInt = nl.toInt from rfl) (by omega); omega)), rfl⟩⟩)⟩), by (try dsimp only); rw [ht]; exact ⟨hT, hF, m176, m177, m166, m168, m169, m170, m171, m172⟩⟩, hS.F ht⟩) hS.2.2 dX12_readLine_207
          · have t178 : r131.toInt ≠ 0 := ti_ne c158 rfl (by decide)
            have t179 : u9.toInt + 1 ≤ u133.toInt := hi154 ((bit_of ⟨by omega, by omega⟩).resolve_left c158)
            refine lv_aload_n hx hb dX12_readLine_182 rfl (lv_at hl 1 rfl) ?_
            refine lv_iconst (v := 0) hx hb dX12_readLine_183 (by decide) ?_
            refine tw_put (v := .int 0) (ty := .int) hx hb hts bF_X12 tyX12 tyX12_ok nmX12 hown hK hT hG hS hr_o0 shm_0 rfl 15 (by decide) (ht_at hts 66 rfl) (fun _ h9 => h9) rfl (by decide +kernel) rfl rfl (gl_at rfl (gi_all _)) dX12_readLine_184 (fun H locs hT oq m180 oj hS => ?_)
            have hF := hF.put hr_o0 skm_0 oq oj (by decide)
            have m181 := (oj 13 (by decide) (by decide)).trans m137
            have m182 := (oj 28 (by decide) (by decide)).trans m138
            have m183 := m139.kept (oq _ (gne hg1 hr_o0 (by decide)))
            have m184 := m140.kept (oq _ (gne hg2 hr_o0 (by decide)))
            have m185 := m141.kept (oq _ (gne hg3 hr_o0 (by decide)))
            have m186 := m142.kept (oq _ (gne hg4 hr_o0 (by decide)))
            have m187 := m143.kept (oq _ (gne hg5 hr_o0 (by decide)))
            have m188 := m144.kept (oq _ (gne hg6 hr_o0 (by decide)))
            have m193 := (oj 12 (by decide) (by decide)).trans m135
            have hT : gH (dC, dI) kA (SHm q (wP wZ wN wH wB wC wL wK wU wV) PI im PM PT (lD (dS S0 sv.toInt sv.toInt (fun _ => 0)) lS) (lD (pset dB nl.toNatClampNeg (fun y => y = sv.toInt)) lB) (lD (pset dE nl.toNatClampNeg (fun y => y ≤ sv.toInt)) lE) lN) G H := SHm_mono hT (fun _ _ _ z => z) (fun _ _ _ z => z) (fun _ _ z => z) (fun _ _ z => z) (lD_m (fun _ _ q => ⟨q, fun a b => by omega⟩)) (fun _ _ _ _ z => z) (fun _ _ _ _ z => z) (fun _ => Int.le_refl _)
            refine lv_aload_n hx hb dX12_readLine_187 rfl (lv_at hl 1 rfl) ?_
            have hFc := gA_free hG hA hS
            refine va_calli (va_runV (As := []) (rest := []) ⟨hx, hb, hml, hown, hts⟩ (s_readCond0 l dC dI kA adK adV G H q wZ wN wH wB wC wL wK wU wV PI im PM PT lS (lD (pset dB nl.toNatClampNeg (fun y => y = sv.toInt)) lB) (lD (pset dE nl.toNatClampNeg (fun y => y ≤ sv.toInt)) lE) lN o0 u133 en sv 0 vt vS vN S0 sv.toInt (fun _ => 0) N hT hr_o0 m193 m181 m182 m180 (by have q8 := ti_all u133; omega) (by have q8 := ti_all en; omega) (by have q8 := ti_all sv; omega) (by have := (show u133.toInt = u133.toInt from rfl); have := (show en.toInt = en.toInt from rfl); omega) (by have := (show sv.toInt = sv.toInt from rfl); have := (show u133.toInt = u133.toInt from rfl); omega) hlw.1 (by have := (show sv.toInt = sv.toInt from rfl); omega) ⟨fun i => by show (0 : Int) ≤ (i : Int); omega, rfl⟩ (Int.le_refl 0) (rg_t (a := 0) (by decide) (by first | decide | omega) (by first | decide | omega)) hN m183 m187 m188 hgz hgn hgh hgb hgc hgi hgu) (cwV 0 hts (goodIn_app (goodIn_r _ [103, 104, 105, 10] rfl (by decide +kernel)) (goodIn_ca (goodIn_r _ [68, 69, 70, 71, 2, 3, 4, 5, 6, 7, 8, 9, 10, 11, 12, 13, 14, 72, 73, 74, 63, 1, 15, 16, 17, 20, 21, 22, 23, 24, 25, 26, 27, 28, 29, 30, 31, 32, 33, 34, 35, 36, 37, 38, 39, 40, 41, 42, 43, 44, 45, 46, 47, 48, 49, 50, 51, 52, 53, 54, 55, 64, 65, 66, 75, 76, 77, 78, 79, 80, 81, 82, 83, 60, 84, 85, 86, 87, 88, 89, 90, 91, 92, 93, 94, 95, 96, 67, 97, 98, 99, 68, 100, 101, 102, 103, 104, 105] rfl (by decide +kernel)) (bs_in _ _))) rfl rfl rfl (by decide +kernel) ⟨(Nat.le_of_ble_eq_true rfl), (Nat.le_of_ble_eq_true rfl)⟩) ⟨fun a U g mk q => by obtain ⟨q0, q1, qK, qE⟩ := q; exact ⟨q0, q1, va_K.moved (u := U) (U := U.calling g mk a) (Vm.Alike.refl U.vm) qK, EVS.blind g mk a qE⟩, gH_rc hK hT hr_o0 shm_0 rfl, fun U hU hW => ⟨rfl, hU, va_K.moved hW.alike hK, hE.call hS hFc hU hW⟩⟩ rfl rfl hl.1 rfl (lv_room (Nat.le_of_ble_eq_true rfl)) dX12_readLine_188 ⟨(Nat.le_of_ble_eq_true rfl), (Nat.le_of_ble_eq_true rfl)⟩) hS (fun q _ h => hFc q h) hFc (fun r195 u t H locs ht hvm hw196 hB _ _ hS => ?_)
            obtain ⟨u197, u198, u199, u200, u201, u202, u203⟩ := u
            obtain ⟨hT, hF1, m204, m205, m206, m207, m208, m209⟩ := hB
            rw [ht] at hT hF1 m204 m205 m206 m207 m208 m209
            have m213 := m184.kept (hF1.arr hg2 skm_20 (by decide))
            have m214 := m185.kept (hF1.arr hg3 skm_25 (by decide))
            have m215 := m186.kept (hF1.arr hg4 skm_26 (by decide))
            have hF := hF.more hF1 (by decide)
            try dsimp only at hw196
            obtain ⟨h225, h226, h227, h228, hi229, hi230, hf231, hf232, hf233, hf234, hf235, hf236⟩ := hw196
            refine lv_if_ne (tgt := 196) hx hb dX12_readLine_191 (by decide) (fun c237 => ?_) (fun c237 => ?_)
            · have t238 : r195.toInt ≠ 0 := ti_ne c237 rfl (by decide)
              have t239 : u201 u199.toNatClampNeg = (fun _ => 0) sv.toNatClampNeg + 1 := hi229 ((bit_of ⟨by omega, by omega⟩).resolve_left c237)
              have t240 : u200.toInt = 0 := hi230 ((bit_of ⟨by omega, by omega⟩).resolve_left c237)
              refine lv_aload_n hx hb dX12_readLine_196 rfl (lv_at hl 1 rfl) ?_
              refine tw_get hx hb hts bF_X12 hown hK hT hr_o0 shm_0 rfl 25 (by decide) (ht_at hts 60 rfl) (fun _ h9 => h9) dX12_readLine_197 (fun v9 m241 h9 => ?_)
              obtain ⟨rfl, hg242⟩ := h9 _ rfl
              refine lv_iload_n hx hb dX12_readLine_200 rfl (lv_at hl 0 rfl) ?_
              refine lv_aload_n hx hb dX12_readLine_201 rfl (lv_at hl 1 rfl) ?_
              refine tw_getM (v := .int u199) hx hb hts bF_X12 hown hK hT hr_o0 shm_0 rfl 28 (by decide) (ht_at hts 59 rfl) (fun _ h9 => h9) m206 dX12_readLine_202 ?_
              have t243 : ((x29.toNatClampNeg : Nat) : Int) = x29.toInt := tn_of (show x29.toInt = x29.toInt from rfl) (by omega)
              have t244 : ((nl.toNatClampNeg : Nat) : Int) = nl.toInt := tn_of rfl (by omega)
              refine tw_iast2 (Sg1 := (SHm q (wP wZ wN wH wB wC wL wK wU wV) PI im PM PT (lD (dS S0 sv.toInt u199.toInt u201) lS) (lD (pset dB nl.toNatClampNeg (fun y => y = sv.toInt)) lB) (lD (pset (pset dE nl.toNatClampNeg (fun y => y ≤ sv.toInt)) nl.toNatClampNeg (fun y => y ≤ u199.toInt)) lE) lN)) (i := x29) (x := u199) hx hb hK hT hG hS hg4 shm_26 rfl shm_26 shm_o26 (fun b9 h9 => hgu b9 25 h9) (vin_t (a := x29.toInt) rfl (by omega) (by omega)) (⟨_, rfl, lb_hv (n := nl.toNatClampNeg) (by omega) (by omega) (by have q8 := ti_all u199; omega) (Int.le_refl _)⟩) (fun k9 hk9 hne9 v9 hv9 he9 => by obtain ⟨x9, rfl, p9⟩ := he9; exact ⟨x9, rfl, lb_hm (n := nl.toNatClampNeg) hk9 (by omega) p9⟩) dX12_readLine_205 (fun H locs hT oq m245 oi hS => ?_)
              have hF := hF.ast hg4 skm_26 oq (by decide)
              have m248 := m213.kept (oq _ (gne hg2 hg4 (by decide)))
              have m249 := m214.kept (oq _ (gne hg3 hg4 (by decide)))
              have m250 := m215.put m245 oi
              have m254 := (el_kept (oq _ (gne hr_o0 hg4 (by decide)))).trans m204
              have m255 := (el_kept (oq _ (gne hr_o0 hg4 (by decide)))).trans m205
              have m256 := (el_kept (oq _ (gne hr_o0 hg4 (by decide)))).trans m206
              have m258 := m208.kept (oq _ (gne hg5 hg4 (by decide)))
              have m259 := m209.kept (oq _ (gne hg6 hg4 (by decide)))
              refine lv_iconst (v := 1) hx hb dX12_readLine_206 (by decide) ?_
              exact W.zret (v := 1) hx hb hr (by decide) (fun t ht hW => ⟨⟨1, (u197, u198, u199, (dS S0 sv.toInt u199.toInt u201), (pset dB nl.toNatClampNeg (fun y => y = sv.toInt)), (pset (pset dE nl.toNatClampNeg (fun y => y ≤ sv.toInt)) nl.toNatClampNeg (fun y => y ≤ u199.toInt)), (cu vO x29.toNatClampNeg r33), (cu vB x29.toNatClampNeg sv), (cu (cu vX x29.toNatClampNeg sv) x29.toNatClampNeg u199), u202, u203), rfl, (by exact ⟨(by have q8 := ti_all u197; omega), (by have q8 := ti_all u198; omega), (by have q8 := ti_all u199; omega), (rg_t (a := 1) (by decide) (by first | decide | omega) (by first | decide | omega)), (fun _ => ⟨lw_next hlw hf232 (by omega), by omega⟩), (by omega), (by have := tn_of (show u10.toInt = u10.toInt from rfl) (by omega); have := tn_of (show u9.toInt = u9.toInt from rfl) (by omega); have := tn_of (show en.toInt = en.toInt from rfl) (by omega); have s9 := hf46; rw [← hf26] at s9; have l9 := so_k (t := (tx vt)) (n := N) (by omega) s9; rw [← hf25] at l9; have x9 : skp (tx vt) N u9.toNatClampNeg = xn (tx vt) N (skp (tx vt) N pt.toNatClampNeg) := (by have z9 := lk_x (t := (tx vt)) (n := N) (b := (skp (tx vt) N pt.toNatClampNeg)) (by omega); unfold xn; rw [z9, hf25, hf26]; rfl); exact Or.inr ⟨by omega, Or.inl ⟨by decide, Or.inr (Or.inr (Or.inr (Or.inr (Or.inl ⟨by omega, (by rw [← x9]; exact (by have a9 := (hf157.resolve_right (fun h8 => by have := h8.2.1; omega)); have c9 := (hf233.resolve_right (fun h8 => by have := h8.1; omega)).2; rw [a9.2.2] at c9; exact Or.inr ⟨a9.1.trans (by decide), c9⟩))⟩))))⟩⟩), (zKp.rf.st (by have := tn_of (show x29.toInt = x29.toInt from rfl) (by omega); have := tn_of (show nl.toInt = nl.toInt from rfl) (by omega); omega)), (zKp.rf.st (by have := tn_of (show x29.toInt = x29.toInt from rfl) (by omega); have := tn_of (show nl.toInt = nl.toInt from rfl) (by omega); omega)), ((zKp.rf.st (by have := tn_of (show x29.toInt = x29.toInt from rfl) (by omega); have := tn_of (show nl.toInt = nl.toInt from rfl) (by omega); omega)).st (by have := tn_of (show x29.toInt = x29.toInt from rfl) (by omega); have := tn_of (show nl.toInt = nl.toInt from rfl) (by omega); omega)), (zKp.rf.tr hf234 (by have := tn_of (show sv.toInt = sv.toInt from rfl) (by omega); omega)), (zKp.rf.tr hf235 (by have := tn_of (show sv.toInt = sv.toInt from rfl) (by omega); omega)), (fun _ => by have := tn_of (show u10.toInt = u10.toInt from rfl) (by omega); have := tn_of (show u9.toInt = u9.toInt from rfl) (by omega); have := tn_of (show en.toInt = en.toInt from rfl) (by omega); have s9 := hf46; rw [← hf26] at s9; have l9 := so_k (t := (tx vt)) (n := N) (by omega) s9; rw [← hf25] at l9; have x9 : skp (tx vt) N u9.toNatClampNeg = xn (tx vt) N (skp (tx vt) N pt.toNatClampNeg) := (by have z9 := lk_x (t := (tx vt)) (n := N) (b := (skp (tx vt) N pt.toNatClampNeg)) (by omega); unfold xn; rw [z9, hf25, hf26]; rfl); exact ⟨((lkT (kd (tx vt) N (skp (tx vt) N pt.toNatClampNeg))), (zC (zwo 800 u202 u203) sv.toNatClampNeg u199.toNatClampNeg)), ⟨rfl, Or.inr (Or.inr (Or.inr (Or.inl ⟨by omega, (by rw [← x9]; exact (by have a9 := (hf157.resolve_right (fun h8 => by have := h8.2.1; omega)); have c9 := hf236 (by omega); rw [a9.2.2] at c9; exact Or.inr ⟨a9.1.trans (by decide), c9⟩))⟩)))⟩, (congrArg Int32.toInt (cu_s (show 40 + nl.toNatClampNeg = x29.toNatClampNeg from by have := tn_of (show x29.toInt = x29.toInt from rfl) (by omega); have := tn_of (show nl.toInt = nl.toInt from rfl) (by omega); omega))).trans (by have := (show r33.toInt = r33.toInt from rfl); omega), fun _ => ⟨congrArg Int32.toNatClampNeg (cu_s (show 40 + nl.toNatClampNeg = x29.toNatClampNeg from by have := tn_of (show x29.toInt = x29.toInt from rfl) (by omega); have := tn_of (show nl.toInt = nl.toInt from rfl) (by omega); omega)), congrArg Int32.toNatClampNeg (cu_s (show 40 + nl.toNatClampNeg = x29.toNatClampNeg from by have := tn_of (show x29.toInt = x29.toInt from rfl) (by omega); have := tn_of (show nl.toInt = nl.toInt from rfl) (by omega); omega)), rfl⟩⟩)⟩), by (try dsimp only); rw [ht]; exact ⟨hT, hF, m254, m255, m256, m248, m249, m250, m258, m259⟩⟩, hS.F ht⟩) hS.2.2 dX12_readLine_207
            · have t260 : r195.toInt = 0 := ti_eq c237 rfl (by decide)
              refine lv_iconst (v := 0) hx hb dX12_readLine_194 (by decide) ?_
              exact W.zret (v := 0) hx hb hr (by decide) (fun t ht hW => ⟨⟨0, (u197, u198, u199, (dS S0 sv.toInt u199.toInt u201), (pset dB nl.toNatClampNeg (fun y => y = sv.toInt)), (pset dE nl.toNatClampNeg (fun y => y ≤ sv.toInt)), (cu vO x29.toNatClampNeg r33), (cu vB x29.toNatClampNeg sv), (cu vX x29.toNatClampNeg sv), u202, u203), rfl, (by exact ⟨(by have q8 := ti_all u197; omega), (by have q8 := ti_all u198; omega), (by have q8 := ti_all u199; omega), (rg_t (a := 0) (by decide) (by first | decide | omega) (by first | decide | omega)), (fun h => absurd h (by decide)), (by omega), (by have := tn_of (show u10.toInt = u10.toInt from rfl) (by omega); have := tn_of (show u9.toInt = u9.toInt from rfl) (by omega); have := tn_of (show en.toInt = en.toInt from rfl) (by omega); have s9 := hf46; rw [← hf26] at s9; have l9 := so_k (t := (tx vt)) (n := N) (by omega) s9; rw [← hf25] at l9; have x9 : skp (tx vt) N u9.toNatClampNeg = xn (tx vt) N (skp (tx vt) N pt.toNatClampNeg) := (by have z9 := lk_x (t := (tx vt)) (n := N) (b := (skp (tx vt) N pt.toNatClampNeg)) (by omega); unfold xn; rw [z9, hf25, hf26]; rfl); exact Or.inr ⟨by omega, Or.inr ⟨by decide, Or.inr (Or.inr (Or.inr (Or.inr (Or.inl ⟨by omega, (by rw [← x9]; exact (by have a9 := (hf157.resolve_right (fun h8 => by have := h8.2.1; omega)); have c9 := (hf233.resolve_left (fun h8 => by have := h8.1; omega)).2; rw [a9.2.2] at c9; exact Or.inr ⟨a9.1.trans (by decide), c9⟩))⟩))))⟩⟩), (zKp.rf.st (by have := tn_of (show x29.toInt = x29.toInt from rfl) (by omega); have := tn_of (show nl.toInt = nl.toInt from rfl) (by omega); omega)), (zKp.rf.st (by have := tn_of (show x29.toInt = x29.toInt from rfl) (by omega); have := tn_of (show nl.toInt = nl.toInt from rfl) (by omega); omega)), (zKp.rf.st (by have := tn_of (show x29.toInt = x29.toInt from rfl) (by omega); have := tn_of (show nl.toInt = nl.toInt from rfl) (by omega); omega)), (zKp.rf.tr hf234 (by have := tn_of (show sv.toInt = sv.toInt from rfl) (by omega); omega)), (zKp.rf.tr hf235 (by have := tn_of (show sv.toInt = sv.toInt from rfl) (by omega); omega)), (fun h8 => absurd h8 (by decide))⟩), by (try dsimp only); rw [ht]; exact ⟨hT, hF, m204, m205, m206, m213, m214, m215, m208, m209⟩⟩, hS.F ht⟩) hS.2.2 dX12_readLine_195
        · have t261 : r33.toInt ≠ 5 := ti_ne c123 rfl (by decide)
          refine lv_aload_n hx hb dX12_readLine_92 rfl (lv_at hl 1 rfl) ?_
          refine tw_get hx hb hts bF_X12 hown hK hT hr_o0 shm_0 rfl 19 (by decide) (ht_at hts 17 rfl) (fun _ h9 => h9) dX12_readLine_93 (fun v9 m262 h9 => ?_)
          obtain ⟨rfl, hg263⟩ := h9 _ rfl
          refine lv_iload_n hx hb dX12_readLine_96 rfl (lv_at hl 0 rfl) ?_
          refine tw_iald (i := x29) hx hb hK hT hg2 shm_20 rfl (vin_t (a := x29.toInt) rfl (by omega) (by omega)) dX12_readLine_97 (fun v9 m264 h9 => ?_)
          obtain ⟨x265, rfl, gx265, kx265⟩ := h9
          have cx265 := m97.at m264 (by have q9 := tn_of (show x29.toInt = x29.toInt from rfl) (by omega); omega)
          obtain rfl : r33 = x265 := (el_same m264 m104 rfl).symm
          refine lv_bipush (v := 6) hx hb dX12_readLine_98 (by decide) ?_
          refine lv_icmp_eq (tgt := 159) hx hb dX12_readLine_100 (by decide) (fun c266 => ?_) (fun c266 => ?_)
          · have t267 : r33.toInt = 6 := ti_eq c266 rfl (by decide)
            refine lv_aload_n hx hb dX12_readLine_159 rfl (lv_at hl 1 rfl) ?_
            refine tw_get hx hb hts bF_X12 hown hK hT hr_o0 shm_0 rfl 19 (by decide) (ht_at hts 17 rfl) (fun _ h9 => h9) dX12_readLine_160 (fun v9 m268 h9 => ?_)
            obtain ⟨rfl, hg269⟩ := h9 _ rfl
            refine lv_iload_n hx hb dX12_readLine_163 rfl (lv_at hl 0 rfl) ?_
            refine tw_iald (i := x29) hx hb hK hT hg2 shm_20 rfl (vin_t (a := x29.toInt) rfl (by omega) (by omega)) dX12_readLine_164 (fun v9 m270 h9 => ?_)
            obtain ⟨x271, rfl, gx271, kx271⟩ := h9
            have cx271 := m97.at m270 (by have q9 := tn_of (show x29.toInt = x29.toInt from rfl) (by omega); omega)
            obtain rfl : r33 = x271 := (el_same m270 m104 rfl).symm
            refine lv_bipush (v := 6) hx hb dX12_readLine_165 (by decide) ?_
            refine lv_icmp_le (tgt := 172) hx hb dX12_readLine_167 (by decide) (fun c272 => ?_) (fun c272 => (by exfalso; have q9 : 6 < r33.toInt := ti_nle c272 rfl (by decide); omega))
            have t273 : r33.toInt ≤ 6 := ti_le c272 rfl (by decide)
            refine lv_aload_n hx hb dX12_readLine_172 rfl (lv_at hl 1 rfl) ?_
            refine tw_ldcwS hx hb hown hE.s23 dX12_readLine_173 ?_
            have hFc := gA_free hG hA hS
            refine va_calli (va_runV (As := [.ref (adK 23)]) (rest := []) ⟨hx, hb, hml, hown, hts⟩ (s_passes l dC dI kA adK adV G H q wZ wN wH wB wC wL wK wU wV PI im PM PT (lD S0 lS) (lD (pset dB nl.toNatClampNeg (fun y => y = sv.toInt)) lB) (lD (pset dE nl.toNatClampNeg (fun y => y ≤ sv.toInt)) lE) lN o0 u9 en vt 23 N hT hr_o0 m102 m94 (by have q8 := ti_all u9; omega) (by have q8 := ti_all en; omega) (by have := (show u9.toInt = u9.toInt from rfl); have := (show en.toInt = en.toInt from rfl); omega) hN (by first | omega | decide) m96 hgz hgn hgh hgb hgc hgi hgu) (cwV 1 hts (goodIn_app (goodIn_r _ [64, 65, 66, 10] rfl (by decide +kernel)) (goodIn_ca (goodIn_r _ [63, 1, 2, 3, 4, 5, 6, 7, 8, 9, 10, 11, 12, 13, 14, 15, 16, 17, 20, 21, 22, 23, 24, 25, 26, 27, 28, 29, 30, 31, 32, 33, 34, 35, 36, 37, 38, 39, 40, 41, 42, 43, 44, 45, 46, 47, 48, 49, 50, 51, 52, 53, 54, 55] rfl (by decide +kernel)) (bs_in _ _))) rfl rfl rfl (by decide +kernel) ⟨(Nat.le_of_ble_eq_true rfl), (Nat.le_of_ble_eq_true rfl)⟩) ⟨fun a U g mk q => by obtain ⟨q0, q1, qK, qE⟩ := q; exact ⟨q0, q1, va_K.moved (u := U) (U := U.calling g mk a) (Vm.Alike.refl U.vm) qK, EVS.blind g mk a qE⟩, gH_rc hK hT hr_o0 shm_0 rfl, fun U hU hW => ⟨rfl, hU, va_K.moved hW.alike hK, hE.call hS hFc hU hW⟩⟩ rfl rfl hl.1 rfl (lv_room (Nat.le_of_ble_eq_true rfl)) dX12_readLine_176 ⟨(Nat.le_of_ble_eq_true rfl), (Nat.le_of_ble_eq_true rfl)⟩) hS (fun q _ h => hFc q h) hFc (fun r274 u t H locs ht hvm hw275 hB _ _ hS => ?_)
            obtain ⟨u276, u277⟩ := u
            obtain ⟨hT, hF1, m278, m279⟩ := hB
            rw [ht] at hT hF1 m278 m279
            have m280 := (hF1.fld hr_o0 skm_0 (k := 13) (by decide) (by decide)).trans m94
            have m281 := (hF1.fld hr_o0 skm_0 (k := 28) (by decide) (by decide)).trans m95
            have m282 := m96.kept (hF1.arr hg1 skm_11 (by decide))
            have m283 := m97.kept (hF1.arr hg2 skm_20 (by decide))
            have m284 := m98.kept (hF1.arr hg3 skm_25 (by decide))
            have m285 := m99.kept (hF1.arr hg4 skm_26 (by decide))
            have m286 := m100.kept (hF1.arr hg5 skm_27 (by decide))
            have m287 := m101.kept (hF1.arr hg6 skm_28 (by decide))
            have hF := hF.more hF1 (by decide)
            try dsimp only at hw275
            obtain ⟨h294, h295, h296, hi297, hf298, hf299, hf300⟩ := hw275
            refine lv_if_eq (tgt := 196) hx hb dX12_readLine_179 (by decide) (fun c301 => ?_) (fun c301 => ?_)
            · have t302 : r274.toInt = 0 := ti_eq c301 rfl (by decide)
              refine lv_aload_n hx hb dX12_readLine_196 rfl (lv_at hl 1 rfl) ?_
              refine tw_get hx hb hts bF_X12 hown hK hT hr_o0 shm_0 rfl 25 (by decide) (ht_at hts 60 rfl) (fun _ h9 => h9) dX12_readLine_197 (fun v9 m303 h9 => ?_)
              obtain ⟨rfl, hg304⟩ := h9 _ rfl
              refine lv_iload_n hx hb dX12_readLine_200 rfl (lv_at hl 0 rfl) ?_
              refine lv_aload_n hx hb dX12_readLine_201 rfl (lv_at hl 1 rfl) ?_
              refine tw_getM (v := .int sv) hx hb hts bF_X12 hown hK hT hr_o0 shm_0 rfl 28 (by decide) (ht_at hts 59 rfl) (fun _ h9 => h9) m281 dX12_readLine_202 ?_
              have t305 : ((x29.toNatClampNeg : Nat) : Int) = x29.toInt := tn_of (show x29.toInt = x29.toInt from rfl) (by omega)
              have t306 : ((nl.toNatClampNeg : Nat) : Int) = nl.toInt := tn_of rfl (by omega)
              refine tw_iast2 (Sg1 := (SHm q (wP wZ wN wH wB wC wL wK wU wV) PI im PM PT (lD S0 lS) (lD (pset dB nl.toNatClampNeg (fun y => y = sv.toInt)) lB) (lD (pset (pset dE nl.toNatClampNeg (fun y => y ≤ sv.toInt)) nl.toNatClampNeg (fun y => y ≤ sv.toInt)) lE) lN)) (i := x29) (x := sv) hx hb hK hT hG hS hg4 shm_26 rfl shm_26 shm_o26 (fun b9 h9 => hgu b9 25 h9) (vin_t (a := x29.toInt) rfl (by omega) (by omega)) (⟨_, rfl, lb_hv (n := nl.toNatClampNeg) (by omega) (by omega) (by have q8 := ti_all sv; omega) (Int.le_refl _)⟩) (fun k9 hk9 hne9 v9 hv9 he9 => by obtain ⟨x9, rfl, p9⟩ := he9; exact ⟨x9, rfl, lb_hm (n := nl.toNatClampNeg) hk9 (by omega) p9⟩) dX12_readLine_205 (fun H locs hT oq m307 oi hS => ?_)
              have hF := hF.ast hg4 skm_26 oq (by decide)
              have m309 := (el_kept (oq _ (gne hr_o0 hg4 (by decide)))).trans m281
              have m311 := m283.kept (oq _ (gne hg2 hg4 (by decide)))
              have m312 := m284.kept (oq _ (gne hg3 hg4 (by decide)))
              have m313 := m285.put m307 oi
              have m314 := m286.kept (oq _ (gne hg5 hg4 (by decide)))
              have m315 := m287.kept (oq _ (gne hg6 hg4 (by decide)))
              have m319 := (el_kept (oq _ (gne hr_o0 hg4 (by decide)))).trans m278
              have m320 := (el_kept (oq _ (gne hr_o0 hg4 (by decide)))).trans m279
              refine lv_iconst (v := 1) hx hb dX12_readLine_206 (by decide) ?_
              exact W.zret (v := 1) hx hb hr (by decide) (fun t ht hW => ⟨⟨1, (u276, u277, sv, S0, (pset dB nl.toNatClampNeg (fun y => y = sv.toInt)), (pset (pset dE nl.toNatClampNeg (fun y => y ≤ sv.toInt)) nl.toNatClampNeg (fun y => y ≤ sv.toInt)), (cu vO x29.toNatClampNeg r33), (cu vB x29.toNatClampNeg sv), (cu (cu vX x29.toNatClampNeg sv) x29.toNatClampNeg sv), vS, vN), rfl, (by exact ⟨(by have q8 := ti_all u276; omega), (by have q8 := ti_all u277; omega), (by have q8 := ti_all sv; omega), (rg_t (a := 1) (by decide) (by first | decide | omega) (by first | decide | omega)), (fun _ => ⟨lw_next1 hlw, by omega⟩), (by omega), (by have := tn_of (show u10.toInt = u10.toInt from rfl) (by omega); have := tn_of (show u9.toInt = u9.toInt from rfl) (by omega); have := tn_of (show en.toInt = en.toInt from rfl) (by omega); have s9 := hf46; rw [← hf26] at s9; have l9 := so_k (t := (tx vt)) (n := N) (by omega) s9; rw [← hf25] at l9; have x9 : skp (tx vt) N u9.toNatClampNeg = xn (tx vt) N (skp (tx vt) N pt.toNatClampNeg) := (by have z9 := lk_x (t := (tx vt)) (n := N) (b := (skp (tx vt) N pt.toNatClampNeg)) (by omega); unfold xn; rw [z9, hf25, hf26]; rfl); exact Or.inr ⟨by omega, Or.inl ⟨by decide, Or.inr (Or.inr (Or.inr (Or.inr (Or.inl ⟨by omega, (by rw [← x9]; exact (by have a9 := (hf300.resolve_left (fun h8 => by have := h8.2.1; omega)); exact Or.inl ⟨fun h7 => a9.1 (h7.trans (by decide)), rfl, a9.2.2⟩))⟩))))⟩⟩), (zKp.rf.st (by have := tn_of (show x29.toInt = x29.toInt from rfl) (by omega); have := tn_of (show nl.toInt = nl.toInt from rfl) (by omega); omega)), (zKp.rf.st (by have := tn_of (show x29.toInt = x29.toInt from rfl) (by omega); have := tn_of (show nl.toInt = nl.toInt from rfl) (by omega); omega)), ((zKp.rf.st (by have := tn_of (show x29.toInt = x29.toInt from rfl) (by omega); have := tn_of (show nl.toInt = nl.toInt from rfl) (by omega); omega)).st (by have := tn_of (show x29.toInt = x29.toInt from rfl) (by omega); have := tn_of (show nl.toInt = nl.toInt from rfl) (by omega); omega)), zKp.rf, zKp.rf, (fun _ => by have := tn_of (show u10.toInt = u10.toInt from rfl) (by omega); have := tn_of (show u9.toInt = u9.toInt from rfl) (by omega); have := tn_of (show en.toInt = en.toInt from rfl) (by omega); have s9 := hf46; rw [← hf26] at s9; have l9 := so_k (t := (tx vt)) (n := N) (by omega) s9; rw [← hf25] at l9; have x9 : skp (tx vt) N u9.toNatClampNeg = xn (tx vt) N (skp (tx vt) N pt.toNatClampNeg) := (by have z9 := lk_x (t := (tx vt)) (n := N) (b := (skp (tx vt) N pt.toNatClampNeg)) (by omega); unfold xn; rw [z9, hf25, hf26]; rfl); exact ⟨((lkT (kd (tx vt) N (skp (tx vt) N pt.toNatClampNeg))), (zC (zwo 800 vS vN) sv.toNatClampNeg sv.toNatClampNeg)), ⟨rfl, Or.inr (Or.inr (Or.inr (Or.inl ⟨by omega, (by rw [← x9]; exact (by have a9 := (hf300.resolve_left (fun h8 => by have := h8.2.1; omega)); exact Or.inl ⟨fun h7 => a9.1 (h7.trans (by decide)), zC_0, a9.2.2⟩))⟩)))⟩, (congrArg Int32.toInt (cu_s (show 40 + nl.toNatClampNeg = x29.toNatClampNeg from by have := tn_of (show x29.toInt = x29.toInt from rfl) (by omega); have := tn_of (show nl.toInt = nl.toInt from rfl) (by omega); omega))).trans (by have := (show r33.toInt = r33.toInt from rfl); omega), fun _ => ⟨congrArg Int32.toNatClampNeg (cu_s (show 40 + nl.toNatClampNeg = x29.toNatClampNeg from by have := tn_of (show x29.toInt = x29.toInt from rfl) (by omega); have := tn_of (show nl.toInt = nl.toInt from rfl) (by omega); omega)), congrArg Int32.toNatClampNeg (cu_s (show 40 + nl.toNatClampNeg = x29.toNatClampNeg from by have := tn_of (show x29.toInt = x29.toInt from rfl) (by omega); have := tn_of (show nl.toInt = nl.toInt from rfl) (by omega); omega)), rfl⟩⟩)⟩), by (try dsimp only); rw [ht]; exact ⟨hT, hF, m319, m320, m309, m311, m312, m313, m314, m315⟩⟩, hS.F ht⟩) hS.2.2 dX12_readLine_207
            · have t321 : r274.toInt ≠ 0 := ti_ne c301 rfl (by decide)
              have t322 : u9.toInt + 1 ≤ u276.toInt := hi297 ((bit_of ⟨by omega, by omega⟩).resolve_left c301)
              refine lv_aload_n hx hb dX12_readLine_182 rfl (lv_at hl 1 rfl) ?_
              refine lv_iconst (v := 0) hx hb dX12_readLine_183 (by decide) ?_
              refine tw_put (v := .int 0) (ty := .int) hx hb hts bF_X12 tyX12 tyX12_ok nmX12 hown hK hT hG hS hr_o0 shm_0 rfl 15 (by decide) (ht_at hts 66 rfl) (fun _ h9 => h9) rfl (by decide +kernel) rfl rfl (gl_at rfl (gi_all _)) dX12_readLine_184 (fun H locs hT oq m323 oj hS => ?_)
              have hF := hF.put hr_o0 skm_0 oq oj (by decide)
              have m324 := (oj 13 (by decide) (by decide)).trans m280
              have m325 := (oj 28 (by decide) (by decide)).trans m281
              have m326 := m282.kept (oq _ (gne hg1 hr_o0 (by decide)))
              have m327 := m283.kept (oq _ (gne hg2 hr_o0 (by decide)))
              have m328 := m284.kept (oq _ (gne hg3 hr_o0 (by decide)))
              have m329 := m285.kept (oq _ (gne hg4 hr_o0 (by decide)))
              have m330 := m286.kept (oq _ (gne hg5 hr_o0 (by decide)))
              have m331 := m287.kept (oq _ (gne hg6 hr_o0 (by decide)))
              have m336 := (oj 12 (by decide) (by decide)).trans m278
              have hT : gH (dC, dI) kA (SHm q (wP wZ wN wH wB wC wL wK wU wV) PI im PM PT (lD (dS S0 sv.toInt sv.toInt (fun _ => 0)) lS) (lD (pset dB nl.toNatClampNeg (fun y => y = sv.toInt)) lB) (lD (pset dE nl.toNatClampNeg (fun y => y ≤ sv.toInt)) lE) lN) G H := SHm_mono hT (fun _ _ _ z => z) (fun _ _ _ z => z) (fun _ _ z => z) (fun _ _ z => z) (lD_m (fun _ _ q => ⟨q, fun a b => by omega⟩)) (fun _ _ _ _ z => z) (fun _ _ _ _ z => z) (fun _ => Int.le_refl _)
              refine lv_aload_n hx hb dX12_readLine_187 rfl (lv_at hl 1 rfl) ?_
              have hFc := gA_free hG hA hS
              refine va_calli (va_runV (As := []) (rest := []) ⟨hx, hb, hml, hown, hts⟩ (s_readCond0 l dC dI kA adK adV G H q wZ wN wH wB wC wL wK wU wV PI im PM PT lS (lD (pset dB nl.toNatClampNeg (fun y => y = sv.toInt)) lB) (lD (pset dE nl.toNatClampNeg (fun y => y ≤ sv.toInt)) lE) lN o0 u276 en sv 0 vt vS vN S0 sv.toInt (fun _ => 0) N hT hr_o0 m336 m324 m325 m323 (by have q8 := ti_all u276; omega) (by have q8 := ti_all en; omega) (by have q8 := ti_all sv; omega) (by have := (show u276.toInt = u276.toInt from rfl); have := (show en.toInt = en.toInt from rfl); omega) (by have := (show sv.toInt = sv.toInt from rfl); have := (show u276.toInt = u276.toInt from rfl); omega) hlw.1 (by have := (show sv.toInt = sv.toInt from rfl); omega) ⟨fun i => by show (0 : Int) ≤ (i : Int); omega, rfl⟩ (Int.le_refl 0) (rg_t (a := 0) (by decide) (by first | decide | omega) (by first | decide | omega)) hN m326 m330 m331 hgz hgn hgh hgb hgc hgi hgu) (cwV 0 hts (goodIn_app (goodIn_r _ [103, 104, 105, 10] rfl (by decide +kernel)) (goodIn_ca (goodIn_r _ [68, 69, 70, 71, 2, 3, 4, 5, 6, 7, 8, 9, 10, 11, 12, 13, 14, 72, 73, 74, 63, 1, 15, 16, 17, 20, 21, 22, 23, 24, 25, 26, 27, 28, 29, 30, 31, 32, 33, 34, 35, 36, 37, 38, 39, 40, 41, 42, 43, 44, 45, 46, 47, 48, 49, 50, 51, 52, 53, 54, 55, 64, 65, 66, 75, 76, 77, 78, 79, 80, 81, 82, 83, 60, 84, 85, 86, 87, 88, 89, 90, 91, 92, 93, 94, 95, 96, 67, 97, 98, 99, 68, 100, 101, 102, 103, 104, 105] rfl (by decide +kernel)) (bs_in _ _))) rfl rfl rfl (by decide +kernel) ⟨(Nat.le_of_ble_eq_true rfl), (Nat.le_of_ble_eq_true rfl)⟩) ⟨fun a U g mk q => by obtain ⟨q0, q1, qK, qE⟩ := q; exact ⟨q0, q1, va_K.moved (u := U) (U := U.calling g mk a) (Vm.Alike.refl U.vm) qK, EVS.blind g mk a qE⟩, gH_rc hK hT hr_o0 shm_0 rfl, fun U hU hW => ⟨rfl, hU, va_K.moved hW.alike hK, hE.call hS hFc hU hW⟩⟩ rfl rfl hl.1 rfl (lv_room (Nat.le_of_ble_eq_true rfl)) dX12_readLine_188 ⟨(Nat.le_of_ble_eq_true rfl), (Nat.le_of_ble_eq_true rfl)⟩) hS (fun q _ h => hFc q h) hFc (fun r338 u t H locs ht hvm hw339 hB _ _ hS => ?_)
              obtain ⟨u340, u341, u342, u343, u344, u345, u346⟩ := u
              obtain ⟨hT, hF1, m347, m348, m349, m350, m351, m352⟩ := hB
              rw [ht] at hT hF1 m347 m348 m349 m350 m351 m352
              have m356 := m327.kept (hF1.arr hg2 skm_20 (by decide))
              have m357 := m328.kept (hF1.arr hg3 skm_25 (by decide))
              have m358 := m329.kept (hF1.arr hg4 skm_26 (by decide))
              have hF := hF.more hF1 (by decide)
              try dsimp only at hw339
              obtain ⟨h368, h369, h370, h371, hi372, hi373, hf374, hf375, hf376, hf377, hf378, hf379⟩ := hw339
              refine lv_if_ne (tgt := 196) hx hb dX12_readLine_191 (by decide) (fun c380 => ?_) (fun c380 => ?_)
              · have t381 : r338.toInt ≠ 0 := ti_ne c380 rfl (by decide)
                have t382 : u344 u342.toNatClampNeg = (fun _ => 0) sv.toNatClampNeg + 1 := hi372 ((bit_of ⟨by omega, by omega⟩).resolve_left c380)
                have t383 : u343.toInt = 0 := hi373 ((bit_of ⟨by omega, by omega⟩).resolve_left c380)
                refine lv_aload_n hx hb dX12_readLine_196 rfl (lv_at hl 1 rfl) ?_
                refine tw_get hx hb hts bF_X12 hown hK hT hr_o0 shm_0 rfl 25 (by decide) (ht_at hts 60 rfl) (fun _ h9 => h9) dX12_readLine_197 (fun v9 m384 h9 => ?_)
                obtain ⟨rfl, hg385⟩ := h9 _ rfl
                refine lv_iload_n hx hb dX12_readLine_200 rfl (lv_at hl 0 rfl) ?_
                refine lv_aload_n hx hb dX12_readLine_201 rfl (lv_at hl 1 rfl) ?_
                refine tw_getM (v := .int u342) hx hb hts bF_X12 hown hK hT hr_o0 shm_0 rfl 28 (by decide) (ht_at hts 59 rfl) (fun _ h9 => h9) m349 dX12_readLine_202 ?_
                have t386 : ((x29.toNatClampNeg : Nat) : Int) = x29.toInt := tn_of (show x29.toInt = x29.toInt from rfl) (by omega)
                have t387 : ((nl.toNatClampNeg : Nat) : Int) = nl.toInt := tn_of rfl (by omega)
                refine tw_iast2 (Sg1 := (SHm q (wP wZ wN wH wB wC wL wK wU wV) PI im PM PT (lD (dS S0 sv.toInt u342.toInt u344) lS) (lD (pset dB nl.toNatClampNeg (fun y => y = sv.toInt)) lB) (lD (pset (pset dE nl.toNatClampNeg (fun y => y ≤ sv.toInt)) nl.toNatClampNeg (fun y => y ≤ u342.toInt)) lE) lN)) (i := x29) (x := u342) hx hb hK hT hG hS hg4 shm_26 rfl shm_26 shm_o26 (fun b9 h9 => hgu b9 25 h9) (vin_t (a := x29.toInt) rfl (by omega) (by omega)) (⟨_, rfl, lb_hv (n := nl.toNatClampNeg) (by omega) (by omega) (by have q8 := ti_all u342; omega) (Int.le_refl _)⟩) (fun k9 hk9 hne9 v9 hv9 he9 => by obtain ⟨x9, rfl, p9⟩ := he9; exact ⟨x9, rfl, lb_hm (n := nl.toNatClampNeg) hk9 (by omega) p9⟩) dX12_readLine_205 (fun H locs hT oq m388 oi hS => ?_)
                have hF := hF.ast hg4 skm_26 oq (by decide)
                have m391 := m356.kept (oq _ (gne hg2 hg4 (by decide)))
                have m392 := m357.kept (oq _ (gne hg3 hg4 (by decide)))
                have m393 := m358.put m388 oi
                have m397 := (el_kept (oq _ (gne hr_o0 hg4 (by decide)))).trans m347
                have m398 := (el_kept (oq _ (gne hr_o0 hg4 (by decide)))).trans m348
                have m399 := (el_kept (oq _ (gne hr_o0 hg4 (by decide)))).trans m349
                have m401 := m351.kept (oq _ (gne hg5 hg4 (by decide)))
                have m402 := m352.kept (oq _ (gne hg6 hg4 (by decide)))
                refine lv_iconst (v := 1) hx hb dX12_readLine_206 (by decide) ?_
                exact W.zret (v := 1) hx hb hr (by decide) (fun t ht hW => ⟨⟨1, (u340, u341, u342, (dS S0 sv.toInt u342.toInt u344), (pset dB nl.toNatClampNeg (fun y => y = sv.toInt)), (pset (pset dE nl.toNatClampNeg (fun y => y ≤ sv.toInt)) nl.toNatClampNeg (fun y => y ≤ u342.toInt)), (cu vO x29.toNatClampNeg r33), (cu vB x29.toNatClampNeg sv), (cu (cu vX x29.toNatClampNeg sv) x29.toNatClampNeg u342), u345, u346), rfl, (by exact ⟨(by have q8 := ti_all u340; omega), (by have q8 := ti_all u341; omega), (by have q8 := ti_all u342; omega), (rg_t (a := 1) (by decide) (by first | decide | omega) (by first | decide | omega)), (fun _ => ⟨lw_next hlw hf375 (by omega), by omega⟩), (by omega), (by have := tn_of (show u10.toInt = u10.toInt from rfl) (by omega); have := tn_of (show u9.toInt = u9.toInt from rfl) (by omega); have := tn_of (show en.toInt = en.toInt from rfl) (by omega); have s9 := hf46; rw [← hf26] at s9; have l9 := so_k (t := (tx vt)) (n := N) (by omega) s9; rw [← hf25] at l9; have x9 : skp (tx vt) N u9.toNatClampNeg = xn (tx vt) N (skp (tx vt) N pt.toNatClampNeg) := (by have z9 := lk_x (t := (tx vt)) (n := N) (b := (skp (tx vt) N pt.toNatClampNeg)) (by omega); unfold xn; rw [z9, hf25, hf26]; rfl); exact Or.inr ⟨by omega, Or.inl ⟨by decide, Or.inr (Or.inr (Or.inr (Or.inr (Or.inl ⟨by omega, (by rw [← x9]; exact (by have a9 := (hf300.resolve_right (fun h8 => by have := h8.2.1; omega)); have c9 := (hf376.resolve_right (fun h8 => by have := h8.1; omega)).2; rw [a9.2.2] at c9; exact Or.inr ⟨a9.1.trans (by decide), c9⟩))⟩))))⟩⟩), (zKp.rf.st (by have := tn_of (show x29.toInt = x29.toInt from rfl) (by omega); have := tn_of (show nl.toInt = nl.toInt from rfl) (by omega); omega)), (zKp.rf.st (by have := tn_of (show x29.toInt = x29.toInt from rfl) (by omega); have := tn_of (show nl.toInt = nl.toInt from rfl) (by omega); omega)), ((zKp.rf.st (by have := tn_of (show x29.toInt = x29.toInt from rfl) (by omega); have := tn_of (show nl.toInt = nl.toInt from rfl) (by omega); omega)).st (by have := tn_of (show x29.toInt = x29.toInt from rfl) (by omega); have := tn_of (show nl.toInt = nl.toInt from rfl) (by omega); omega)), (zKp.rf.tr hf377 (by have := tn_of (show sv.toInt = sv.toInt from rfl) (by omega); omega)), (zKp.rf.tr hf378 (by have := tn_of (show sv.toInt = sv.toInt from rfl) (by omega); omega)), (fun _ => by have := tn_of (show u10.toInt = u10.toInt from rfl) (by omega); have := tn_of (show u9.toInt = u9.toInt from rfl) (by omega); have := tn_of (show en.toInt = en.toInt from rfl) (by omega); have s9 := hf46; rw [← hf26] at s9; have l9 := so_k (t := (tx vt)) (n := N) (by omega) s9; rw [← hf25] at l9; have x9 : skp (tx vt) N u9.toNatClampNeg = xn (tx vt) N (skp (tx vt) N pt.toNatClampNeg) := (by have z9 := lk_x (t := (tx vt)) (n := N) (b := (skp (tx vt) N pt.toNatClampNeg)) (by omega); unfold xn; rw [z9, hf25, hf26]; rfl); exact ⟨((lkT (kd (tx vt) N (skp (tx vt) N pt.toNatClampNeg))), (zC (zwo 800 u345 u346) sv.toNatClampNeg u342.toNatClampNeg)), ⟨rfl, Or.inr (Or.inr (Or.inr (Or.inl ⟨by omega, (by rw [← x9]; exact (by have a9 := (hf300.resolve_right (fun h8 => by have := h8.2.1; omega)); have c9 := hf379 (by omega); rw [a9.2.2] at c9; exact Or.inr ⟨a9.1.trans (by decide), c9⟩))⟩)))⟩, (congrArg Int32.toInt (cu_s (show 40 + nl.toNatClampNeg = x29.toNatClampNeg from by have := tn_of (show x29.toInt = x29.toInt from rfl) (by omega); have := tn_of (show nl.toInt = nl.toInt from rfl) (by omega); omega))).trans (by have := (show r33.toInt = r33.toInt from rfl); omega), fun _ => ⟨congrArg Int32.toNatClampNeg (cu_s (show 40 + nl.toNatClampNeg = x29.toNatClampNeg from by have := tn_of (show x29.toInt = x29.toInt from rfl) (by omega); have := tn_of (show nl.toInt = nl.toInt from rfl) (by omega); omega)), congrArg Int32.toNatClampNeg (cu_s (show 40 + nl.toNatClampNeg = x29.toNatClampNeg from by have := tn_of (show x29.toInt = x29.toInt from rfl) (by omega); have := tn_of (show nl.toInt = nl.toInt from rfl) (by omega); omega)), rfl⟩⟩)⟩), by (try dsimp only); rw [ht]; exact ⟨hT, hF, m397, m398, m399, m391, m392, m393, m401, m402⟩⟩, hS.F ht⟩) hS.2.2 dX12_readLine_207
              · have t403 : r338.toInt = 0 := ti_eq c380 rfl (by decide)
                refine lv_iconst (v := 0) hx hb dX12_readLine_194 (by decide) ?_
                exact W.zret (v := 0) hx hb hr (by decide) (fun t ht hW => ⟨⟨0, (u340, u341, u342, (dS S0 sv.toInt u342.toInt u344), (pset dB nl.toNatClampNeg (fun y => y = sv.toInt)), (pset dE nl.toNatClampNeg (fun y => y ≤ sv.toInt)), (cu vO x29.toNatClampNeg r33), (cu vB x29.toNatClampNeg sv), (cu vX x29.toNatClampNeg sv), u345, u346), rfl, (by exact ⟨(by have q8 := ti_all u340; omega), (by have q8 := ti_all u341; omega), (by have q8 := ti_all u342; omega), (rg_t (a := 0) (by decide) (by first | decide | omega) (by first | decide | omega)), (fun h => absurd h (by decide)), (by omega), (by have := tn_of (show u10.toInt = u10.toInt from rfl) (by omega); have := tn_of (show u9.toInt = u9.toInt from rfl) (by omega); have := tn_of (show en.toInt = en.toInt from rfl) (by omega); have s9 := hf46; rw [← hf26] at s9; have l9 := so_k (t := (tx vt)) (n := N) (by omega) s9; rw [← hf25] at l9; have x9 : skp (tx vt) N u9.toNatClampNeg = xn (tx vt) N (skp (tx vt) N pt.toNatClampNeg) := (by have z9 := lk_x (t := (tx vt)) (n := N) (b := (skp (tx vt) N pt.toNatClampNeg)) (by omega); unfold xn; rw [z9, hf25, hf26]; rfl); exact Or.inr ⟨by omega, Or.inr ⟨by decide, Or.inr (Or.inr (Or.inr (Or.inr (Or.inl ⟨by omega, (by rw [← x9]; exact (by have a9 := (hf300.resolve_right (fun h8 => by have := h8.2.1; omega)); have c9 := (hf376.resolve_left (fun h8 => by have := h8.1; omega)).2; rw [a9.2.2] at c9; exact Or.inr ⟨a9.1.trans (by decide), c9⟩))⟩))))⟩⟩), (zKp.rf.st (by have := tn_of (show x29.toInt = x29.toInt from rfl) (by omega); have := tn_of (show nl.toInt = nl.toInt from rfl) (by omega); omega)), (zKp.rf.st (by have := tn_of (show x29.toInt = x29.toInt from rfl) (by omega); have := tn_of (show nl.toInt = nl.toInt from rfl) (by omega); omega)), (zKp.rf.st (by have := tn_of (show x29.toInt = x29.toInt from rfl) (by omega); have := tn_of (show nl.toInt = nl.toInt from rfl) (by omega); omega)), (zKp.rf.tr hf377 (by have := tn_of (show sv.toInt = sv.toInt from rfl) (by omega); omega)), (zKp.rf.tr hf378 (by have := tn_of (show sv.toInt = sv.toInt from rfl) (by omega); omega)), (fun h8 => absurd h8 (by decide))⟩), by (try dsimp only); rw [ht]; exact ⟨hT, hF, m347, m348, m349, m356, m357, m358, m351, m352⟩⟩, hS.F ht⟩) hS.2.2 dX12_readLine_195
          · have t404 : r33.toInt ≠ 6 := ti_ne c266 rfl (by decide)
            refine lv_aload_n hx hb dX12_readLine_103 rfl (lv_at hl 1 rfl) ?_
            refine tw_get hx hb hts bF_X12 hown hK hT hr_o0 shm_0 rfl 20 (by decide) (ht_at hts 61 rfl) (fun _ h9 => h9) dX12_readLine_104 (fun v9 m405 h9 => ?_)
            obtain ⟨rfl, hg406⟩ := h9 _ rfl
            refine lv_iload_n hx hb dX12_readLine_107 rfl (lv_at hl 0 rfl) ?_
            refine lv_aload_n hx hb dX12_readLine_108 rfl (lv_at hl 1 rfl) ?_
            refine lv_aload_n hx hb dX12_readLine_109 rfl (lv_at hl 1 rfl) ?_
            refine tw_get hx hb hts bF_X12 hown hK hT hr_o0 shm_0 rfl 19 (by decide) (ht_at hts 17 rfl) (fun _ h9 => h9) dX12_readLine_110 (fun v9 m407 h9 => ?_)
            obtain ⟨rfl, hg408⟩ := h9 _ rfl
            refine lv_iload_n hx hb dX12_readLine_113 rfl (lv_at hl 0 rfl) ?_
            refine tw_iald (i := x29) hx hb hK hT hg2 shm_20 rfl (vin_t (a := x29.toInt) rfl (by omega) (by omega)) dX12_readLine_114 (fun v9 m409 h9 => ?_)
            obtain ⟨x410, rfl, gx410, kx410⟩ := h9
            have cx410 := m97.at m409 (by have q9 := tn_of (show x29.toInt = x29.toInt from rfl) (by omega); omega)
            obtain rfl : r33 = x410 := (el_same m409 m104 rfl).symm
            refine lv_bipush (v := 8) hx hb dX12_readLine_115 (by decide) ?_
            refine lv_icmp_ne (tgt := 125) hx hb dX12_readLine_117 (by decide) (fun c411 => ?_) (fun c411 => ?_)
            · have t412 : r33.toInt ≠ 8 := ti_ne c411 rfl (by decide)
              refine lv_aload_n hx hb dX12_readLine_125 rfl (lv_at hl 1 rfl) ?_
              refine tw_get hx hb hts bF_X12 hown hK hT hr_o0 shm_0 rfl 19 (by decide) (ht_at hts 17 rfl) (fun _ h9 => h9) dX12_readLine_126 (fun v9 m413 h9 => ?_)
              obtain ⟨rfl, hg414⟩ := h9 _ rfl
              refine lv_iload_n hx hb dX12_readLine_129 rfl (lv_at hl 0 rfl) ?_
              refine tw_iald (i := x29) hx hb hK hT hg2 shm_20 rfl (vin_t (a := x29.toInt) rfl (by omega) (by omega)) dX12_readLine_130 (fun v9 m415 h9 => ?_)
              obtain ⟨x416, rfl, gx416, kx416⟩ := h9
              have cx416 := m97.at m415 (by have q9 := tn_of (show x29.toInt = x29.toInt from rfl) (by omega); omega)
              obtain rfl : r33 = x416 := (el_same m415 m104 rfl).symm
              refine lv_bipush (v := 9) hx hb dX12_readLine_131 (by decide) ?_
              refine lv_icmp_ne (tgt := 141) hx hb dX12_readLine_133 (by decide) (fun c417 => ?_) (fun c417 => ?_)
              · have t418 : r33.toInt ≠ 9 := ti_ne c417 rfl (by decide)
                refine lv_ldcw (v := 99999) hx hb hown (ht_at hts 76 rfl) dX12_readLine_141 ?_
                have hFc := gA_free hG hA hS
                refine va_calli (va_runV (As := [.int 99999]) (rest := [.int x29, .ref (q 20)]) ⟨hx, hb, hml, hown, hts⟩ (s_number l dC dI kA adK adV G H q wZ wN wH wB wC wL wK wU wV PI im PM PT (lD S0 lS) (lD (pset dB nl.toNatClampNeg (fun y => y = sv.toInt)) lB) (lD (pset dE nl.toNatClampNeg (fun y => y ≤ sv.toInt)) lE) lN o0 99999 u9 en vt N hT hr_o0 m102 m94 (by have q8 := ti_all u9; omega) (by have q8 := ti_all en; omega) (by have := (show u9.toInt = u9.toInt from rfl); have := (show en.toInt = en.toInt from rfl); omega) hN m96 hgz hgn hgh hgb hgc hgi hgu) (cwV 1 hts (goodIn_app (goodIn_r _ [79, 80, 81, 10] rfl (by decide +kernel)) (goodIn_ca (goodIn_r _ [78, 2, 3, 4, 5, 6, 7, 8, 9, 10, 11, 12, 13, 14] rfl (by decide +kernel)) (bs_in _ _))) rfl rfl rfl (by decide +kernel) ⟨(Nat.le_of_ble_eq_true rfl), (Nat.le_of_ble_eq_true rfl)⟩) ⟨fun a U g mk q => by obtain ⟨q0, q1, qK, qE⟩ := q; exact ⟨q0, q1, va_K.moved (u := U) (U := U.calling g mk a) (Vm.Alike.refl U.vm) qK, EVS.blind g mk a qE⟩, gH_rc hK hT hr_o0 shm_0 rfl, fun U hU hW => ⟨rfl, hU, va_K.moved hW.alike hK, hE.call hS hFc hU hW⟩⟩ rfl rfl hl.1 rfl (lv_room (Nat.le_of_ble_eq_true rfl)) dX12_readLine_144 ⟨(Nat.le_of_ble_eq_true rfl), (Nat.le_of_ble_eq_true rfl)⟩) hS (fun q _ h => hFc q h) hFc (fun r419 u t H locs ht hvm hw420 hB _ _ hS => ?_)
                obtain ⟨u421, u422⟩ := u
                obtain ⟨hT, hF1, m423, m424⟩ := hB
                rw [ht] at hT hF1 m423 m424
                have m425 := (hF1.fld hr_o0 skm_0 (k := 13) (by decide) (by decide)).trans m94
                have m426 := (hF1.fld hr_o0 skm_0 (k := 28) (by decide) (by decide)).trans m95
                have m427 := m96.kept (hF1.arr hg1 skm_11 (by decide))
                have m428 := m97.kept (hF1.arr hg2 skm_20 (by decide))
                have m429 := m98.kept (hF1.arr hg3 skm_25 (by decide))
                have m430 := m99.kept (hF1.arr hg4 skm_26 (by decide))
                have m431 := m100.kept (hF1.arr hg5 skm_27 (by decide))
                have m432 := m101.kept (hF1.arr hg6 skm_28 (by decide))
                have m435 := (el_kept (hF1.arr hg2 skm_20 (by decide))).trans m104
                have hF := hF.more hF1 (by decide)
                try dsimp only at hw420
                obtain ⟨h439, h440, h441, hf442, hf443, hf444⟩ := hw420
                refine tw_iast (i := x29) (x := r419) hx hb hK hT hG hS hg92 shm_21 rfl (vin_t (a := x29.toInt) rfl (by omega) (by omega)) (gi_all _) dX12_readLine_147 (fun H locs hT oq m445 oi hS => ?_)
                have hF := hF.ast hg92 skm_21 oq (by decide)
                have m446 := (el_kept (oq _ (gne hr_o0 hg92 (by decide)))).trans m425
                have m447 := (el_kept (oq _ (gne hr_o0 hg92 (by decide)))).trans m426
                have m448 := m427.kept (oq _ (gne hg1 hg92 (by decide)))
                have m449 := m428.kept (oq _ (gne hg2 hg92 (by decide)))
                have m450 := m429.kept (oq _ (gne hg3 hg92 (by decide)))
                have m451 := m430.kept (oq _ (gne hg4 hg92 (by decide)))
                have m452 := m431.kept (oq _ (gne hg5 hg92 (by decide)))
                have m453 := m432.kept (oq _ (gne hg6 hg92 (by decide)))
                have m454 := (el_kept (oq _ (gne hg2 hg92 (by decide)))).trans m435
                have m457 := (el_kept (oq _ (gne hr_o0 hg92 (by decide)))).trans m423
                have m458 := (el_kept (oq _ (gne hr_o0 hg92 (by decide)))).trans m424
                refine lv_aload_n hx hb dX12_readLine_148 rfl (lv_at hl 1 rfl) ?_
                refine tw_get hx hb hts bF_X12 hown hK hT hr_o0 shm_0 rfl 20 (by decide) (ht_at hts 61 rfl) (fun _ h9 => h9) dX12_readLine_149 (fun v9 m459 h9 => ?_)
                obtain ⟨rfl, hg460⟩ := h9 _ rfl
                refine lv_iload_n hx hb dX12_readLine_152 rfl (lv_at hl 0 rfl) ?_
                refine tw_iald (i := x29) hx hb hK hT hg92 shm_21 rfl (vin_t (a := x29.toInt) rfl (by omega) (by omega)) dX12_readLine_153 (fun v9 m461 h9 => ?_)
                obtain ⟨x462, rfl, gx462, kx462⟩ := h9
                obtain rfl : r419 = x462 := (el_same m461 m445 rfl).symm
                refine lv_if_ge (tgt := 159) hx hb dX12_readLine_154 (by decide) (fun c463 => ?_) (fun c463 => ?_)
                · have t464 : 0 ≤ r419.toInt := ti_le c463 (by decide) rfl
                  refine lv_aload_n hx hb dX12_readLine_159 rfl (lv_at hl 1 rfl) ?_
                  refine tw_get hx hb hts bF_X12 hown hK hT hr_o0 shm_0 rfl 19 (by decide) (ht_at hts 17 rfl) (fun _ h9 => h9) dX12_readLine_160 (fun v9 m465 h9 => ?_)
                  obtain ⟨rfl, hg466⟩ := h9 _ rfl
                  refine lv_iload_n hx hb dX12_readLine_163 rfl (lv_at hl 0 rfl) ?_
                  refine tw_iald (i := x29) hx hb hK hT hg2 shm_20 rfl (vin_t (a := x29.toInt) rfl (by omega) (by omega)) dX12_readLine_164 (fun v9 m467 h9 => ?_)
                  obtain ⟨x468, rfl, gx468, kx468⟩ := h9
                  have cx468 := m449.at m467 (by have q9 := tn_of (show x29.toInt = x29.toInt from rfl) (by omega); omega)
                  obtain rfl : r33 = x468 := (el_same m467 m454 rfl).symm
                  refine lv_bipush (v := 6) hx hb dX12_readLine_165 (by decide) ?_
                  refine lv_icmp_le (tgt := 172) hx hb dX12_readLine_167 (by decide) (fun c469 => ?_) (fun c469 => ?_)
                  · have t470 : r33.toInt ≤ 6 := ti_le c469 rfl (by decide)
                    refine lv_aload_n hx hb dX12_readLine_172 rfl (lv_at hl 1 rfl) ?_
                    refine tw_ldcwS hx hb hown hE.s23 dX12_readLine_173 ?_
                    have hFc := gA_free hG hA hS
                    refine va_calli (va_runV (As := [.ref (adK 23)]) (rest := []) ⟨hx, hb, hml, hown, hts⟩ (s_passes l dC dI kA adK adV G H q wZ wN wH wB wC wL wK wU wV PI im PM PT (lD S0 lS) (lD (pset dB nl.toNatClampNeg (fun y => y = sv.toInt)) lB) (lD (pset dE nl.toNatClampNeg (fun y => y ≤ sv.toInt)) lE) lN o0 u421 en vt 23 N hT hr_o0 m457 m446 (by have q8 := ti_all u421; omega) (by have q8 := ti_all en; omega) (by have := (show u421.toInt = u421.toInt from rfl); have := (show en.toInt = en.toInt from rfl); omega) hN (by first | omega | decide) m448 hgz hgn hgh hgb hgc hgi hgu) (cwV 1 hts (goodIn_app (goodIn_r _ [64, 65, 66, 10] rfl (by decide +kernel)) (goodIn_ca (goodIn_r _ [63, 1, 2, 3, 4, 5, 6, 7, 8, 9, 10, 11, 12, 13, 14, 15, 16, 17, 20, 21, 22, 23, 24, 25, 26, 27, 28, 29, 30, 31, 32, 33, 34, 35, 36, 37, 38, 39, 40, 41, 42, 43, 44, 45, 46, 47, 48, 49, 50, 51, 52, 53, 54, 55] rfl (by decide +kernel)) (bs_in _ _))) rfl rfl rfl (by decide +kernel) ⟨(Nat.le_of_ble_eq_true rfl), (Nat.le_of_ble_eq_true rfl)⟩) ⟨fun a U g mk q => by obtain ⟨q0, q1, qK, qE⟩ := q; exact ⟨q0, q1, va_K.moved (u := U) (U := U.calling g mk a) (Vm.Alike.refl U.vm) qK, EVS.blind g mk a qE⟩, gH_rc hK hT hr_o0 shm_0 rfl, fun U hU hW => ⟨rfl, hU, va_K.moved hW.alike hK, hE.call hS hFc hU hW⟩⟩ rfl rfl hl.1 rfl (lv_room (Nat.le_of_ble_eq_true rfl)) dX12_readLine_176 ⟨(Nat.le_of_ble_eq_true rfl), (Nat.le_of_ble_eq_true rfl)⟩) hS (fun q _ h => hFc q h) hFc (fun r471 u t H locs ht hvm hw472 hB _ _ hS => ?_)
                    obtain ⟨u473, u474⟩ := u
                    obtain ⟨hT, hF1, m475, m476⟩ := hB
                    rw [ht] at hT hF1 m475 m476
                    have m477 := (hF1.fld hr_o0 skm_0 (k := 13) (by decide) (by decide)).trans m446
                    have m478 := (hF1.fld hr_o0 skm_0 (k := 28) (by decide) (by decide)).trans m447
                    have m479 := m448.kept (hF1.arr hg1 skm_11 (by decide))
                    have m480 := m449.kept (hF1.arr hg2 skm_20 (by decide))
                    have m481 := m450.kept (hF1.arr hg3 skm_25 (by decide))
                    have m482 := m451.kept (hF1.arr hg4 skm_26 (by decide))
                    have m483 := m452.kept (hF1.arr hg5 skm_27 (by decide))
                    have m484 := m453.kept (hF1.arr hg6 skm_28 (by decide))
                    have hF := hF.more hF1 (by decide)
                    try dsimp only at hw472
                    obtain ⟨h491, h492, h493, hi494, hf495, hf496, hf497⟩ := hw472
                    refine lv_if_eq (tgt := 196) hx hb dX12_readLine_179 (by decide) (fun c498 => ?_) (fun c498 => ?_)
                    · have t499 : r471.toInt = 0 := ti_eq c498 rfl (by decide)
                      refine lv_aload_n hx hb dX12_readLine_196 rfl (lv_at hl 1 rfl) ?_
                      refine tw_get hx hb hts bF_X12 hown hK hT hr_o0 shm_0 rfl 25 (by decide) (ht_at hts 60 rfl) (fun _ h9 => h9) dX12_readLine_197 (fun v9 m500 h9 => ?_)
                      obtain ⟨rfl, hg501⟩ := h9 _ rfl
                      refine lv_iload_n hx hb dX12_readLine_200 rfl (lv_at hl 0 rfl) ?_
                      refine lv_aload_n hx hb dX12_readLine_201 rfl (lv_at hl 1 rfl) ?_
                      refine tw_getM (v := .int sv) hx hb hts bF_X12 hown hK hT hr_o0 shm_0 rfl 28 (by decide) (ht_at hts 59 rfl) (fun _ h9 => h9) m478 dX12_readLine_202 ?_
                      have t502 : ((x29.toNatClampNeg : Nat) : Int) = x29.toInt := tn_of (show x29.toInt = x29.toInt from rfl) (by omega)
                      have t503 : ((nl.toNatClampNeg : Nat) : Int) = nl.toInt := tn_of rfl (by omega)
                      refine tw_iast2 (Sg1 := (SHm q (wP wZ wN wH wB wC wL wK wU wV) PI im PM PT (lD S0 lS) (lD (pset dB nl.toNatClampNeg (fun y => y = sv.toInt)) lB) (lD (pset (pset dE nl.toNatClampNeg (fun y => y ≤ sv.toInt)) nl.toNatClampNeg (fun y => y ≤ sv.toInt)) lE) lN)) (i := x29) (x := sv) hx hb hK hT hG hS hg4 shm_26 rfl shm_26 shm_o26 (fun b9 h9 => hgu b9 25 h9) (vin_t (a := x29.toInt) rfl (by omega) (by omega)) (⟨_, rfl, lb_hv (n := nl.toNatClampNeg) (by omega) (by omega) (by have q8 := ti_all sv; omega) (Int.le_refl _)⟩) (fun k9 hk9 hne9 v9 hv9 he9 => by obtain ⟨x9, rfl, p9⟩ := he9; exact ⟨x9, rfl, lb_hm (n := nl.toNatClampNeg) hk9 (by omega) p9⟩) dX12_readLine_205 (fun H locs hT oq m504 oi hS => ?_)
                      have hF := hF.ast hg4 skm_26 oq (by decide)
                      have m506 := (el_kept (oq _ (gne hr_o0 hg4 (by decide)))).trans m478
                      have m508 := m480.kept (oq _ (gne hg2 hg4 (by decide)))
                      have m509 := m481.kept (oq _ (gne hg3 hg4 (by decide)))
                      have m510 := m482.put m504 oi
                      have m511 := m483.kept (oq _ (gne hg5 hg4 (by decide)))
                      have m512 := m484.kept (oq _ (gne hg6 hg4 (by decide)))
                      have m516 := (el_kept (oq _ (gne hr_o0 hg4 (by decide)))).trans m475
                      have m517 := (el_kept (oq _ (gne hr_o0 hg4 (by decide)))).trans m476
                      refine lv_iconst (v := 1) hx hb dX12_readLine_206 (by decide) ?_
                      exact W.zret (v := 1) hx hb hr (by decide) (fun t ht hW => ⟨⟨1, (u473, u474, sv, S0, (pset dB nl.toNatClampNeg (fun y => y = sv.toInt)), (pset (pset dE nl.toNatClampNeg (fun y => y ≤ sv.toInt)) nl.toNatClampNeg (fun y => y ≤ sv.toInt)), (cu vO x29.toNatClampNeg r33), (cu vB x29.toNatClampNeg sv), (cu (cu vX x29.toNatClampNeg sv) x29.toNatClampNeg sv), vS, vN), rfl, (by exact ⟨(by have q8 := ti_all u473; omega), (by have q8 := ti_all u474; omega), (by have q8 := ti_all sv; omega), (rg_t (a := 1) (by decide) (by first | decide | omega) (by first | decide | omega)), (fun _ => ⟨lw_next1 hlw, by omega⟩), (by omega), (by have := tn_of (show u10.toInt = u10.toInt from rfl) (by omega); have := tn_of (show u9.toInt = u9.toInt from rfl) (by omega); have := tn_of (show en.toInt = en.toInt from rfl) (by omega); have s9 := hf46; rw [← hf26] at s9; have l9 := so_k (t := (tx vt)) (n := N) (by omega) s9; rw [← hf25] at l9; have x9 : skp (tx vt) N u9.toNatClampNeg = xn (tx vt) N (skp (tx vt) N pt.toNatClampNeg) := (by have z9 := lk_x (t := (tx vt)) (n := N) (b := (skp (tx vt) N pt.toNatClampNeg)) (by omega); unfold xn; rw [z9, hf25, hf26]; rfl); exact Or.inr ⟨by omega, Or.inl ⟨by decide, Or.inr (Or.inr (Or.inr (Or.inr (Or.inr (⟨⟨by omega, by omega⟩, Or.inr ⟨_, (by have n9 := (nR_1 (h := 99999) (by decide) hf444 (by omega)); rw [x9] at n9; exact n9), (by have a9 := (hf497.resolve_left (fun h8 => by have := h8.2.1; omega)); exact Or.inl ⟨fun h7 => a9.1 (h7.trans (by decide)), rfl, a9.2.2⟩)⟩⟩)))))⟩⟩), (zKp.rf.st (by have := tn_of (show x29.toInt = x29.toInt from rfl) (by omega); have := tn_of (show nl.toInt = nl.toInt from rfl) (by omega); omega)), (zKp.rf.st (by have := tn_of (show x29.toInt = x29.toInt from rfl) (by omega); have := tn_of (show nl.toInt = nl.toInt from rfl) (by omega); omega)), ((zKp.rf.st (by have := tn_of (show x29.toInt = x29.toInt from rfl) (by omega); have := tn_of (show nl.toInt = nl.toInt from rfl) (by omega); omega)).st (by have := tn_of (show x29.toInt = x29.toInt from rfl) (by omega); have := tn_of (show nl.toInt = nl.toInt from rfl) (by omega); omega)), zKp.rf, zKp.rf, (fun _ => by have := tn_of (show u10.toInt = u10.toInt from rfl) (by omega); have := tn_of (show u9.toInt = u9.toInt from rfl) (by omega); have := tn_of (show en.toInt = en.toInt from rfl) (by omega); have s9 := hf46; rw [← hf26] at s9; have l9 := so_k (t := (tx vt)) (n := N) (by omega) s9; rw [← hf25] at l9; have x9 : skp (tx vt) N u9.toNatClampNeg = xn (tx vt) N (skp (tx vt) N pt.toNatClampNeg) := (by have z9 := lk_x (t := (tx vt)) (n := N) (b := (skp (tx vt) N pt.toNatClampNeg)) (by omega); unfold xn; rw [z9, hf25, hf26]; rfl); exact ⟨((lkT (kd (tx vt) N (skp (tx vt) N pt.toNatClampNeg))), (zC (zwo 800 vS vN) sv.toNatClampNeg sv.toNatClampNeg)), ⟨rfl, Or.inr (Or.inr (Or.inr (Or.inr ⟨⟨by omega, by omega⟩, _, (by have n9 := (nR_1 (h := 99999) (by decide) hf444 (by omega)); rw [x9] at n9; exact n9), (by have a9 := (hf497.resolve_left (fun h8 => by have := h8.2.1; omega)); exact Or.inl ⟨fun h7 => a9.1 (h7.trans (by decide)), zC_0, a9.2.2⟩)⟩)))⟩, (congrArg Int32.toInt (cu_s (show 40 + nl.toNatClampNeg = x29.toNatClampNeg from by have := tn_of (show x29.toInt = x29.toInt from rfl) (by omega); have := tn_of (show nl.toInt = nl.toInt from rfl) (by omega); omega))).trans (by have := (show r33.toInt = r33.toInt from rfl); omega), fun _ => ⟨congrArg Int32.toNatClampNeg (cu_s (show 40 + nl.toNatClampNeg = x29.toNatClampNeg from by have := tn_of (show x29.toInt = x29.toInt from rfl) (by omega); have := tn_of (show nl.toInt = nl.toInt from rfl) (by omega); omega)), congrArg Int32.toNatClampNeg (cu_s (show 40 + nl.toNatClampNeg = x29.toNatClampNeg from by have := tn_of (show x29.toInt = x29.toInt from rfl) (by omega); have := tn_of (show nl.toInt = nl.toInt from rfl) (by omega); omega)), rfl⟩⟩)⟩), by (try dsimp only); rw [ht]; exact ⟨hT, hF, m516, m517, m506, m508, m509, m510, m511, m512⟩⟩, hS.F ht⟩) hS.2.2 dX12_readLine_207
                    · have t518 : r471.toInt ≠ 0 := ti_ne c498 rfl (by decide)
                      have t519 : u421.toInt + 1 ≤ u473.toInt := hi494 ((bit_of ⟨by omega, by omega⟩).resolve_left c498)
                      refine lv_aload_n hx hb dX12_readLine_182 rfl (lv_at hl 1 rfl) ?_
                      refine lv_iconst (v := 0) hx hb dX12_readLine_183 (by decide) ?_
                      refine tw_put (v := .int 0) (ty := .int) hx hb hts bF_X12 tyX12 tyX12_ok nmX12 hown hK hT hG hS hr_o0 shm_0 rfl 15 (by decide) (ht_at hts 66 rfl) (fun _ h9 => h9) rfl (by decide +kernel) rfl rfl (gl_at rfl (gi_all _)) dX12_readLine_184 (fun H locs hT oq m520 oj hS => ?_)
                      have hF := hF.put hr_o0 skm_0 oq oj (by decide)
                      have m521 := (oj 13 (by decide) (by decide)).trans m477
                      have m522 := (oj 28 (by decide) (by decide)).trans m478
                      have m523 := m479.kept (oq _ (gne hg1 hr_o0 (by decide)))
                      have m524 := m480.kept (oq _ (gne hg2 hr_o0 (by decide)))
                      have m525 := m481.kept (oq _ (gne hg3 hr_o0 (by decide)))
                      have m526 := m482.kept (oq _ (gne hg4 hr_o0 (by decide)))
                      have m527 := m483.kept (oq _ (gne hg5 hr_o0 (by decide)))
                      have m528 := m484.kept (oq _ (gne hg6 hr_o0 (by decide)))
                      have m533 := (oj 12 (by decide) (by decide)).trans m475
                      have hT : gH (dC, dI) kA (SHm q (wP wZ wN wH wB wC wL wK wU wV) PI im PM PT (lD (dS S0 sv.toInt sv.toInt (fun _ => 0)) lS) (lD (pset dB nl.toNatClampNeg (fun y => y = sv.toInt)) lB) (lD (pset dE nl.toNatClampNeg (fun y => y ≤ sv.toInt)) lE) lN) G H := SHm_mono hT (fun _ _ _ z => z) (fun _ _ _ z => z) (fun _ _ z => z) (fun _ _ z => z) (lD_m (fun _ _ q => ⟨q, fun a b => by omega⟩)) (fun _ _ _ _ z => z) (fun _ _ _ _ z => z) (fun _ => Int.le_refl _)
                      refine lv_aload_n hx hb dX12_readLine_187 rfl (lv_at hl 1 rfl) ?_
                      have hFc := gA_free hG hA hS
                      refine va_calli (va_runV (As := []) (rest := []) ⟨hx, hb, hml, hown, hts⟩ (s_readCond0 l dC dI kA adK adV G H q wZ wN wH wB wC wL wK wU wV PI im PM PT lS (lD (pset dB nl.toNatClampNeg (fun y => y = sv.toInt)) lB) (lD (pset dE nl.toNatClampNeg (fun y => y ≤ sv.toInt)) lE) lN o0 u473 en sv 0 vt vS vN S0 sv.toInt (fun _ => 0) N hT hr_o0 m533 m521 m522 m520 (by have q8 := ti_all u473; omega) (by have q8 := ti_all en; omega) (by have q8 := ti_all sv; omega) (by have := (show u473.toInt = u473.toInt from rfl); have := (show en.toInt = en.toInt from rfl); omega) (by have := (show sv.toInt = sv.toInt from rfl); have := (show u473.toInt = u473.toInt from rfl); omega) hlw.1 (by have := (show sv.toInt = sv.toInt from rfl); omega) ⟨fun i => by show (0 : Int) ≤ (i : Int); omega, rfl⟩ (Int.le_refl 0) (rg_t (a := 0) (by decide) (by first | decide | omega) (by first | decide | omega)) hN m523 m527 m528 hgz hgn hgh hgb hgc hgi hgu) (cwV 0 hts (goodIn_app (goodIn_r _ [103, 104, 105, 10] rfl (by decide +kernel)) (goodIn_ca (goodIn_r _ [68, 69, 70, 71, 2, 3, 4, 5, 6, 7, 8, 9, 10, 11, 12, 13, 14, 72, 73, 74, 63, 1, 15, 16, 17, 20, 21, 22, 23, 24, 25, 26, 27, 28, 29, 30, 31, 32, 33, 34, 35, 36, 37, 38, 39, 40, 41, 42, 43, 44, 45, 46, 47, 48, 49, 50, 51, 52, 53, 54, 55, 64, 65, 66, 75, 76, 77, 78, 79, 80, 81, 82, 83, 60, 84, 85, 86, 87, 88, 89, 90, 91, 92, 93, 94, 95, 96, 67, 97, 98, 99, 68, 100, 101, 102, 103, 104, 105] rfl (by decide +kernel)) (bs_in _ _))) rfl rfl rfl (by decide +kernel) ⟨(Nat.le_of_ble_eq_true rfl), (Nat.le_of_ble_eq_true rfl)⟩) ⟨fun a U g mk q => by obtain ⟨q0, q1, qK, qE⟩ := q; exact ⟨q0, q1, va_K.moved (u := U) (U := U.calling g mk a) (Vm.Alike.refl U.vm) qK, EVS.blind g mk a qE⟩, gH_rc hK hT hr_o0 shm_0 rfl, fun U hU hW => ⟨rfl, hU, va_K.moved hW.alike hK, hE.call hS hFc hU hW⟩⟩ rfl rfl hl.1 rfl (lv_room (Nat.le_of_ble_eq_true rfl)) dX12_readLine_188 ⟨(Nat.le_of_ble_eq_true rfl), (Nat.le_of_ble_eq_true rfl)⟩) hS (fun q _ h => hFc q h) hFc (fun r535 u t H locs ht hvm hw536 hB _ _ hS => ?_)
                      obtain ⟨u537, u538, u539, u540, u541, u542, u543⟩ := u
                      obtain ⟨hT, hF1, m544, m545, m546, m547, m548, m549⟩ := hB
                      rw [ht] at hT hF1 m544 m545 m546 m547 m548 m549
                      have m553 := m524.kept (hF1.arr hg2 skm_20 (by decide))
                      have m554 := m525.kept (hF1.arr hg3 skm_25 (by decide))
                      have m555 := m526.kept (hF1.arr hg4 skm_26 (by decide))
                      have hF := hF.more hF1 (by decide)
                      try dsimp only at hw536
                      obtain ⟨h565, h566, h567, h568, hi569, hi570, hf571, hf572, hf573, hf574, hf575, hf576⟩ := hw536
                      refine lv_if_ne (tgt := 196) hx hb dX12_readLine_191 (by decide) (fun c577 => ?_) (fun c577 => ?_)
                      · have t578 : r535.toInt ≠ 0 := ti_ne c577 rfl (by decide)
                        have t579 : u541 u539.toNatClampNeg = (fun _ => 0) sv.toNatClampNeg + 1 := hi569 ((bit_of ⟨by omega, by omega⟩).resolve_left c577)
                        have t580 : u540.toInt = 0 := hi570 ((bit_of ⟨by omega, by omega⟩).resolve_left c577)
                        refine lv_aload_n hx hb dX12_readLine_196 rfl (lv_at hl 1 rfl) ?_
                        refine tw_get hx hb hts bF_X12 hown hK hT hr_o0 shm_0 rfl 25 (by decide) (ht_at hts 60 rfl) (fun _ h9 => h9) dX12_readLine_197 (fun v9 m581 h9 => ?_)
                        obtain ⟨rfl, hg582⟩ := h9 _ rfl
                        refine lv_iload_n hx hb dX12_readLine_200 rfl (lv_at hl 0 rfl) ?_
                        refine lv_aload_n hx hb dX12_readLine_201 rfl (lv_at hl 1 rfl) ?_
                        refine tw_getM (v := .int u539) hx hb hts bF_X12 hown hK hT hr_o0 shm_0 rfl 28 (by decide) (ht_at hts 59 rfl) (fun _ h9 => h9) m546 dX12_readLine_202 ?_
                        have t583 : ((x29.toNatClampNeg : Nat) : Int) = x29.toInt := tn_of (show x29.toInt = x29.toInt from rfl) (by omega)
                        have t584 : ((nl.toNatClampNeg : Nat) : Int) = nl.toInt := tn_of rfl (by omega)
                        refine tw_iast2 (Sg1 := (SHm q (wP wZ wN wH wB wC wL wK wU wV) PI im PM PT (lD (dS S0 sv.toInt u539.toInt u541) lS) (lD (pset dB nl.toNatClampNeg (fun y => y = sv.toInt)) lB) (lD (pset (pset dE nl.toNatClampNeg (fun y => y ≤ sv.toInt)) nl.toNatClampNeg (fun y => y ≤ u539.toInt)) lE) lN)) (i := x29) (x := u539) hx hb hK hT hG hS hg4 shm_26 rfl shm_26 shm_o26 (fun b9 h9 => hgu b9 25 h9) (vin_t (a := x29.toInt) rfl (by omega) (by omega)) (⟨_, rfl, lb_hv (n := nl.toNatClampNeg) (by omega) (by omega) (by have q8 := ti_all u539; omega) (Int.le_refl _)⟩) (fun k9 hk9 hne9 v9 hv9 he9 => by obtain ⟨x9, rfl, p9⟩ := he9; exact ⟨x9, rfl, lb_hm (n := nl.toNatClampNeg) hk9 (by omega) p9⟩) dX12_readLine_205 (fun H locs hT oq m585 oi hS => ?_)
                        have hF := hF.ast hg4 skm_26 oq (by decide)
                        have m588 := m553.kept (oq _ (gne hg2 hg4 (by decide)))
                        have m589 := m554.kept (oq _ (gne hg3 hg4 (by decide)))
                        have m590 := m555.put m585 oi
                        have m594 := (el_kept (oq _ (gne hr_o0 hg4 (by decide)))).trans m544
                        have m595 := (el_kept (oq _ (gne hr_o0 hg4 (by decide)))).trans m545
                        have m596 := (el_kept (oq _ (gne hr_o0 hg4 (by decide)))).trans m546
                        have m598 := m548.kept (oq _ (gne hg5 hg4 (by decide)))
                        have m599 := m549.kept (oq _ (gne hg6 hg4 (by decide)))
                        refine lv_iconst (v := 1) hx hb dX12_readLine_206 (by decide) ?_
                        exact W.zret (v := 1) hx hb hr (by decide) (fun t ht hW => ⟨⟨1, (u537, u538, u539, (dS S0 sv.toInt u539.toInt u541), (pset dB nl.toNatClampNeg (fun y => y = sv.toInt)), (pset (pset dE nl.toNatClampNeg (fun y => y ≤ sv.toInt)) nl.toNatClampNeg (fun y => y ≤ u539.toInt)), (cu vO x29.toNatClampNeg r33), (cu vB x29.toNatClampNeg sv), (cu (cu vX x29.toNatClampNeg sv) x29.toNatClampNeg u539), u542, u543), rfl, (by exact ⟨(by have q8 := ti_all u537; omega), (by have q8 := ti_all u538; omega), (by have q8 := ti_all u539; omega), (rg_t (a := 1) (by decide) (by first | decide | omega) (by first | decide | omega)), (fun _ => ⟨lw_next hlw hf572 (by omega), by omega⟩), (by omega), (by have := tn_of (show u10.toInt = u10.toInt from rfl) (by omega); have := tn_of (show u9.toInt = u9.toInt from rfl) (by omega); have := tn_of (show en.toInt = en.toInt from rfl) (by omega); have s9 := hf46; rw [← hf26] at s9; have l9 := so_k (t := (tx vt)) (n := N) (by omega) s9; rw [← hf25] at l9; have x9 : skp (tx vt) N u9.toNatClampNeg = xn (tx vt) N (skp (tx vt) N pt.toNatClampNeg) := (by have z9 := lk_x (t := (tx vt)) (n := N) (b := (skp (tx vt) N pt.toNatClampNeg)) (by omega); unfold xn; rw [z9, hf25, hf26]; rfl); exact Or.inr ⟨by omega, Or.inl ⟨by decide, Or.inr (Or.inr (Or.inr (Or.inr (Or.inr (⟨⟨by omega, by omega⟩, Or.inr ⟨_, (by have n9 := (nR_1 (h := 99999) (by decide) hf444 (by omega)); rw [x9] at n9; exact n9), (by have a9 := (hf497.resolve_right (fun h8 => by have := h8.2.1; omega)); have c9 := (hf573.resolve_right (fun h8 => by have := h8.1; omega)).2; rw [a9.2.2] at c9; exact Or.inr ⟨a9.1.trans (by decide), c9⟩)⟩⟩)))))⟩⟩), (zKp.rf.st (by have := tn_of (show x29.toInt = x29.toInt from rfl) (by omega); have := tn_of (show nl.toInt = nl.toInt from rfl) (by omega); omega)), (zKp.rf.st (by have := tn_of (show x29.toInt = x29.toInt from rfl) (by omega); have := tn_of (show nl.toInt = nl.toInt from rfl) (by omega); omega)), ((zKp.rf.st (by have := tn_of (show x29.toInt = x29.toInt from rfl) (by omega); have := tn_of (show nl.toInt = nl.toInt from rfl) (by omega); omega)).st (by have := tn_of (show x29.toInt = x29.toInt from rfl) (by omega); have := tn_of (show nl.toInt = nl.toInt from rfl) (by omega); omega)), (zKp.rf.tr hf574 (by have := tn_of (show sv.toInt = sv.toInt from rfl) (by omega); omega)), (zKp.rf.tr hf575 (by have := tn_of (show sv.toInt = sv.toInt from rfl) (by omega); omega)), (fun _ => by have := tn_of (show u10.toInt = u10.toInt from rfl) (by omega); have := tn_of (show u9.toInt = u9.toInt from rfl) (by omega); have := tn_of (show en.toInt = en.toInt from rfl) (by omega); have s9 := hf46; rw [← hf26] at s9; have l9 := so_k (t := (tx vt)) (n := N) (by omega) s9; rw [← hf25] at l9; have x9 : skp (tx vt) N u9.toNatClampNeg = xn (tx vt) N (skp (tx vt) N pt.toNatClampNeg) := (by have z9 := lk_x (t := (tx vt)) (n := N) (b := (skp (tx vt) N pt.toNatClampNeg)) (by omega); unfold xn; rw [z9, hf25, hf26]; rfl); exact ⟨((lkT (kd (tx vt) N (skp (tx vt) N pt.toNatClampNeg))), (zC (zwo 800 u542 u543) sv.toNatClampNeg u539.toNatClampNeg)), ⟨rfl, Or.inr (Or.inr (Or.inr (Or.inr ⟨⟨by omega, by omega⟩, _, (by have n9 := (nR_1 (h := 99999) (by decide) hf444 (by omega)); rw [x9] at n9; exact n9), (by have a9 := (hf497.resolve_right (fun h8 => by have := h8.2.1; omega)); have c9 := hf576 (by omega); rw [a9.2.2] at c9; exact Or.inr ⟨a9.1.trans (by decide), c9⟩)⟩)))⟩, (congrArg Int32.toInt (cu_s (show 40 + nl.toNatClampNeg = x29.toNatClampNeg from by have := tn_of (show x29.toInt = x29.toInt from rfl) (by omega); have := tn_of (show nl.toInt = nl.toInt from rfl) (by omega); omega))).trans (by have := (show r33.toInt = r33.toInt from rfl); omega), fun _ => ⟨congrArg Int32.toNatClampNeg (cu_s (show 40 + nl.toNatClampNeg = x29.toNatClampNeg from by have := tn_of (show x29.toInt = x29.toInt from rfl) (by omega); have := tn_of (show nl.toInt = nl.toInt from rfl) (by omega); omega)), congrArg Int32.toNatClampNeg (cu_s (show 40 + nl.toNatClampNeg = x29.toNatClampNeg from by have := tn_of (show x29.toInt = x29.toInt from rfl) (by omega); have := tn_of (show nl.toInt = nl.toInt from rfl) (by omega); omega)), rfl⟩⟩)⟩), by (try dsimp only); rw [ht]; exact ⟨hT, hF, m594, m595, m596, m588, m589, m590, m598, m599⟩⟩, hS.F ht⟩) hS.2.2 dX12_readLine_207
                      · have t600 : r535.toInt = 0 := ti_eq c577 rfl (by decide)
                        refine lv_iconst (v := 0) hx hb dX12_readLine_194 (by decide) ?_
                        exact W.zret (v := 0) hx hb hr (by decide) (fun t ht hW => ⟨⟨0, (u537, u538, u539, (dS S0 sv.toInt u539.toInt u541), (pset dB nl.toNatClampNeg (fun y => y = sv.toInt)), (pset dE nl.toNatClampNeg (fun y => y ≤ sv.toInt)), (cu vO x29.toNatClampNeg r33), (cu vB x29.toNatClampNeg sv), (cu vX x29.toNatClampNeg sv), u542, u543), rfl, (by exact ⟨(by have q8 := ti_all u537; omega), (by have q8 := ti_all u538; omega), (by have q8 := ti_all u539; omega), (rg_t (a := 0) (by decide) (by first | decide | omega) (by first | decide | omega)), (fun h => absurd h (by decide)), (by omega), (by have := tn_of (show u10.toInt = u10.toInt from rfl) (by omega); have := tn_of (show u9.toInt = u9.toInt from rfl) (by omega); have := tn_of (show en.toInt = en.toInt from rfl) (by omega); have s9 := hf46; rw [← hf26] at s9; have l9 := so_k (t := (tx vt)) (n := N) (by omega) s9; rw [← hf25] at l9; have x9 : skp (tx vt) N u9.toNatClampNeg = xn (tx vt) N (skp (tx vt) N pt.toNatClampNeg) := (by have z9 := lk_x (t := (tx vt)) (n := N) (b := (skp (tx vt) N pt.toNatClampNeg)) (by omega); unfold xn; rw [z9, hf25, hf26]; rfl); exact Or.inr ⟨by omega, Or.inr ⟨by decide, Or.inr (Or.inr (Or.inr (Or.inr (Or.inr (⟨⟨by omega, by omega⟩, Or.inr ⟨_, (by have n9 := (nR_1 (h := 99999) (by decide) hf444 (by omega)); rw [x9] at n9; exact n9), (by have a9 := (hf497.resolve_right (fun h8 => by have := h8.2.1; omega)); have c9 := (hf573.resolve_left (fun h8 => by have := h8.1; omega)).2; rw [a9.2.2] at c9; exact Or.inr ⟨a9.1.trans (by decide), c9⟩)⟩⟩)))))⟩⟩), (zKp.rf.st (by have := tn_of (show x29.toInt = x29.toInt from rfl) (by omega); have := tn_of (show nl.toInt = nl.toInt from rfl) (by omega); omega)), (zKp.rf.st (by have := tn_of (show x29.toInt = x29.toInt from rfl) (by omega); have := tn_of (show nl.toInt = nl.toInt from rfl) (by omega); omega)), (zKp.rf.st (by have := tn_of (show x29.toInt = x29.toInt from rfl) (by omega); have := tn_of (show nl.toInt = nl.toInt from rfl) (by omega); omega)), (zKp.rf.tr hf574 (by have := tn_of (show sv.toInt = sv.toInt from rfl) (by omega); omega)), (zKp.rf.tr hf575 (by have := tn_of (show sv.toInt = sv.toInt from rfl) (by omega); omega)), (fun h8 => absurd h8 (by decide))⟩), by (try dsimp only); rw [ht]; exact ⟨hT, hF, m544, m545, m546, m553, m554, m555, m548, m549⟩⟩, hS.F ht⟩) hS.2.2 dX12_readLine_195
                  · have t601 : 6 < r33.toInt := ti_nle c469 rfl (by decide)
                    refine lv_iconst (v := 1) hx hb dX12_readLine_170 (by decide) ?_
                    exact W.zret (v := 1) hx hb hr (by decide) (fun t ht hW => ⟨⟨1, (u421, u422, sv, S0, (pset dB nl.toNatClampNeg (fun y => y = sv.toInt)), (pset dE nl.toNatClampNeg (fun y => y ≤ sv.toInt)), (cu vO x29.toNatClampNeg r33), (cu vB x29.toNatClampNeg sv), (cu vX x29.toNatClampNeg sv), vS, vN), rfl, (by exact ⟨(by have q8 := ti_all u421; omega), (by have q8 := ti_all u422; omega), (by have q8 := ti_all sv; omega), (rg_t (a := 1) (by decide) (by first | decide | omega) (by first | decide | omega)), (fun _ => ⟨lw_next0 hlw, by omega⟩), (by omega), (by exfalso; omega), (zKp.rf.st (by have := tn_of (show x29.toInt = x29.toInt from rfl) (by omega); have := tn_of (show nl.toInt = nl.toInt from rfl) (by omega); omega)), (zKp.rf.st (by have := tn_of (show x29.toInt = x29.toInt from rfl) (by omega); have := tn_of (show nl.toInt = nl.toInt from rfl) (by omega); omega)), (zKp.rf.st (by have := tn_of (show x29.toInt = x29.toInt from rfl) (by omega); have := tn_of (show nl.toInt = nl.toInt from rfl) (by omega); omega)), zKp.rf, zKp.rf, (fun _ => by exfalso; omega)⟩), by (try dsimp only); rw [ht]; exact ⟨hT, hF, m457, m458, m447, m449, m450, m451, m452, m453⟩⟩, hS.F ht⟩) hS.2.2 dX12_readLine_171
                · have t602 : r419.toInt < 0 := ti_nle c463 (by decide) rfl
                  refine lv_iconst (v := 0) hx hb dX12_readLine_157 (by decide) ?_
                  exact W.zret (v := 0) hx hb hr (by decide) (fun t ht hW => ⟨⟨0, (u421, u422, sv, S0, (pset dB nl.toNatClampNeg (fun y => y = sv.toInt)), (pset dE nl.toNatClampNeg (fun y => y ≤ sv.toInt)), (cu vO x29.toNatClampNeg r33), (cu vB x29.toNatClampNeg sv), (cu vX x29.toNatClampNeg sv), vS, vN), rfl, (by exact ⟨(by have q8 := ti_all u421; omega), (by have q8 := ti_all u422; omega), (by have q8 := ti_all sv; omega), (rg_t (a := 0) (by decide) (by first | decide | omega) (by first | decide | omega)), (fun h => absurd h (by decide)), (by omega), (by have := tn_of (show u10.toInt = u10.toInt from rfl) (by omega); have := tn_of (show u9.toInt = u9.toInt from rfl) (by omega); have := tn_of (show en.toInt = en.toInt from rfl) (by omega); have s9 := hf46; rw [← hf26] at s9; have l9 := so_k (t := (tx vt)) (n := N) (by omega) s9; rw [← hf25] at l9; have x9 : skp (tx vt) N u9.toNatClampNeg = xn (tx vt) N (skp (tx vt) N pt.toNatClampNeg) := (by have z9 := lk_x (t := (tx vt)) (n := N) (b := (skp (tx vt) N pt.toNatClampNeg)) (by omega); unfold xn; rw [z9, hf25, hf26]; rfl); exact Or.inr ⟨by omega, Or.inr ⟨by decide, Or.inr (Or.inr (Or.inr (Or.inr (Or.inr (⟨⟨by omega, by omega⟩, Or.inl ⟨(by have n9 := (nR_0 (h := 99999) (by decide) hf444 (by omega) hf443); rw [x9] at n9; exact n9), rfl⟩⟩)))))⟩⟩), (zKp.rf.st (by have := tn_of (show x29.toInt = x29.toInt from rfl) (by omega); have := tn_of (show nl.toInt = nl.toInt from rfl) (by omega); omega)), (zKp.rf.st (by have := tn_of (show x29.toInt = x29.toInt from rfl) (by omega); have := tn_of (show nl.toInt = nl.toInt from rfl) (by omega); omega)), (zKp.rf.st (by have := tn_of (show x29.toInt = x29.toInt from rfl) (by omega); have := tn_of (show nl.toInt = nl.toInt from rfl) (by omega); omega)), zKp.rf, zKp.rf, (fun h8 => absurd h8 (by decide))⟩), by (try dsimp only); rw [ht]; exact ⟨hT, hF, m457, m458, m447, m449, m450, m451, m452, m453⟩⟩, hS.F ht⟩) hS.2.2 dX12_readLine_158
              · have t603 : r33.toInt = 9 := ti_eq c417 rfl (by decide)
                refine lv_bipush (v := 18) hx hb dX12_readLine_136 (by decide) ?_
                refine lv_goto (tgt := 144) hx hb dX12_readLine_138 (by decide) ?_
                have hFc := gA_free hG hA hS
                refine va_calli (va_runV (As := [.int 18]) (rest := [.int x29, .ref (q 20)]) ⟨hx, hb, hml, hown, hts⟩ (s_number l dC dI kA adK adV G H q wZ wN wH wB wC wL wK wU wV PI im PM PT (lD S0 lS) (lD (pset dB nl.toNatClampNeg (fun y => y = sv.toInt)) lB) (lD (pset dE nl.toNatClampNeg (fun y => y ≤ sv.toInt)) lE) lN o0 18 u9 en vt N hT hr_o0 m102 m94 (by have q8 := ti_all u9; omega) (by have q8 := ti_all en; omega) (by have := (show u9.toInt = u9.toInt from rfl); have := (show en.toInt = en.toInt from rfl); omega) hN m96 hgz hgn hgh hgb hgc hgi hgu) (cwV 1 hts (goodIn_app (goodIn_r _ [79, 80, 81, 10] rfl (by decide +kernel)) (goodIn_ca (goodIn_r _ [78, 2, 3, 4, 5, 6, 7, 8, 9, 10, 11, 12, 13, 14] rfl (by decide +kernel)) (bs_in _ _))) rfl rfl rfl (by decide +kernel) ⟨(Nat.le_of_ble_eq_true rfl), (Nat.le_of_ble_eq_true rfl)⟩) ⟨fun a U g mk q => by obtain ⟨q0, q1, qK, qE⟩ := q; exact ⟨q0, q1, va_K.moved (u := U) (U := U.calling g mk a) (Vm.Alike.refl U.vm) qK, EVS.blind g mk a qE⟩, gH_rc hK hT hr_o0 shm_0 rfl, fun U hU hW => ⟨rfl, hU, va_K.moved hW.alike hK, hE.call hS hFc hU hW⟩⟩ rfl rfl hl.1 rfl (lv_room (Nat.le_of_ble_eq_true rfl)) dX12_readLine_144 ⟨(Nat.le_of_ble_eq_true rfl), (Nat.le_of_ble_eq_true rfl)⟩) hS (fun q _ h => hFc q h) hFc (fun r604 u t H locs ht hvm hw605 hB _ _ hS => ?_)
                obtain ⟨u606, u607⟩ := u
                obtain ⟨hT, hF1, m608, m609⟩ := hB
                rw [ht] at hT hF1 m608 m609
                have m611 := (hF1.fld hr_o0 skm_0 (k := 28) (by decide) (by decide)).trans m95
                have m613 := m97.kept (hF1.arr hg2 skm_20 (by decide))
                have m614 := m98.kept (hF1.arr hg3 skm_25 (by decide))
                have m615 := m99.kept (hF1.arr hg4 skm_26 (by decide))
                have m616 := m100.kept (hF1.arr hg5 skm_27 (by decide))
                have m617 := m101.kept (hF1.arr hg6 skm_28 (by decide))
                have m620 := (el_kept (hF1.arr hg2 skm_20 (by decide))).trans m104
                have hF := hF.more hF1 (by decide)
                try dsimp only at hw605
                obtain ⟨h624, h625, h626, hf627, hf628, hf629⟩ := hw605
                refine tw_iast (i := x29) (x := r604) hx hb hK hT hG hS hg92 shm_21 rfl (vin_t (a := x29.toInt) rfl (by omega) (by omega)) (gi_all _) dX12_readLine_147 (fun H locs hT oq m630 oi hS => ?_)
                have hF := hF.ast hg92 skm_21 oq (by decide)
                have m632 := (el_kept (oq _ (gne hr_o0 hg92 (by decide)))).trans m611
                have m634 := m613.kept (oq _ (gne hg2 hg92 (by decide)))
                have m635 := m614.kept (oq _ (gne hg3 hg92 (by decide)))
                have m636 := m615.kept (oq _ (gne hg4 hg92 (by decide)))
                have m637 := m616.kept (oq _ (gne hg5 hg92 (by decide)))
                have m638 := m617.kept (oq _ (gne hg6 hg92 (by decide)))
                have m639 := (el_kept (oq _ (gne hg2 hg92 (by decide)))).trans m620
                have m642 := (el_kept (oq _ (gne hr_o0 hg92 (by decide)))).trans m608
                have m643 := (el_kept (oq _ (gne hr_o0 hg92 (by decide)))).trans m609
                refine lv_aload_n hx hb dX12_readLine_148 rfl (lv_at hl 1 rfl) ?_
                refine tw_get hx hb hts bF_X12 hown hK hT hr_o0 shm_0 rfl 20 (by decide) (ht_at hts 61 rfl) (fun _ h9 => h9) dX12_readLine_149 (fun v9 m644 h9 => ?_)
                obtain ⟨rfl, hg645⟩ := h9 _ rfl
                refine lv_iload_n hx hb dX12_readLine_152 rfl (lv_at hl 0 rfl) ?_
                refine tw_iald (i := x29) hx hb hK hT hg92 shm_21 rfl (vin_t (a := x29.toInt) rfl (by omega) (by omega)) dX12_readLine_153 (fun v9 m646 h9 => ?_)
                obtain ⟨x647, rfl, gx647, kx647⟩ := h9
                obtain rfl : r604 = x647 := (el_same m646 m630 rfl).symm
                refine lv_if_ge (tgt := 159) hx hb dX12_readLine_154 (by decide) (fun c648 => ?_) (fun c648 => ?_)
                · have t649 : 0 ≤ r604.toInt := ti_le c648 (by decide) rfl
                  refine lv_aload_n hx hb dX12_readLine_159 rfl (lv_at hl 1 rfl) ?_
                  refine tw_get hx hb hts bF_X12 hown hK hT hr_o0 shm_0 rfl 19 (by decide) (ht_at hts 17 rfl) (fun _ h9 => h9) dX12_readLine_160 (fun v9 m650 h9 => ?_)
                  obtain ⟨rfl, hg651⟩ := h9 _ rfl
                  refine lv_iload_n hx hb dX12_readLine_163 rfl (lv_at hl 0 rfl) ?_
                  refine tw_iald (i := x29) hx hb hK hT hg2 shm_20 rfl (vin_t (a := x29.toInt) rfl (by omega) (by omega)) dX12_readLine_164 (fun v9 m652 h9 => ?_)
                  obtain ⟨x653, rfl, gx653, kx653⟩ := h9
                  have cx653 := m634.at m652 (by have q9 := tn_of (show x29.toInt = x29.toInt from rfl) (by omega); omega)
                  obtain rfl : r33 = x653 := (el_same m652 m639 rfl).symm
                  refine lv_bipush (v := 6) hx hb dX12_readLine_165 (by decide) ?_
                  refine lv_icmp_le (tgt := 172) hx hb dX12_readLine_167 (by decide) (fun c654 => (by exfalso; have q9 : r33.toInt ≤ 6 := ti_le c654 rfl (by decide); omega)) (fun c654 => ?_)
                  have t655 : 6 < r33.toInt := ti_nle c654 rfl (by decide)
                  refine lv_iconst (v := 1) hx hb dX12_readLine_170 (by decide) ?_
                  exact W.zret (v := 1) hx hb hr (by decide) (fun t ht hW => ⟨⟨1, (u606, u607, sv, S0, (pset dB nl.toNatClampNeg (fun y => y = sv.toInt)), (pset dE nl.toNatClampNeg (fun y => y ≤ sv.toInt)), (cu vO x29.toNatClampNeg r33), (cu vB x29.toNatClampNeg sv), (cu vX x29.toNatClampNeg sv), vS, vN), rfl, (by exact ⟨(by have q8 := ti_all u606; omega), (by have q8 := ti_all u607; omega), (by have q8 := ti_all sv; omega), (rg_t (a := 1) (by decide) (by first | decide | omega) (by first | decide | omega)), (fun _ => ⟨lw_next0 hlw, by omega⟩), (by omega), (by have := tn_of (show u10.toInt = u10.toInt from rfl) (by omega); have := tn_of (show u9.toInt = u9.toInt from rfl) (by omega); have := tn_of (show en.toInt = en.toInt from rfl) (by omega); have s9 := hf46; rw [← hf26] at s9; have l9 := so_k (t := (tx vt)) (n := N) (by omega) s9; rw [← hf25] at l9; have x9 : skp (tx vt) N u9.toNatClampNeg = xn (tx vt) N (skp (tx vt) N pt.toNatClampNeg) := (by have z9 := lk_x (t := (tx vt)) (n := N) (b := (skp (tx vt) N pt.toNatClampNeg)) (by omega); unfold xn; rw [z9, hf25, hf26]; rfl); exact Or.inr ⟨by omega, Or.inl ⟨by decide, Or.inr (Or.inr (Or.inr (Or.inl ⟨by omega, (by have n9 := (nR_1 (h := 18) (by decide) hf629 (by omega)); rw [x9] at n9; exact n9)⟩)))⟩⟩), (zKp.rf.st (by have := tn_of (show x29.toInt = x29.toInt from rfl) (by omega); have := tn_of (show nl.toInt = nl.toInt from rfl) (by omega); omega)), (zKp.rf.st (by have := tn_of (show x29.toInt = x29.toInt from rfl) (by omega); have := tn_of (show nl.toInt = nl.toInt from rfl) (by omega); omega)), (zKp.rf.st (by have := tn_of (show x29.toInt = x29.toInt from rfl) (by omega); have := tn_of (show nl.toInt = nl.toInt from rfl) (by omega); omega)), zKp.rf, zKp.rf, (fun _ => by have := tn_of (show u10.toInt = u10.toInt from rfl) (by omega); have := tn_of (show u9.toInt = u9.toInt from rfl) (by omega); have := tn_of (show en.toInt = en.toInt from rfl) (by omega); have s9 := hf46; rw [← hf26] at s9; have l9 := so_k (t := (tx vt)) (n := N) (by omega) s9; rw [← hf25] at l9; have x9 : skp (tx vt) N u9.toNatClampNeg = xn (tx vt) N (skp (tx vt) N pt.toNatClampNeg) := (by have z9 := lk_x (t := (tx vt)) (n := N) (b := (skp (tx vt) N pt.toNatClampNeg)) (by omega); unfold xn; rw [z9, hf25, hf26]; rfl); exact ⟨((lkT (kd (tx vt) N (skp (tx vt) N pt.toNatClampNeg))), []), ⟨rfl, Or.inr (Or.inr (Or.inl ⟨by omega, (by have n9 := (nR_1 (h := 18) (by decide) hf629 (by omega)); rw [x9] at n9; exact n9), rfl⟩))⟩, (congrArg Int32.toInt (cu_s (show 40 + nl.toNatClampNeg = x29.toNatClampNeg from by have := tn_of (show x29.toInt = x29.toInt from rfl) (by omega); have := tn_of (show nl.toInt = nl.toInt from rfl) (by omega); omega))).trans (by have := (show r33.toInt = r33.toInt from rfl); omega), fun h7 => by exfalso; have h6 : (lkT (kd (tx vt) N (skp (tx vt) N pt.toNatClampNeg))) ≤ 6 := h7; omega⟩)⟩), by (try dsimp only); rw [ht]; exact ⟨hT, hF, m642, m643, m632, m634, m635, m636, m637, m638⟩⟩, hS.F ht⟩) hS.2.2 dX12_readLine_171
                · have t656 : r604.toInt < 0 := ti_nle c648 (by decide) rfl
                  refine lv_iconst (v := 0) hx hb dX12_readLine_157 (by decide) ?_
                  exact W.zret (v := 0) hx hb hr (by decide) (fun t ht hW => ⟨⟨0, (u606, u607, sv, S0, (pset dB nl.toNatClampNeg (fun y => y = sv.toInt)), (pset dE nl.toNatClampNeg (fun y => y ≤ sv.toInt)), (cu vO x29.toNatClampNeg r33), (cu vB x29.toNatClampNeg sv), (cu vX x29.toNatClampNeg sv), vS, vN), rfl, (by exact ⟨(by have q8 := ti_all u606; omega), (by have q8 := ti_all u607; omega), (by have q8 := ti_all sv; omega), (rg_t (a := 0) (by decide) (by first | decide | omega) (by first | decide | omega)), (fun h => absurd h (by decide)), (by omega), (by have := tn_of (show u10.toInt = u10.toInt from rfl) (by omega); have := tn_of (show u9.toInt = u9.toInt from rfl) (by omega); have := tn_of (show en.toInt = en.toInt from rfl) (by omega); have s9 := hf46; rw [← hf26] at s9; have l9 := so_k (t := (tx vt)) (n := N) (by omega) s9; rw [← hf25] at l9; have x9 : skp (tx vt) N u9.toNatClampNeg = xn (tx vt) N (skp (tx vt) N pt.toNatClampNeg) := (by have z9 := lk_x (t := (tx vt)) (n := N) (b := (skp (tx vt) N pt.toNatClampNeg)) (by omega); unfold xn; rw [z9, hf25, hf26]; rfl); exact Or.inr ⟨by omega, Or.inr ⟨by decide, Or.inr (Or.inr (Or.inr (Or.inl ⟨by omega, (by have n9 := (nR_0 (h := 18) (by decide) hf629 (by omega) hf628); rw [x9] at n9; exact n9)⟩)))⟩⟩), (zKp.rf.st (by have := tn_of (show x29.toInt = x29.toInt from rfl) (by omega); have := tn_of (show nl.toInt = nl.toInt from rfl) (by omega); omega)), (zKp.rf.st (by have := tn_of (show x29.toInt = x29.toInt from rfl) (by omega); have := tn_of (show nl.toInt = nl.toInt from rfl) (by omega); omega)), (zKp.rf.st (by have := tn_of (show x29.toInt = x29.toInt from rfl) (by omega); have := tn_of (show nl.toInt = nl.toInt from rfl) (by omega); omega)), zKp.rf, zKp.rf, (fun h8 => absurd h8 (by decide))⟩), by (try dsimp only); rw [ht]; exact ⟨hT, hF, m642, m643, m632, m634, m635, m636, m637, m638⟩⟩, hS.F ht⟩) hS.2.2 dX12_readLine_158
            · have t657 : r33.toInt = 8 := ti_eq c411 rfl (by decide)
              refine lv_bipush (v := 100) hx hb dX12_readLine_120 (by decide) ?_
              refine lv_goto (tgt := 144) hx hb dX12_readLine_122 (by decide) ?_
              have hFc := gA_free hG hA hS
              refine va_calli (va_runV (As := [.int 100]) (rest := [.int x29, .ref (q 20)]) ⟨hx, hb, hml, hown, hts⟩ (s_number l dC dI kA adK adV G H q wZ wN wH wB wC wL wK wU wV PI im PM PT (lD S0 lS) (lD (pset dB nl.toNatClampNeg (fun y => y = sv.toInt)) lB) (lD (pset dE nl.toNatClampNeg (fun y => y ≤ sv.toInt)) lE) lN o0 100 u9 en vt N hT hr_o0 m102 m94 (by have q8 := ti_all u9; omega) (by have q8 := ti_all en; omega) (by have := (show u9.toInt = u9.toInt from rfl); have := (show en.toInt = en.toInt from rfl); omega) hN m96 hgz hgn hgh hgb hgc hgi hgu) (cwV 1 hts (goodIn_app (goodIn_r _ [79, 80, 81, 10] rfl (by decide +kernel)) (goodIn_ca (goodIn_r _ [78, 2, 3, 4, 5, 6, 7, 8, 9, 10, 11, 12, 13, 14] rfl (by decide +kernel)) (bs_in _ _))) rfl rfl rfl (by decide +kernel) ⟨(Nat.le_of_ble_eq_true rfl), (Nat.le_of_ble_eq_true rfl)⟩) ⟨fun a U g mk q => by obtain ⟨q0, q1, qK, qE⟩ := q; exact ⟨q0, q1, va_K.moved (u := U) (U := U.calling g mk a) (Vm.Alike.refl U.vm) qK, EVS.blind g mk a qE⟩, gH_rc hK hT hr_o0 shm_0 rfl, fun U hU hW => ⟨rfl, hU, va_K.moved hW.alike hK, hE.call hS hFc hU hW⟩⟩ rfl rfl hl.1 rfl (lv_room (Nat.le_of_ble_eq_true rfl)) dX12_readLine_144 ⟨(Nat.le_of_ble_eq_true rfl), (Nat.le_of_ble_eq_true rfl)⟩) hS (fun q _ h => hFc q h) hFc (fun r658 u t H locs ht hvm hw659 hB _ _ hS => ?_)
              obtain ⟨u660, u661⟩ := u
              obtain ⟨hT, hF1, m662, m663⟩ := hB
              rw [ht] at hT hF1 m662 m663
              have m665 := (hF1.fld hr_o0 skm_0 (k := 28) (by decide) (by decide)).trans m95
              have m667 := m97.kept (hF1.arr hg2 skm_20 (by decide))
              have m668 := m98.kept (hF1.arr hg3 skm_25 (by decide))
              have m669 := m99.kept (hF1.arr hg4 skm_26 (by decide))
              have m670 := m100.kept (hF1.arr hg5 skm_27 (by decide))
              have m671 := m101.kept (hF1.arr hg6 skm_28 (by decide))
              have m674 := (el_kept (hF1.arr hg2 skm_20 (by decide))).trans m104
              have hF := hF.more hF1 (by decide)
              try dsimp only at hw659
              obtain ⟨h678, h679, h680, hf681, hf682, hf683⟩ := hw659
              refine tw_iast (i := x29) (x := r658) hx hb hK hT hG hS hg92 shm_21 rfl (vin_t (a := x29.toInt) rfl (by omega) (by omega)) (gi_all _) dX12_readLine_147 (fun H locs hT oq m684 oi hS => ?_)
              have hF := hF.ast hg92 skm_21 oq (by decide)
              have m686 := (el_kept (oq _ (gne hr_o0 hg92 (by decide)))).trans m665
              have m688 := m667.kept (oq _ (gne hg2 hg92 (by decide)))
              have m689 := m668.kept (oq _ (gne hg3 hg92 (by decide)))
              have m690 := m669.kept (oq _ (gne hg4 hg92 (by decide)))
              have m691 := m670.kept (oq _ (gne hg5 hg92 (by decide)))
              have m692 := m671.kept (oq _ (gne hg6 hg92 (by decide)))
              have m693 := (el_kept (oq _ (gne hg2 hg92 (by decide)))).trans m674
              have m696 := (el_kept (oq _ (gne hr_o0 hg92 (by decide)))).trans m662
              have m697 := (el_kept (oq _ (gne hr_o0 hg92 (by decide)))).trans m663
              refine lv_aload_n hx hb dX12_readLine_148 rfl (lv_at hl 1 rfl) ?_
              refine tw_get hx hb hts bF_X12 hown hK hT hr_o0 shm_0 rfl 20 (by decide) (ht_at hts 61 rfl) (fun _ h9 => h9) dX12_readLine_149 (fun v9 m698 h9 => ?_)
              obtain ⟨rfl, hg699⟩ := h9 _ rfl
              refine lv_iload_n hx hb dX12_readLine_152 rfl (lv_at hl 0 rfl) ?_
              refine tw_iald (i := x29) hx hb hK hT hg92 shm_21 rfl (vin_t (a := x29.toInt) rfl (by omega) (by omega)) dX12_readLine_153 (fun v9 m700 h9 => ?_)
              obtain ⟨x701, rfl, gx701, kx701⟩ := h9
              obtain rfl : r658 = x701 := (el_same m700 m684 rfl).symm
              refine lv_if_ge (tgt := 159) hx hb dX12_readLine_154 (by decide) (fun c702 => ?_) (fun c702 => ?_)
              · have t703 : 0 ≤ r658.toInt := ti_le c702 (by decide) rfl
                refine lv_aload_n hx hb dX12_readLine_159 rfl (lv_at hl 1 rfl) ?_
                refine tw_get hx hb hts bF_X12 hown hK hT hr_o0 shm_0 rfl 19 (by decide) (ht_at hts 17 rfl) (fun _ h9 => h9) dX12_readLine_160 (fun v9 m704 h9 => ?_)
                obtain ⟨rfl, hg705⟩ := h9 _ rfl
                refine lv_iload_n hx hb dX12_readLine_163 rfl (lv_at hl 0 rfl) ?_
                refine tw_iald (i := x29) hx hb hK hT hg2 shm_20 rfl (vin_t (a := x29.toInt) rfl (by omega) (by omega)) dX12_readLine_164 (fun v9 m706 h9 => ?_)
                obtain ⟨x707, rfl, gx707, kx707⟩ := h9
                have cx707 := m688.at m706 (by have q9 := tn_of (show x29.toInt = x29.toInt from rfl) (by omega); omega)
                obtain rfl : r33 = x707 := (el_same m706 m693 rfl).symm
                refine lv_bipush (v := 6) hx hb dX12_readLine_165 (by decide) ?_
                refine lv_icmp_le (tgt := 172) hx hb dX12_readLine_167 (by decide) (fun c708 => (by exfalso; have q9 : r33.toInt ≤ 6 := ti_le c708 rfl (by decide); omega)) (fun c708 => ?_)
                have t709 : 6 < r33.toInt := ti_nle c708 rfl (by decide)
                refine lv_iconst (v := 1) hx hb dX12_readLine_170 (by decide) ?_
                exact W.zret (v := 1) hx hb hr (by decide) (fun t ht hW => ⟨⟨1, (u660, u661, sv, S0, (pset dB nl.toNatClampNeg (fun y => y = sv.toInt)), (pset dE nl.toNatClampNeg (fun y => y ≤ sv.toInt)), (cu vO x29.toNatClampNeg r33), (cu vB x29.toNatClampNeg sv), (cu vX x29.toNatClampNeg sv), vS, vN), rfl, (by exact ⟨(by have q8 := ti_all u660; omega), (by have q8 := ti_all u661; omega), (by have q8 := ti_all sv; omega), (rg_t (a := 1) (by decide) (by first | decide | omega) (by first | decide | omega)), (fun _ => ⟨lw_next0 hlw, by omega⟩), (by omega), (by have := tn_of (show u10.toInt = u10.toInt from rfl) (by omega); have := tn_of (show u9.toInt = u9.toInt from rfl) (by omega); have := tn_of (show en.toInt = en.toInt from rfl) (by omega); have s9 := hf46; rw [← hf26] at s9; have l9 := so_k (t := (tx vt)) (n := N) (by omega) s9; rw [← hf25] at l9; have x9 : skp (tx vt) N u9.toNatClampNeg = xn (tx vt) N (skp (tx vt) N pt.toNatClampNeg) := (by have z9 := lk_x (t := (tx vt)) (n := N) (b := (skp (tx vt) N pt.toNatClampNeg)) (by omega); unfold xn; rw [z9, hf25, hf26]; rfl); exact Or.inr ⟨by omega, Or.inl ⟨by decide, Or.inr (Or.inr (Or.inl ⟨by omega, (by have n9 := (nR_1 (h := 100) (by decide) hf683 (by omega)); rw [x9] at n9; exact n9)⟩))⟩⟩), (zKp.rf.st (by have := tn_of (show x29.toInt = x29.toInt from rfl) (by omega); have := tn_of (show nl.toInt = nl.toInt from rfl) (by omega); omega)), (zKp.rf.st (by have := tn_of (show x29.toInt = x29.toInt from rfl) (by omega); have := tn_of (show nl.toInt = nl.toInt from rfl) (by omega); omega)), (zKp.rf.st (by have := tn_of (show x29.toInt = x29.toInt from rfl) (by omega); have := tn_of (show nl.toInt = nl.toInt from rfl) (by omega); omega)), zKp.rf, zKp.rf, (fun _ => by have := tn_of (show u10.toInt = u10.toInt from rfl) (by omega); have := tn_of (show u9.toInt = u9.toInt from rfl) (by omega); have := tn_of (show en.toInt = en.toInt from rfl) (by omega); have s9 := hf46; rw [← hf26] at s9; have l9 := so_k (t := (tx vt)) (n := N) (by omega) s9; rw [← hf25] at l9; have x9 : skp (tx vt) N u9.toNatClampNeg = xn (tx vt) N (skp (tx vt) N pt.toNatClampNeg) := (by have z9 := lk_x (t := (tx vt)) (n := N) (b := (skp (tx vt) N pt.toNatClampNeg)) (by omega); unfold xn; rw [z9, hf25, hf26]; rfl); exact ⟨((lkT (kd (tx vt) N (skp (tx vt) N pt.toNatClampNeg))), []), ⟨rfl, Or.inr (Or.inl ⟨by omega, (by have n9 := (nR_1 (h := 100) (by decide) hf683 (by omega)); rw [x9] at n9; exact n9), rfl⟩)⟩, (congrArg Int32.toInt (cu_s (show 40 + nl.toNatClampNeg = x29.toNatClampNeg from by have := tn_of (show x29.toInt = x29.toInt from rfl) (by omega); have := tn_of (show nl.toInt = nl.toInt from rfl) (by omega); omega))).trans (by have := (show r33.toInt = r33.toInt from rfl); omega), fun h7 => by exfalso; have h6 : (lkT (kd (tx vt) N (skp (tx vt) N pt.toNatClampNeg))) ≤ 6 := h7; omega⟩)⟩), by (try dsimp only); rw [ht]; exact ⟨hT, hF, m696, m697, m686, m688, m689, m690, m691, m692⟩⟩, hS.F ht⟩) hS.2.2 dX12_readLine_171
              · have t710 : r658.toInt < 0 := ti_nle c702 (by decide) rfl
                refine lv_iconst (v := 0) hx hb dX12_readLine_157 (by decide) ?_
                exact W.zret (v := 0) hx hb hr (by decide) (fun t ht hW => ⟨⟨0, (u660, u661, sv, S0, (pset dB nl.toNatClampNeg (fun y => y = sv.toInt)), (pset dE nl.toNatClampNeg (fun y => y ≤ sv.toInt)), (cu vO x29.toNatClampNeg r33), (cu vB x29.toNatClampNeg sv), (cu vX x29.toNatClampNeg sv), vS, vN), rfl, (by exact ⟨(by have q8 := ti_all u660; omega), (by have q8 := ti_all u661; omega), (by have q8 := ti_all sv; omega), (rg_t (a := 0) (by decide) (by first | decide | omega) (by first | decide | omega)), (fun h => absurd h (by decide)), (by omega), (by have := tn_of (show u10.toInt = u10.toInt from rfl) (by omega); have := tn_of (show u9.toInt = u9.toInt from rfl) (by omega); have := tn_of (show en.toInt = en.toInt from rfl) (by omega); have s9 := hf46; rw [← hf26] at s9; have l9 := so_k (t := (tx vt)) (n := N) (by omega) s9; rw [← hf25] at l9; have x9 : skp (tx vt) N u9.toNatClampNeg = xn (tx vt) N (skp (tx vt) N pt.toNatClampNeg) := (by have z9 := lk_x (t := (tx vt)) (n := N) (b := (skp (tx vt) N pt.toNatClampNeg)) (by omega); unfold xn; rw [z9, hf25, hf26]; rfl); exact Or.inr ⟨by omega, Or.inr ⟨by decide, Or.inr (Or.inr (Or.inl ⟨by omega, (by have n9 := (nR_0 (h := 100) (by decide) hf683 (by omega) hf682); rw [x9] at n9; exact n9)⟩))⟩⟩), (zKp.rf.st (by have := tn_of (show x29.toInt = x29.toInt from rfl) (by omega); have := tn_of (show nl.toInt = nl.toInt from rfl) (by omega); omega)), (zKp.rf.st (by have := tn_of (show x29.toInt = x29.toInt from rfl) (by omega); have := tn_of (show nl.toInt = nl.toInt from rfl) (by omega); omega)), (zKp.rf.st (by have := tn_of (show x29.toInt = x29.toInt from rfl) (by omega); have := tn_of (show nl.toInt = nl.toInt from rfl) (by omega); omega)), zKp.rf, zKp.rf, (fun h8 => absurd h8 (by decide))⟩), by (try dsimp only); rw [ht]; exact ⟨hT, hF, m696, m697, m686, m688, m689, m690, m691, m692⟩⟩, hS.F ht⟩) hS.2.2 dX12_readLine_158
      · have t711 : r33.toInt = 7 := ti_eq c117 rfl (by decide)
        refine lv_aload_n hx hb dX12_readLine_76 rfl (lv_at hl 1 rfl) ?_
        refine lv_iload_n hx hb dX12_readLine_77 rfl (lv_at hl 0 rfl) ?_
        have hFc := gA_free hG hA hS
        refine va_calli (va_runV (As := [.int x29]) (rest := []) ⟨hx, hb, hml, hown, hts⟩ (s_readLevel l dC dI kA adK adV G H q wZ wN wH wB wC wL wK wU wV PI im PM PT (lD S0 lS) (lD (pset dB nl.toNatClampNeg (fun y => y = sv.toInt)) lB) (lD (pset dE nl.toNatClampNeg (fun y => y ≤ sv.toInt)) lE) lN o0 x29 u9 en vt N hT hr_o0 m102 m94 (by have q8 := ti_all u9; omega) (by have q8 := ti_all en; omega) (by have := (show u9.toInt = u9.toInt from rfl); have := (show en.toInt = en.toInt from rfl); omega) hN (by have q8 := ti_all x29; omega) m96 hgz hgn hgh hgb hgc hgi hgu) (cwV 1 hts (goodIn_app (goodIn_r _ [110, 111, 112, 10] rfl (by decide +kernel)) (goodIn_ca (goodIn_r _ [106, 62, 78, 2, 3, 4, 5, 6, 7, 8, 9, 10, 11, 12, 13, 14, 79, 80, 81, 107, 1, 15, 16, 17, 20, 21, 22, 23, 24, 25, 26, 27, 28, 29, 30, 31, 32, 33, 34, 35, 36, 37, 38, 39, 40, 41, 42, 43, 44, 45, 46, 47, 48, 49, 50, 51, 52, 53, 54, 55, 108, 109] rfl (by decide +kernel)) (bs_in _ _))) rfl rfl rfl (by decide +kernel) ⟨(Nat.le_of_ble_eq_true rfl), (Nat.le_of_ble_eq_true rfl)⟩) ⟨fun a U g mk q => by obtain ⟨q0, q1, qK, qE⟩ := q; exact ⟨q0, q1, va_K.moved (u := U) (U := U.calling g mk a) (Vm.Alike.refl U.vm) qK, EVS.blind g mk a qE⟩, gH_rc hK hT hr_o0 shm_0 rfl, fun U hU hW => ⟨rfl, hU, va_K.moved hW.alike hK, hE.call hS hFc hU hW⟩⟩ rfl rfl hl.1 rfl (lv_room (Nat.le_of_ble_eq_true rfl)) dX12_readLine_78 ⟨(Nat.le_of_ble_eq_true rfl), (Nat.le_of_ble_eq_true rfl)⟩) hS (fun q _ h => hFc q h) hFc (fun r712 u t H locs ht hvm hw713 hB _ _ hS => ?_)
        obtain ⟨u714, u715⟩ := u
        obtain ⟨hT, hF1, m716, m717⟩ := hB
        rw [ht] at hT hF1 m716 m717
        have m719 := (hF1.fld hr_o0 skm_0 (k := 28) (by decide) (by decide)).trans m95
        have m721 := m97.kept (hF1.arr hg2 skm_20 (by decide))
        have m722 := m98.kept (hF1.arr hg3 skm_25 (by decide))
        have m723 := m99.kept (hF1.arr hg4 skm_26 (by decide))
        have m724 := m100.kept (hF1.arr hg5 skm_27 (by decide))
        have m725 := m101.kept (hF1.arr hg6 skm_28 (by decide))
        have hF := hF.more hF1 (by decide)
        try dsimp only at hw713
        obtain ⟨h732, h733, h734, hf735, hf736⟩ := hw713
        exact W.zret (v := r712) hx hb hr (nar_b (by have q8 := ti_all r712; omega)) (fun t ht hW => ⟨⟨r712, (u714, u715, sv, S0, (pset dB nl.toNatClampNeg (fun y => y = sv.toInt)), (pset dE nl.toNatClampNeg (fun y => y ≤ sv.toInt)), (cu vO x29.toNatClampNeg r33), (cu vB x29.toNatClampNeg sv), (cu vX x29.toNatClampNeg sv), vS, vN), rfl, (by exact ⟨(by have q8 := ti_all u714; omega), (by have q8 := ti_all u715; omega), (by have q8 := ti_all sv; omega), (by have q8 := ti_all r712; omega), (fun _ => ⟨lw_next0 hlw, by omega⟩), (by omega), (by have := tn_of (show u10.toInt = u10.toInt from rfl) (by omega); have := tn_of (show u9.toInt = u9.toInt from rfl) (by omega); have := tn_of (show en.toInt = en.toInt from rfl) (by omega); have s9 := hf46; rw [← hf26] at s9; have l9 := so_k (t := (tx vt)) (n := N) (by omega) s9; rw [← hf25] at l9; have x9 : skp (tx vt) N u9.toNatClampNeg = xn (tx vt) N (skp (tx vt) N pt.toNatClampNeg) := (by have z9 := lk_x (t := (tx vt)) (n := N) (b := (skp (tx vt) N pt.toNatClampNeg)) (by omega); unfold xn; rw [z9, hf25, hf26]; rfl); rcases hf736 with ⟨y1, y2⟩ | ⟨y1, y2⟩ <;> rw [x9] at y2; (exact Or.inr ⟨by omega, Or.inl ⟨y1, Or.inr (Or.inl ⟨by omega, y2⟩)⟩⟩); exact Or.inr ⟨by omega, Or.inr ⟨y1, Or.inr (Or.inl ⟨by omega, y2⟩)⟩⟩), (zKp.rf.st (by have := tn_of (show x29.toInt = x29.toInt from rfl) (by omega); have := tn_of (show nl.toInt = nl.toInt from rfl) (by omega); omega)), (zKp.rf.st (by have := tn_of (show x29.toInt = x29.toInt from rfl) (by omega); have := tn_of (show nl.toInt = nl.toInt from rfl) (by omega); omega)), (zKp.rf.st (by have := tn_of (show x29.toInt = x29.toInt from rfl) (by omega); have := tn_of (show nl.toInt = nl.toInt from rfl) (by omega); omega)), zKp.rf, zKp.rf, (fun h8 => by have := tn_of (show u10.toInt = u10.toInt from rfl) (by omega); have := tn_of (show u9.toInt = u9.toInt from rfl) (by omega); have := tn_of (show en.toInt = en.toInt from rfl) (by omega); have s9 := hf46; rw [← hf26] at s9; have l9 := so_k (t := (tx vt)) (n := N) (by omega) s9; rw [← hf25] at l9; have x9 : skp (tx vt) N u9.toNatClampNeg = xn (tx vt) N (skp (tx vt) N pt.toNatClampNeg) := (by have z9 := lk_x (t := (tx vt)) (n := N) (b := (skp (tx vt) N pt.toNatClampNeg)) (by omega); unfold xn; rw [z9, hf25, hf26]; rfl); have y2 := (hf736.resolve_right (fun h8 => by have := h8.1; omega)).2; rw [x9] at y2; exact ⟨((lkT (kd (tx vt) N (skp (tx vt) N pt.toNatClampNeg))), []), ⟨rfl, Or.inl ⟨by omega, y2, rfl⟩⟩, (congrArg Int32.toInt (cu_s (show 40 + nl.toNatClampNeg = x29.toNatClampNeg from by have := tn_of (show x29.toInt = x29.toInt from rfl) (by omega); have := tn_of (show nl.toInt = nl.toInt from rfl) (by omega); omega))).trans (by have := (show r33.toInt = r33.toInt from rfl); omega), fun h7 => by exfalso; have h6 : (lkT (kd (tx vt) N (skp (tx vt) N pt.toNatClampNeg))) ≤ 6 := h7; omega⟩)⟩), by (try dsimp only); rw [ht]; exact ⟨hT, hF, m716, m717, m719, m721, m722, m723, m724, m725⟩⟩, hS.F ht⟩) hS.2.2 dX12_readLine_81
    · have t737 : r33.toInt < 0 := ti_nle c111 (by decide) rfl
      refine lv_iconst (v := 0) hx hb dX12_readLine_63 (by decide) ?_
      exact W.zret (v := 0) hx hb hr (by decide) (fun t ht hW => ⟨⟨0, (u9, u10, sv, S0, (pset dB nl.toNatClampNeg (fun y => y = sv.toInt)), (pset dE nl.toNatClampNeg (fun y => y ≤ sv.toInt)), (cu vO x29.toNatClampNeg r33), (cu vB x29.toNatClampNeg sv), (cu vX x29.toNatClampNeg sv), vS, vN), rfl, (by exact ⟨(by have q8 := ti_all u9; omega), (by have q8 := ti_all u10; omega), (by have q8 := ti_all sv; omega), (rg_t (a := 0) (by decide) (by first | decide | omega) (by first | decide | omega)), (fun h => absurd h (by decide)), (by omega), (by have := tn_of (show u10.toInt = u10.toInt from rfl) (by omega); have := tn_of (show u9.toInt = u9.toInt from rfl) (by omega); have := tn_of (show en.toInt = en.toInt from rfl) (by omega); have s9 := hf46; rw [← hf26] at s9; have l9 := so_k (t := (tx vt)) (n := N) (by omega) s9; rw [← hf25] at l9; exact Or.inr ⟨by omega, Or.inr ⟨by decide, Or.inl ⟨by omega, rfl, hf25.symm⟩⟩⟩), (zKp.rf.st (by have := tn_of (show x29.toInt = x29.toInt from rfl) (by omega); have := tn_of (show nl.toInt = nl.toInt from rfl) (by omega); omega)), (zKp.rf.st (by have := tn_of (show x29.toInt = x29.toInt from rfl) (by omega); have := tn_of (show nl.toInt = nl.toInt from rfl) (by omega); omega)), (zKp.rf.st (by have := tn_of (show x29.toInt = x29.toInt from rfl) (by omega); have := tn_of (show nl.toInt = nl.toInt from rfl) (by omega); omega)), zKp.rf, zKp.rf, (fun h8 => absurd h8 (by decide))⟩), by (try dsimp only); rw [ht]; exact ⟨hT, hF, m102, m103, m95, m97, m98, m99, m100, m101⟩⟩, hS.F ht⟩) hS.2.2 dX12_readLine_64
  · have t738 : nl.toInt = 20 := ti_eq c27 rfl (by decide)
    refine lv_iconst (v := 0) hx hb dX12_readLine_10 (by decide) ?_
    exact W.zret (v := 0) hx hb hr (by decide) (fun t ht hW => ⟨⟨0, (u9, u10, sv, S0, dB, dE, vO, vB, vX, vS, vN), rfl, (by exact ⟨(by have q8 := ti_all u9; omega), (by have q8 := ti_all u10; omega), (by have q8 := ti_all sv; omega), (rg_t (a := 0) (by decide) (by first | decide | omega) (by first | decide | omega)), (fun h => absurd h (by decide)), (by omega), (Or.inl ⟨by omega, by decide, hf25⟩), zKp.rf, zKp.rf, zKp.rf, zKp.rf, zKp.rf, (fun h8 => absurd h8 (by decide))⟩), by (try dsimp only); rw [ht]; exact ⟨hT, hF, m11, m12, m15, m17, m18, m19, m20, m21⟩⟩, hS.F ht⟩) hS.2.2 dX12_readLine_11
