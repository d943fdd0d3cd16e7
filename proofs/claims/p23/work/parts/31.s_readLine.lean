def w_s_readLine : List Cond := .code yX12_readLine cX12_readLine 3 (some .boolean) :: (HAppend.hAppend (α := List Cond) (β := List Cond) (γ := List Cond) [.code yX12_word cX12_word 1 none, .code yX12_blanks cX12_blanks 1 none, .code yX12_isAt cX12_isAt 3 (some .boolean), .fieldLink RX12 335 "SeaLandModel" "point" "I", .fieldLink RX12 338 "SeaLandModel" "end" "I", .fieldLink RX12 31 "SeaLandModel" "tape" "[B", .methodLink RX12 341 yX12_isAt, .instanceMethod yX12_isAt, .selects RX12 yX12_isAt yX12_isAt, .initialized RX12, .fieldLink RX12 345 "SeaLandModel" "begin" "I", .methodLink RX12 348 yX12_blanks, .instanceMethod yX12_blanks, .selects RX12 yX12_blanks yX12_blanks, .methodLink RX12 360 yX12_word, .instanceMethod yX12_word, .selects RX12 yX12_word yX12_word, .fieldLink RX12 45 "SeaLandModel" "sort" "[I", .code yX12_sortOf cX12_sortOf 1 (some .int), .code yX12_isWord cX12_isWord 4 (some .boolean), .code yJ0_length_8abf5 cJ0_length_8abf5 1 (some .int), .fieldLink RJ0 9 "java/lang/String" "value" "[B", .code yJ0_coder_7d493 cJ0_coder_7d493 1 (some .byte), .fieldLink RJ0 38 "java/lang/String" "COMPACT_STRINGS" "Z", .fieldLink RJ0 15 "java/lang/String" "coder" "B", .methodLink RJ0 335 yJ0_coder_7d493, .instanceMethod yJ0_coder_7d493, .selects RJ0 yJ0_coder_7d493 yJ0_coder_7d493, .initialized RJ0, .methodLink RX12 351 yJ0_length_8abf5, .instanceMethod yJ0_length_8abf5, .selects RJ0 yJ0_length_8abf5 yJ0_length_8abf5, .code yJ0_charAt_5068e cJ0_charAt_5068e 2 (some .char), .code yJ0_isLatin1_aae02 cJ0_isLatin1_aae02 1 (some .boolean), .methodLink RJ0 492 yJ0_isLatin1_aae02, .instanceMethod yJ0_isLatin1_aae02, .selects RJ0 yJ0_isLatin1_aae02 yJ0_isLatin1_aae02, .code yJ1_charAt_3b067 cJ1_charAt_3b067 2 (some .char), .code yJ0_checkIndex_df160 cJ0_checkIndex_df160 2 none, .fieldLink RJ0 1053 "jdk/internal/util/Preconditions" "SIOOBE_FORMATTER" "Ljava/util/function/BiFunction;", .code yJ3_checkIndex_8e157 cJ3_checkIndex_8e157 3 (some .int), .methodLink RJ0 1059 yJ3_checkIndex_8e157, .static yJ3_checkIndex_8e157, .initialized RJ3, .methodLink RJ1 9 yJ0_checkIndex_df160, .static yJ0_checkIndex_df160, .methodLink RJ0 495 yJ1_charAt_3b067, .static yJ1_charAt_3b067, .initialized RJ1, .methodLink RX12 356 yJ0_charAt_5068e, .instanceMethod yJ0_charAt_5068e, .selects RJ0 yJ0_charAt_5068e yJ0_charAt_5068e, .methodLink RX12 363 yX12_isWord, .instanceMethod yX12_isWord, .selects RX12 yX12_isWord yX12_isWord, .methodLink RX12 443 yX12_sortOf, .instanceMethod yX12_sortOf, .selects RX12 yX12_sortOf yX12_sortOf, .fieldLink RX12 60 "SeaLandModel" "begins" "[I", .fieldLink RX12 367 "SeaLandModel" "steps" "I", .fieldLink RX12 63 "SeaLandModel" "ends" "[I", .fieldLink RX12 48 "SeaLandModel" "told" "[I", .code yX12_passes cX12_passes 2 (some .boolean), .methodLink RX12 409 yX12_passes, .instanceMethod yX12_passes, .selects RX12 yX12_passes yX12_passes, .fieldLink RX12 401 "SeaLandModel" "deep" "I", .code yX12_readCond cX12_readCond 1 (some .boolean), .code yX12_readAllOf cX12_readAllOf 1 (some .boolean), .code yX12_readAtom cX12_readAtom 2 (some .boolean), .code yX12_sign cX12_sign 2 (some .boolean), .methodLink RX12 398 yX12_sign, .instanceMethod yX12_sign, .selects RX12 yX12_sign yX12_sign, .code yX12_readSum cX12_readSum 1 (some .boolean), .code yX12_readPart cX12_readPart 2 (some .boolean), .constant RX12 390 99999, .code yX12_number cX12_number 3 (some .int), .methodLink RX12 391 yX12_number, .instanceMethod yX12_number, .selects RX12 yX12_number yX12_number, .code yX12_adds cX12_adds 3 none, .fieldLink RX12 66 "SeaLandModel" "step" "[I", .fieldLink RX12 69 "SeaLandModel" "than" "[I", .methodLink RX12 387 yX12_adds, .instanceMethod yX12_adds, .selects RX12 yX12_adds yX12_adds, .code yX12_fact cX12_fact 1 (some (.object "java/lang/String")), .methodLink RX12 383 yX12_fact, .static yX12_fact, .methodLink RX12 394 yX12_readPart, .instanceMethod yX12_readPart, .selects RX12 yX12_readPart yX12_readPart, .methodLink RX12 415 yX12_readSum, .instanceMethod yX12_readSum, .selects RX12 yX12_readSum yX12_readSum, .methodLink RX12 412 yX12_readAtom, .instanceMethod yX12_readAtom, .selects RX12 yX12_readAtom yX12_readAtom, .methodLink RX12 420 yX12_readAllOf, .instanceMethod yX12_readAllOf, .selects RX12 yX12_readAllOf yX12_readAllOf, .methodLink RX12 404 yX12_readCond, .instanceMethod yX12_readCond, .selects RX12 yX12_readCond yX12_readCond, .code yX12_readLevel cX12_readLevel 2 (some .boolean), .fieldLink RX12 51 "SeaLandModel" "winter" "[I", .fieldLink RX12 54 "SeaLandModel" "from" "[I", .fieldLink RX12 57 "SeaLandModel" "to" "[I", .methodLink RX12 446 yX12_readLevel, .instanceMethod yX12_readLevel, .selects RX12 yX12_readLevel yX12_readLevel] bs)
set_option maxHeartbeats 4000000 in
set_option maxRecDepth 100000 in
theorem s_readLine (l : Launch) (dC : Nat → ClassId) (dI : Nat → Nat → Nat) (kA : Nat → ClassId) (adK adV : Nat → Nat) (G : gT) (H0 : Heap) (q : Nat → Nat) (wZ wN : Nat → Int) (wH wB wC : Int) (wL wK : Nat → Prop) (wU wV : Nat → Nat) (PI : Nat → Int → Prop) (im : Int) (PM PT : Nat → Int → Prop) (lS lB lE : Nat → Nat → Int → Prop) (lN : Nat → Int) (o0 : Nat) (nl : Int32) (pt : Int32) (en : Int32) (sv : Int32) (vt : Nat → Int32) (S0 dB dE : Nat → Int → Prop) (N : Nat) (hT : gH (dC, dI) kA (SHm q (wP wZ wN wH wB wC wL wK wU wV) PI im PM PT (lD S0 lS) (lD dB lB) (lD dE lE) lN) G H0) (hr_o0 : G o0 = some 0) (hm_pt : el H0 o0 (dI 15 12) = some (.int pt)) (hm_en : el H0 o0 (dI 15 13) = some (.int en)) (hm_sv : el H0 o0 (dI 15 28) = some (.int sv)) (hq0 : 0 ≤ pt.toInt ∧ pt.toInt ≤ 400) (hq1 : 0 ≤ en.toInt ∧ en.toInt ≤ 400) (hq2 : 0 ≤ sv.toInt ∧ sv.toInt ≤ 400) (hN : en.toInt = ((N : Nat) : Int)) (hq4 : 0 ≤ nl.toInt ∧ nl.toInt ≤ 20) (hpe : pt.toInt ≤ en.toInt) (hsp : sv.toInt ≤ pt.toInt) (hlw : lwOK S0 dB dE nl.toNatClampNeg sv.toInt) (hc_vt : ct H0 (q 10) 400 vt) (hgz : ∀ i, 0 ≤ wZ i) (hgn : ∀ i, 6500000 ≤ wN i ∧ wN i ≤ 20200000) (hgh : 0 ≤ wH ∧ wH ≤ 40000) (hgb : 0 ≤ wB ∧ wB ≤ 3850000) (hgc : 0 ≤ wC ∧ wC ≤ 30) (hgi : 0 ≤ im ∧ im ≤ 1) (hgu : ∀ a t, G a = some (t + 1) → a = q t) : Met l yX12_readLine w_s_readLine ({ frames := 28, cells := 0, slots := 0, locals := 576 }) (va_Pc [.ref o0, .int nl] (fun U => U.heap = H0 ∧ va_K (dC, dI) vwCl (tyl kA) U ∧ EVS adK adV (gA G H0.size) U U.heap)) (va_Qi (fun (r : Int32) (u : Int32 × Int32 × Int32 × (Nat → Int → Prop) × (Nat → Int → Prop) × (Nat → Int → Prop)) => match u with | (p1, b1, s1, S1, dB1, dE1) => (0 ≤ p1.toInt ∧ p1.toInt ≤ 400) ∧ (0 ≤ b1.toInt ∧ b1.toInt ≤ 400) ∧ (0 ≤ s1.toInt ∧ s1.toInt ≤ 400) ∧ (0 ≤ r.toInt ∧ r.toInt ≤ 1) ∧ (r = 1 → lwOK S1 dB1 dE1 (nl.toNatClampNeg + 1) s1.toInt ∧ nl.toInt < 20) ∧ (pt.toInt ≤ p1.toInt ∧ p1.toInt ≤ en.toInt ∧ sv.toInt ≤ s1.toInt ∧ s1.toInt - sv.toInt ≤ p1.toInt - pt.toInt) ∧ ((nl.toInt = 20 ∧ r.toInt = 0 ∧ skp (tx vt) N pt.toNatClampNeg = b1.toNatClampNeg) ∨ (nl.toInt < 20 ∧ ((r.toInt = 1 ∧ lnR (kd (tx vt) N) (xn (tx vt) N) (skp (tx vt) N pt.toNatClampNeg) 1 (skp (tx vt) N p1.toNatClampNeg)) ∨ (r.toInt = 0 ∧ lnR (kd (tx vt) N) (xn (tx vt) N) (skp (tx vt) N pt.toNatClampNeg) 0 b1.toNatClampNeg))))) (fun (u : Int32 × Int32 × Int32 × (Nat → Int → Prop) × (Nat → Int → Prop) × (Nat → Int → Prop)) (t : State) => match u with | (p1, b1, s1, S1, dB1, dE1) => gH (dC, dI) kA (SHm q (wP wZ wN wH wB wC wL wK wU wV) PI im PM PT (lD S1 lS) (lD dB1 lB) (lD dE1 lE) lN) G t.heap ∧ gF (dC, dI) SKm G ([(0, 12), (0, 14), (0, 15), (0, 28), (20, 0), (21, 0), (22, 0), (23, 0), (24, 0), (25, 0), (26, 0), (27, 0), (28, 0)] : List (Nat × Nat)) H0 t.heap ∧ el t.heap o0 (dI 15 12) = some (.int p1) ∧ el t.heap o0 (dI 15 14) = some (.int b1) ∧ el t.heap o0 (dI 15 28) = some (.int s1)) (gA G H0.size)) 0 0 (gA G H0.size) := by
  refine Met.ofW (cc := cX12_readLine) (maxL := 3) (ret := (some .boolean)) (by decide) rfl ?_
  intro p e s m args below meth c s₁ B hml hv
  obtain ⟨rfl, hH0, hK, hE⟩ := hv
  have hx := B.exec
  have hb := B.bytes
  have hr := B.returns
  have hts := atoms_spec (ws := w_s_readLine) B.pre
  have hown : s.vm.findClass RX12 = some m.cls := findClass_of_methodNamed B.named
  have hlocks := B.notSynchronized
  subst hH0
  generalize hAe : gA G s.heap.size = A at hE ⊢
  have hA : ∀ q : Nat, s.heap.size ≤ q → A q := fun q h => by rw [← hAe]; exact Or.inr h
  have hG := gA_of hAe
  have hS : va_S A s.heap s.heap [] := va_S.rf
  have hF : gF (dC, dI) SKm G ([(0, 12), (0, 14), (0, 15), (0, 28), (20, 0), (21, 0), (22, 0), (23, 0), (24, 0), (25, 0), (26, 0), (27, 0), (28, 0)] : List (Nat × Nat)) s.heap s.heap := gF.rf
  have hl := lv_entry ([.ref o0, .int nl]) (n := 3) (Nat.le_of_ble_eq_true rfl)
  rw [lg_entry_eq]
  generalize (lg_sl ([.ref o0, .int nl]) ++ List.replicate (3 - (lg_sl ([.ref o0, .int nl])).length) Slot.unset).toArray = ls at hl ⊢
  have hl : lv_has ls 3 [(0, .ref o0), (1, .int nl)] := hl
  have hg1 : G (q 10) = some 11 := gx_of hT hr_o0 shm_0 (k := 10) (by decide) rfl
  refine lv_aload_n hx hb dX12_readLine_0 rfl (lv_at hl 0 rfl) ?_
  have hFc := gA_free hG hA hS
  refine va_callv (va_runV (As := []) (rest := []) ⟨hx, hb, hml, hown, hts⟩ (s_word l dC dI kA adK adV G s.heap q wZ wN wH wB wC wL wK wU wV PI im PM PT (lD S0 lS) (lD dB lB) (lD dE lE) lN o0 pt en vt N hT hr_o0 hm_pt hm_en (by have q8 := ti_all pt; omega) (by have q8 := ti_all en; omega) (by have := (show pt.toInt = pt.toInt from rfl); have := (show en.toInt = en.toInt from rfl); omega) hN hc_vt hgz hgn hgh hgb hgc hgi hgu) (cwV 0 hts (goodIn_app (goodIn_r _ [15, 16, 17, 10] rfl (by decide +kernel)) (goodIn_ca (goodIn_r _ [1, 2, 3, 4, 5, 6, 7, 8, 9, 10, 11, 12, 13, 14] rfl (by decide +kernel)) (bs_in _ _))) rfl rfl rfl (by decide +kernel) ⟨(Nat.le_of_ble_eq_true rfl), (Nat.le_of_ble_eq_true rfl)⟩) ⟨fun a U g mk q => by obtain ⟨q0, q1, qK, qE⟩ := q; exact ⟨q0, q1, va_K.moved (u := U) (U := U.calling g mk a) (Vm.Alike.refl U.vm) qK, EVS.blind g mk a qE⟩, gH_recv hK hT hr_o0 shm_0 rfl, fun U hU hW => ⟨rfl, hU, va_K.moved hW.alike hK, hE.call hS hFc hU hW⟩⟩ rfl rfl hl.1 rfl (lv_room (Nat.le_of_ble_eq_true rfl)) dX12_readLine_1 ⟨(Nat.le_of_ble_eq_true rfl), (Nat.le_of_ble_eq_true rfl)⟩) hS (fun q _ h => hFc q h) hFc (fun u t H locs ht hvm hw3 hB _ _ hS => ?_)
  obtain ⟨u4, u5⟩ := u
  obtain ⟨hT, hF1, m6, m7⟩ := hB
  rw [ht] at hT hF1 m6 m7
  have m9 := (hF1.fld hr_o0 skm_0 (k := 13) (by decide) (by decide)).trans hm_en
  have m10 := (hF1.fld hr_o0 skm_0 (k := 28) (by decide) (by decide)).trans hm_sv
  have m11 := hc_vt.kept (hF1.arr hg1 skm_11 (by decide))
  have hF := hF.more hF1 (by decide)
  try dsimp only at hw3
  obtain ⟨h12, h13, hf14, hf15, hf16⟩ := hw3
  refine lv_iload_n hx hb dX12_readLine_4 rfl (lv_at hl 1 rfl) ?_
  refine lv_bipush (v := 20) hx hb dX12_readLine_5 (by decide) ?_
  refine lv_icmp_ne (tgt := 12) hx hb dX12_readLine_7 (by decide) (fun c17 => ?_) (fun c17 => ?_)
  · have t18 : nl.toInt ≠ 20 := ti_ne c17 rfl (by decide)
    refine lv_bipush (v := 40) hx hb dX12_readLine_12 (by decide) ?_
    refine lv_iload_n hx hb dX12_readLine_14 rfl (lv_at hl 1 rfl) ?_
    refine lv_iadd hx hb dX12_readLine_15 ?_
    refine lv_topi (fun x19 ex19 => ?_)
    have t20 : x19.toInt = 40 + nl.toInt := ti_add ex19 (by decide) rfl (by omega) (by omega)
    refine lv_istore_n (lv' := [(2, .int x19), (0, .ref o0), (1, .int nl)]) hx hb dX12_readLine_16 rfl hl (by decide) rfl (fun ls hl => ?_)
    refine lv_aload_n hx hb dX12_readLine_17 rfl (lv_at hl 1 rfl) ?_
    refine tw_get hx hb hts bF_X12 hown hK hT hr_o0 shm_0 rfl 19 (by decide) (ht_at hts 17 rfl) (fun _ h9 => h9) dX12_readLine_18 (fun v9 m21 h9 => ?_)
    obtain ⟨rfl, hg22⟩ := h9 _ rfl
    refine lv_iload_n hx hb dX12_readLine_21 rfl (lv_at hl 0 rfl) ?_
    refine lv_aload_n hx hb dX12_readLine_22 rfl (lv_at hl 1 rfl) ?_
    have hFc := gA_free hG hA hS
    refine va_calli (va_runV (As := []) (rest := [.int x19, .ref (q 19)]) ⟨hx, hb, hml, hown, hts⟩ (s_sortOf l dC dI kA adK adV G H q wZ wN wH wB wC wL wK wU wV PI im PM PT (lD S0 lS) (lD dB lB) (lD dE lE) lN o0 u4 u5 vt hT hr_o0 m6 m7 (by have q8 := ti_all u4; omega) (by have q8 := ti_all u5; omega) (by have := (show u4.toInt = u4.toInt from rfl); have := (show u5.toInt = u5.toInt from rfl); omega) m11 hgz hgn hgh hgb hgc hgi hgu) (cwV 0 hts (goodIn_app (goodIn_r _ [56, 57, 58, 10] rfl (by decide +kernel)) (goodIn_ca (goodIn_r _ [19, 20, 4, 11, 21, 22, 23, 24, 25, 26, 27, 28, 29, 30, 31, 32, 6, 33, 34, 35, 36, 37, 38, 39, 40, 41, 42, 43, 44, 45, 46, 47, 48, 49, 50, 51, 52, 53, 54, 55, 10] rfl (by decide +kernel)) (bs_in _ _))) rfl rfl rfl (by decide +kernel) ⟨(Nat.le_of_ble_eq_true rfl), (Nat.le_of_ble_eq_true rfl)⟩) ⟨fun a U g mk q => by obtain ⟨q0, q1, qK, qE⟩ := q; exact ⟨q0, q1, va_K.moved (u := U) (U := U.calling g mk a) (Vm.Alike.refl U.vm) qK, EVS.blind g mk a qE⟩, gH_recv hK hT hr_o0 shm_0 rfl, fun U hU hW => ⟨rfl, hU, va_K.moved hW.alike hK, hE.call hS hFc hU hW⟩⟩ rfl rfl hl.1 rfl (lv_room (Nat.le_of_ble_eq_true rfl)) dX12_readLine_23 ⟨(Nat.le_of_ble_eq_true rfl), (Nat.le_of_ble_eq_true rfl)⟩) hS (fun q _ h => hFc q h) hFc (fun r23 u t H locs ht hvm hw24 hB _ _ hS => ?_)
    obtain ⟨hT, hF1⟩ := hB
    rw [ht] at hT hF1
    have m25 := (hF1.fld hr_o0 skm_0 (k := 13) (by decide) (by decide)).trans m9
    have m26 := (hF1.fld hr_o0 skm_0 (k := 28) (by decide) (by decide)).trans m10
    have m27 := m11.kept (hF1.arr hg1 skm_11 (by decide))
    have m28 := (hF1.fld hr_o0 skm_0 (k := 12) (by decide) (by decide)).trans m6
    have m29 := (hF1.fld hr_o0 skm_0 (k := 14) (by decide) (by decide)).trans m7
    have hF := hF.more hF1 (by decide)
    try dsimp only at hw24
    obtain ⟨h30, hf31⟩ := hw24
    refine tw_iast (i := x19) (x := r23) hx hb hK hT hG hS hg22 shm_20 rfl (vin_t (a := x19.toInt) rfl (by omega) (by omega)) (gi_all _) dX12_readLine_26 (fun H locs hT oq m32 oi hS => ?_)
    have hF := hF.ast hg22 skm_20 oq (by decide)
    have m33 := (el_kept (oq _ (gne hr_o0 hg22 (by decide)))).trans m25
    have m34 := (el_kept (oq _ (gne hr_o0 hg22 (by decide)))).trans m26
    have m35 := m27.kept (oq _ (gne hg1 hg22 (by decide)))
    have m36 := (el_kept (oq _ (gne hr_o0 hg22 (by decide)))).trans m28
    have m37 := (el_kept (oq _ (gne hr_o0 hg22 (by decide)))).trans m29
    refine lv_aload_n hx hb dX12_readLine_27 rfl (lv_at hl 1 rfl) ?_
    refine tw_get hx hb hts bF_X12 hown hK hT hr_o0 shm_0 rfl 24 (by decide) (ht_at hts 58 rfl) (fun _ h9 => h9) dX12_readLine_28 (fun v9 m38 h9 => ?_)
    obtain ⟨rfl, hg39⟩ := h9 _ rfl
    refine lv_iload_n hx hb dX12_readLine_31 rfl (lv_at hl 0 rfl) ?_
    refine lv_aload_n hx hb dX12_readLine_32 rfl (lv_at hl 1 rfl) ?_
    refine tw_getM (v := .int sv) hx hb hts bF_X12 hown hK hT hr_o0 shm_0 rfl 28 (by decide) (ht_at hts 59 rfl) (fun _ h9 => h9) m34 dX12_readLine_33 ?_
    have t40 : ((x19.toNatClampNeg : Nat) : Int) = x19.toInt := tn_of (show x19.toInt = x19.toInt from rfl) (by omega)
    have t41 : ((nl.toNatClampNeg : Nat) : Int) = nl.toInt := tn_of rfl (by omega)
    refine tw_iast2 (Sg1 := (SHm q (wP wZ wN wH wB wC wL wK wU wV) PI im PM PT (lD S0 lS) (lD (pset dB nl.toNatClampNeg (fun y => y = sv.toInt)) lB) (lD dE lE) lN)) (i := x19) (x := sv) hx hb hK hT hG hS hg39 shm_25 rfl shm_25 shm_o25 (fun b9 h9 => hgu b9 24 h9) (vin_t (a := x19.toInt) rfl (by omega) (by omega)) (⟨_, rfl, lb_hv (n := nl.toNatClampNeg) (by omega) (by omega) (by have q8 := ti_all sv; omega) rfl⟩) (fun k9 hk9 hne9 v9 hv9 he9 => by obtain ⟨x9, rfl, p9⟩ := he9; exact ⟨x9, rfl, lb_hm (n := nl.toNatClampNeg) hk9 (by omega) p9⟩) dX12_readLine_36 (fun H locs hT oq m42 oi hS => ?_)
    have hF := hF.ast hg39 skm_25 oq (by decide)
    have m43 := (el_kept (oq _ (gne hr_o0 hg39 (by decide)))).trans m33
    have m44 := (el_kept (oq _ (gne hr_o0 hg39 (by decide)))).trans m34
    have m45 := m35.kept (oq _ (gne hg1 hg39 (by decide)))
    have m46 := (el_kept (oq _ (gne hr_o0 hg39 (by decide)))).trans m36
    have m47 := (el_kept (oq _ (gne hr_o0 hg39 (by decide)))).trans m37
    have m48 := (el_kept (oq _ (gne hg22 hg39 (by decide)))).trans m32
    refine lv_aload_n hx hb dX12_readLine_37 rfl (lv_at hl 1 rfl) ?_
    refine tw_get hx hb hts bF_X12 hown hK hT hr_o0 shm_0 rfl 25 (by decide) (ht_at hts 60 rfl) (fun _ h9 => h9) dX12_readLine_38 (fun v9 m49 h9 => ?_)
    obtain ⟨rfl, hg50⟩ := h9 _ rfl
    refine lv_iload_n hx hb dX12_readLine_41 rfl (lv_at hl 0 rfl) ?_
    refine lv_aload_n hx hb dX12_readLine_42 rfl (lv_at hl 1 rfl) ?_
    refine tw_getM (v := .int sv) hx hb hts bF_X12 hown hK hT hr_o0 shm_0 rfl 28 (by decide) (ht_at hts 59 rfl) (fun _ h9 => h9) m44 dX12_readLine_43 ?_
    have t51 : ((x19.toNatClampNeg : Nat) : Int) = x19.toInt := tn_of (show x19.toInt = x19.toInt from rfl) (by omega)
    have t52 : ((nl.toNatClampNeg : Nat) : Int) = nl.toInt := tn_of rfl (by omega)
    refine tw_iast2 (Sg1 := (SHm q (wP wZ wN wH wB wC wL wK wU wV) PI im PM PT (lD S0 lS) (lD (pset dB nl.toNatClampNeg (fun y => y = sv.toInt)) lB) (lD (pset dE nl.toNatClampNeg (fun y => y ≤ sv.toInt)) lE) lN)) (i := x19) (x := sv) hx hb hK hT hG hS hg50 shm_26 rfl shm_26 shm_o26 (fun b9 h9 => hgu b9 25 h9) (vin_t (a := x19.toInt) rfl (by omega) (by omega)) (⟨_, rfl, lb_hv (n := nl.toNatClampNeg) (by omega) (by omega) (by have q8 := ti_all sv; omega) (Int.le_refl _)⟩) (fun k9 hk9 hne9 v9 hv9 he9 => by obtain ⟨x9, rfl, p9⟩ := he9; exact ⟨x9, rfl, lb_hm (n := nl.toNatClampNeg) hk9 (by omega) p9⟩) dX12_readLine_46 (fun H locs hT oq m53 oi hS => ?_)
    have hF := hF.ast hg50 skm_26 oq (by decide)
    have m54 := (el_kept (oq _ (gne hr_o0 hg50 (by decide)))).trans m43
    have m55 := (el_kept (oq _ (gne hr_o0 hg50 (by decide)))).trans m44
    have m56 := m45.kept (oq _ (gne hg1 hg50 (by decide)))
    have m57 := (el_kept (oq _ (gne hr_o0 hg50 (by decide)))).trans m46
    have m58 := (el_kept (oq _ (gne hr_o0 hg50 (by decide)))).trans m47
    have m59 := (el_kept (oq _ (gne hg22 hg50 (by decide)))).trans m48
    have m60 := (el_kept (oq _ (gne hg39 hg50 (by decide)))).trans m42
    refine lv_aload_n hx hb dX12_readLine_47 rfl (lv_at hl 1 rfl) ?_
    refine tw_get hx hb hts bF_X12 hown hK hT hr_o0 shm_0 rfl 20 (by decide) (ht_at hts 61 rfl) (fun _ h9 => h9) dX12_readLine_48 (fun v9 m61 h9 => ?_)
    obtain ⟨rfl, hg62⟩ := h9 _ rfl
    refine lv_iload_n hx hb dX12_readLine_51 rfl (lv_at hl 0 rfl) ?_
    refine lv_iconst (v := 0) hx hb dX12_readLine_52 (by decide) ?_
    refine tw_iast (i := x19) (x := 0) hx hb hK hT hG hS hg62 shm_21 rfl (vin_t (a := x19.toInt) rfl (by omega) (by omega)) (gi_all _) dX12_readLine_53 (fun H locs hT oq m63 oi hS => ?_)
    have hF := hF.ast hg62 skm_21 oq (by decide)
    have m64 := (el_kept (oq _ (gne hr_o0 hg62 (by decide)))).trans m54
    have m65 := (el_kept (oq _ (gne hr_o0 hg62 (by decide)))).trans m55
    have m66 := m56.kept (oq _ (gne hg1 hg62 (by decide)))
    have m67 := (el_kept (oq _ (gne hr_o0 hg62 (by decide)))).trans m57
    have m68 := (el_kept (oq _ (gne hr_o0 hg62 (by decide)))).trans m58
    have m69 := (el_kept (oq _ (gne hg22 hg62 (by decide)))).trans m59
    have m70 := (el_kept (oq _ (gne hg39 hg62 (by decide)))).trans m60
    have m71 := (el_kept (oq _ (gne hg50 hg62 (by decide)))).trans m53
    refine lv_aload_n hx hb dX12_readLine_54 rfl (lv_at hl 1 rfl) ?_
    refine tw_get hx hb hts bF_X12 hown hK hT hr_o0 shm_0 rfl 19 (by decide) (ht_at hts 17 rfl) (fun _ h9 => h9) dX12_readLine_55 (fun v9 m72 h9 => ?_)
    obtain ⟨rfl, hg73⟩ := h9 _ rfl
    refine lv_iload_n hx hb dX12_readLine_58 rfl (lv_at hl 0 rfl) ?_
    refine tw_iald (i := x19) hx hb hK hT hg22 shm_20 rfl (vin_t (a := x19.toInt) rfl (by omega) (by omega)) dX12_readLine_59 (fun v9 m74 h9 => ?_)
    obtain ⟨x75, rfl, gx75, kx75⟩ := h9
    obtain rfl : r23 = x75 := (el_same m74 m69 rfl).symm
    refine lv_if_ge (tgt := 65) hx hb dX12_readLine_60 (by decide) (fun c76 => ?_) (fun c76 => ?_)
    · have t77 : 0 ≤ r23.toInt := ti_le c76 (by decide) rfl
      refine lv_aload_n hx hb dX12_readLine_65 rfl (lv_at hl 1 rfl) ?_
      refine tw_get hx hb hts bF_X12 hown hK hT hr_o0 shm_0 rfl 19 (by decide) (ht_at hts 17 rfl) (fun _ h9 => h9) dX12_readLine_66 (fun v9 m78 h9 => ?_)
      obtain ⟨rfl, hg79⟩ := h9 _ rfl
      refine lv_iload_n hx hb dX12_readLine_69 rfl (lv_at hl 0 rfl) ?_
      refine tw_iald (i := x19) hx hb hK hT hg22 shm_20 rfl (vin_t (a := x19.toInt) rfl (by omega) (by omega)) dX12_readLine_70 (fun v9 m80 h9 => ?_)
      obtain ⟨x81, rfl, gx81, kx81⟩ := h9
      obtain rfl : r23 = x81 := (el_same m80 m69 rfl).symm
      refine lv_bipush (v := 7) hx hb dX12_readLine_71 (by decide) ?_
      refine lv_icmp_ne (tgt := 82) hx hb dX12_readLine_73 (by decide) (fun c82 => ?_) (fun c82 => ?_)
      · have t83 : r23.toInt ≠ 7 := ti_ne c82 rfl (by decide)
        refine lv_aload_n hx hb dX12_readLine_82 rfl (lv_at hl 1 rfl) ?_
        refine tw_get hx hb hts bF_X12 hown hK hT hr_o0 shm_0 rfl 19 (by decide) (ht_at hts 17 rfl) (fun _ h9 => h9) dX12_readLine_83 (fun v9 m84 h9 => ?_)
        obtain ⟨rfl, hg85⟩ := h9 _ rfl
        refine lv_iload_n hx hb dX12_readLine_86 rfl (lv_at hl 0 rfl) ?_
        refine tw_iald (i := x19) hx hb hK hT hg22 shm_20 rfl (vin_t (a := x19.toInt) rfl (by omega) (by omega)) dX12_readLine_87 (fun v9 m86 h9 => ?_)
        obtain ⟨x87, rfl, gx87, kx87⟩ := h9
        obtain rfl : r23 = x87 := (el_same m86 m69 rfl).symm
        refine lv_iconst (v := 5) hx hb dX12_readLine_88 (by decide) ?_
        refine lv_icmp_eq (tgt := 159) hx hb dX12_readLine_89 (by decide) (fun c88 => ?_) (fun c88 => ?_)
        · have t89 : r23.toInt = 5 := ti_eq c88 rfl (by decide)
          refine lv_aload_n hx hb dX12_readLine_159 rfl (lv_at hl 1 rfl) ?_
          refine tw_get hx hb hts bF_X12 hown hK hT hr_o0 shm_0 rfl 19 (by decide) (ht_at hts 17 rfl) (fun _ h9 => h9) dX12_readLine_160 (fun v9 m90 h9 => ?_)
          obtain ⟨rfl, hg91⟩ := h9 _ rfl
          refine lv_iload_n hx hb dX12_readLine_163 rfl (lv_at hl 0 rfl) ?_
          refine tw_iald (i := x19) hx hb hK hT hg22 shm_20 rfl (vin_t (a := x19.toInt) rfl (by omega) (by omega)) dX12_readLine_164 (fun v9 m92 h9 => ?_)
          obtain ⟨x93, rfl, gx93, kx93⟩ := h9
          obtain rfl : r23 = x93 := (el_same m92 m69 rfl).symm
          refine lv_bipush (v := 6) hx hb dX12_readLine_165 (by decide) ?_
          refine lv_icmp_le (tgt := 172) hx hb dX12_readLine_167 (by decide) (fun c94 => ?_) (fun c94 => (by exfalso; have q9 : 6 < r23.toInt := ti_nle c94 rfl (by decide); omega))
          have t95 : r23.toInt ≤ 6 := ti_le c94 rfl (by decide)
          refine lv_aload_n hx hb dX12_readLine_172 rfl (lv_at hl 1 rfl) ?_
          refine tw_ldcwS hx hb hown hE.s23 dX12_readLine_173 ?_
          have hFc := gA_free hG hA hS
          refine va_calli (va_runV (As := [.ref (adK 23)]) (rest := []) ⟨hx, hb, hml, hown, hts⟩ (s_passes l dC dI kA adK adV G H q wZ wN wH wB wC wL wK wU wV PI im PM PT (lD S0 lS) (lD (pset dB nl.toNatClampNeg (fun y => y = sv.toInt)) lB) (lD (pset dE nl.toNatClampNeg (fun y => y ≤ sv.toInt)) lE) lN o0 u4 en vt 23 N hT hr_o0 m67 m64 (by have q8 := ti_all u4; omega) (by have q8 := ti_all en; omega) (by have := (show u4.toInt = u4.toInt from rfl); have := (show en.toInt = en.toInt from rfl); omega) hN (by first | omega | decide) m66 hgz hgn hgh hgb hgc hgi hgu) (cwV 1 hts (goodIn_app (goodIn_r _ [64, 65, 66, 10] rfl (by decide +kernel)) (goodIn_ca (goodIn_r _ [63, 1, 2, 3, 4, 5, 6, 7, 8, 9, 10, 11, 12, 13, 14, 15, 16, 17, 20, 21, 22, 23, 24, 25, 26, 27, 28, 29, 30, 31, 32, 33, 34, 35, 36, 37, 38, 39, 40, 41, 42, 43, 44, 45, 46, 47, 48, 49, 50, 51, 52, 53, 54, 55] rfl (by decide +kernel)) (bs_in _ _))) rfl rfl rfl (by decide +kernel) ⟨(Nat.le_of_ble_eq_true rfl), (Nat.le_of_ble_eq_true rfl)⟩) ⟨fun a U g mk q => by obtain ⟨q0, q1, qK, qE⟩ := q; exact ⟨q0, q1, va_K.moved (u := U) (U := U.calling g mk a) (Vm.Alike.refl U.vm) qK, EVS.blind g mk a qE⟩, gH_recv hK hT hr_o0 shm_0 rfl, fun U hU hW => ⟨rfl, hU, va_K.moved hW.alike hK, hE.call hS hFc hU hW⟩⟩ rfl rfl hl.1 rfl (lv_room (Nat.le_of_ble_eq_true rfl)) dX12_readLine_176 ⟨(Nat.le_of_ble_eq_true rfl), (Nat.le_of_ble_eq_true rfl)⟩) hS (fun q _ h => hFc q h) hFc (fun r96 u t H locs ht hvm hw97 hB _ _ hS => ?_)
          obtain ⟨u98, u99⟩ := u
          obtain ⟨hT, hF1, m100, m101⟩ := hB
          rw [ht] at hT hF1 m100 m101
          have m102 := (hF1.fld hr_o0 skm_0 (k := 13) (by decide) (by decide)).trans m64
          have m103 := (hF1.fld hr_o0 skm_0 (k := 28) (by decide) (by decide)).trans m65
          have m104 := m66.kept (hF1.arr hg1 skm_11 (by decide))
          have m107 := (el_kept (hF1.arr hg22 skm_20 (by decide))).trans m69
          have m108 := (el_kept (hF1.arr hg39 skm_25 (by decide))).trans m70
          have m109 := (el_kept (hF1.arr hg50 skm_26 (by decide))).trans m71
          have m110 := (el_kept (hF1.arr hg62 skm_21 (by decide))).trans m63
          have hF := hF.more hF1 (by decide)
          try dsimp only at hw97
          obtain ⟨h111, h112, h113, hi114, hf115, hf116, hf117⟩ := hw97
          refine lv_if_eq (tgt := 196) hx hb dX12_readLine_179 (by decide) (fun c118 => ?_) (fun c118 => ?_)
          · have t119 : r96.toInt = 0 := ti_eq c118 rfl (by decide)
            refine lv_aload_n hx hb dX12_readLine_196 rfl (lv_at hl 1 rfl) ?_
            refine tw_get hx hb hts bF_X12 hown hK hT hr_o0 shm_0 rfl 25 (by decide) (ht_at hts 60 rfl) (fun _ h9 => h9) dX12_readLine_197 (fun v9 m120 h9 => ?_)
            obtain ⟨rfl, hg121⟩ := h9 _ rfl
            refine lv_iload_n hx hb dX12_readLine_200 rfl (lv_at hl 0 rfl) ?_
            refine lv_aload_n hx hb dX12_readLine_201 rfl (lv_at hl 1 rfl) ?_
            refine tw_getM (v := .int sv) hx hb hts bF_X12 hown hK hT hr_o0 shm_0 rfl 28 (by decide) (ht_at hts 59 rfl) (fun _ h9 => h9) m103 dX12_readLine_202 ?_
            have t122 : ((x19.toNatClampNeg : Nat) : Int) = x19.toInt := tn_of (show x19.toInt = x19.toInt from rfl) (by omega)
            have t123 : ((nl.toNatClampNeg : Nat) : Int) = nl.toInt := tn_of rfl (by omega)
            refine tw_iast2 (Sg1 := (SHm q (wP wZ wN wH wB wC wL wK wU wV) PI im PM PT (lD S0 lS) (lD (pset dB nl.toNatClampNeg (fun y => y = sv.toInt)) lB) (lD (pset (pset dE nl.toNatClampNeg (fun y => y ≤ sv.toInt)) nl.toNatClampNeg (fun y => y ≤ sv.toInt)) lE) lN)) (i := x19) (x := sv) hx hb hK hT hG hS hg50 shm_26 rfl shm_26 shm_o26 (fun b9 h9 => hgu b9 25 h9) (vin_t (a := x19.toInt) rfl (by omega) (by omega)) (⟨_, rfl, lb_hv (n := nl.toNatClampNeg) (by omega) (by omega) (by have q8 := ti_all sv; omega) (Int.le_refl _)⟩) (fun k9 hk9 hne9 v9 hv9 he9 => by obtain ⟨x9, rfl, p9⟩ := he9; exact ⟨x9, rfl, lb_hm (n := nl.toNatClampNeg) hk9 (by omega) p9⟩) dX12_readLine_205 (fun H locs hT oq m124 oi hS => ?_)
            have hF := hF.ast hg50 skm_26 oq (by decide)
            have m125 := (el_kept (oq _ (gne hr_o0 hg50 (by decide)))).trans m102
            have m126 := (el_kept (oq _ (gne hr_o0 hg50 (by decide)))).trans m103
            have m127 := m104.kept (oq _ (gne hg1 hg50 (by decide)))
            have m128 := (el_kept (oq _ (gne hg22 hg50 (by decide)))).trans m107
            have m129 := (el_kept (oq _ (gne hg39 hg50 (by decide)))).trans m108
            have m130 := (el_kept (oq _ (gne hg62 hg50 (by decide)))).trans m110
            have m131 := (el_kept (oq _ (gne hr_o0 hg50 (by decide)))).trans m100
            have m132 := (el_kept (oq _ (gne hr_o0 hg50 (by decide)))).trans m101
            refine lv_iconst (v := 1) hx hb dX12_readLine_206 (by decide) ?_
            exact W.zret (v := 1) hx hb hr (by decide) (fun t ht hW => ⟨⟨1, (u98, u99, sv, S0, (pset dB nl.toNatClampNeg (fun y => y = sv.toInt)), (pset (pset dE nl.toNatClampNeg (fun y => y ≤ sv.toInt)) nl.toNatClampNeg (fun y => y ≤ sv.toInt))), rfl, (by exact ⟨(by have q8 := ti_all u98; omega), (by have q8 := ti_all u99; omega), (by have q8 := ti_all sv; omega), (rg_t (a := 1) (by decide) (by omega) (by omega)), (fun _ => ⟨lw_next1 hlw, by omega⟩), (by omega), (by have := tn_of (show u5.toInt = u5.toInt from rfl) (by omega); have := tn_of (show u4.toInt = u4.toInt from rfl) (by omega); have := tn_of (show en.toInt = en.toInt from rfl) (by omega); have s9 := hf31; rw [← hf16] at s9; have l9 := so_k (t := (tx vt)) (n := N) (by omega) s9; rw [← hf15] at l9; have x9 : skp (tx vt) N u4.toNatClampNeg = xn (tx vt) N (skp (tx vt) N pt.toNatClampNeg) := (by have z9 := lk_x (t := (tx vt)) (n := N) (b := (skp (tx vt) N pt.toNatClampNeg)) (by omega); unfold xn; rw [z9, hf15, hf16]; rfl); exact Or.inr ⟨by omega, Or.inl ⟨by decide, Or.inr (Or.inr (Or.inr (Or.inr (Or.inl ⟨by omega, (by rw [← x9]; exact (by have a9 := (hf117.resolve_left (fun h8 => by have := h8.2.1; omega)); exact Or.inl ⟨fun h7 => a9.1 (h7.trans (by decide)), rfl, a9.2.2⟩))⟩))))⟩⟩)⟩), by (try dsimp only); rw [ht]; exact ⟨hT, hF, m131, m132, m126⟩⟩, hS.F ht⟩) hS.2.2 dX12_readLine_207
          · have t133 : r96.toInt ≠ 0 := ti_ne c118 rfl (by decide)
            have t134 : u4.toInt + 1 ≤ u98.toInt := hi114 ((bit_of ⟨by omega, by omega⟩).resolve_left c118)
            refine lv_aload_n hx hb dX12_readLine_182 rfl (lv_at hl 1 rfl) ?_
            refine lv_iconst (v := 0) hx hb dX12_readLine_183 (by decide) ?_
            refine tw_put (v := .int 0) (ty := .int) hx hb hts bF_X12 tyX12 tyX12_ok nmX12 hown hK hT hG hS hr_o0 shm_0 rfl 15 (by decide) (ht_at hts 66 rfl) (fun _ h9 => h9) rfl (by decide +kernel) rfl rfl (gl_at rfl (gi_all _)) dX12_readLine_184 (fun H locs hT oq m135 oj hS => ?_)
            have hF := hF.put hr_o0 skm_0 oq oj (by decide)
            have m136 := (oj 13 (by decide) (by decide)).trans m102
            have m137 := (oj 28 (by decide) (by decide)).trans m103
            have m138 := m104.kept (oq _ (gne hg1 hr_o0 (by decide)))
            have m139 := (el_kept (oq _ (gne hg22 hr_o0 (by decide)))).trans m107
            have m140 := (el_kept (oq _ (gne hg39 hr_o0 (by decide)))).trans m108
            have m141 := (el_kept (oq _ (gne hg50 hr_o0 (by decide)))).trans m109
            have m142 := (el_kept (oq _ (gne hg62 hr_o0 (by decide)))).trans m110
            have m143 := (oj 12 (by decide) (by decide)).trans m100
            have m144 := (oj 14 (by decide) (by decide)).trans m101
            have hT : gH (dC, dI) kA (SHm q (wP wZ wN wH wB wC wL wK wU wV) PI im PM PT (lD (dS S0 sv.toInt sv.toInt (fun _ => 0)) lS) (lD (pset dB nl.toNatClampNeg (fun y => y = sv.toInt)) lB) (lD (pset dE nl.toNatClampNeg (fun y => y ≤ sv.toInt)) lE) lN) G H := SHm_mono hT (fun _ _ _ z => z) (fun _ _ _ z => z) (fun _ _ z => z) (fun _ _ z => z) (lD_m (fun _ _ q => ⟨q, fun a b => by omega⟩)) (fun _ _ _ _ z => z) (fun _ _ _ _ z => z) (fun _ => Int.le_refl _)
            refine lv_aload_n hx hb dX12_readLine_187 rfl (lv_at hl 1 rfl) ?_
            have hFc := gA_free hG hA hS
            refine va_calli (va_runV (As := []) (rest := []) ⟨hx, hb, hml, hown, hts⟩ (s_readCond0 l dC dI kA adK adV G H q wZ wN wH wB wC wL wK wU wV PI im PM PT lS (lD (pset dB nl.toNatClampNeg (fun y => y = sv.toInt)) lB) (lD (pset dE nl.toNatClampNeg (fun y => y ≤ sv.toInt)) lE) lN o0 u98 en sv 0 vt S0 sv.toInt (fun _ => 0) N hT hr_o0 m143 m136 m137 m135 (by have q8 := ti_all u98; omega) (by have q8 := ti_all en; omega) (by have q8 := ti_all sv; omega) (by have := (show u98.toInt = u98.toInt from rfl); have := (show en.toInt = en.toInt from rfl); omega) (by have := (show sv.toInt = sv.toInt from rfl); have := (show u98.toInt = u98.toInt from rfl); omega) hlw.1 (by have := (show sv.toInt = sv.toInt from rfl); omega) ⟨fun i => by show (0 : Int) ≤ (i : Int); omega, rfl⟩ (Int.le_refl 0) (rg_t (a := 0) (by decide) (by omega) (by omega)) hN m138 hgz hgn hgh hgb hgc hgi hgu) (cwV 0 hts (goodIn_app (goodIn_r _ [103, 104, 105, 10] rfl (by decide +kernel)) (goodIn_ca (goodIn_r _ [68, 69, 70, 71, 2, 3, 4, 5, 6, 7, 8, 9, 10, 11, 12, 13, 14, 72, 73, 74, 63, 1, 15, 16, 17, 20, 21, 22, 23, 24, 25, 26, 27, 28, 29, 30, 31, 32, 33, 34, 35, 36, 37, 38, 39, 40, 41, 42, 43, 44, 45, 46, 47, 48, 49, 50, 51, 52, 53, 54, 55, 64, 65, 66, 75, 76, 77, 78, 79, 80, 81, 82, 83, 60, 84, 85, 86, 87, 88, 89, 90, 91, 92, 93, 94, 95, 96, 67, 97, 98, 99, 68, 100, 101, 102, 103, 104, 105] rfl (by decide +kernel)) (bs_in _ _))) rfl rfl rfl (by decide +kernel) ⟨(Nat.le_of_ble_eq_true rfl), (Nat.le_of_ble_eq_true rfl)⟩) ⟨fun a U g mk q => by obtain ⟨q0, q1, qK, qE⟩ := q; exact ⟨q0, q1, va_K.moved (u := U) (U := U.calling g mk a) (Vm.Alike.refl U.vm) qK, EVS.blind g mk a qE⟩, gH_recv hK hT hr_o0 shm_0 rfl, fun U hU hW => ⟨rfl, hU, va_K.moved hW.alike hK, hE.call hS hFc hU hW⟩⟩ rfl rfl hl.1 rfl (lv_room (Nat.le_of_ble_eq_true rfl)) dX12_readLine_188 ⟨(Nat.le_of_ble_eq_true rfl), (Nat.le_of_ble_eq_true rfl)⟩) hS (fun q _ h => hFc q h) hFc (fun r145 u t H locs ht hvm hw146 hB _ _ hS => ?_)
            obtain ⟨u147, u148, u149, u150, u151⟩ := u
            obtain ⟨hT, hF1, m152, m153, m154, m155⟩ := hB
            rw [ht] at hT hF1 m152 m153 m154 m155
            have m156 := (hF1.fld hr_o0 skm_0 (k := 13) (by decide) (by decide)).trans m136
            have m158 := m138.kept (hF1.arr hg1 skm_11 (by decide))
            have m159 := (el_kept (hF1.arr hg22 skm_20 (by decide))).trans m139
            have m160 := (el_kept (hF1.arr hg39 skm_25 (by decide))).trans m140
            have m161 := (el_kept (hF1.arr hg50 skm_26 (by decide))).trans m141
            have m162 := (el_kept (hF1.arr hg62 skm_21 (by decide))).trans m142
            have hF := hF.more hF1 (by decide)
            try dsimp only at hw146
            obtain ⟨h166, h167, h168, h169, hi170, hi171, hf172, hf173, hf174⟩ := hw146
            refine lv_if_ne (tgt := 196) hx hb dX12_readLine_191 (by decide) (fun c175 => ?_) (fun c175 => ?_)
            · have t176 : r145.toInt ≠ 0 := ti_ne c175 rfl (by decide)
              have t177 : u151 u149.toNatClampNeg = (fun _ => 0) sv.toNatClampNeg + 1 := hi170 ((bit_of ⟨by omega, by omega⟩).resolve_left c175)
              have t178 : u150.toInt = 0 := hi171 ((bit_of ⟨by omega, by omega⟩).resolve_left c175)
              refine lv_aload_n hx hb dX12_readLine_196 rfl (lv_at hl 1 rfl) ?_
              refine tw_get hx hb hts bF_X12 hown hK hT hr_o0 shm_0 rfl 25 (by decide) (ht_at hts 60 rfl) (fun _ h9 => h9) dX12_readLine_197 (fun v9 m179 h9 => ?_)
              obtain ⟨rfl, hg180⟩ := h9 _ rfl
              refine lv_iload_n hx hb dX12_readLine_200 rfl (lv_at hl 0 rfl) ?_
              refine lv_aload_n hx hb dX12_readLine_201 rfl (lv_at hl 1 rfl) ?_
              refine tw_getM (v := .int u149) hx hb hts bF_X12 hown hK hT hr_o0 shm_0 rfl 28 (by decide) (ht_at hts 59 rfl) (fun _ h9 => h9) m154 dX12_readLine_202 ?_
              have t181 : ((x19.toNatClampNeg : Nat) : Int) = x19.toInt := tn_of (show x19.toInt = x19.toInt from rfl) (by omega)
              have t182 : ((nl.toNatClampNeg : Nat) : Int) = nl.toInt := tn_of rfl (by omega)
              refine tw_iast2 (Sg1 := (SHm q (wP wZ wN wH wB wC wL wK wU wV) PI im PM PT (lD (dS S0 sv.toInt u149.toInt u151) lS) (lD (pset dB nl.toNatClampNeg (fun y => y = sv.toInt)) lB) (lD (pset (pset dE nl.toNatClampNeg (fun y => y ≤ sv.toInt)) nl.toNatClampNeg (fun y => y ≤ u149.toInt)) lE) lN)) (i := x19) (x := u149) hx hb hK hT hG hS hg50 shm_26 rfl shm_26 shm_o26 (fun b9 h9 => hgu b9 25 h9) (vin_t (a := x19.toInt) rfl (by omega) (by omega)) (⟨_, rfl, lb_hv (n := nl.toNatClampNeg) (by omega) (by omega) (by have q8 := ti_all u149; omega) (Int.le_refl _)⟩) (fun k9 hk9 hne9 v9 hv9 he9 => by obtain ⟨x9, rfl, p9⟩ := he9; exact ⟨x9, rfl, lb_hm (n := nl.toNatClampNeg) hk9 (by omega) p9⟩) dX12_readLine_205 (fun H locs hT oq m183 oi hS => ?_)
              have hF := hF.ast hg50 skm_26 oq (by decide)
              have m184 := (el_kept (oq _ (gne hr_o0 hg50 (by decide)))).trans m156
              have m185 := m158.kept (oq _ (gne hg1 hg50 (by decide)))
              have m186 := (el_kept (oq _ (gne hg22 hg50 (by decide)))).trans m159
              have m187 := (el_kept (oq _ (gne hg39 hg50 (by decide)))).trans m160
              have m188 := (el_kept (oq _ (gne hg62 hg50 (by decide)))).trans m162
              have m189 := (el_kept (oq _ (gne hr_o0 hg50 (by decide)))).trans m152
              have m190 := (el_kept (oq _ (gne hr_o0 hg50 (by decide)))).trans m153
              have m191 := (el_kept (oq _ (gne hr_o0 hg50 (by decide)))).trans m154
              have m192 := (el_kept (oq _ (gne hr_o0 hg50 (by decide)))).trans m155
              refine lv_iconst (v := 1) hx hb dX12_readLine_206 (by decide) ?_
              exact W.zret (v := 1) hx hb hr (by decide) (fun t ht hW => ⟨⟨1, (u147, u148, u149, (dS S0 sv.toInt u149.toInt u151), (pset dB nl.toNatClampNeg (fun y => y = sv.toInt)), (pset (pset dE nl.toNatClampNeg (fun y => y ≤ sv.toInt)) nl.toNatClampNeg (fun y => y ≤ u149.toInt))), rfl, (by exact ⟨(by have q8 := ti_all u147; omega), (by have q8 := ti_all u148; omega), (by have q8 := ti_all u149; omega), (rg_t (a := 1) (by decide) (by omega) (by omega)), (fun _ => ⟨lw_next hlw hf173 (by omega), by omega⟩), (by omega), (by have := tn_of (show u5.toInt = u5.toInt from rfl) (by omega); have := tn_of (show u4.toInt = u4.toInt from rfl) (by omega); have := tn_of (show en.toInt = en.toInt from rfl) (by omega); have s9 := hf31; rw [← hf16] at s9; have l9 := so_k (t := (tx vt)) (n := N) (by omega) s9; rw [← hf15] at l9; have x9 : skp (tx vt) N u4.toNatClampNeg = xn (tx vt) N (skp (tx vt) N pt.toNatClampNeg) := (by have z9 := lk_x (t := (tx vt)) (n := N) (b := (skp (tx vt) N pt.toNatClampNeg)) (by omega); unfold xn; rw [z9, hf15, hf16]; rfl); exact Or.inr ⟨by omega, Or.inl ⟨by decide, Or.inr (Or.inr (Or.inr (Or.inr (Or.inl ⟨by omega, (by rw [← x9]; exact (by have a9 := (hf117.resolve_right (fun h8 => by have := h8.2.1; omega)); have c9 := (hf174.resolve_right (fun h8 => by have := h8.1; omega)).2; rw [a9.2.2] at c9; exact Or.inr ⟨a9.1.trans (by decide), c9⟩))⟩))))⟩⟩)⟩), by (try dsimp only); rw [ht]; exact ⟨hT, hF, m189, m190, m191⟩⟩, hS.F ht⟩) hS.2.2 dX12_readLine_207
            · have t193 : r145.toInt = 0 := ti_eq c175 rfl (by decide)
              refine lv_iconst (v := 0) hx hb dX12_readLine_194 (by decide) ?_
              exact W.zret (v := 0) hx hb hr (by decide) (fun t ht hW => ⟨⟨0, (u147, u148, u149, (dS S0 sv.toInt u149.toInt u151), (pset dB nl.toNatClampNeg (fun y => y = sv.toInt)), (pset dE nl.toNatClampNeg (fun y => y ≤ sv.toInt))), rfl, (by exact ⟨(by have q8 := ti_all u147; omega), (by have q8 := ti_all u148; omega), (by have q8 := ti_all u149; omega), (rg_t (a := 0) (by decide) (by omega) (by omega)), (fun h => absurd h (by decide)), (by omega), (by have := tn_of (show u5.toInt = u5.toInt from rfl) (by omega); have := tn_of (show u4.toInt = u4.toInt from rfl) (by omega); have := tn_of (show en.toInt = en.toInt from rfl) (by omega); have s9 := hf31; rw [← hf16] at s9; have l9 := so_k (t := (tx vt)) (n := N) (by omega) s9; rw [← hf15] at l9; have x9 : skp (tx vt) N u4.toNatClampNeg = xn (tx vt) N (skp (tx vt) N pt.toNatClampNeg) := (by have z9 := lk_x (t := (tx vt)) (n := N) (b := (skp (tx vt) N pt.toNatClampNeg)) (by omega); unfold xn; rw [z9, hf15, hf16]; rfl); exact Or.inr ⟨by omega, Or.inr ⟨by decide, Or.inr (Or.inr (Or.inr (Or.inr (Or.inl ⟨by omega, (by rw [← x9]; exact (by have a9 := (hf117.resolve_right (fun h8 => by have := h8.2.1; omega)); have c9 := (hf174.resolve_left (fun h8 => by have := h8.1; omega)).2; rw [a9.2.2] at c9; exact Or.inr ⟨a9.1.trans (by decide), c9⟩))⟩))))⟩⟩)⟩), by (try dsimp only); rw [ht]; exact ⟨hT, hF, m152, m153, m154⟩⟩, hS.F ht⟩) hS.2.2 dX12_readLine_195
        · have t194 : r23.toInt ≠ 5 := ti_ne c88 rfl (by decide)
          refine lv_aload_n hx hb dX12_readLine_92 rfl (lv_at hl 1 rfl) ?_
          refine tw_get hx hb hts bF_X12 hown hK hT hr_o0 shm_0 rfl 19 (by decide) (ht_at hts 17 rfl) (fun _ h9 => h9) dX12_readLine_93 (fun v9 m195 h9 => ?_)
          obtain ⟨rfl, hg196⟩ := h9 _ rfl
          refine lv_iload_n hx hb dX12_readLine_96 rfl (lv_at hl 0 rfl) ?_
          refine tw_iald (i := x19) hx hb hK hT hg22 shm_20 rfl (vin_t (a := x19.toInt) rfl (by omega) (by omega)) dX12_readLine_97 (fun v9 m197 h9 => ?_)
          obtain ⟨x198, rfl, gx198, kx198⟩ := h9
          obtain rfl : r23 = x198 := (el_same m197 m69 rfl).symm
          refine lv_bipush (v := 6) hx hb dX12_readLine_98 (by decide) ?_
          refine lv_icmp_eq (tgt := 159) hx hb dX12_readLine_100 (by decide) (fun c199 => ?_) (fun c199 => ?_)
          · have t200 : r23.toInt = 6 := ti_eq c199 rfl (by decide)
            refine lv_aload_n hx hb dX12_readLine_159 rfl (lv_at hl 1 rfl) ?_
            refine tw_get hx hb hts bF_X12 hown hK hT hr_o0 shm_0 rfl 19 (by decide) (ht_at hts 17 rfl) (fun _ h9 => h9) dX12_readLine_160 (fun v9 m201 h9 => ?_)
            obtain ⟨rfl, hg202⟩ := h9 _ rfl
            refine lv_iload_n hx hb dX12_readLine_163 rfl (lv_at hl 0 rfl) ?_
            refine tw_iald (i := x19) hx hb hK hT hg22 shm_20 rfl (vin_t (a := x19.toInt) rfl (by omega) (by omega)) dX12_readLine_164 (fun v9 m203 h9 => ?_)
            obtain ⟨x204, rfl, gx204, kx204⟩ := h9
            obtain rfl : r23 = x204 := (el_same m203 m69 rfl).symm
            refine lv_bipush (v := 6) hx hb dX12_readLine_165 (by decide) ?_
            refine lv_icmp_le (tgt := 172) hx hb dX12_readLine_167 (by decide) (fun c205 => ?_) (fun c205 => (by exfalso; have q9 : 6 < r23.toInt := ti_nle c205 rfl (by decide); omega))
            have t206 : r23.toInt ≤ 6 := ti_le c205 rfl (by decide)
            refine lv_aload_n hx hb dX12_readLine_172 rfl (lv_at hl 1 rfl) ?_
            refine tw_ldcwS hx hb hown hE.s23 dX12_readLine_173 ?_
            have hFc := gA_free hG hA hS
            refine va_calli (va_runV (As := [.ref (adK 23)]) (rest := []) ⟨hx, hb, hml, hown, hts⟩ (s_passes l dC dI kA adK adV G H q wZ wN wH wB wC wL wK wU wV PI im PM PT (lD S0 lS) (lD (pset dB nl.toNatClampNeg (fun y => y = sv.toInt)) lB) (lD (pset dE nl.toNatClampNeg (fun y => y ≤ sv.toInt)) lE) lN o0 u4 en vt 23 N hT hr_o0 m67 m64 (by have q8 := ti_all u4; omega) (by have q8 := ti_all en; omega) (by have := (show u4.toInt = u4.toInt from rfl); have := (show en.toInt = en.toInt from rfl); omega) hN (by first | omega | decide) m66 hgz hgn hgh hgb hgc hgi hgu) (cwV 1 hts (goodIn_app (goodIn_r _ [64, 65, 66, 10] rfl (by decide +kernel)) (goodIn_ca (goodIn_r _ [63, 1, 2, 3, 4, 5, 6, 7, 8, 9, 10, 11, 12, 13, 14, 15, 16, 17, 20, 21, 22, 23, 24, 25, 26, 27, 28, 29, 30, 31, 32, 33, 34, 35, 36, 37, 38, 39, 40, 41, 42, 43, 44, 45, 46, 47, 48, 49, 50, 51, 52, 53, 54, 55] rfl (by decide +kernel)) (bs_in _ _))) rfl rfl rfl (by decide +kernel) ⟨(Nat.le_of_ble_eq_true rfl), (Nat.le_of_ble_eq_true rfl)⟩) ⟨fun a U g mk q => by obtain ⟨q0, q1, qK, qE⟩ := q; exact ⟨q0, q1, va_K.moved (u := U) (U := U.calling g mk a) (Vm.Alike.refl U.vm) qK, EVS.blind g mk a qE⟩, gH_recv hK hT hr_o0 shm_0 rfl, fun U hU hW => ⟨rfl, hU, va_K.moved hW.alike hK, hE.call hS hFc hU hW⟩⟩ rfl rfl hl.1 rfl (lv_room (Nat.le_of_ble_eq_true rfl)) dX12_readLine_176 ⟨(Nat.le_of_ble_eq_true rfl), (Nat.le_of_ble_eq_true rfl)⟩) hS (fun q _ h => hFc q h) hFc (fun r207 u t H locs ht hvm hw208 hB _ _ hS => ?_)
            obtain ⟨u209, u210⟩ := u
            obtain ⟨hT, hF1, m211, m212⟩ := hB
            rw [ht] at hT hF1 m211 m212
            have m213 := (hF1.fld hr_o0 skm_0 (k := 13) (by decide) (by decide)).trans m64
            have m214 := (hF1.fld hr_o0 skm_0 (k := 28) (by decide) (by decide)).trans m65
            have m215 := m66.kept (hF1.arr hg1 skm_11 (by decide))
            have m218 := (el_kept (hF1.arr hg22 skm_20 (by decide))).trans m69
            have m219 := (el_kept (hF1.arr hg39 skm_25 (by decide))).trans m70
            have m220 := (el_kept (hF1.arr hg50 skm_26 (by decide))).trans m71
            have m221 := (el_kept (hF1.arr hg62 skm_21 (by decide))).trans m63
            have hF := hF.more hF1 (by decide)
            try dsimp only at hw208
            obtain ⟨h222, h223, h224, hi225, hf226, hf227, hf228⟩ := hw208
            refine lv_if_eq (tgt := 196) hx hb dX12_readLine_179 (by decide) (fun c229 => ?_) (fun c229 => ?_)
            · have t230 : r207.toInt = 0 := ti_eq c229 rfl (by decide)
              refine lv_aload_n hx hb dX12_readLine_196 rfl (lv_at hl 1 rfl) ?_
              refine tw_get hx hb hts bF_X12 hown hK hT hr_o0 shm_0 rfl 25 (by decide) (ht_at hts 60 rfl) (fun _ h9 => h9) dX12_readLine_197 (fun v9 m231 h9 => ?_)
              obtain ⟨rfl, hg232⟩ := h9 _ rfl
              refine lv_iload_n hx hb dX12_readLine_200 rfl (lv_at hl 0 rfl) ?_
              refine lv_aload_n hx hb dX12_readLine_201 rfl (lv_at hl 1 rfl) ?_
              refine tw_getM (v := .int sv) hx hb hts bF_X12 hown hK hT hr_o0 shm_0 rfl 28 (by decide) (ht_at hts 59 rfl) (fun _ h9 => h9) m214 dX12_readLine_202 ?_
              have t233 : ((x19.toNatClampNeg : Nat) : Int) = x19.toInt := tn_of (show x19.toInt = x19.toInt from rfl) (by omega)
              have t234 : ((nl.toNatClampNeg : Nat) : Int) = nl.toInt := tn_of rfl (by omega)
              refine tw_iast2 (Sg1 := (SHm q (wP wZ wN wH wB wC wL wK wU wV) PI im PM PT (lD S0 lS) (lD (pset dB nl.toNatClampNeg (fun y => y = sv.toInt)) lB) (lD (pset (pset dE nl.toNatClampNeg (fun y => y ≤ sv.toInt)) nl.toNatClampNeg (fun y => y ≤ sv.toInt)) lE) lN)) (i := x19) (x := sv) hx hb hK hT hG hS hg50 shm_26 rfl shm_26 shm_o26 (fun b9 h9 => hgu b9 25 h9) (vin_t (a := x19.toInt) rfl (by omega) (by omega)) (⟨_, rfl, lb_hv (n := nl.toNatClampNeg) (by omega) (by omega) (by have q8 := ti_all sv; omega) (Int.le_refl _)⟩) (fun k9 hk9 hne9 v9 hv9 he9 => by obtain ⟨x9, rfl, p9⟩ := he9; exact ⟨x9, rfl, lb_hm (n := nl.toNatClampNeg) hk9 (by omega) p9⟩) dX12_readLine_205 (fun H locs hT oq m235 oi hS => ?_)
              have hF := hF.ast hg50 skm_26 oq (by decide)
              have m236 := (el_kept (oq _ (gne hr_o0 hg50 (by decide)))).trans m213
              have m237 := (el_kept (oq _ (gne hr_o0 hg50 (by decide)))).trans m214
              have m238 := m215.kept (oq _ (gne hg1 hg50 (by decide)))
              have m239 := (el_kept (oq _ (gne hg22 hg50 (by decide)))).trans m218
              have m240 := (el_kept (oq _ (gne hg39 hg50 (by decide)))).trans m219
              have m241 := (el_kept (oq _ (gne hg62 hg50 (by decide)))).trans m221
              have m242 := (el_kept (oq _ (gne hr_o0 hg50 (by decide)))).trans m211
              have m243 := (el_kept (oq _ (gne hr_o0 hg50 (by decide)))).trans m212
              refine lv_iconst (v := 1) hx hb dX12_readLine_206 (by decide) ?_
              exact W.zret (v := 1) hx hb hr (by decide) (fun t ht hW => ⟨⟨1, (u209, u210, sv, S0, (pset dB nl.toNatClampNeg (fun y => y = sv.toInt)), (pset (pset dE nl.toNatClampNeg (fun y => y ≤ sv.toInt)) nl.toNatClampNeg (fun y => y ≤ sv.toInt))), rfl, (by exact ⟨(by have q8 := ti_all u209; omega), (by have q8 := ti_all u210; omega), (by have q8 := ti_all sv; omega), (rg_t (a := 1) (by decide) (by omega) (by omega)), (fun _ => ⟨lw_next1 hlw, by omega⟩), (by omega), (by have := tn_of (show u5.toInt = u5.toInt from rfl) (by omega); have := tn_of (show u4.toInt = u4.toInt from rfl) (by omega); have := tn_of (show en.toInt = en.toInt from rfl) (by omega); have s9 := hf31; rw [← hf16] at s9; have l9 := so_k (t := (tx vt)) (n := N) (by omega) s9; rw [← hf15] at l9; have x9 : skp (tx vt) N u4.toNatClampNeg = xn (tx vt) N (skp (tx vt) N pt.toNatClampNeg) := (by have z9 := lk_x (t := (tx vt)) (n := N) (b := (skp (tx vt) N pt.toNatClampNeg)) (by omega); unfold xn; rw [z9, hf15, hf16]; rfl); exact Or.inr ⟨by omega, Or.inl ⟨by decide, Or.inr (Or.inr (Or.inr (Or.inr (Or.inl ⟨by omega, (by rw [← x9]; exact (by have a9 := (hf228.resolve_left (fun h8 => by have := h8.2.1; omega)); exact Or.inl ⟨fun h7 => a9.1 (h7.trans (by decide)), rfl, a9.2.2⟩))⟩))))⟩⟩)⟩), by (try dsimp only); rw [ht]; exact ⟨hT, hF, m242, m243, m237⟩⟩, hS.F ht⟩) hS.2.2 dX12_readLine_207
            · have t244 : r207.toInt ≠ 0 := ti_ne c229 rfl (by decide)
              have t245 : u4.toInt + 1 ≤ u209.toInt := hi225 ((bit_of ⟨by omega, by omega⟩).resolve_left c229)
              refine lv_aload_n hx hb dX12_readLine_182 rfl (lv_at hl 1 rfl) ?_
              refine lv_iconst (v := 0) hx hb dX12_readLine_183 (by decide) ?_
              refine tw_put (v := .int 0) (ty := .int) hx hb hts bF_X12 tyX12 tyX12_ok nmX12 hown hK hT hG hS hr_o0 shm_0 rfl 15 (by decide) (ht_at hts 66 rfl) (fun _ h9 => h9) rfl (by decide +kernel) rfl rfl (gl_at rfl (gi_all _)) dX12_readLine_184 (fun H locs hT oq m246 oj hS => ?_)
              have hF := hF.put hr_o0 skm_0 oq oj (by decide)
              have m247 := (oj 13 (by decide) (by decide)).trans m213
              have m248 := (oj 28 (by decide) (by decide)).trans m214
              have m249 := m215.kept (oq _ (gne hg1 hr_o0 (by decide)))
              have m250 := (el_kept (oq _ (gne hg22 hr_o0 (by decide)))).trans m218
              have m251 := (el_kept (oq _ (gne hg39 hr_o0 (by decide)))).trans m219
              have m252 := (el_kept (oq _ (gne hg50 hr_o0 (by decide)))).trans m220
              have m253 := (el_kept (oq _ (gne hg62 hr_o0 (by decide)))).trans m221
              have m254 := (oj 12 (by decide) (by decide)).trans m211
              have m255 := (oj 14 (by decide) (by decide)).trans m212
              have hT : gH (dC, dI) kA (SHm q (wP wZ wN wH wB wC wL wK wU wV) PI im PM PT (lD (dS S0 sv.toInt sv.toInt (fun _ => 0)) lS) (lD (pset dB nl.toNatClampNeg (fun y => y = sv.toInt)) lB) (lD (pset dE nl.toNatClampNeg (fun y => y ≤ sv.toInt)) lE) lN) G H := SHm_mono hT (fun _ _ _ z => z) (fun _ _ _ z => z) (fun _ _ z => z) (fun _ _ z => z) (lD_m (fun _ _ q => ⟨q, fun a b => by omega⟩)) (fun _ _ _ _ z => z) (fun _ _ _ _ z => z) (fun _ => Int.le_refl _)
              refine lv_aload_n hx hb dX12_readLine_187 rfl (lv_at hl 1 rfl) ?_
              have hFc := gA_free hG hA hS
              refine va_calli (va_runV (As := []) (rest := []) ⟨hx, hb, hml, hown, hts⟩ (s_readCond0 l dC dI kA adK adV G H q wZ wN wH wB wC wL wK wU wV PI im PM PT lS (lD (pset dB nl.toNatClampNeg (fun y => y = sv.toInt)) lB) (lD (pset dE nl.toNatClampNeg (fun y => y ≤ sv.toInt)) lE) lN o0 u209 en sv 0 vt S0 sv.toInt (fun _ => 0) N hT hr_o0 m254 m247 m248 m246 (by have q8 := ti_all u209; omega) (by have q8 := ti_all en; omega) (by have q8 := ti_all sv; omega) (by have := (show u209.toInt = u209.toInt from rfl); have := (show en.toInt = en.toInt from rfl); omega) (by have := (show sv.toInt = sv.toInt from rfl); have := (show u209.toInt = u209.toInt from rfl); omega) hlw.1 (by have := (show sv.toInt = sv.toInt from rfl); omega) ⟨fun i => by show (0 : Int) ≤ (i : Int); omega, rfl⟩ (Int.le_refl 0) (rg_t (a := 0) (by decide) (by omega) (by omega)) hN m249 hgz hgn hgh hgb hgc hgi hgu) (cwV 0 hts (goodIn_app (goodIn_r _ [103, 104, 105, 10] rfl (by decide +kernel)) (goodIn_ca (goodIn_r _ [68, 69, 70, 71, 2, 3, 4, 5, 6, 7, 8, 9, 10, 11, 12, 13, 14, 72, 73, 74, 63, 1, 15, 16, 17, 20, 21, 22, 23, 24, 25, 26, 27, 28, 29, 30, 31, 32, 33, 34, 35, 36, 37, 38, 39, 40, 41, 42, 43, 44, 45, 46, 47, 48, 49, 50, 51, 52, 53, 54, 55, 64, 65, 66, 75, 76, 77, 78, 79, 80, 81, 82, 83, 60, 84, 85, 86, 87, 88, 89, 90, 91, 92, 93, 94, 95, 96, 67, 97, 98, 99, 68, 100, 101, 102, 103, 104, 105] rfl (by decide +kernel)) (bs_in _ _))) rfl rfl rfl (by decide +kernel) ⟨(Nat.le_of_ble_eq_true rfl), (Nat.le_of_ble_eq_true rfl)⟩) ⟨fun a U g mk q => by obtain ⟨q0, q1, qK, qE⟩ := q; exact ⟨q0, q1, va_K.moved (u := U) (U := U.calling g mk a) (Vm.Alike.refl U.vm) qK, EVS.blind g mk a qE⟩, gH_recv hK hT hr_o0 shm_0 rfl, fun U hU hW => ⟨rfl, hU, va_K.moved hW.alike hK, hE.call hS hFc hU hW⟩⟩ rfl rfl hl.1 rfl (lv_room (Nat.le_of_ble_eq_true rfl)) dX12_readLine_188 ⟨(Nat.le_of_ble_eq_true rfl), (Nat.le_of_ble_eq_true rfl)⟩) hS (fun q _ h => hFc q h) hFc (fun r256 u t H locs ht hvm hw257 hB _ _ hS => ?_)
              obtain ⟨u258, u259, u260, u261, u262⟩ := u
              obtain ⟨hT, hF1, m263, m264, m265, m266⟩ := hB
              rw [ht] at hT hF1 m263 m264 m265 m266
              have m267 := (hF1.fld hr_o0 skm_0 (k := 13) (by decide) (by decide)).trans m247
              have m269 := m249.kept (hF1.arr hg1 skm_11 (by decide))
              have m270 := (el_kept (hF1.arr hg22 skm_20 (by decide))).trans m250
              have m271 := (el_kept (hF1.arr hg39 skm_25 (by decide))).trans m251
              have m272 := (el_kept (hF1.arr hg50 skm_26 (by decide))).trans m252
              have m273 := (el_kept (hF1.arr hg62 skm_21 (by decide))).trans m253
              have hF := hF.more hF1 (by decide)
              try dsimp only at hw257
              obtain ⟨h277, h278, h279, h280, hi281, hi282, hf283, hf284, hf285⟩ := hw257
              refine lv_if_ne (tgt := 196) hx hb dX12_readLine_191 (by decide) (fun c286 => ?_) (fun c286 => ?_)
              · have t287 : r256.toInt ≠ 0 := ti_ne c286 rfl (by decide)
                have t288 : u262 u260.toNatClampNeg = (fun _ => 0) sv.toNatClampNeg + 1 := hi281 ((bit_of ⟨by omega, by omega⟩).resolve_left c286)
                have t289 : u261.toInt = 0 := hi282 ((bit_of ⟨by omega, by omega⟩).resolve_left c286)
                refine lv_aload_n hx hb dX12_readLine_196 rfl (lv_at hl 1 rfl) ?_
                refine tw_get hx hb hts bF_X12 hown hK hT hr_o0 shm_0 rfl 25 (by decide) (ht_at hts 60 rfl) (fun _ h9 => h9) dX12_readLine_197 (fun v9 m290 h9 => ?_)
                obtain ⟨rfl, hg291⟩ := h9 _ rfl
                refine lv_iload_n hx hb dX12_readLine_200 rfl (lv_at hl 0 rfl) ?_
                refine lv_aload_n hx hb dX12_readLine_201 rfl (lv_at hl 1 rfl) ?_
                refine tw_getM (v := .int u260) hx hb hts bF_X12 hown hK hT hr_o0 shm_0 rfl 28 (by decide) (ht_at hts 59 rfl) (fun _ h9 => h9) m265 dX12_readLine_202 ?_
                have t292 : ((x19.toNatClampNeg : Nat) : Int) = x19.toInt := tn_of (show x19.toInt = x19.toInt from rfl) (by omega)
                have t293 : ((nl.toNatClampNeg : Nat) : Int) = nl.toInt := tn_of rfl (by omega)
                refine tw_iast2 (Sg1 := (SHm q (wP wZ wN wH wB wC wL wK wU wV) PI im PM PT (lD (dS S0 sv.toInt u260.toInt u262) lS) (lD (pset dB nl.toNatClampNeg (fun y => y = sv.toInt)) lB) (lD (pset (pset dE nl.toNatClampNeg (fun y => y ≤ sv.toInt)) nl.toNatClampNeg (fun y => y ≤ u260.toInt)) lE) lN)) (i := x19) (x := u260) hx hb hK hT hG hS hg50 shm_26 rfl shm_26 shm_o26 (fun b9 h9 => hgu b9 25 h9) (vin_t (a := x19.toInt) rfl (by omega) (by omega)) (⟨_, rfl, lb_hv (n := nl.toNatClampNeg) (by omega) (by omega) (by have q8 := ti_all u260; omega) (Int.le_refl _)⟩) (fun k9 hk9 hne9 v9 hv9 he9 => by obtain ⟨x9, rfl, p9⟩ := he9; exact ⟨x9, rfl, lb_hm (n := nl.toNatClampNeg) hk9 (by omega) p9⟩) dX12_readLine_205 (fun H locs hT oq m294 oi hS => ?_)
                have hF := hF.ast hg50 skm_26 oq (by decide)
                have m295 := (el_kept (oq _ (gne hr_o0 hg50 (by decide)))).trans m267
                have m296 := m269.kept (oq _ (gne hg1 hg50 (by decide)))
                have m297 := (el_kept (oq _ (gne hg22 hg50 (by decide)))).trans m270
                have m298 := (el_kept (oq _ (gne hg39 hg50 (by decide)))).trans m271
                have m299 := (el_kept (oq _ (gne hg62 hg50 (by decide)))).trans m273
                have m300 := (el_kept (oq _ (gne hr_o0 hg50 (by decide)))).trans m263
                have m301 := (el_kept (oq _ (gne hr_o0 hg50 (by decide)))).trans m264
                have m302 := (el_kept (oq _ (gne hr_o0 hg50 (by decide)))).trans m265
                have m303 := (el_kept (oq _ (gne hr_o0 hg50 (by decide)))).trans m266
                refine lv_iconst (v := 1) hx hb dX12_readLine_206 (by decide) ?_
                exact W.zret (v := 1) hx hb hr (by decide) (fun t ht hW => ⟨⟨1, (u258, u259, u260, (dS S0 sv.toInt u260.toInt u262), (pset dB nl.toNatClampNeg (fun y => y = sv.toInt)), (pset (pset dE nl.toNatClampNeg (fun y => y ≤ sv.toInt)) nl.toNatClampNeg (fun y => y ≤ u260.toInt))), rfl, (by exact ⟨(by have q8 := ti_all u258; omega), (by have q8 := ti_all u259; omega), (by have q8 := ti_all u260; omega), (rg_t (a := 1) (by decide) (by omega) (by omega)), (fun _ => ⟨lw_next hlw hf284 (by omega), by omega⟩), (by omega), (by have := tn_of (show u5.toInt = u5.toInt from rfl) (by omega); have := tn_of (show u4.toInt = u4.toInt from rfl) (by omega); have := tn_of (show en.toInt = en.toInt from rfl) (by omega); have s9 := hf31; rw [← hf16] at s9; have l9 := so_k (t := (tx vt)) (n := N) (by omega) s9; rw [← hf15] at l9; have x9 : skp (tx vt) N u4.toNatClampNeg = xn (tx vt) N (skp (tx vt) N pt.toNatClampNeg) := (by have z9 := lk_x (t := (tx vt)) (n := N) (b := (skp (tx vt) N pt.toNatClampNeg)) (by omega); unfold xn; rw [z9, hf15, hf16]; rfl); exact Or.inr ⟨by omega, Or.inl ⟨by decide, Or.inr (Or.inr (Or.inr (Or.inr (Or.inl ⟨by omega, (by rw [← x9]; exact (by have a9 := (hf228.resolve_right (fun h8 => by have := h8.2.1; omega)); have c9 := (hf285.resolve_right (fun h8 => by have := h8.1; omega)).2; rw [a9.2.2] at c9; exact Or.inr ⟨a9.1.trans (by decide), c9⟩))⟩))))⟩⟩)⟩), by (try dsimp only); rw [ht]; exact ⟨hT, hF, m300, m301, m302⟩⟩, hS.F ht⟩) hS.2.2 dX12_readLine_207
              · have t304 : r256.toInt = 0 := ti_eq c286 rfl (by decide)
                refine lv_iconst (v := 0) hx hb dX12_readLine_194 (by decide) ?_
                exact W.zret (v := 0) hx hb hr (by decide) (fun t ht hW => ⟨⟨0, (u258, u259, u260, (dS S0 sv.toInt u260.toInt u262), (pset dB nl.toNatClampNeg (fun y => y = sv.toInt)), (pset dE nl.toNatClampNeg (fun y => y ≤ sv.toInt))), rfl, (by exact ⟨(by have q8 := ti_all u258; omega), (by have q8 := ti_all u259; omega), (by have q8 := ti_all u260; omega), (rg_t (a := 0) (by decide) (by omega) (by omega)), (fun h => absurd h (by decide)), (by omega), (by have := tn_of (show u5.toInt = u5.toInt from rfl) (by omega); have := tn_of (show u4.toInt = u4.toInt from rfl) (by omega); have := tn_of (show en.toInt = en.toInt from rfl) (by omega); have s9 := hf31; rw [← hf16] at s9; have l9 := so_k (t := (tx vt)) (n := N) (by omega) s9; rw [← hf15] at l9; have x9 : skp (tx vt) N u4.toNatClampNeg = xn (tx vt) N (skp (tx vt) N pt.toNatClampNeg) := (by have z9 := lk_x (t := (tx vt)) (n := N) (b := (skp (tx vt) N pt.toNatClampNeg)) (by omega); unfold xn; rw [z9, hf15, hf16]; rfl); exact Or.inr ⟨by omega, Or.inr ⟨by decide, Or.inr (Or.inr (Or.inr (Or.inr (Or.inl ⟨by omega, (by rw [← x9]; exact (by have a9 := (hf228.resolve_right (fun h8 => by have := h8.2.1; omega)); have c9 := (hf285.resolve_left (fun h8 => by have := h8.1; omega)).2; rw [a9.2.2] at c9; exact Or.inr ⟨a9.1.trans (by decide), c9⟩))⟩))))⟩⟩)⟩), by (try dsimp only); rw [ht]; exact ⟨hT, hF, m263, m264, m265⟩⟩, hS.F ht⟩) hS.2.2 dX12_readLine_195
          · have t305 : r23.toInt ≠ 6 := ti_ne c199 rfl (by decide)
            refine lv_aload_n hx hb dX12_readLine_103 rfl (lv_at hl 1 rfl) ?_
            refine tw_get hx hb hts bF_X12 hown hK hT hr_o0 shm_0 rfl 20 (by decide) (ht_at hts 61 rfl) (fun _ h9 => h9) dX12_readLine_104 (fun v9 m306 h9 => ?_)
            obtain ⟨rfl, hg307⟩ := h9 _ rfl
            refine lv_iload_n hx hb dX12_readLine_107 rfl (lv_at hl 0 rfl) ?_
            refine lv_aload_n hx hb dX12_readLine_108 rfl (lv_at hl 1 rfl) ?_
            refine lv_aload_n hx hb dX12_readLine_109 rfl (lv_at hl 1 rfl) ?_
            refine tw_get hx hb hts bF_X12 hown hK hT hr_o0 shm_0 rfl 19 (by decide) (ht_at hts 17 rfl) (fun _ h9 => h9) dX12_readLine_110 (fun v9 m308 h9 => ?_)
            obtain ⟨rfl, hg309⟩ := h9 _ rfl
            refine lv_iload_n hx hb dX12_readLine_113 rfl (lv_at hl 0 rfl) ?_
            refine tw_iald (i := x19) hx hb hK hT hg22 shm_20 rfl (vin_t (a := x19.toInt) rfl (by omega) (by omega)) dX12_readLine_114 (fun v9 m310 h9 => ?_)
            obtain ⟨x311, rfl, gx311, kx311⟩ := h9
            obtain rfl : r23 = x311 := (el_same m310 m69 rfl).symm
            refine lv_bipush (v := 8) hx hb dX12_readLine_115 (by decide) ?_
            refine lv_icmp_ne (tgt := 125) hx hb dX12_readLine_117 (by decide) (fun c312 => ?_) (fun c312 => ?_)
            · have t313 : r23.toInt ≠ 8 := ti_ne c312 rfl (by decide)
              refine lv_aload_n hx hb dX12_readLine_125 rfl (lv_at hl 1 rfl) ?_
              refine tw_get hx hb hts bF_X12 hown hK hT hr_o0 shm_0 rfl 19 (by decide) (ht_at hts 17 rfl) (fun _ h9 => h9) dX12_readLine_126 (fun v9 m314 h9 => ?_)
              obtain ⟨rfl, hg315⟩ := h9 _ rfl
              refine lv_iload_n hx hb dX12_readLine_129 rfl (lv_at hl 0 rfl) ?_
              refine tw_iald (i := x19) hx hb hK hT hg22 shm_20 rfl (vin_t (a := x19.toInt) rfl (by omega) (by omega)) dX12_readLine_130 (fun v9 m316 h9 => ?_)
              obtain ⟨x317, rfl, gx317, kx317⟩ := h9
              obtain rfl : r23 = x317 := (el_same m316 m69 rfl).symm
              refine lv_bipush (v := 9) hx hb dX12_readLine_131 (by decide) ?_
              refine lv_icmp_ne (tgt := 141) hx hb dX12_readLine_133 (by decide) (fun c318 => ?_) (fun c318 => ?_)
              · have t319 : r23.toInt ≠ 9 := ti_ne c318 rfl (by decide)
                refine lv_ldcw (v := 99999) hx hb hown (ht_at hts 76 rfl) dX12_readLine_141 ?_
                have hFc := gA_free hG hA hS
                refine va_calli (va_runV (As := [.int 99999]) (rest := [.int x19, .ref (q 20)]) ⟨hx, hb, hml, hown, hts⟩ (s_number l dC dI kA adK adV G H q wZ wN wH wB wC wL wK wU wV PI im PM PT (lD S0 lS) (lD (pset dB nl.toNatClampNeg (fun y => y = sv.toInt)) lB) (lD (pset dE nl.toNatClampNeg (fun y => y ≤ sv.toInt)) lE) lN o0 99999 u4 en vt N hT hr_o0 m67 m64 (by have q8 := ti_all u4; omega) (by have q8 := ti_all en; omega) (by have := (show u4.toInt = u4.toInt from rfl); have := (show en.toInt = en.toInt from rfl); omega) hN m66 hgz hgn hgh hgb hgc hgi hgu) (cwV 1 hts (goodIn_app (goodIn_r _ [79, 80, 81, 10] rfl (by decide +kernel)) (goodIn_ca (goodIn_r _ [78, 2, 3, 4, 5, 6, 7, 8, 9, 10, 11, 12, 13, 14] rfl (by decide +kernel)) (bs_in _ _))) rfl rfl rfl (by decide +kernel) ⟨(Nat.le_of_ble_eq_true rfl), (Nat.le_of_ble_eq_true rfl)⟩) ⟨fun a U g mk q => by obtain ⟨q0, q1, qK, qE⟩ := q; exact ⟨q0, q1, va_K.moved (u := U) (U := U.calling g mk a) (Vm.Alike.refl U.vm) qK, EVS.blind g mk a qE⟩, gH_recv hK hT hr_o0 shm_0 rfl, fun U hU hW => ⟨rfl, hU, va_K.moved hW.alike hK, hE.call hS hFc hU hW⟩⟩ rfl rfl hl.1 rfl (lv_room (Nat.le_of_ble_eq_true rfl)) dX12_readLine_144 ⟨(Nat.le_of_ble_eq_true rfl), (Nat.le_of_ble_eq_true rfl)⟩) hS (fun q _ h => hFc q h) hFc (fun r320 u t H locs ht hvm hw321 hB _ _ hS => ?_)
                obtain ⟨u322, u323⟩ := u
                obtain ⟨hT, hF1, m324, m325⟩ := hB
                rw [ht] at hT hF1 m324 m325
                have m326 := (hF1.fld hr_o0 skm_0 (k := 13) (by decide) (by decide)).trans m64
                have m327 := (hF1.fld hr_o0 skm_0 (k := 28) (by decide) (by decide)).trans m65
                have m328 := m66.kept (hF1.arr hg1 skm_11 (by decide))
                have m331 := (el_kept (hF1.arr hg22 skm_20 (by decide))).trans m69
                have m332 := (el_kept (hF1.arr hg39 skm_25 (by decide))).trans m70
                have m333 := (el_kept (hF1.arr hg50 skm_26 (by decide))).trans m71
                have m334 := (el_kept (hF1.arr hg62 skm_21 (by decide))).trans m63
                have hF := hF.more hF1 (by decide)
                try dsimp only at hw321
                obtain ⟨h335, h336, h337, hf338, hf339, hf340⟩ := hw321
                refine tw_iast (i := x19) (x := r320) hx hb hK hT hG hS hg62 shm_21 rfl (vin_t (a := x19.toInt) rfl (by omega) (by omega)) (gi_all _) dX12_readLine_147 (fun H locs hT oq m341 oi hS => ?_)
                have hF := hF.ast hg62 skm_21 oq (by decide)
                have m342 := (el_kept (oq _ (gne hr_o0 hg62 (by decide)))).trans m326
                have m343 := (el_kept (oq _ (gne hr_o0 hg62 (by decide)))).trans m327
                have m344 := m328.kept (oq _ (gne hg1 hg62 (by decide)))
                have m345 := (el_kept (oq _ (gne hg22 hg62 (by decide)))).trans m331
                have m346 := (el_kept (oq _ (gne hg39 hg62 (by decide)))).trans m332
                have m347 := (el_kept (oq _ (gne hg50 hg62 (by decide)))).trans m333
                have m348 := (el_kept (oq _ (gne hr_o0 hg62 (by decide)))).trans m324
                have m349 := (el_kept (oq _ (gne hr_o0 hg62 (by decide)))).trans m325
                refine lv_aload_n hx hb dX12_readLine_148 rfl (lv_at hl 1 rfl) ?_
                refine tw_get hx hb hts bF_X12 hown hK hT hr_o0 shm_0 rfl 20 (by decide) (ht_at hts 61 rfl) (fun _ h9 => h9) dX12_readLine_149 (fun v9 m350 h9 => ?_)
                obtain ⟨rfl, hg351⟩ := h9 _ rfl
                refine lv_iload_n hx hb dX12_readLine_152 rfl (lv_at hl 0 rfl) ?_
                refine tw_iald (i := x19) hx hb hK hT hg62 shm_21 rfl (vin_t (a := x19.toInt) rfl (by omega) (by omega)) dX12_readLine_153 (fun v9 m352 h9 => ?_)
                obtain ⟨x353, rfl, gx353, kx353⟩ := h9
                obtain rfl : r320 = x353 := (el_same m352 m341 rfl).symm
                refine lv_if_ge (tgt := 159) hx hb dX12_readLine_154 (by decide) (fun c354 => ?_) (fun c354 => ?_)
                · have t355 : 0 ≤ r320.toInt := ti_le c354 (by decide) rfl
                  refine lv_aload_n hx hb dX12_readLine_159 rfl (lv_at hl 1 rfl) ?_
                  refine tw_get hx hb hts bF_X12 hown hK hT hr_o0 shm_0 rfl 19 (by decide) (ht_at hts 17 rfl) (fun _ h9 => h9) dX12_readLine_160 (fun v9 m356 h9 => ?_)
                  obtain ⟨rfl, hg357⟩ := h9 _ rfl
                  refine lv_iload_n hx hb dX12_readLine_163 rfl (lv_at hl 0 rfl) ?_
                  refine tw_iald (i := x19) hx hb hK hT hg22 shm_20 rfl (vin_t (a := x19.toInt) rfl (by omega) (by omega)) dX12_readLine_164 (fun v9 m358 h9 => ?_)
                  obtain ⟨x359, rfl, gx359, kx359⟩ := h9
                  obtain rfl : r23 = x359 := (el_same m358 m345 rfl).symm
                  refine lv_bipush (v := 6) hx hb dX12_readLine_165 (by decide) ?_
                  refine lv_icmp_le (tgt := 172) hx hb dX12_readLine_167 (by decide) (fun c360 => ?_) (fun c360 => ?_)
                  · have t361 : r23.toInt ≤ 6 := ti_le c360 rfl (by decide)
                    refine lv_aload_n hx hb dX12_readLine_172 rfl (lv_at hl 1 rfl) ?_
                    refine tw_ldcwS hx hb hown hE.s23 dX12_readLine_173 ?_
                    have hFc := gA_free hG hA hS
                    refine va_calli (va_runV (As := [.ref (adK 23)]) (rest := []) ⟨hx, hb, hml, hown, hts⟩ (s_passes l dC dI kA adK adV G H q wZ wN wH wB wC wL wK wU wV PI im PM PT (lD S0 lS) (lD (pset dB nl.toNatClampNeg (fun y => y = sv.toInt)) lB) (lD (pset dE nl.toNatClampNeg (fun y => y ≤ sv.toInt)) lE) lN o0 u322 en vt 23 N hT hr_o0 m348 m342 (by have q8 := ti_all u322; omega) (by have q8 := ti_all en; omega) (by have := (show u322.toInt = u322.toInt from rfl); have := (show en.toInt = en.toInt from rfl); omega) hN (by first | omega | decide) m344 hgz hgn hgh hgb hgc hgi hgu) (cwV 1 hts (goodIn_app (goodIn_r _ [64, 65, 66, 10] rfl (by decide +kernel)) (goodIn_ca (goodIn_r _ [63, 1, 2, 3, 4, 5, 6, 7, 8, 9, 10, 11, 12, 13, 14, 15, 16, 17, 20, 21, 22, 23, 24, 25, 26, 27, 28, 29, 30, 31, 32, 33, 34, 35, 36, 37, 38, 39, 40, 41, 42, 43, 44, 45, 46, 47, 48, 49, 50, 51, 52, 53, 54, 55] rfl (by decide +kernel)) (bs_in _ _))) rfl rfl rfl (by decide +kernel) ⟨(Nat.le_of_ble_eq_true rfl), (Nat.le_of_ble_eq_true rfl)⟩) ⟨fun a U g mk q => by obtain ⟨q0, q1, qK, qE⟩ := q; exact ⟨q0, q1, va_K.moved (u := U) (U := U.calling g mk a) (Vm.Alike.refl U.vm) qK, EVS.blind g mk a qE⟩, gH_recv hK hT hr_o0 shm_0 rfl, fun U hU hW => ⟨rfl, hU, va_K.moved hW.alike hK, hE.call hS hFc hU hW⟩⟩ rfl rfl hl.1 rfl (lv_room (Nat.le_of_ble_eq_true rfl)) dX12_readLine_176 ⟨(Nat.le_of_ble_eq_true rfl), (Nat.le_of_ble_eq_true rfl)⟩) hS (fun q _ h => hFc q h) hFc (fun r362 u t H locs ht hvm hw363 hB _ _ hS => ?_)
                    obtain ⟨u364, u365⟩ := u
                    obtain ⟨hT, hF1, m366, m367⟩ := hB
                    rw [ht] at hT hF1 m366 m367
                    have m368 := (hF1.fld hr_o0 skm_0 (k := 13) (by decide) (by decide)).trans m342
                    have m369 := (hF1.fld hr_o0 skm_0 (k := 28) (by decide) (by decide)).trans m343
                    have m370 := m344.kept (hF1.arr hg1 skm_11 (by decide))
                    have m371 := (el_kept (hF1.arr hg22 skm_20 (by decide))).trans m345
                    have m372 := (el_kept (hF1.arr hg39 skm_25 (by decide))).trans m346
                    have m373 := (el_kept (hF1.arr hg50 skm_26 (by decide))).trans m347
                    have m376 := (el_kept (hF1.arr hg62 skm_21 (by decide))).trans m341
                    have hF := hF.more hF1 (by decide)
                    try dsimp only at hw363
                    obtain ⟨h377, h378, h379, hi380, hf381, hf382, hf383⟩ := hw363
                    refine lv_if_eq (tgt := 196) hx hb dX12_readLine_179 (by decide) (fun c384 => ?_) (fun c384 => ?_)
                    · have t385 : r362.toInt = 0 := ti_eq c384 rfl (by decide)
                      refine lv_aload_n hx hb dX12_readLine_196 rfl (lv_at hl 1 rfl) ?_
                      refine tw_get hx hb hts bF_X12 hown hK hT hr_o0 shm_0 rfl 25 (by decide) (ht_at hts 60 rfl) (fun _ h9 => h9) dX12_readLine_197 (fun v9 m386 h9 => ?_)
                      obtain ⟨rfl, hg387⟩ := h9 _ rfl
                      refine lv_iload_n hx hb dX12_readLine_200 rfl (lv_at hl 0 rfl) ?_
                      refine lv_aload_n hx hb dX12_readLine_201 rfl (lv_at hl 1 rfl) ?_
                      refine tw_getM (v := .int sv) hx hb hts bF_X12 hown hK hT hr_o0 shm_0 rfl 28 (by decide) (ht_at hts 59 rfl) (fun _ h9 => h9) m369 dX12_readLine_202 ?_
                      have t388 : ((x19.toNatClampNeg : Nat) : Int) = x19.toInt := tn_of (show x19.toInt = x19.toInt from rfl) (by omega)
                      have t389 : ((nl.toNatClampNeg : Nat) : Int) = nl.toInt := tn_of rfl (by omega)
                      refine tw_iast2 (Sg1 := (SHm q (wP wZ wN wH wB wC wL wK wU wV) PI im PM PT (lD S0 lS) (lD (pset dB nl.toNatClampNeg (fun y => y = sv.toInt)) lB) (lD (pset (pset dE nl.toNatClampNeg (fun y => y ≤ sv.toInt)) nl.toNatClampNeg (fun y => y ≤ sv.toInt)) lE) lN)) (i := x19) (x := sv) hx hb hK hT hG hS hg50 shm_26 rfl shm_26 shm_o26 (fun b9 h9 => hgu b9 25 h9) (vin_t (a := x19.toInt) rfl (by omega) (by omega)) (⟨_, rfl, lb_hv (n := nl.toNatClampNeg) (by omega) (by omega) (by have q8 := ti_all sv; omega) (Int.le_refl _)⟩) (fun k9 hk9 hne9 v9 hv9 he9 => by obtain ⟨x9, rfl, p9⟩ := he9; exact ⟨x9, rfl, lb_hm (n := nl.toNatClampNeg) hk9 (by omega) p9⟩) dX12_readLine_205 (fun H locs hT oq m390 oi hS => ?_)
                      have hF := hF.ast hg50 skm_26 oq (by decide)
                      have m391 := (el_kept (oq _ (gne hr_o0 hg50 (by decide)))).trans m368
                      have m392 := (el_kept (oq _ (gne hr_o0 hg50 (by decide)))).trans m369
                      have m393 := m370.kept (oq _ (gne hg1 hg50 (by decide)))
                      have m394 := (el_kept (oq _ (gne hg22 hg50 (by decide)))).trans m371
                      have m395 := (el_kept (oq _ (gne hg39 hg50 (by decide)))).trans m372
                      have m396 := (el_kept (oq _ (gne hg62 hg50 (by decide)))).trans m376
                      have m397 := (el_kept (oq _ (gne hr_o0 hg50 (by decide)))).trans m366
                      have m398 := (el_kept (oq _ (gne hr_o0 hg50 (by decide)))).trans m367
                      refine lv_iconst (v := 1) hx hb dX12_readLine_206 (by decide) ?_
                      exact W.zret (v := 1) hx hb hr (by decide) (fun t ht hW => ⟨⟨1, (u364, u365, sv, S0, (pset dB nl.toNatClampNeg (fun y => y = sv.toInt)), (pset (pset dE nl.toNatClampNeg (fun y => y ≤ sv.toInt)) nl.toNatClampNeg (fun y => y ≤ sv.toInt))), rfl, (by exact ⟨(by have q8 := ti_all u364; omega), (by have q8 := ti_all u365; omega), (by have q8 := ti_all sv; omega), (rg_t (a := 1) (by decide) (by omega) (by omega)), (fun _ => ⟨lw_next1 hlw, by omega⟩), (by omega), (by have := tn_of (show u5.toInt = u5.toInt from rfl) (by omega); have := tn_of (show u4.toInt = u4.toInt from rfl) (by omega); have := tn_of (show en.toInt = en.toInt from rfl) (by omega); have s9 := hf31; rw [← hf16] at s9; have l9 := so_k (t := (tx vt)) (n := N) (by omega) s9; rw [← hf15] at l9; have x9 : skp (tx vt) N u4.toNatClampNeg = xn (tx vt) N (skp (tx vt) N pt.toNatClampNeg) := (by have z9 := lk_x (t := (tx vt)) (n := N) (b := (skp (tx vt) N pt.toNatClampNeg)) (by omega); unfold xn; rw [z9, hf15, hf16]; rfl); exact Or.inr ⟨by omega, Or.inl ⟨by decide, Or.inr (Or.inr (Or.inr (Or.inr (Or.inr (⟨⟨by omega, by omega⟩, Or.inr ⟨_, (by have n9 := (nR_1 (h := 99999) (by decide) hf340 (by omega)); rw [x9] at n9; exact n9), (by have a9 := (hf383.resolve_left (fun h8 => by have := h8.2.1; omega)); exact Or.inl ⟨fun h7 => a9.1 (h7.trans (by decide)), rfl, a9.2.2⟩)⟩⟩)))))⟩⟩)⟩), by (try dsimp only); rw [ht]; exact ⟨hT, hF, m397, m398, m392⟩⟩, hS.F ht⟩) hS.2.2 dX12_readLine_207
                    · have t399 : r362.toInt ≠ 0 := ti_ne c384 rfl (by decide)
                      have t400 : u322.toInt + 1 ≤ u364.toInt := hi380 ((bit_of ⟨by omega, by omega⟩).resolve_left c384)
                      refine lv_aload_n hx hb dX12_readLine_182 rfl (lv_at hl 1 rfl) ?_
                      refine lv_iconst (v := 0) hx hb dX12_readLine_183 (by decide) ?_
                      refine tw_put (v := .int 0) (ty := .int) hx hb hts bF_X12 tyX12 tyX12_ok nmX12 hown hK hT hG hS hr_o0 shm_0 rfl 15 (by decide) (ht_at hts 66 rfl) (fun _ h9 => h9) rfl (by decide +kernel) rfl rfl (gl_at rfl (gi_all _)) dX12_readLine_184 (fun H locs hT oq m401 oj hS => ?_)
                      have hF := hF.put hr_o0 skm_0 oq oj (by decide)
                      have m402 := (oj 13 (by decide) (by decide)).trans m368
                      have m403 := (oj 28 (by decide) (by decide)).trans m369
                      have m404 := m370.kept (oq _ (gne hg1 hr_o0 (by decide)))
                      have m405 := (el_kept (oq _ (gne hg22 hr_o0 (by decide)))).trans m371
                      have m406 := (el_kept (oq _ (gne hg39 hr_o0 (by decide)))).trans m372
                      have m407 := (el_kept (oq _ (gne hg50 hr_o0 (by decide)))).trans m373
                      have m408 := (el_kept (oq _ (gne hg62 hr_o0 (by decide)))).trans m376
                      have m409 := (oj 12 (by decide) (by decide)).trans m366
                      have m410 := (oj 14 (by decide) (by decide)).trans m367
                      have hT : gH (dC, dI) kA (SHm q (wP wZ wN wH wB wC wL wK wU wV) PI im PM PT (lD (dS S0 sv.toInt sv.toInt (fun _ => 0)) lS) (lD (pset dB nl.toNatClampNeg (fun y => y = sv.toInt)) lB) (lD (pset dE nl.toNatClampNeg (fun y => y ≤ sv.toInt)) lE) lN) G H := SHm_mono hT (fun _ _ _ z => z) (fun _ _ _ z => z) (fun _ _ z => z) (fun _ _ z => z) (lD_m (fun _ _ q => ⟨q, fun a b => by omega⟩)) (fun _ _ _ _ z => z) (fun _ _ _ _ z => z) (fun _ => Int.le_refl _)
                      refine lv_aload_n hx hb dX12_readLine_187 rfl (lv_at hl 1 rfl) ?_
                      have hFc := gA_free hG hA hS
                      refine va_calli (va_runV (As := []) (rest := []) ⟨hx, hb, hml, hown, hts⟩ (s_readCond0 l dC dI kA adK adV G H q wZ wN wH wB wC wL wK wU wV PI im PM PT lS (lD (pset dB nl.toNatClampNeg (fun y => y = sv.toInt)) lB) (lD (pset dE nl.toNatClampNeg (fun y => y ≤ sv.toInt)) lE) lN o0 u364 en sv 0 vt S0 sv.toInt (fun _ => 0) N hT hr_o0 m409 m402 m403 m401 (by have q8 := ti_all u364; omega) (by have q8 := ti_all en; omega) (by have q8 := ti_all sv; omega) (by have := (show u364.toInt = u364.toInt from rfl); have := (show en.toInt = en.toInt from rfl); omega) (by have := (show sv.toInt = sv.toInt from rfl); have := (show u364.toInt = u364.toInt from rfl); omega) hlw.1 (by have := (show sv.toInt = sv.toInt from rfl); omega) ⟨fun i => by show (0 : Int) ≤ (i : Int); omega, rfl⟩ (Int.le_refl 0) (rg_t (a := 0) (by decide) (by omega) (by omega)) hN m404 hgz hgn hgh hgb hgc hgi hgu) (cwV 0 hts (goodIn_app (goodIn_r _ [103, 104, 105, 10] rfl (by decide +kernel)) (goodIn_ca (goodIn_r _ [68, 69, 70, 71, 2, 3, 4, 5, 6, 7, 8, 9, 10, 11, 12, 13, 14, 72, 73, 74, 63, 1, 15, 16, 17, 20, 21, 22, 23, 24, 25, 26, 27, 28, 29, 30, 31, 32, 33, 34, 35, 36, 37, 38, 39, 40, 41, 42, 43, 44, 45, 46, 47, 48, 49, 50, 51, 52, 53, 54, 55, 64, 65, 66, 75, 76, 77, 78, 79, 80, 81, 82, 83, 60, 84, 85, 86, 87, 88, 89, 90, 91, 92, 93, 94, 95, 96, 67, 97, 98, 99, 68, 100, 101, 102, 103, 104, 105] rfl (by decide +kernel)) (bs_in _ _))) rfl rfl rfl (by decide +kernel) ⟨(Nat.le_of_ble_eq_true rfl), (Nat.le_of_ble_eq_true rfl)⟩) ⟨fun a U g mk q => by obtain ⟨q0, q1, qK, qE⟩ := q; exact ⟨q0, q1, va_K.moved (u := U) (U := U.calling g mk a) (Vm.Alike.refl U.vm) qK, EVS.blind g mk a qE⟩, gH_recv hK hT hr_o0 shm_0 rfl, fun U hU hW => ⟨rfl, hU, va_K.moved hW.alike hK, hE.call hS hFc hU hW⟩⟩ rfl rfl hl.1 rfl (lv_room (Nat.le_of_ble_eq_true rfl)) dX12_readLine_188 ⟨(Nat.le_of_ble_eq_true rfl), (Nat.le_of_ble_eq_true rfl)⟩) hS (fun q _ h => hFc q h) hFc (fun r411 u t H locs ht hvm hw412 hB _ _ hS => ?_)
                      obtain ⟨u413, u414, u415, u416, u417⟩ := u
                      obtain ⟨hT, hF1, m418, m419, m420, m421⟩ := hB
                      rw [ht] at hT hF1 m418 m419 m420 m421
                      have m422 := (hF1.fld hr_o0 skm_0 (k := 13) (by decide) (by decide)).trans m402
                      have m424 := m404.kept (hF1.arr hg1 skm_11 (by decide))
                      have m425 := (el_kept (hF1.arr hg22 skm_20 (by decide))).trans m405
                      have m426 := (el_kept (hF1.arr hg39 skm_25 (by decide))).trans m406
                      have m427 := (el_kept (hF1.arr hg50 skm_26 (by decide))).trans m407
                      have m428 := (el_kept (hF1.arr hg62 skm_21 (by decide))).trans m408
                      have hF := hF.more hF1 (by decide)
                      try dsimp only at hw412
                      obtain ⟨h432, h433, h434, h435, hi436, hi437, hf438, hf439, hf440⟩ := hw412
                      refine lv_if_ne (tgt := 196) hx hb dX12_readLine_191 (by decide) (fun c441 => ?_) (fun c441 => ?_)
                      · have t442 : r411.toInt ≠ 0 := ti_ne c441 rfl (by decide)
                        have t443 : u417 u415.toNatClampNeg = (fun _ => 0) sv.toNatClampNeg + 1 := hi436 ((bit_of ⟨by omega, by omega⟩).resolve_left c441)
                        have t444 : u416.toInt = 0 := hi437 ((bit_of ⟨by omega, by omega⟩).resolve_left c441)
                        refine lv_aload_n hx hb dX12_readLine_196 rfl (lv_at hl 1 rfl) ?_
                        refine tw_get hx hb hts bF_X12 hown hK hT hr_o0 shm_0 rfl 25 (by decide) (ht_at hts 60 rfl) (fun _ h9 => h9) dX12_readLine_197 (fun v9 m445 h9 => ?_)
                        obtain ⟨rfl, hg446⟩ := h9 _ rfl
                        refine lv_iload_n hx hb dX12_readLine_200 rfl (lv_at hl 0 rfl) ?_
                        refine lv_aload_n hx hb dX12_readLine_201 rfl (lv_at hl 1 rfl) ?_
                        refine tw_getM (v := .int u415) hx hb hts bF_X12 hown hK hT hr_o0 shm_0 rfl 28 (by decide) (ht_at hts 59 rfl) (fun _ h9 => h9) m420 dX12_readLine_202 ?_
                        have t447 : ((x19.toNatClampNeg : Nat) : Int) = x19.toInt := tn_of (show x19.toInt = x19.toInt from rfl) (by omega)
                        have t448 : ((nl.toNatClampNeg : Nat) : Int) = nl.toInt := tn_of rfl (by omega)
                        refine tw_iast2 (Sg1 := (SHm q (wP wZ wN wH wB wC wL wK wU wV) PI im PM PT (lD (dS S0 sv.toInt u415.toInt u417) lS) (lD (pset dB nl.toNatClampNeg (fun y => y = sv.toInt)) lB) (lD (pset (pset dE nl.toNatClampNeg (fun y => y ≤ sv.toInt)) nl.toNatClampNeg (fun y => y ≤ u415.toInt)) lE) lN)) (i := x19) (x := u415) hx hb hK hT hG hS hg50 shm_26 rfl shm_26 shm_o26 (fun b9 h9 => hgu b9 25 h9) (vin_t (a := x19.toInt) rfl (by omega) (by omega)) (⟨_, rfl, lb_hv (n := nl.toNatClampNeg) (by omega) (by omega) (by have q8 := ti_all u415; omega) (Int.le_refl _)⟩) (fun k9 hk9 hne9 v9 hv9 he9 => by obtain ⟨x9, rfl, p9⟩ := he9; exact ⟨x9, rfl, lb_hm (n := nl.toNatClampNeg) hk9 (by omega) p9⟩) dX12_readLine_205 (fun H locs hT oq m449 oi hS => ?_)
                        have hF := hF.ast hg50 skm_26 oq (by decide)
                        have m450 := (el_kept (oq _ (gne hr_o0 hg50 (by decide)))).trans m422
                        have m451 := m424.kept (oq _ (gne hg1 hg50 (by decide)))
                        have m452 := (el_kept (oq _ (gne hg22 hg50 (by decide)))).trans m425
                        have m453 := (el_kept (oq _ (gne hg39 hg50 (by decide)))).trans m426
                        have m454 := (el_kept (oq _ (gne hg62 hg50 (by decide)))).trans m428
                        have m455 := (el_kept (oq _ (gne hr_o0 hg50 (by decide)))).trans m418
                        have m456 := (el_kept (oq _ (gne hr_o0 hg50 (by decide)))).trans m419
                        have m457 := (el_kept (oq _ (gne hr_o0 hg50 (by decide)))).trans m420
                        have m458 := (el_kept (oq _ (gne hr_o0 hg50 (by decide)))).trans m421
                        refine lv_iconst (v := 1) hx hb dX12_readLine_206 (by decide) ?_
                        exact W.zret (v := 1) hx hb hr (by decide) (fun t ht hW => ⟨⟨1, (u413, u414, u415, (dS S0 sv.toInt u415.toInt u417), (pset dB nl.toNatClampNeg (fun y => y = sv.toInt)), (pset (pset dE nl.toNatClampNeg (fun y => y ≤ sv.toInt)) nl.toNatClampNeg (fun y => y ≤ u415.toInt))), rfl, (by exact ⟨(by have q8 := ti_all u413; omega), (by have q8 := ti_all u414; omega), (by have q8 := ti_all u415; omega), (rg_t (a := 1) (by decide) (by omega) (by omega)), (fun _ => ⟨lw_next hlw hf439 (by omega), by omega⟩), (by omega), (by have := tn_of (show u5.toInt = u5.toInt from rfl) (by omega); have := tn_of (show u4.toInt = u4.toInt from rfl) (by omega); have := tn_of (show en.toInt = en.toInt from rfl) (by omega); have s9 := hf31; rw [← hf16] at s9; have l9 := so_k (t := (tx vt)) (n := N) (by omega) s9; rw [← hf15] at l9; have x9 : skp (tx vt) N u4.toNatClampNeg = xn (tx vt) N (skp (tx vt) N pt.toNatClampNeg) := (by have z9 := lk_x (t := (tx vt)) (n := N) (b := (skp (tx vt) N pt.toNatClampNeg)) (by omega); unfold xn; rw [z9, hf15, hf16]; rfl); exact Or.inr ⟨by omega, Or.inl ⟨by decide, Or.inr (Or.inr (Or.inr (Or.inr (Or.inr (⟨⟨by omega, by omega⟩, Or.inr ⟨_, (by have n9 := (nR_1 (h := 99999) (by decide) hf340 (by omega)); rw [x9] at n9; exact n9), (by have a9 := (hf383.resolve_right (fun h8 => by have := h8.2.1; omega)); have c9 := (hf440.resolve_right (fun h8 => by have := h8.1; omega)).2; rw [a9.2.2] at c9; exact Or.inr ⟨a9.1.trans (by decide), c9⟩)⟩⟩)))))⟩⟩)⟩), by (try dsimp only); rw [ht]; exact ⟨hT, hF, m455, m456, m457⟩⟩, hS.F ht⟩) hS.2.2 dX12_readLine_207
                      · have t459 : r411.toInt = 0 := ti_eq c441 rfl (by decide)
                        refine lv_iconst (v := 0) hx hb dX12_readLine_194 (by decide) ?_
                        exact W.zret (v := 0) hx hb hr (by decide) (fun t ht hW => ⟨⟨0, (u413, u414, u415, (dS S0 sv.toInt u415.toInt u417), (pset dB nl.toNatClampNeg (fun y => y = sv.toInt)), (pset dE nl.toNatClampNeg (fun y => y ≤ sv.toInt))), rfl, (by exact ⟨(by have q8 := ti_all u413; omega), (by have q8 := ti_all u414; omega), (by have q8 := ti_all u415; omega), (rg_t (a := 0) (by decide) (by omega) (by omega)), (fun h => absurd h (by decide)), (by omega), (by have := tn_of (show u5.toInt = u5.toInt from rfl) (by omega); have := tn_of (show u4.toInt = u4.toInt from rfl) (by omega); have := tn_of (show en.toInt = en.toInt from rfl) (by omega); have s9 := hf31; rw [← hf16] at s9; have l9 := so_k (t := (tx vt)) (n := N) (by omega) s9; rw [← hf15] at l9; have x9 : skp (tx vt) N u4.toNatClampNeg = xn (tx vt) N (skp (tx vt) N pt.toNatClampNeg) := (by have z9 := lk_x (t := (tx vt)) (n := N) (b := (skp (tx vt) N pt.toNatClampNeg)) (by omega); unfold xn; rw [z9, hf15, hf16]; rfl); exact Or.inr ⟨by omega, Or.inr ⟨by decide, Or.inr (Or.inr (Or.inr (Or.inr (Or.inr (⟨⟨by omega, by omega⟩, Or.inr ⟨_, (by have n9 := (nR_1 (h := 99999) (by decide) hf340 (by omega)); rw [x9] at n9; exact n9), (by have a9 := (hf383.resolve_right (fun h8 => by have := h8.2.1; omega)); have c9 := (hf440.resolve_left (fun h8 => by have := h8.1; omega)).2; rw [a9.2.2] at c9; exact Or.inr ⟨a9.1.trans (by decide), c9⟩)⟩⟩)))))⟩⟩)⟩), by (try dsimp only); rw [ht]; exact ⟨hT, hF, m418, m419, m420⟩⟩, hS.F ht⟩) hS.2.2 dX12_readLine_195
                  · have t460 : 6 < r23.toInt := ti_nle c360 rfl (by decide)
                    refine lv_iconst (v := 1) hx hb dX12_readLine_170 (by decide) ?_
                    exact W.zret (v := 1) hx hb hr (by decide) (fun t ht hW => ⟨⟨1, (u322, u323, sv, S0, (pset dB nl.toNatClampNeg (fun y => y = sv.toInt)), (pset dE nl.toNatClampNeg (fun y => y ≤ sv.toInt))), rfl, (by exact ⟨(by have q8 := ti_all u322; omega), (by have q8 := ti_all u323; omega), (by have q8 := ti_all sv; omega), (rg_t (a := 1) (by decide) (by omega) (by omega)), (fun _ => ⟨lw_next0 hlw, by omega⟩), (by omega), (by exfalso; omega)⟩), by (try dsimp only); rw [ht]; exact ⟨hT, hF, m348, m349, m343⟩⟩, hS.F ht⟩) hS.2.2 dX12_readLine_171
                · have t461 : r320.toInt < 0 := ti_nle c354 (by decide) rfl
                  refine lv_iconst (v := 0) hx hb dX12_readLine_157 (by decide) ?_
                  exact W.zret (v := 0) hx hb hr (by decide) (fun t ht hW => ⟨⟨0, (u322, u323, sv, S0, (pset dB nl.toNatClampNeg (fun y => y = sv.toInt)), (pset dE nl.toNatClampNeg (fun y => y ≤ sv.toInt))), rfl, (by exact ⟨(by have q8 := ti_all u322; omega), (by have q8 := ti_all u323; omega), (by have q8 := ti_all sv; omega), (rg_t (a := 0) (by decide) (by omega) (by omega)), (fun h => absurd h (by decide)), (by omega), (by have := tn_of (show u5.toInt = u5.toInt from rfl) (by omega); have := tn_of (show u4.toInt = u4.toInt from rfl) (by omega); have := tn_of (show en.toInt = en.toInt from rfl) (by omega); have s9 := hf31; rw [← hf16] at s9; have l9 := so_k (t := (tx vt)) (n := N) (by omega) s9; rw [← hf15] at l9; have x9 : skp (tx vt) N u4.toNatClampNeg = xn (tx vt) N (skp (tx vt) N pt.toNatClampNeg) := (by have z9 := lk_x (t := (tx vt)) (n := N) (b := (skp (tx vt) N pt.toNatClampNeg)) (by omega); unfold xn; rw [z9, hf15, hf16]; rfl); exact Or.inr ⟨by omega, Or.inr ⟨by decide, Or.inr (Or.inr (Or.inr (Or.inr (Or.inr (⟨⟨by omega, by omega⟩, Or.inl ⟨(by have n9 := (nR_0 (h := 99999) (by decide) hf340 (by omega) hf339); rw [x9] at n9; exact n9), rfl⟩⟩)))))⟩⟩)⟩), by (try dsimp only); rw [ht]; exact ⟨hT, hF, m348, m349, m343⟩⟩, hS.F ht⟩) hS.2.2 dX12_readLine_158
              · have t462 : r23.toInt = 9 := ti_eq c318 rfl (by decide)
                refine lv_bipush (v := 18) hx hb dX12_readLine_136 (by decide) ?_
                refine lv_goto (tgt := 144) hx hb dX12_readLine_138 (by decide) ?_
                have hFc := gA_free hG hA hS
                refine va_calli (va_runV (As := [.int 18]) (rest := [.int x19, .ref (q 20)]) ⟨hx, hb, hml, hown, hts⟩ (s_number l dC dI kA adK adV G H q wZ wN wH wB wC wL wK wU wV PI im PM PT (lD S0 lS) (lD (pset dB nl.toNatClampNeg (fun y => y = sv.toInt)) lB) (lD (pset dE nl.toNatClampNeg (fun y => y ≤ sv.toInt)) lE) lN o0 18 u4 en vt N hT hr_o0 m67 m64 (by have q8 := ti_all u4; omega) (by have q8 := ti_all en; omega) (by have := (show u4.toInt = u4.toInt from rfl); have := (show en.toInt = en.toInt from rfl); omega) hN m66 hgz hgn hgh hgb hgc hgi hgu) (cwV 1 hts (goodIn_app (goodIn_r _ [79, 80, 81, 10] rfl (by decide +kernel)) (goodIn_ca (goodIn_r _ [78, 2, 3, 4, 5, 6, 7, 8, 9, 10, 11, 12, 13, 14] rfl (by decide +kernel)) (bs_in _ _))) rfl rfl rfl (by decide +kernel) ⟨(Nat.le_of_ble_eq_true rfl), (Nat.le_of_ble_eq_true rfl)⟩) ⟨fun a U g mk q => by obtain ⟨q0, q1, qK, qE⟩ := q; exact ⟨q0, q1, va_K.moved (u := U) (U := U.calling g mk a) (Vm.Alike.refl U.vm) qK, EVS.blind g mk a qE⟩, gH_recv hK hT hr_o0 shm_0 rfl, fun U hU hW => ⟨rfl, hU, va_K.moved hW.alike hK, hE.call hS hFc hU hW⟩⟩ rfl rfl hl.1 rfl (lv_room (Nat.le_of_ble_eq_true rfl)) dX12_readLine_144 ⟨(Nat.le_of_ble_eq_true rfl), (Nat.le_of_ble_eq_true rfl)⟩) hS (fun q _ h => hFc q h) hFc (fun r463 u t H locs ht hvm hw464 hB _ _ hS => ?_)
                obtain ⟨u465, u466⟩ := u
                obtain ⟨hT, hF1, m467, m468⟩ := hB
                rw [ht] at hT hF1 m467 m468
                have m469 := (hF1.fld hr_o0 skm_0 (k := 13) (by decide) (by decide)).trans m64
                have m470 := (hF1.fld hr_o0 skm_0 (k := 28) (by decide) (by decide)).trans m65
                have m471 := m66.kept (hF1.arr hg1 skm_11 (by decide))
                have m474 := (el_kept (hF1.arr hg22 skm_20 (by decide))).trans m69
                have m475 := (el_kept (hF1.arr hg39 skm_25 (by decide))).trans m70
                have m476 := (el_kept (hF1.arr hg50 skm_26 (by decide))).trans m71
                have m477 := (el_kept (hF1.arr hg62 skm_21 (by decide))).trans m63
                have hF := hF.more hF1 (by decide)
                try dsimp only at hw464
                obtain ⟨h478, h479, h480, hf481, hf482, hf483⟩ := hw464
                refine tw_iast (i := x19) (x := r463) hx hb hK hT hG hS hg62 shm_21 rfl (vin_t (a := x19.toInt) rfl (by omega) (by omega)) (gi_all _) dX12_readLine_147 (fun H locs hT oq m484 oi hS => ?_)
                have hF := hF.ast hg62 skm_21 oq (by decide)
                have m485 := (el_kept (oq _ (gne hr_o0 hg62 (by decide)))).trans m469
                have m486 := (el_kept (oq _ (gne hr_o0 hg62 (by decide)))).trans m470
                have m487 := m471.kept (oq _ (gne hg1 hg62 (by decide)))
                have m488 := (el_kept (oq _ (gne hg22 hg62 (by decide)))).trans m474
                have m489 := (el_kept (oq _ (gne hg39 hg62 (by decide)))).trans m475
                have m490 := (el_kept (oq _ (gne hg50 hg62 (by decide)))).trans m476
                have m491 := (el_kept (oq _ (gne hr_o0 hg62 (by decide)))).trans m467
                have m492 := (el_kept (oq _ (gne hr_o0 hg62 (by decide)))).trans m468
                refine lv_aload_n hx hb dX12_readLine_148 rfl (lv_at hl 1 rfl) ?_
                refine tw_get hx hb hts bF_X12 hown hK hT hr_o0 shm_0 rfl 20 (by decide) (ht_at hts 61 rfl) (fun _ h9 => h9) dX12_readLine_149 (fun v9 m493 h9 => ?_)
                obtain ⟨rfl, hg494⟩ := h9 _ rfl
                refine lv_iload_n hx hb dX12_readLine_152 rfl (lv_at hl 0 rfl) ?_
                refine tw_iald (i := x19) hx hb hK hT hg62 shm_21 rfl (vin_t (a := x19.toInt) rfl (by omega) (by omega)) dX12_readLine_153 (fun v9 m495 h9 => ?_)
                obtain ⟨x496, rfl, gx496, kx496⟩ := h9
                obtain rfl : r463 = x496 := (el_same m495 m484 rfl).symm
                refine lv_if_ge (tgt := 159) hx hb dX12_readLine_154 (by decide) (fun c497 => ?_) (fun c497 => ?_)
                · have t498 : 0 ≤ r463.toInt := ti_le c497 (by decide) rfl
                  refine lv_aload_n hx hb dX12_readLine_159 rfl (lv_at hl 1 rfl) ?_
                  refine tw_get hx hb hts bF_X12 hown hK hT hr_o0 shm_0 rfl 19 (by decide) (ht_at hts 17 rfl) (fun _ h9 => h9) dX12_readLine_160 (fun v9 m499 h9 => ?_)
                  obtain ⟨rfl, hg500⟩ := h9 _ rfl
                  refine lv_iload_n hx hb dX12_readLine_163 rfl (lv_at hl 0 rfl) ?_
                  refine tw_iald (i := x19) hx hb hK hT hg22 shm_20 rfl (vin_t (a := x19.toInt) rfl (by omega) (by omega)) dX12_readLine_164 (fun v9 m501 h9 => ?_)
                  obtain ⟨x502, rfl, gx502, kx502⟩ := h9
                  obtain rfl : r23 = x502 := (el_same m501 m488 rfl).symm
                  refine lv_bipush (v := 6) hx hb dX12_readLine_165 (by decide) ?_
                  refine lv_icmp_le (tgt := 172) hx hb dX12_readLine_167 (by decide) (fun c503 => (by exfalso; have q9 : r23.toInt ≤ 6 := ti_le c503 rfl (by decide); omega)) (fun c503 => ?_)
                  have t504 : 6 < r23.toInt := ti_nle c503 rfl (by decide)
                  refine lv_iconst (v := 1) hx hb dX12_readLine_170 (by decide) ?_
                  exact W.zret (v := 1) hx hb hr (by decide) (fun t ht hW => ⟨⟨1, (u465, u466, sv, S0, (pset dB nl.toNatClampNeg (fun y => y = sv.toInt)), (pset dE nl.toNatClampNeg (fun y => y ≤ sv.toInt))), rfl, (by exact ⟨(by have q8 := ti_all u465; omega), (by have q8 := ti_all u466; omega), (by have q8 := ti_all sv; omega), (rg_t (a := 1) (by decide) (by omega) (by omega)), (fun _ => ⟨lw_next0 hlw, by omega⟩), (by omega), (by have := tn_of (show u5.toInt = u5.toInt from rfl) (by omega); have := tn_of (show u4.toInt = u4.toInt from rfl) (by omega); have := tn_of (show en.toInt = en.toInt from rfl) (by omega); have s9 := hf31; rw [← hf16] at s9; have l9 := so_k (t := (tx vt)) (n := N) (by omega) s9; rw [← hf15] at l9; have x9 : skp (tx vt) N u4.toNatClampNeg = xn (tx vt) N (skp (tx vt) N pt.toNatClampNeg) := (by have z9 := lk_x (t := (tx vt)) (n := N) (b := (skp (tx vt) N pt.toNatClampNeg)) (by omega); unfold xn; rw [z9, hf15, hf16]; rfl); exact Or.inr ⟨by omega, Or.inl ⟨by decide, Or.inr (Or.inr (Or.inr (Or.inl ⟨by omega, (by have n9 := (nR_1 (h := 18) (by decide) hf483 (by omega)); rw [x9] at n9; exact n9)⟩)))⟩⟩)⟩), by (try dsimp only); rw [ht]; exact ⟨hT, hF, m491, m492, m486⟩⟩, hS.F ht⟩) hS.2.2 dX12_readLine_171
                · have t505 : r463.toInt < 0 := ti_nle c497 (by decide) rfl
                  refine lv_iconst (v := 0) hx hb dX12_readLine_157 (by decide) ?_
                  exact W.zret (v := 0) hx hb hr (by decide) (fun t ht hW => ⟨⟨0, (u465, u466, sv, S0, (pset dB nl.toNatClampNeg (fun y => y = sv.toInt)), (pset dE nl.toNatClampNeg (fun y => y ≤ sv.toInt))), rfl, (by exact ⟨(by have q8 := ti_all u465; omega), (by have q8 := ti_all u466; omega), (by have q8 := ti_all sv; omega), (rg_t (a := 0) (by decide) (by omega) (by omega)), (fun h => absurd h (by decide)), (by omega), (by have := tn_of (show u5.toInt = u5.toInt from rfl) (by omega); have := tn_of (show u4.toInt = u4.toInt from rfl) (by omega); have := tn_of (show en.toInt = en.toInt from rfl) (by omega); have s9 := hf31; rw [← hf16] at s9; have l9 := so_k (t := (tx vt)) (n := N) (by omega) s9; rw [← hf15] at l9; have x9 : skp (tx vt) N u4.toNatClampNeg = xn (tx vt) N (skp (tx vt) N pt.toNatClampNeg) := (by have z9 := lk_x (t := (tx vt)) (n := N) (b := (skp (tx vt) N pt.toNatClampNeg)) (by omega); unfold xn; rw [z9, hf15, hf16]; rfl); exact Or.inr ⟨by omega, Or.inr ⟨by decide, Or.inr (Or.inr (Or.inr (Or.inl ⟨by omega, (by have n9 := (nR_0 (h := 18) (by decide) hf483 (by omega) hf482); rw [x9] at n9; exact n9)⟩)))⟩⟩)⟩), by (try dsimp only); rw [ht]; exact ⟨hT, hF, m491, m492, m486⟩⟩, hS.F ht⟩) hS.2.2 dX12_readLine_158
            · have t506 : r23.toInt = 8 := ti_eq c312 rfl (by decide)
              refine lv_bipush (v := 100) hx hb dX12_readLine_120 (by decide) ?_
              refine lv_goto (tgt := 144) hx hb dX12_readLine_122 (by decide) ?_
              have hFc := gA_free hG hA hS
              refine va_calli (va_runV (As := [.int 100]) (rest := [.int x19, .ref (q 20)]) ⟨hx, hb, hml, hown, hts⟩ (s_number l dC dI kA adK adV G H q wZ wN wH wB wC wL wK wU wV PI im PM PT (lD S0 lS) (lD (pset dB nl.toNatClampNeg (fun y => y = sv.toInt)) lB) (lD (pset dE nl.toNatClampNeg (fun y => y ≤ sv.toInt)) lE) lN o0 100 u4 en vt N hT hr_o0 m67 m64 (by have q8 := ti_all u4; omega) (by have q8 := ti_all en; omega) (by have := (show u4.toInt = u4.toInt from rfl); have := (show en.toInt = en.toInt from rfl); omega) hN m66 hgz hgn hgh hgb hgc hgi hgu) (cwV 1 hts (goodIn_app (goodIn_r _ [79, 80, 81, 10] rfl (by decide +kernel)) (goodIn_ca (goodIn_r _ [78, 2, 3, 4, 5, 6, 7, 8, 9, 10, 11, 12, 13, 14] rfl (by decide +kernel)) (bs_in _ _))) rfl rfl rfl (by decide +kernel) ⟨(Nat.le_of_ble_eq_true rfl), (Nat.le_of_ble_eq_true rfl)⟩) ⟨fun a U g mk q => by obtain ⟨q0, q1, qK, qE⟩ := q; exact ⟨q0, q1, va_K.moved (u := U) (U := U.calling g mk a) (Vm.Alike.refl U.vm) qK, EVS.blind g mk a qE⟩, gH_recv hK hT hr_o0 shm_0 rfl, fun U hU hW => ⟨rfl, hU, va_K.moved hW.alike hK, hE.call hS hFc hU hW⟩⟩ rfl rfl hl.1 rfl (lv_room (Nat.le_of_ble_eq_true rfl)) dX12_readLine_144 ⟨(Nat.le_of_ble_eq_true rfl), (Nat.le_of_ble_eq_true rfl)⟩) hS (fun q _ h => hFc q h) hFc (fun r507 u t H locs ht hvm hw508 hB _ _ hS => ?_)
              obtain ⟨u509, u510⟩ := u
              obtain ⟨hT, hF1, m511, m512⟩ := hB
              rw [ht] at hT hF1 m511 m512
              have m513 := (hF1.fld hr_o0 skm_0 (k := 13) (by decide) (by decide)).trans m64
              have m514 := (hF1.fld hr_o0 skm_0 (k := 28) (by decide) (by decide)).trans m65
              have m515 := m66.kept (hF1.arr hg1 skm_11 (by decide))
              have m518 := (el_kept (hF1.arr hg22 skm_20 (by decide))).trans m69
              have m519 := (el_kept (hF1.arr hg39 skm_25 (by decide))).trans m70
              have m520 := (el_kept (hF1.arr hg50 skm_26 (by decide))).trans m71
              have m521 := (el_kept (hF1.arr hg62 skm_21 (by decide))).trans m63
              have hF := hF.more hF1 (by decide)
              try dsimp only at hw508
              obtain ⟨h522, h523, h524, hf525, hf526, hf527⟩ := hw508
              refine tw_iast (i := x19) (x := r507) hx hb hK hT hG hS hg62 shm_21 rfl (vin_t (a := x19.toInt) rfl (by omega) (by omega)) (gi_all _) dX12_readLine_147 (fun H locs hT oq m528 oi hS => ?_)
              have hF := hF.ast hg62 skm_21 oq (by decide)
              have m529 := (el_kept (oq _ (gne hr_o0 hg62 (by decide)))).trans m513
              have m530 := (el_kept (oq _ (gne hr_o0 hg62 (by decide)))).trans m514
              have m531 := m515.kept (oq _ (gne hg1 hg62 (by decide)))
              have m532 := (el_kept (oq _ (gne hg22 hg62 (by decide)))).trans m518
              have m533 := (el_kept (oq _ (gne hg39 hg62 (by decide)))).trans m519
              have m534 := (el_kept (oq _ (gne hg50 hg62 (by decide)))).trans m520
              have m535 := (el_kept (oq _ (gne hr_o0 hg62 (by decide)))).trans m511
              have m536 := (el_kept (oq _ (gne hr_o0 hg62 (by decide)))).trans m512
              refine lv_aload_n hx hb dX12_readLine_148 rfl (lv_at hl 1 rfl) ?_
              refine tw_get hx hb hts bF_X12 hown hK hT hr_o0 shm_0 rfl 20 (by decide) (ht_at hts 61 rfl) (fun _ h9 => h9) dX12_readLine_149 (fun v9 m537 h9 => ?_)
              obtain ⟨rfl, hg538⟩ := h9 _ rfl
              refine lv_iload_n hx hb dX12_readLine_152 rfl (lv_at hl 0 rfl) ?_
              refine tw_iald (i := x19) hx hb hK hT hg62 shm_21 rfl (vin_t (a := x19.toInt) rfl (by omega) (by omega)) dX12_readLine_153 (fun v9 m539 h9 => ?_)
              obtain ⟨x540, rfl, gx540, kx540⟩ := h9
              obtain rfl : r507 = x540 := (el_same m539 m528 rfl).symm
              refine lv_if_ge (tgt := 159) hx hb dX12_readLine_154 (by decide) (fun c541 => ?_) (fun c541 => ?_)
              · have t542 : 0 ≤ r507.toInt := ti_le c541 (by decide) rfl
                refine lv_aload_n hx hb dX12_readLine_159 rfl (lv_at hl 1 rfl) ?_
                refine tw_get hx hb hts bF_X12 hown hK hT hr_o0 shm_0 rfl 19 (by decide) (ht_at hts 17 rfl) (fun _ h9 => h9) dX12_readLine_160 (fun v9 m543 h9 => ?_)
                obtain ⟨rfl, hg544⟩ := h9 _ rfl
                refine lv_iload_n hx hb dX12_readLine_163 rfl (lv_at hl 0 rfl) ?_
                refine tw_iald (i := x19) hx hb hK hT hg22 shm_20 rfl (vin_t (a := x19.toInt) rfl (by omega) (by omega)) dX12_readLine_164 (fun v9 m545 h9 => ?_)
                obtain ⟨x546, rfl, gx546, kx546⟩ := h9
                obtain rfl : r23 = x546 := (el_same m545 m532 rfl).symm
                refine lv_bipush (v := 6) hx hb dX12_readLine_165 (by decide) ?_
                refine lv_icmp_le (tgt := 172) hx hb dX12_readLine_167 (by decide) (fun c547 => (by exfalso; have q9 : r23.toInt ≤ 6 := ti_le c547 rfl (by decide); omega)) (fun c547 => ?_)
                have t548 : 6 < r23.toInt := ti_nle c547 rfl (by decide)
                refine lv_iconst (v := 1) hx hb dX12_readLine_170 (by decide) ?_
                exact W.zret (v := 1) hx hb hr (by decide) (fun t ht hW => ⟨⟨1, (u509, u510, sv, S0, (pset dB nl.toNatClampNeg (fun y => y = sv.toInt)), (pset dE nl.toNatClampNeg (fun y => y ≤ sv.toInt))), rfl, (by exact ⟨(by have q8 := ti_all u509; omega), (by have q8 := ti_all u510; omega), (by have q8 := ti_all sv; omega), (rg_t (a := 1) (by decide) (by omega) (by omega)), (fun _ => ⟨lw_next0 hlw, by omega⟩), (by omega), (by have := tn_of (show u5.toInt = u5.toInt from rfl) (by omega); have := tn_of (show u4.toInt = u4.toInt from rfl) (by omega); have := tn_of (show en.toInt = en.toInt from rfl) (by omega); have s9 := hf31; rw [← hf16] at s9; have l9 := so_k (t := (tx vt)) (n := N) (by omega) s9; rw [← hf15] at l9; have x9 : skp (tx vt) N u4.toNatClampNeg = xn (tx vt) N (skp (tx vt) N pt.toNatClampNeg) := (by have z9 := lk_x (t := (tx vt)) (n := N) (b := (skp (tx vt) N pt.toNatClampNeg)) (by omega); unfold xn; rw [z9, hf15, hf16]; rfl); exact Or.inr ⟨by omega, Or.inl ⟨by decide, Or.inr (Or.inr (Or.inl ⟨by omega, (by have n9 := (nR_1 (h := 100) (by decide) hf527 (by omega)); rw [x9] at n9; exact n9)⟩))⟩⟩)⟩), by (try dsimp only); rw [ht]; exact ⟨hT, hF, m535, m536, m530⟩⟩, hS.F ht⟩) hS.2.2 dX12_readLine_171
              · have t549 : r507.toInt < 0 := ti_nle c541 (by decide) rfl
                refine lv_iconst (v := 0) hx hb dX12_readLine_157 (by decide) ?_
                exact W.zret (v := 0) hx hb hr (by decide) (fun t ht hW => ⟨⟨0, (u509, u510, sv, S0, (pset dB nl.toNatClampNeg (fun y => y = sv.toInt)), (pset dE nl.toNatClampNeg (fun y => y ≤ sv.toInt))), rfl, (by exact ⟨(by have q8 := ti_all u509; omega), (by have q8 := ti_all u510; omega), (by have q8 := ti_all sv; omega), (rg_t (a := 0) (by decide) (by omega) (by omega)), (fun h => absurd h (by decide)), (by omega), (by have := tn_of (show u5.toInt = u5.toInt from rfl) (by omega); have := tn_of (show u4.toInt = u4.toInt from rfl) (by omega); have := tn_of (show en.toInt = en.toInt from rfl) (by omega); have s9 := hf31; rw [← hf16] at s9; have l9 := so_k (t := (tx vt)) (n := N) (by omega) s9; rw [← hf15] at l9; have x9 : skp (tx vt) N u4.toNatClampNeg = xn (tx vt) N (skp (tx vt) N pt.toNatClampNeg) := (by have z9 := lk_x (t := (tx vt)) (n := N) (b := (skp (tx vt) N pt.toNatClampNeg)) (by omega); unfold xn; rw [z9, hf15, hf16]; rfl); exact Or.inr ⟨by omega, Or.inr ⟨by decide, Or.inr (Or.inr (Or.inl ⟨by omega, (by have n9 := (nR_0 (h := 100) (by decide) hf527 (by omega) hf526); rw [x9] at n9; exact n9)⟩))⟩⟩)⟩), by (try dsimp only); rw [ht]; exact ⟨hT, hF, m535, m536, m530⟩⟩, hS.F ht⟩) hS.2.2 dX12_readLine_158
      · have t550 : r23.toInt = 7 := ti_eq c82 rfl (by decide)
        refine lv_aload_n hx hb dX12_readLine_76 rfl (lv_at hl 1 rfl) ?_
        refine lv_iload_n hx hb dX12_readLine_77 rfl (lv_at hl 0 rfl) ?_
        have hFc := gA_free hG hA hS
        refine va_calli (va_runV (As := [.int x19]) (rest := []) ⟨hx, hb, hml, hown, hts⟩ (s_readLevel l dC dI kA adK adV G H q wZ wN wH wB wC wL wK wU wV PI im PM PT (lD S0 lS) (lD (pset dB nl.toNatClampNeg (fun y => y = sv.toInt)) lB) (lD (pset dE nl.toNatClampNeg (fun y => y ≤ sv.toInt)) lE) lN o0 x19 u4 en vt N hT hr_o0 m67 m64 (by have q8 := ti_all u4; omega) (by have q8 := ti_all en; omega) (by have := (show u4.toInt = u4.toInt from rfl); have := (show en.toInt = en.toInt from rfl); omega) hN (by have q8 := ti_all x19; omega) m66 hgz hgn hgh hgb hgc hgi hgu) (cwV 1 hts (goodIn_app (goodIn_r _ [110, 111, 112, 10] rfl (by decide +kernel)) (goodIn_ca (goodIn_r _ [106, 62, 78, 2, 3, 4, 5, 6, 7, 8, 9, 10, 11, 12, 13, 14, 79, 80, 81, 107, 1, 15, 16, 17, 20, 21, 22, 23, 24, 25, 26, 27, 28, 29, 30, 31, 32, 33, 34, 35, 36, 37, 38, 39, 40, 41, 42, 43, 44, 45, 46, 47, 48, 49, 50, 51, 52, 53, 54, 55, 108, 109] rfl (by decide +kernel)) (bs_in _ _))) rfl rfl rfl (by decide +kernel) ⟨(Nat.le_of_ble_eq_true rfl), (Nat.le_of_ble_eq_true rfl)⟩) ⟨fun a U g mk q => by obtain ⟨q0, q1, qK, qE⟩ := q; exact ⟨q0, q1, va_K.moved (u := U) (U := U.calling g mk a) (Vm.Alike.refl U.vm) qK, EVS.blind g mk a qE⟩, gH_recv hK hT hr_o0 shm_0 rfl, fun U hU hW => ⟨rfl, hU, va_K.moved hW.alike hK, hE.call hS hFc hU hW⟩⟩ rfl rfl hl.1 rfl (lv_room (Nat.le_of_ble_eq_true rfl)) dX12_readLine_78 ⟨(Nat.le_of_ble_eq_true rfl), (Nat.le_of_ble_eq_true rfl)⟩) hS (fun q _ h => hFc q h) hFc (fun r551 u t H locs ht hvm hw552 hB _ _ hS => ?_)
        obtain ⟨u553, u554⟩ := u
        obtain ⟨hT, hF1, m555, m556⟩ := hB
        rw [ht] at hT hF1 m555 m556
        have m557 := (hF1.fld hr_o0 skm_0 (k := 13) (by decide) (by decide)).trans m64
        have m558 := (hF1.fld hr_o0 skm_0 (k := 28) (by decide) (by decide)).trans m65
        have m559 := m66.kept (hF1.arr hg1 skm_11 (by decide))
        have m562 := (el_kept (hF1.arr hg22 skm_20 (by decide))).trans m69
        have m563 := (el_kept (hF1.arr hg39 skm_25 (by decide))).trans m70
        have m564 := (el_kept (hF1.arr hg50 skm_26 (by decide))).trans m71
        have hF := hF.more hF1 (by decide)
        try dsimp only at hw552
        obtain ⟨h566, h567, h568, hf569, hf570⟩ := hw552
        exact W.zret (v := r551) hx hb hr (nar_b (by have q8 := ti_all r551; omega)) (fun t ht hW => ⟨⟨r551, (u553, u554, sv, S0, (pset dB nl.toNatClampNeg (fun y => y = sv.toInt)), (pset dE nl.toNatClampNeg (fun y => y ≤ sv.toInt))), rfl, (by exact ⟨(by have q8 := ti_all u553; omega), (by have q8 := ti_all u554; omega), (by have q8 := ti_all sv; omega), (by have q8 := ti_all r551; omega), (fun _ => ⟨lw_next0 hlw, by omega⟩), (by omega), (by have := tn_of (show u5.toInt = u5.toInt from rfl) (by omega); have := tn_of (show u4.toInt = u4.toInt from rfl) (by omega); have := tn_of (show en.toInt = en.toInt from rfl) (by omega); have s9 := hf31; rw [← hf16] at s9; have l9 := so_k (t := (tx vt)) (n := N) (by omega) s9; rw [← hf15] at l9; have x9 : skp (tx vt) N u4.toNatClampNeg = xn (tx vt) N (skp (tx vt) N pt.toNatClampNeg) := (by have z9 := lk_x (t := (tx vt)) (n := N) (b := (skp (tx vt) N pt.toNatClampNeg)) (by omega); unfold xn; rw [z9, hf15, hf16]; rfl); rcases hf570 with ⟨y1, y2⟩ | ⟨y1, y2⟩ <;> rw [x9] at y2; (exact Or.inr ⟨by omega, Or.inl ⟨y1, Or.inr (Or.inl ⟨by omega, y2⟩)⟩⟩); exact Or.inr ⟨by omega, Or.inr ⟨y1, Or.inr (Or.inl ⟨by omega, y2⟩)⟩⟩)⟩), by (try dsimp only); rw [ht]; exact ⟨hT, hF, m555, m556, m558⟩⟩, hS.F ht⟩) hS.2.2 dX12_readLine_81
    · have t571 : r23.toInt < 0 := ti_nle c76 (by decide) rfl
      refine lv_iconst (v := 0) hx hb dX12_readLine_63 (by decide) ?_
      exact W.zret (v := 0) hx hb hr (by decide) (fun t ht hW => ⟨⟨0, (u4, u5, sv, S0, (pset dB nl.toNatClampNeg (fun y => y = sv.toInt)), (pset dE nl.toNatClampNeg (fun y => y ≤ sv.toInt))), rfl, (by exact ⟨(by have q8 := ti_all u4; omega), (by have q8 := ti_all u5; omega), (by have q8 := ti_all sv; omega), (rg_t (a := 0) (by decide) (by omega) (by omega)), (fun h => absurd h (by decide)), (by omega), (by have := tn_of (show u5.toInt = u5.toInt from rfl) (by omega); have := tn_of (show u4.toInt = u4.toInt from rfl) (by omega); have := tn_of (show en.toInt = en.toInt from rfl) (by omega); have s9 := hf31; rw [← hf16] at s9; have l9 := so_k (t := (tx vt)) (n := N) (by omega) s9; rw [← hf15] at l9; exact Or.inr ⟨by omega, Or.inr ⟨by decide, Or.inl ⟨by omega, rfl, hf15.symm⟩⟩⟩)⟩), by (try dsimp only); rw [ht]; exact ⟨hT, hF, m67, m68, m65⟩⟩, hS.F ht⟩) hS.2.2 dX12_readLine_64
  · have t572 : nl.toInt = 20 := ti_eq c17 rfl (by decide)
    refine lv_iconst (v := 0) hx hb dX12_readLine_10 (by decide) ?_
    exact W.zret (v := 0) hx hb hr (by decide) (fun t ht hW => ⟨⟨0, (u4, u5, sv, S0, dB, dE), rfl, (by exact ⟨(by have q8 := ti_all u4; omega), (by have q8 := ti_all u5; omega), (by have q8 := ti_all sv; omega), (rg_t (a := 0) (by decide) (by omega) (by omega)), (fun h => absurd h (by decide)), (by omega), (Or.inl ⟨by omega, by decide, hf15⟩)⟩), by (try dsimp only); rw [ht]; exact ⟨hT, hF, m6, m7, m10⟩⟩, hS.F ht⟩) hS.2.2 dX12_readLine_11
