def w_s_reads1 : List Cond := .code yX12_reads cX12_reads 4 (some .int) :: (HAppend.hAppend (α := List Cond) (β := List Cond) (γ := List Cond) [.code yX12_readLaw cX12_readLaw 2 (some .int), .fieldLink RX12 332 "SeaLandModel" "taped" "I", .fieldLink RX12 338 "SeaLandModel" "end" "I", .fieldLink RX12 335 "SeaLandModel" "point" "I", .fieldLink RX12 367 "SeaLandModel" "steps" "I", .code yX12_blanks cX12_blanks 1 none, .code yX12_isAt cX12_isAt 3 (some .boolean), .fieldLink RX12 31 "SeaLandModel" "tape" "[B", .methodLink RX12 341 yX12_isAt, .instanceMethod yX12_isAt, .selects RX12 yX12_isAt yX12_isAt, .initialized RX12, .fieldLink RX12 345 "SeaLandModel" "begin" "I", .methodLink RX12 348 yX12_blanks, .instanceMethod yX12_blanks, .selects RX12 yX12_blanks yX12_blanks, .code yX12_readLine cX12_readLine 3 (some .boolean), .code yX12_word cX12_word 1 none, .methodLink RX12 360 yX12_word, .instanceMethod yX12_word, .selects RX12 yX12_word yX12_word, .fieldLink RX12 45 "SeaLandModel" "sort" "[I", .code yX12_sortOf cX12_sortOf 1 (some .int), .code yX12_isWord cX12_isWord 4 (some .boolean), .code yJ0_length_8abf5 cJ0_length_8abf5 1 (some .int), .fieldLink RJ0 9 "java/lang/String" "value" "[B", .code yJ0_coder_7d493 cJ0_coder_7d493 1 (some .byte), .fieldLink RJ0 38 "java/lang/String" "COMPACT_STRINGS" "Z", .fieldLink RJ0 15 "java/lang/String" "coder" "B", .methodLink RJ0 335 yJ0_coder_7d493, .instanceMethod yJ0_coder_7d493, .selects RJ0 yJ0_coder_7d493 yJ0_coder_7d493, .initialized RJ0, .methodLink RX12 351 yJ0_length_8abf5, .instanceMethod yJ0_length_8abf5, .selects RJ0 yJ0_length_8abf5 yJ0_length_8abf5, .code yJ0_charAt_5068e cJ0_charAt_5068e 2 (some .char), .code yJ0_isLatin1_aae02 cJ0_isLatin1_aae02 1 (some .boolean), .methodLink RJ0 492 yJ0_isLatin1_aae02, .instanceMethod yJ0_isLatin1_aae02, .selects RJ0 yJ0_isLatin1_aae02 yJ0_isLatin1_aae02, .code yJ1_charAt_3b067 cJ1_charAt_3b067 2 (some .char), .code yJ0_checkIndex_df160 cJ0_checkIndex_df160 2 none, .fieldLink RJ0 1053 "jdk/internal/util/Preconditions" "SIOOBE_FORMATTER" "Ljava/util/function/BiFunction;", .code yJ3_checkIndex_8e157 cJ3_checkIndex_8e157 3 (some .int), .methodLink RJ0 1059 yJ3_checkIndex_8e157, .static yJ3_checkIndex_8e157, .initialized RJ3, .methodLink RJ1 9 yJ0_checkIndex_df160, .static yJ0_checkIndex_df160, .methodLink RJ0 495 yJ1_charAt_3b067, .static yJ1_charAt_3b067, .initialized RJ1, .methodLink RX12 356 yJ0_charAt_5068e, .instanceMethod yJ0_charAt_5068e, .selects RJ0 yJ0_charAt_5068e yJ0_charAt_5068e, .methodLink RX12 363 yX12_isWord, .instanceMethod yX12_isWord, .selects RX12 yX12_isWord yX12_isWord, .methodLink RX12 443 yX12_sortOf, .instanceMethod yX12_sortOf, .selects RX12 yX12_sortOf yX12_sortOf, .fieldLink RX12 60 "SeaLandModel" "begins" "[I", .fieldLink RX12 63 "SeaLandModel" "ends" "[I", .fieldLink RX12 48 "SeaLandModel" "told" "[I", .code yX12_passes cX12_passes 2 (some .boolean), .methodLink RX12 409 yX12_passes, .instanceMethod yX12_passes, .selects RX12 yX12_passes yX12_passes, .fieldLink RX12 401 "SeaLandModel" "deep" "I", .code yX12_readCond cX12_readCond 1 (some .boolean), .code yX12_readAllOf cX12_readAllOf 1 (some .boolean), .code yX12_readAtom cX12_readAtom 2 (some .boolean), .code yX12_sign cX12_sign 2 (some .boolean), .methodLink RX12 398 yX12_sign, .instanceMethod yX12_sign, .selects RX12 yX12_sign yX12_sign, .code yX12_readSum cX12_readSum 1 (some .boolean), .code yX12_readPart cX12_readPart 2 (some .boolean), .constant RX12 390 99999, .code yX12_number cX12_number 3 (some .int), .methodLink RX12 391 yX12_number, .instanceMethod yX12_number, .selects RX12 yX12_number yX12_number, .code yX12_adds cX12_adds 3 none, .fieldLink RX12 66 "SeaLandModel" "step" "[I", .fieldLink RX12 69 "SeaLandModel" "than" "[I", .methodLink RX12 387 yX12_adds, .instanceMethod yX12_adds, .selects RX12 yX12_adds yX12_adds, .code yX12_fact cX12_fact 1 (some (.object "java/lang/String")), .methodLink RX12 383 yX12_fact, .static yX12_fact, .methodLink RX12 394 yX12_readPart, .instanceMethod yX12_readPart, .selects RX12 yX12_readPart yX12_readPart, .methodLink RX12 415 yX12_readSum, .instanceMethod yX12_readSum, .selects RX12 yX12_readSum yX12_readSum, .methodLink RX12 412 yX12_readAtom, .instanceMethod yX12_readAtom, .selects RX12 yX12_readAtom yX12_readAtom, .methodLink RX12 420 yX12_readAllOf, .instanceMethod yX12_readAllOf, .selects RX12 yX12_readAllOf yX12_readAllOf, .methodLink RX12 404 yX12_readCond, .instanceMethod yX12_readCond, .selects RX12 yX12_readCond yX12_readCond, .code yX12_readLevel cX12_readLevel 2 (some .boolean), .fieldLink RX12 51 "SeaLandModel" "winter" "[I", .fieldLink RX12 54 "SeaLandModel" "from" "[I", .fieldLink RX12 57 "SeaLandModel" "to" "[I", .methodLink RX12 446 yX12_readLevel, .instanceMethod yX12_readLevel, .selects RX12 yX12_readLevel yX12_readLevel, .methodLink RX12 451 yX12_readLine, .instanceMethod yX12_readLine, .selects RX12 yX12_readLine yX12_readLine, .methodLink RX12 454 yX12_readLaw, .instanceMethod yX12_readLaw, .selects RX12 yX12_readLaw yX12_readLaw, .fieldLink RX12 35 "SeaLandModel" "faultAt" "I", .code yX12_throwsIf cX12_throwsIf 3 (some .boolean), .fieldLink RX12 194 "SeaLandModel" "thrown" "I", .methodLink RX12 224 yX12_throwsIf, .instanceMethod yX12_throwsIf, .selects RX12 yX12_throwsIf yX12_throwsIf, .fieldLink RX12 42 "SeaLandModel" "lines" "[I", .code yX12_copies cX12_copies 4 none, .methodLink RX12 457 yX12_copies, .instanceMethod yX12_copies, .selects RX12 yX12_copies yX12_copies] bs)
set_option maxHeartbeats 4000000 in
set_option maxRecDepth 100000 in
theorem s_reads1 (l : Launch) (dC : Nat → ClassId) (dI : Nat → Nat → Nat) (kA : Nat → ClassId) (adK adV : Nat → Nat) (G : gT) (H0 : Heap) (q : Nat → Nat) (wZ wN : Nat → Int) (wH wB wC : Int) (wL wK : Nat → Prop) (wU wV : Nat → Nat) (PI : Nat → Int → Prop) (im : Int) (PM PT : Nat → Int → Prop) (lS lB lE : Nat → Nat → Int → Prop) (lN : Nat → Int) (o0 : Nat) (mn : Int32) (tn : Int32) (t0 : Int32) (vt : Nat → Int32) (vO : Nat → Int32) (vB : Nat → Int32) (vX : Nat → Int32) (vS : Nat → Int32) (vN : Nat → Int32) (vL : Nat → Int32) (N : Nat) (hT : gH (dC, dI) kA (SHm q (wP wZ wN wH wB wC wL wK wU wV) PI im PM PT lS lB lE lN) G H0) (hr_o0 : G o0 = some 0) (hm_tn : el H0 o0 (dI 15 11) = some (.int tn)) (hm_t0 : el H0 o0 (dI 15 0) = some (.int t0)) (hq0 : 0 ≤ mn.toInt ∧ mn.toInt ≤ 1) (hq1 : 0 ≤ tn.toInt ∧ tn.toInt ≤ 400) (hN : tn.toInt = ((N : Nat) : Int)) (hlaw : lawsOK lS lB lE lN) (hc_vt : ct H0 (q 10) 400 vt) (hc_vO : ct H0 (q 19) 60 vO) (hc_vB : ct H0 (q 24) 60 vB) (hc_vX : ct H0 (q 25) 60 vX) (hc_vS : ct H0 (q 26) 1200 vS) (hc_vN : ct H0 (q 27) 1200 vN) (hc_vL : ct H0 (q 18) 3 vL) (hgz : ∀ i, 0 ≤ wZ i) (hgn : ∀ i, 6500000 ≤ wN i ∧ wN i ≤ 20200000) (hgh : 0 ≤ wH ∧ wH ≤ 40000) (hgb : 0 ≤ wB ∧ wB ≤ 3850000) (hgc : 0 ≤ wC ∧ wC ≤ 30) (hgi : 0 ≤ im ∧ im ≤ 1) (hgu : ∀ a t, G a = some (t + 1) → a = q t) : Met l yX12_reads w_s_reads1 ({ frames := 30, cells := 0, slots := 0, locals := 619 }) (va_Pc [.ref o0, .int 1, .int mn] (fun U => U.heap = H0 ∧ va_K (dC, dI) vwCl (tyl kA) U ∧ EVS adK adV (gA G H0.size) U U.heap)) (va_Qi (fun (r : Int32) (u : Int32 × Int32 × Int32 × (Nat → Nat → Int → Prop) × (Nat → Nat → Int → Prop) × (Nat → Nat → Int → Prop) × (Nat → Int) × (Nat → Int32) × (Nat → Int32) × (Nat → Int32) × (Nat → Int32) × (Nat → Int32) × (Nat → Int32)) => match u with | (t1, tp1, f1, lS1, lB1, lE1, lN1, vO1, vB1, vX1, vS1, vN1, vL1) => (0 ≤ r.toInt ∧ r.toInt ≤ 20) ∧ (lawsOK lS1 lB1 lE1 lN1) ∧ ((f1.toInt = (laE (tx vt) N).2 ∧ tp1.toInt = 0) ∧ ((0 ≤ (laE (tx vt) N).1 ∧ (laE (tx vt) N).2 = -1) ∨ ((laE (tx vt) N).1 = -1 ∧ 0 ≤ (laE (tx vt) N).2)) ∧ (((laE (tx vt) N).1 = -1 ∧ t1.toInt = 1) ∨ (0 ≤ (laE (tx vt) N).1 ∧ mn.toInt = 1 ∧ t1.toInt = 2) ∨ (0 ≤ (laE (tx vt) N).1 ∧ mn.toInt = 0 ∧ t1.toInt = t0.toInt ∧ r.toInt = (laE (tx vt) N).1))) ∧ (zKe vL vO vB vX vS vN vL1 vO1 vB1 vX1 vS1 vN1)) (fun (u : Int32 × Int32 × Int32 × (Nat → Nat → Int → Prop) × (Nat → Nat → Int → Prop) × (Nat → Nat → Int → Prop) × (Nat → Int) × (Nat → Int32) × (Nat → Int32) × (Nat → Int32) × (Nat → Int32) × (Nat → Int32) × (Nat → Int32)) (t : State) => match u with | (t1, tp1, f1, lS1, lB1, lE1, lN1, vO1, vB1, vX1, vS1, vN1, vL1) => gH (dC, dI) kA (SHm q (wP wZ wN wH wB wC wL wK wU wV) PI im PM PT lS1 lB1 lE1 lN1) G t.heap ∧ gF (dC, dI) SKm G ([(0, 0), (0, 11), (0, 12), (0, 13), (0, 14), (0, 15), (0, 16), (0, 28), (19, 0), (20, 0), (21, 0), (22, 0), (23, 0), (24, 0), (25, 0), (26, 0), (27, 0), (28, 0)] : List (Nat × Nat)) H0 t.heap ∧ el t.heap o0 (dI 15 0) = some (.int t1) ∧ el t.heap o0 (dI 15 11) = some (.int tp1) ∧ el t.heap o0 (dI 15 16) = some (.int f1) ∧ ct t.heap (q 19) 60 vO1 ∧ ct t.heap (q 24) 60 vB1 ∧ ct t.heap (q 25) 60 vX1 ∧ ct t.heap (q 26) 1200 vS1 ∧ ct t.heap (q 27) 1200 vN1 ∧ ct t.heap (q 18) 3 vL1) (gA G H0.size)) 0 0 (gA G H0.size) := by
  refine Met.ofW (cc := cX12_reads) (maxL := 4) (ret := (some .int)) (by decide) rfl ?_
  intro p e s m args below meth c s₁ B hml hv
  obtain ⟨rfl, hH0, hK, hE⟩ := hv
  have hx := B.exec
  have hb := B.bytes
  have hr := B.returns
  have hts := atoms_spec (ws := w_s_reads1) B.pre
  have hown : s.vm.findClass RX12 = some m.cls := findClass_of_methodNamed B.named
  have hlocks := B.notSynchronized
  subst hH0
  generalize hAe : gA G s.heap.size = A at hE ⊢
  have hA : ∀ q : Nat, s.heap.size ≤ q → A q := fun q h => by rw [← hAe]; exact Or.inr h
  have hG := gA_of hAe
  have hS : va_S A s.heap s.heap [] := va_S.rf
  have hF : gF (dC, dI) SKm G ([(0, 0), (0, 11), (0, 12), (0, 13), (0, 14), (0, 15), (0, 16), (0, 28), (19, 0), (20, 0), (21, 0), (22, 0), (23, 0), (24, 0), (25, 0), (26, 0), (27, 0), (28, 0)] : List (Nat × Nat)) s.heap s.heap := gF.rf
  have hl := lv_entry ([.ref o0, .int 1, .int mn]) (n := 4) (Nat.le_of_ble_eq_true rfl)
  rw [lg_entry_eq]
  generalize (lg_sl ([.ref o0, .int 1, .int mn]) ++ List.replicate (4 - (lg_sl ([.ref o0, .int 1, .int mn])).length) Slot.unset).toArray = ls at hl ⊢
  have hl : lv_has ls 4 [(0, .ref o0), (1, .int 1), (2, .int mn)] := hl
  have hg1 : G (q 10) = some 11 := gx_of hT hr_o0 shm_0 (k := 10) (by decide) rfl
  have hg2 : G (q 19) = some 20 := gx_of hT hr_o0 shm_0 (k := 19) (by decide) rfl
  have hg3 : G (q 24) = some 25 := gx_of hT hr_o0 shm_0 (k := 24) (by decide) rfl
  have hg4 : G (q 25) = some 26 := gx_of hT hr_o0 shm_0 (k := 25) (by decide) rfl
  have hg5 : G (q 26) = some 27 := gx_of hT hr_o0 shm_0 (k := 26) (by decide) rfl
  have hg6 : G (q 27) = some 28 := gx_of hT hr_o0 shm_0 (k := 27) (by decide) rfl
  have hg7 : G (q 18) = some 19 := gx_of hT hr_o0 shm_0 (k := 18) (by decide) rfl
  refine lv_aload_n hx hb dX12_reads_0 rfl (lv_at hl 0 rfl) ?_
  have hFc := gA_free hG hA hS
  refine va_calli (va_runV (As := []) (rest := []) ⟨hx, hb, hml, hown, hts⟩ (s_readLaw l dC dI kA adK adV G s.heap q wZ wN wH wB wC wL wK wU wV PI im PM PT lS lB lE lN o0 tn vt vO vB vX vS vN N hT hr_o0 hm_tn (by have q8 := ti_all tn; omega) hN hc_vt hc_vO hc_vB hc_vX hc_vS hc_vN hgz hgn hgh hgb hgc hgi hgu) (cwV 0 hts (goodIn_app (goodIn_r _ [119, 120, 121, 12] rfl (by decide +kernel)) (goodIn_ca (goodIn_r _ [1, 2, 3, 4, 5, 6, 7, 8, 9, 10, 11, 12, 13, 14, 15, 16, 17, 18, 19, 20, 21, 22, 23, 24, 25, 26, 27, 28, 29, 30, 31, 32, 33, 34, 35, 36, 37, 38, 39, 40, 41, 42, 43, 44, 45, 46, 47, 48, 49, 50, 51, 52, 53, 54, 55, 56, 57, 58, 59, 60, 61, 62, 63, 64, 65, 66, 67, 68, 69, 70, 71, 72, 73, 74, 75, 76, 77, 78, 79, 80, 81, 82, 83, 84, 85, 86, 87, 88, 89, 90, 91, 92, 93, 94, 95, 96, 97, 98, 99, 100, 101, 102, 103, 104, 105, 106, 107, 108, 109, 110, 111, 112, 113, 114, 115, 116, 117, 118] rfl (by decide +kernel)) (bs_in _ _))) rfl rfl rfl (by decide +kernel) ⟨(Nat.le_of_ble_eq_true rfl), (Nat.le_of_ble_eq_true rfl)⟩) ⟨fun a U g mk q => by obtain ⟨q0, q1, qK, qE⟩ := q; exact ⟨q0, q1, va_K.moved (u := U) (U := U.calling g mk a) (Vm.Alike.refl U.vm) qK, EVS.blind g mk a qE⟩, gH_rc hK hT hr_o0 shm_0 rfl, fun U hU hW => ⟨rfl, hU, va_K.moved hW.alike hK, hE.call hS hFc hU hW⟩⟩ rfl rfl hl.1 rfl (lv_room (Nat.le_of_ble_eq_true rfl)) dX12_reads_1 ⟨(Nat.le_of_ble_eq_true rfl), (Nat.le_of_ble_eq_true rfl)⟩) hS (fun q _ h => hFc q h) hFc (fun r8 u t H locs ht hvm hw9 hB _ _ hS => ?_)
  obtain ⟨u10, u11, u12, u13, u14, u15, u16, u17, u18, u19⟩ := u
  obtain ⟨hT, hF1, m20, m21, m22, m23, m24, m25, m26⟩ := hB
  rw [ht] at hT hF1 m20 m21 m22 m23 m24 m25 m26
  have m28 := (hF1.fld hr_o0 skm_0 (k := 0) (by decide) (by decide)).trans hm_t0
  have m35 := hc_vL.kept (hF1.arr hg7 skm_19 (by decide))
  have hF := hF.more hF1 (by decide)
  try dsimp only at hw9
  obtain ⟨h36, h37, hf38, hf39, hf40, hf41, hf42, hf43, hf44, hf45, hf46⟩ := hw9
  refine lv_istore_n (lv' := [(3, .int r8), (0, .ref o0), (1, .int 1), (2, .int mn)]) hx hb dX12_reads_4 rfl hl (by decide) rfl (fun ls hl => ?_)
  refine lv_aload_n hx hb dX12_reads_5 rfl (lv_at hl 1 rfl) ?_
  refine lv_iload_n hx hb dX12_reads_6 rfl (lv_at hl 0 rfl) ?_
  refine lv_if_ge (tgt := 17) hx hb dX12_reads_7 (by decide) (fun c47 => ?_) (fun c47 => ?_)
  · have t48 : 0 ≤ r8.toInt := ti_le c47 (by decide) rfl
    refine lv_iconst (v := (-1)) hx hb dX12_reads_17 (by decide) ?_
    refine tw_put (v := .int (-1)) (ty := .int) hx hb hts bF_X12 tyX12 tyX12_ok nmX12 hown hK hT hG hS hr_o0 shm_0 rfl 16 (by decide) (ht_at hts 121 rfl) (fun _ h9 => h9) rfl (by decide +kernel) rfl rfl (gl_at rfl (gi_all _)) dX12_reads_18 (fun H locs hT oq m49 oj hS => ?_)
    have hF := hF.put hr_o0 skm_0 oq oj (by decide)
    have m50 := (oj 0 (by decide) (by decide)).trans m28
    have m52 := m35.kept (oq _ (gne hg7 hr_o0 (by decide)))
    have m53 := (oj 11 (by decide) (by decide)).trans m20
    have m55 := m22.kept (oq _ (gne hg2 hr_o0 (by decide)))
    have m56 := m23.kept (oq _ (gne hg3 hr_o0 (by decide)))
    have m57 := m24.kept (oq _ (gne hg4 hr_o0 (by decide)))
    have m58 := m25.kept (oq _ (gne hg5 hr_o0 (by decide)))
    have m59 := m26.kept (oq _ (gne hg6 hr_o0 (by decide)))
    refine lv_aload_n hx hb dX12_reads_21 rfl (lv_at hl 1 rfl) ?_
    refine lv_iload_n hx hb dX12_reads_22 rfl (lv_at hl 0 rfl) ?_
    refine lv_if_ge (tgt := 30) hx hb dX12_reads_23 (by decide) (fun c60 => ?_) (fun c60 => (by exfalso; have q9 : r8.toInt < 0 := ti_nle c60 (by decide) rfl; omega))
    have t61 : 0 ≤ r8.toInt := ti_le c60 (by decide) rfl
    refine lv_iconst (v := 0) hx hb dX12_reads_30 (by decide) ?_
    refine lv_iconst (v := 1) hx hb dX12_reads_31 (by decide) ?_
    have hFc := gA_free hG hA hS
    refine va_calli (va_runV (As := [.int 0, .int 1]) (rest := []) ⟨hx, hb, hml, hown, hts⟩ (s_throwsIfQ l dC dI kA adK adV G H q wZ wN wH wB wC wL wK wU wV PI im PM PT (lD u12 lS) (lD u13 lB) (lD u14 lE) lN o0 0 1 t0 hT hr_o0 m50 (rg_t (a := 0) (by decide) (by first | decide | omega) (by first | decide | omega)) hgz hgn hgh hgb hgc hgi hgu) (cwV 2 hts (goodIn_app (goodIn_r _ [125, 126, 127, 12] rfl (by decide +kernel)) (goodIn_ca (goodIn_r _ [123, 124] rfl (by decide +kernel)) (bs_in _ _))) rfl rfl rfl (by decide +kernel) ⟨(Nat.le_of_ble_eq_true rfl), (Nat.le_of_ble_eq_true rfl)⟩) ⟨fun a U g mk q => by obtain ⟨q0, q1, qK, qE⟩ := q; exact ⟨q0, q1, va_K.moved (u := U) (U := U.calling g mk a) (Vm.Alike.refl U.vm) qK, EVS.blind g mk a qE⟩, gH_rc hK hT hr_o0 shm_0 rfl, fun U hU hW => ⟨rfl, hU, va_K.moved hW.alike hK, hE.call hS hFc hU hW⟩⟩ rfl rfl hl.1 rfl (lv_room (Nat.le_of_ble_eq_true rfl)) dX12_reads_32 ⟨(Nat.le_of_ble_eq_true rfl), (Nat.le_of_ble_eq_true rfl)⟩) hS (fun q _ h => hFc q h) hFc (fun r62 u t H locs ht hvm hw63 hB _ _ hS => ?_)
    obtain ⟨u64, rfl⟩ : ∃ z, z = u := ⟨_, rfl⟩
    obtain ⟨hT, hF1, m65⟩ := hB
    rw [ht] at hT hF1 m65
    have m68 := m52.kept (hF1.arr hg7 skm_19 (by decide))
    have m69 := (hF1.fld hr_o0 skm_0 (k := 11) (by decide) (by decide)).trans m53
    have m71 := m55.kept (hF1.arr hg2 skm_20 (by decide))
    have m72 := m56.kept (hF1.arr hg3 skm_25 (by decide))
    have m73 := m57.kept (hF1.arr hg4 skm_26 (by decide))
    have m74 := m58.kept (hF1.arr hg5 skm_27 (by decide))
    have m75 := m59.kept (hF1.arr hg6 skm_28 (by decide))
    have m76 := (hF1.fld hr_o0 skm_0 (k := 16) (by decide) (by decide)).trans m49
    have hF := hF.more hF1 (by decide)
    try dsimp only at hw63
    obtain ⟨h77, hf78, hd79⟩ := hw63
    have t80 : (0 : Int32).toInt = 0 := by decide
    have t81 : (1 : Int32).toInt = 1 := by decide
    obtain rfl : (0 : Int32) = r62 := hd79.symm
    refine lv_if_ne (tgt := 47) hx hb dX12_reads_35 (by decide) (fun c82 => absurd c82 (by decide)) (fun c82 => ?_)
    refine lv_aload_n hx hb dX12_reads_38 rfl (lv_at hl 1 rfl) ?_
    refine lv_iload_n hx hb dX12_reads_39 rfl (lv_at hl 3 rfl) ?_
    refine lv_iconst (v := 2) hx hb dX12_reads_40 (by decide) ?_
    have hFc := gA_free hG hA hS
    refine va_calli (va_runV (As := [.int mn, .int 2]) (rest := []) ⟨hx, hb, hml, hown, hts⟩ (s_throwsIfQ l dC dI kA adK adV G H q wZ wN wH wB wC wL wK wU wV PI im PM PT (lD u12 lS) (lD u13 lB) (lD u14 lE) lN o0 mn 2 u64 hT hr_o0 m65 (by have q8 := ti_all mn; omega) hgz hgn hgh hgb hgc hgi hgu) (cwV 2 hts (goodIn_app (goodIn_r _ [125, 126, 127, 12] rfl (by decide +kernel)) (goodIn_ca (goodIn_r _ [123, 124] rfl (by decide +kernel)) (bs_in _ _))) rfl rfl rfl (by decide +kernel) ⟨(Nat.le_of_ble_eq_true rfl), (Nat.le_of_ble_eq_true rfl)⟩) ⟨fun a U g mk q => by obtain ⟨q0, q1, qK, qE⟩ := q; exact ⟨q0, q1, va_K.moved (u := U) (U := U.calling g mk a) (Vm.Alike.refl U.vm) qK, EVS.blind g mk a qE⟩, gH_rc hK hT hr_o0 shm_0 rfl, fun U hU hW => ⟨rfl, hU, va_K.moved hW.alike hK, hE.call hS hFc hU hW⟩⟩ rfl rfl hl.1 rfl (lv_room (Nat.le_of_ble_eq_true rfl)) dX12_reads_41 ⟨(Nat.le_of_ble_eq_true rfl), (Nat.le_of_ble_eq_true rfl)⟩) hS (fun q _ h => hFc q h) hFc (fun r83 u t H locs ht hvm hw84 hB _ _ hS => ?_)
    obtain ⟨u85, rfl⟩ : ∃ z, z = u := ⟨_, rfl⟩
    obtain ⟨hT, hF1, m86⟩ := hB
    rw [ht] at hT hF1 m86
    have m88 := m68.kept (hF1.arr hg7 skm_19 (by decide))
    have m89 := (hF1.fld hr_o0 skm_0 (k := 11) (by decide) (by decide)).trans m69
    have m91 := m71.kept (hF1.arr hg2 skm_20 (by decide))
    have m92 := m72.kept (hF1.arr hg3 skm_25 (by decide))
    have m93 := m73.kept (hF1.arr hg4 skm_26 (by decide))
    have m94 := m74.kept (hF1.arr hg5 skm_27 (by decide))
    have m95 := m75.kept (hF1.arr hg6 skm_28 (by decide))
    have m96 := (hF1.fld hr_o0 skm_0 (k := 16) (by decide) (by decide)).trans m76
    have hF := hF.more hF1 (by decide)
    try dsimp only at hw84
    obtain ⟨h98, hf99, hd100⟩ := hw84
    have t101 : (2 : Int32).toInt = 2 := by decide
    obtain rfl : mn = r83 := hd100.symm
    refine lv_if_eq (tgt := 49) hx hb dX12_reads_44 (by decide) (fun c102 => ?_) (fun c102 => ?_)
    · have t103 : mn.toInt = 0 := ti_eq c102 rfl (by decide)
      refine lv_aload_n hx hb dX12_reads_49 rfl (lv_at hl 1 rfl) ?_
      refine tw_get hx hb hts bF_X12 hown hK hT hr_o0 shm_0 rfl 18 (by decide) (ht_at hts 127 rfl) (fun _ h9 => h9) dX12_reads_50 (fun v9 m104 h9 => ?_)
      obtain ⟨rfl, hg105⟩ := h9 _ rfl
      refine lv_iconst (v := 2) hx hb dX12_reads_53 (by decide) ?_
      refine lv_iload_n hx hb dX12_reads_54 rfl (lv_at hl 0 rfl) ?_
      refine tw_iast2 (Sg1 := (SHm q (wP wZ wN wH wB wC wL wK wU wV) PI im PM PT (lD u12 lS) (lD u13 lB) (lD u14 lE) (lset lN 2 r8.toInt))) (i := 2) (x := r8) hx hb hK hT hG hS hg7 shm_19 rfl shm_19 shm_o19 (fun b9 h9 => hgu b9 18 h9) (by unfold vp_in; decide) (⟨_, rfl, (by have q8 := ti_all r8; omega), by show _ ≤ lset lN 2 _ 2; unfold lset; rw [if_pos rfl]; exact Int.le_refl _⟩) (fun k9 hk9 hne9 v9 hv9 he9 => by obtain ⟨x9, rfl, p9⟩ := he9; exact ⟨x9, rfl, p9.1, by show _ ≤ lset lN 2 _ k9; unfold lset; rw [if_neg (fun e9 => hne9 (e9.trans (by decide)))]; exact p9.2⟩) dX12_reads_55 (fun H locs hT oq m106 oi hS => ?_)
      have hF := hF.ast hg7 skm_19 oq (by decide)
      have m108 := m88.put m106 oi
      have m109 := (el_kept (oq _ (gne hr_o0 hg7 (by decide)))).trans m89
      have m111 := m91.kept (oq _ (gne hg2 hg7 (by decide)))
      have m112 := m92.kept (oq _ (gne hg3 hg7 (by decide)))
      have m113 := m93.kept (oq _ (gne hg4 hg7 (by decide)))
      have m114 := m94.kept (oq _ (gne hg5 hg7 (by decide)))
      have m115 := m95.kept (oq _ (gne hg6 hg7 (by decide)))
      have m116 := (el_kept (oq _ (gne hr_o0 hg7 (by decide)))).trans m96
      have m117 := (el_kept (oq _ (gne hr_o0 hg7 (by decide)))).trans m86
      refine lv_aload_n hx hb dX12_reads_56 rfl (lv_at hl 1 rfl) ?_
      refine lv_iconst (v := 2) hx hb dX12_reads_57 (by decide) ?_
      refine lv_iload_n hx hb dX12_reads_58 rfl (lv_at hl 2 rfl) ?_
      have hFc := gA_free hG hA hS
      refine va_callv (va_runV (As := [.int 2, .int 1]) (rest := []) ⟨hx, hb, hml, hown, hts⟩ (s_copies21 l dC dI kA adK adV G H q wZ wN wH wB wC wL wK wU wV PI im PM PT (lD u12 lS) (lD u13 lB) (lD u14 lE) (lset lN 2 r8.toInt) o0 u15 u16 u17 u18 u19 (cu vL (2 : Int32).toNatClampNeg r8) hT hr_o0 m111 m112 m113 m114 m115 m108 hgz hgn hgh hgb hgc hgi hgu) (cwV 2 hts (goodIn_app (goodIn_r _ [130, 131, 132, 12] rfl (by decide +kernel)) (goodIn_ca (goodIn_r _ [129, 128, 86, 87, 22, 65, 110, 111, 112, 63, 64] rfl (by decide +kernel)) (bs_in _ _))) rfl rfl rfl (by decide +kernel) ⟨(Nat.le_of_ble_eq_true rfl), (Nat.le_of_ble_eq_true rfl)⟩) ⟨fun a U g mk q => by obtain ⟨q0, q1, qK, qE⟩ := q; exact ⟨q0, q1, va_K.moved (u := U) (U := U.calling g mk a) (Vm.Alike.refl U.vm) qK, EVS.blind g mk a qE⟩, gH_rc hK hT hr_o0 shm_0 rfl, fun U hU hW => ⟨rfl, hU, va_K.moved hW.alike hK, hE.call hS hFc hU hW⟩⟩ rfl rfl hl.1 rfl (lv_room (Nat.le_of_ble_eq_true rfl)) dX12_reads_59 ⟨(Nat.le_of_ble_eq_true rfl), (Nat.le_of_ble_eq_true rfl)⟩) hS (fun q _ h => hFc q h) hFc (fun u t H locs ht hvm hw119 hB _ _ hS => ?_)
      obtain ⟨hT, hF1, m120, m121, m122, m123, m124, m125⟩ := hB
      rw [ht] at hT hF1 m120 m121 m122 m123 m124 m125
      have m128 := (hF1.fld hr_o0 skm_0 (k := 11) (by decide) (by decide)).trans m109
      have m135 := (hF1.fld hr_o0 skm_0 (k := 16) (by decide) (by decide)).trans m116
      have m136 := (hF1.fld hr_o0 skm_0 (k := 0) (by decide) (by decide)).trans m117
      have hF := hF.more hF1 (by decide)
      try dsimp only at hw119
      refine lv_iload_n hx hb dX12_reads_62 rfl (lv_at hl 0 rfl) ?_
      exact W.iret (v := r8) hx hb hr (fun t ht hW => ⟨⟨r8, (u85, u10, (-1 : Int32), (lcp (lD u12 lS) 2 1), (lcp (lD u13 lB) 2 1), (lcp (lD u14 lE) 2 1), (lcp (lset lN 2 r8.toInt) 2 1), (zcp u15 40 20 20), (zcp u16 40 20 20), (zcp u17 40 20 20), (zcp u18 800 400 400), (zcp u19 800 400 400), (cu (cu vL (2 : Int32).toNatClampNeg r8) 1 ((cu vL (2 : Int32).toNatClampNeg r8) 2))), rfl, (by exact ⟨(by have q8 := ti_all r8; omega), (laws_c hlaw (by decide) (by omega) (hf39 (by omega))), (by have q0 : (0 : Int32).toInt = 0 := (by decide); have q1 : (1 : Int32).toInt = 1 := (by decide); have q2 : (2 : Int32).toInt = 2 := (by decide); have qm : (-1 : Int32).toInt = -1 := (by decide); have := tn_of (show u11.toInt = u11.toInt from rfl) (by omega); rcases hf40 with ⟨a1, a2⟩ | ⟨a1, a2⟩ <;> obtain ⟨e1, e2⟩ := laE_s a2 <;> exact ⟨⟨by omega, by omega⟩, by omega, by omega⟩), ⟨by rw [cu_o (by decide), cu_o (by decide)], (hf41.le (by decide)).cp, (hf42.le (by decide)).cp, (hf43.le (by decide)).cp, (hf44.le (by decide)).cp, (hf45.le (by decide)).cp⟩⟩), by (try dsimp only); rw [ht]; exact ⟨hT, hF, m136, m128, m135, m120, m121, m122, m123, m124, m125⟩⟩, hS.F ht⟩) hS.2.2 dX12_reads_63
    · have t138 : mn.toInt ≠ 0 := ti_ne c102 rfl (by decide)
      refine lv_iconst (v := 0) hx hb dX12_reads_47 (by decide) ?_
      exact W.iret (v := 0) hx hb hr (fun t ht hW => ⟨⟨0, (u85, u10, (-1 : Int32), (lD u12 lS), (lD u13 lB), (lD u14 lE), lN, u15, u16, u17, u18, u19, vL), rfl, (by exact ⟨(rg_t (a := 0) (by decide) (by first | decide | omega) (by first | decide | omega)), (laws_D hlaw), (by have q0 : (0 : Int32).toInt = 0 := (by decide); have q1 : (1 : Int32).toInt = 1 := (by decide); have q2 : (2 : Int32).toInt = 2 := (by decide); have qm : (-1 : Int32).toInt = -1 := (by decide); have := tn_of (show u11.toInt = u11.toInt from rfl) (by omega); rcases hf40 with ⟨a1, a2⟩ | ⟨a1, a2⟩ <;> obtain ⟨e1, e2⟩ := laE_s a2 <;> exact ⟨⟨by omega, by omega⟩, by omega, by omega⟩), ⟨rfl, (hf41.le (by decide)), (hf42.le (by decide)), (hf43.le (by decide)), (hf44.le (by decide)), (hf45.le (by decide))⟩⟩), by (try dsimp only); rw [ht]; exact ⟨hT, hF, m86, m89, m96, m91, m92, m93, m94, m95, m88⟩⟩, hS.F ht⟩) hS.2.2 dX12_reads_48
  · have t139 : r8.toInt < 0 := ti_nle c47 (by decide) rfl
    refine lv_aload_n hx hb dX12_reads_10 rfl (lv_at hl 1 rfl) ?_
    refine tw_getM (v := .int u11) hx hb hts bF_X12 hown hK hT hr_o0 shm_0 rfl 14 (by decide) (ht_at hts 12 rfl) (fun _ h9 => h9) m21 dX12_reads_11 ?_
    refine lv_goto (tgt := 18) hx hb dX12_reads_14 (by decide) ?_
    refine tw_put (v := .int u11) (ty := .int) hx hb hts bF_X12 tyX12 tyX12_ok nmX12 hown hK hT hG hS hr_o0 shm_0 rfl 16 (by decide) (ht_at hts 121 rfl) (fun _ h9 => h9) rfl (by decide +kernel) rfl rfl (gl_at rfl (gi_all _)) dX12_reads_18 (fun H locs hT oq m140 oj hS => ?_)
    have hF := hF.put hr_o0 skm_0 oq oj (by decide)
    have m141 := (oj 0 (by decide) (by decide)).trans m28
    have m143 := m35.kept (oq _ (gne hg7 hr_o0 (by decide)))
    have m144 := (oj 11 (by decide) (by decide)).trans m20
    have m146 := m22.kept (oq _ (gne hg2 hr_o0 (by decide)))
    have m147 := m23.kept (oq _ (gne hg3 hr_o0 (by decide)))
    have m148 := m24.kept (oq _ (gne hg4 hr_o0 (by decide)))
    have m149 := m25.kept (oq _ (gne hg5 hr_o0 (by decide)))
    have m150 := m26.kept (oq _ (gne hg6 hr_o0 (by decide)))
    refine lv_aload_n hx hb dX12_reads_21 rfl (lv_at hl 1 rfl) ?_
    refine lv_iload_n hx hb dX12_reads_22 rfl (lv_at hl 0 rfl) ?_
    refine lv_if_ge (tgt := 30) hx hb dX12_reads_23 (by decide) (fun c151 => (by exfalso; have q9 : 0 ≤ r8.toInt := ti_le c151 (by decide) rfl; omega)) (fun c151 => ?_)
    have t152 : r8.toInt < 0 := ti_nle c151 (by decide) rfl
    refine lv_iconst (v := 1) hx hb dX12_reads_26 (by decide) ?_
    refine lv_goto (tgt := 31) hx hb dX12_reads_27 (by decide) ?_
    refine lv_iconst (v := 1) hx hb dX12_reads_31 (by decide) ?_
    have hFc := gA_free hG hA hS
    refine va_calli (va_runV (As := [.int 1, .int 1]) (rest := []) ⟨hx, hb, hml, hown, hts⟩ (s_throwsIfQ l dC dI kA adK adV G H q wZ wN wH wB wC wL wK wU wV PI im PM PT (lD u12 lS) (lD u13 lB) (lD u14 lE) lN o0 1 1 t0 hT hr_o0 m141 (rg_t (a := 1) (by decide) (by first | decide | omega) (by first | decide | omega)) hgz hgn hgh hgb hgc hgi hgu) (cwV 2 hts (goodIn_app (goodIn_r _ [125, 126, 127, 12] rfl (by decide +kernel)) (goodIn_ca (goodIn_r _ [123, 124] rfl (by decide +kernel)) (bs_in _ _))) rfl rfl rfl (by decide +kernel) ⟨(Nat.le_of_ble_eq_true rfl), (Nat.le_of_ble_eq_true rfl)⟩) ⟨fun a U g mk q => by obtain ⟨q0, q1, qK, qE⟩ := q; exact ⟨q0, q1, va_K.moved (u := U) (U := U.calling g mk a) (Vm.Alike.refl U.vm) qK, EVS.blind g mk a qE⟩, gH_rc hK hT hr_o0 shm_0 rfl, fun U hU hW => ⟨rfl, hU, va_K.moved hW.alike hK, hE.call hS hFc hU hW⟩⟩ rfl rfl hl.1 rfl (lv_room (Nat.le_of_ble_eq_true rfl)) dX12_reads_32 ⟨(Nat.le_of_ble_eq_true rfl), (Nat.le_of_ble_eq_true rfl)⟩) hS (fun q _ h => hFc q h) hFc (fun r153 u t H locs ht hvm hw154 hB _ _ hS => ?_)
    obtain ⟨u155, rfl⟩ : ∃ z, z = u := ⟨_, rfl⟩
    obtain ⟨hT, hF1, m156⟩ := hB
    rw [ht] at hT hF1 m156
    have m159 := m143.kept (hF1.arr hg7 skm_19 (by decide))
    have m160 := (hF1.fld hr_o0 skm_0 (k := 11) (by decide) (by decide)).trans m144
    have m162 := m146.kept (hF1.arr hg2 skm_20 (by decide))
    have m163 := m147.kept (hF1.arr hg3 skm_25 (by decide))
    have m164 := m148.kept (hF1.arr hg4 skm_26 (by decide))
    have m165 := m149.kept (hF1.arr hg5 skm_27 (by decide))
    have m166 := m150.kept (hF1.arr hg6 skm_28 (by decide))
    have m167 := (hF1.fld hr_o0 skm_0 (k := 16) (by decide) (by decide)).trans m140
    have hF := hF.more hF1 (by decide)
    try dsimp only at hw154
    obtain ⟨h168, hf169, hd170⟩ := hw154
    have t171 : (1 : Int32).toInt = 1 := by decide
    have t172 : (1 : Int32).toInt = 1 := by decide
    obtain rfl : (1 : Int32) = r153 := hd170.symm
    refine lv_if_ne (tgt := 47) hx hb dX12_reads_35 (by decide) (fun c173 => ?_) (fun c173 => absurd c173 (by decide))
    refine lv_iconst (v := 0) hx hb dX12_reads_47 (by decide) ?_
    exact W.iret (v := 0) hx hb hr (fun t ht hW => ⟨⟨0, (u155, u10, u11, (lD u12 lS), (lD u13 lB), (lD u14 lE), lN, u15, u16, u17, u18, u19, vL), rfl, (by exact ⟨(rg_t (a := 0) (by decide) (by first | decide | omega) (by first | decide | omega)), (laws_D hlaw), (by have q0 : (0 : Int32).toInt = 0 := (by decide); have q1 : (1 : Int32).toInt = 1 := (by decide); have q2 : (2 : Int32).toInt = 2 := (by decide); have qm : (-1 : Int32).toInt = -1 := (by decide); have := tn_of (show u11.toInt = u11.toInt from rfl) (by omega); rcases hf40 with ⟨a1, a2⟩ | ⟨a1, a2⟩ <;> obtain ⟨e1, e2⟩ := laE_s a2 <;> exact ⟨⟨by omega, by omega⟩, by omega, by omega⟩), ⟨rfl, (hf41.le (by decide)), (hf42.le (by decide)), (hf43.le (by decide)), (hf44.le (by decide)), (hf45.le (by decide))⟩⟩), by (try dsimp only); rw [ht]; exact ⟨hT, hF, m156, m160, m167, m162, m163, m164, m165, m166, m159⟩⟩, hS.F ht⟩) hS.2.2 dX12_reads_48
