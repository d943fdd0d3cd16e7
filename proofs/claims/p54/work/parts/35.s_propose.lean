def w_s_propose : List Cond := .code yX12_propose cX12_propose 3 (some .int) :: (HAppend.hAppend (α := List Cond) (β := List Cond) (γ := List Cond) [.fieldLink RX12 194 "SeaLandModel" "thrown" "I", .fieldLink RX12 523 "SeaLandModel" "isVoting" "Z", .code yX12_reads cX12_reads 4 (some .int), .code yX12_readLaw cX12_readLaw 2 (some .int), .fieldLink RX12 332 "SeaLandModel" "taped" "I", .fieldLink RX12 338 "SeaLandModel" "end" "I", .fieldLink RX12 335 "SeaLandModel" "point" "I", .fieldLink RX12 367 "SeaLandModel" "steps" "I", .code yX12_blanks cX12_blanks 1 none, .code yX12_isAt cX12_isAt 3 (some .boolean), .fieldLink RX12 31 "SeaLandModel" "tape" "[B", .methodLink RX12 341 yX12_isAt, .instanceMethod yX12_isAt, .selects RX12 yX12_isAt yX12_isAt, .initialized RX12, .fieldLink RX12 345 "SeaLandModel" "begin" "I", .methodLink RX12 348 yX12_blanks, .instanceMethod yX12_blanks, .selects RX12 yX12_blanks yX12_blanks, .code yX12_readLine cX12_readLine 3 (some .boolean), .code yX12_word cX12_word 1 none, .methodLink RX12 360 yX12_word, .instanceMethod yX12_word, .selects RX12 yX12_word yX12_word, .fieldLink RX12 45 "SeaLandModel" "sort" "[I", .code yX12_sortOf cX12_sortOf 1 (some .int), .code yX12_isWord cX12_isWord 4 (some .boolean), .code yJ0_length_8abf5 cJ0_length_8abf5 1 (some .int), .fieldLink RJ0 9 "java/lang/String" "value" "[B", .code yJ0_coder_7d493 cJ0_coder_7d493 1 (some .byte), .fieldLink RJ0 38 "java/lang/String" "COMPACT_STRINGS" "Z", .fieldLink RJ0 15 "java/lang/String" "coder" "B", .methodLink RJ0 335 yJ0_coder_7d493, .instanceMethod yJ0_coder_7d493, .selects RJ0 yJ0_coder_7d493 yJ0_coder_7d493, .initialized RJ0, .methodLink RX12 351 yJ0_length_8abf5, .instanceMethod yJ0_length_8abf5, .selects RJ0 yJ0_length_8abf5 yJ0_length_8abf5, .code yJ0_charAt_5068e cJ0_charAt_5068e 2 (some .char), .code yJ0_isLatin1_aae02 cJ0_isLatin1_aae02 1 (some .boolean), .methodLink RJ0 492 yJ0_isLatin1_aae02, .instanceMethod yJ0_isLatin1_aae02, .selects RJ0 yJ0_isLatin1_aae02 yJ0_isLatin1_aae02, .code yJ1_charAt_3b067 cJ1_charAt_3b067 2 (some .char), .code yJ0_checkIndex_df160 cJ0_checkIndex_df160 2 none, .fieldLink RJ0 1053 "jdk/internal/util/Preconditions" "SIOOBE_FORMATTER" "Ljava/util/function/BiFunction;", .code yJ3_checkIndex_8e157 cJ3_checkIndex_8e157 3 (some .int), .methodLink RJ0 1059 yJ3_checkIndex_8e157, .static yJ3_checkIndex_8e157, .initialized RJ3, .methodLink RJ1 9 yJ0_checkIndex_df160, .static yJ0_checkIndex_df160, .methodLink RJ0 495 yJ1_charAt_3b067, .static yJ1_charAt_3b067, .initialized RJ1, .methodLink RX12 356 yJ0_charAt_5068e, .instanceMethod yJ0_charAt_5068e, .selects RJ0 yJ0_charAt_5068e yJ0_charAt_5068e, .methodLink RX12 363 yX12_isWord, .instanceMethod yX12_isWord, .selects RX12 yX12_isWord yX12_isWord, .methodLink RX12 443 yX12_sortOf, .instanceMethod yX12_sortOf, .selects RX12 yX12_sortOf yX12_sortOf, .fieldLink RX12 60 "SeaLandModel" "begins" "[I", .fieldLink RX12 63 "SeaLandModel" "ends" "[I", .fieldLink RX12 48 "SeaLandModel" "told" "[I", .code yX12_passes cX12_passes 2 (some .boolean), .methodLink RX12 409 yX12_passes, .instanceMethod yX12_passes, .selects RX12 yX12_passes yX12_passes, .fieldLink RX12 401 "SeaLandModel" "deep" "I", .code yX12_readCond cX12_readCond 1 (some .boolean), .code yX12_readAllOf cX12_readAllOf 1 (some .boolean), .code yX12_readAtom cX12_readAtom 2 (some .boolean), .code yX12_sign cX12_sign 2 (some .boolean), .methodLink RX12 398 yX12_sign, .instanceMethod yX12_sign, .selects RX12 yX12_sign yX12_sign, .code yX12_readSum cX12_readSum 1 (some .boolean), .code yX12_readPart cX12_readPart 2 (some .boolean), .constant RX12 390 99999, .code yX12_number cX12_number 3 (some .int), .methodLink RX12 391 yX12_number, .instanceMethod yX12_number, .selects RX12 yX12_number yX12_number, .code yX12_adds cX12_adds 3 none, .fieldLink RX12 66 "SeaLandModel" "step" "[I", .fieldLink RX12 69 "SeaLandModel" "than" "[I", .methodLink RX12 387 yX12_adds, .instanceMethod yX12_adds, .selects RX12 yX12_adds yX12_adds, .code yX12_fact cX12_fact 1 (some (.object "java/lang/String")), .methodLink RX12 383 yX12_fact, .static yX12_fact, .methodLink RX12 394 yX12_readPart, .instanceMethod yX12_readPart, .selects RX12 yX12_readPart yX12_readPart, .methodLink RX12 415 yX12_readSum, .instanceMethod yX12_readSum, .selects RX12 yX12_readSum yX12_readSum, .methodLink RX12 412 yX12_readAtom, .instanceMethod yX12_readAtom, .selects RX12 yX12_readAtom yX12_readAtom, .methodLink RX12 420 yX12_readAllOf, .instanceMethod yX12_readAllOf, .selects RX12 yX12_readAllOf yX12_readAllOf, .methodLink RX12 404 yX12_readCond, .instanceMethod yX12_readCond, .selects RX12 yX12_readCond yX12_readCond, .code yX12_readLevel cX12_readLevel 2 (some .boolean), .fieldLink RX12 51 "SeaLandModel" "winter" "[I", .fieldLink RX12 54 "SeaLandModel" "from" "[I", .fieldLink RX12 57 "SeaLandModel" "to" "[I", .methodLink RX12 446 yX12_readLevel, .instanceMethod yX12_readLevel, .selects RX12 yX12_readLevel yX12_readLevel, .methodLink RX12 451 yX12_readLine, .instanceMethod yX12_readLine, .selects RX12 yX12_readLine yX12_readLine, .methodLink RX12 454 yX12_readLaw, .instanceMethod yX12_readLaw, .selects RX12 yX12_readLaw yX12_readLaw, .fieldLink RX12 35 "SeaLandModel" "faultAt" "I", .code yX12_throwsIf cX12_throwsIf 3 (some .boolean), .methodLink RX12 224 yX12_throwsIf, .instanceMethod yX12_throwsIf, .selects RX12 yX12_throwsIf yX12_throwsIf, .fieldLink RX12 42 "SeaLandModel" "lines" "[I", .code yX12_copies cX12_copies 4 none, .methodLink RX12 457 yX12_copies, .instanceMethod yX12_copies, .selects RX12 yX12_copies yX12_copies, .methodLink RX12 463 yX12_reads, .instanceMethod yX12_reads, .selects RX12 yX12_reads yX12_reads, .fieldLink RX12 526 "SeaLandModel" "yes" "J", .fieldLink RX12 530 "SeaLandModel" "said" "J", .fieldLink RX12 134 "SeaLandModel" "hasSaid" "[Z"] bs)
set_option maxHeartbeats 4000000 in
set_option maxRecDepth 100000 in
theorem s_propose (l : Launch) (dC : Nat → ClassId) (dI : Nat → Nat → Nat) (kA : Nat → ClassId) (adK adV : Nat → Nat) (G : gT) (H0 : Heap) (q : Nat → Nat) (wZ wN : Nat → Int) (wH wB wC : Int) (wL wK : Nat → Prop) (wU wV : Nat → Nat) (PI : Nat → Int → Prop) (im : Int) (PM PT : Nat → Int → Prop) (lS lB lE : Nat → Nat → Int → Prop) (lN : Nat → Int) (o0 : Nat)  (hT : gH (dC, dI) kA (SHm q (wP wZ wN wH wB wC wL wK wU wV) PI im PM PT lS lB lE lN) G H0) (hr_o0 : G o0 = some 0) (hlaw : lawsOK lS lB lE lN) (hgz : ∀ i, 0 ≤ wZ i) (hgn : ∀ i, 6500000 ≤ wN i ∧ wN i ≤ 20200000) (hgh : 0 ≤ wH ∧ wH ≤ 40000) (hgb : 0 ≤ wB ∧ wB ≤ 3850000) (hgc : 0 ≤ wC ∧ wC ≤ 30) (hgi : 0 ≤ im ∧ im ≤ 1) (hgu : ∀ a t, G a = some (t + 1) → a = q t) : Met l yX12_propose w_s_propose ({ frames := 31, cells := 0, slots := 0, locals := 642 }) (va_Pc [.ref o0] (fun U => U.heap = H0 ∧ va_K (dC, dI) vwCl (tyl kA) U ∧ EVS adK adV (gA G H0.size) U U.heap)) (va_Qi (fun (r : Int32) (u : (Nat → Nat → Int → Prop) × (Nat → Nat → Int → Prop) × (Nat → Nat → Int → Prop) × (Nat → Int)) => match u with | (lS1, lB1, lE1, lN1) => (0 ≤ r.toInt ∧ r.toInt ≤ 20) ∧ (lawsOK lS1 lB1 lE1 lN1)) (fun (u : (Nat → Nat → Int → Prop) × (Nat → Nat → Int → Prop) × (Nat → Nat → Int → Prop) × (Nat → Int)) (t : State) => match u with | (lS1, lB1, lE1, lN1) => gH (dC, dI) kA (SHm q (wP wZ wN wH wB wC wL wK wU wV) PI im PM PT lS1 lB1 lE1 lN1) G t.heap ∧ gF (dC, dI) SKm G ([(0, 0), (0, 11), (0, 12), (0, 13), (0, 14), (0, 15), (0, 16), (0, 28), (0, 52), (0, 53), (0, 54), (19, 0), (20, 0), (21, 0), (22, 0), (23, 0), (24, 0), (25, 0), (26, 0), (27, 0), (28, 0), (56, 0)] : List (Nat × Nat)) H0 t.heap) (gA G H0.size)) 0 0 (gA G H0.size) := by
  refine Met.ofW (cc := cX12_propose) (maxL := 3) (ret := (some .int)) (by decide) rfl ?_
  intro p e s m args below meth c s₁ B hml hv
  obtain ⟨rfl, hH0, hK, hE⟩ := hv
  have hx := B.exec
  have hb := B.bytes
  have hr := B.returns
  have hts := atoms_spec (ws := w_s_propose) B.pre
  have hown : s.vm.findClass RX12 = some m.cls := findClass_of_methodNamed B.named
  have hlocks := B.notSynchronized
  subst hH0
  generalize hAe : gA G s.heap.size = A at hE ⊢
  have hA : ∀ q : Nat, s.heap.size ≤ q → A q := fun q h => by rw [← hAe]; exact Or.inr h
  have hG := gA_of hAe
  have hS : va_S A s.heap s.heap [] := va_S.rf
  have hF : gF (dC, dI) SKm G ([(0, 0), (0, 11), (0, 12), (0, 13), (0, 14), (0, 15), (0, 16), (0, 28), (0, 52), (0, 53), (0, 54), (19, 0), (20, 0), (21, 0), (22, 0), (23, 0), (24, 0), (25, 0), (26, 0), (27, 0), (28, 0), (56, 0)] : List (Nat × Nat)) s.heap s.heap := gF.rf
  have hl := lv_entry ([.ref o0]) (n := 3) (Nat.le_of_ble_eq_true rfl)
  rw [lg_entry_eq]
  generalize (lg_sl ([.ref o0]) ++ List.replicate (3 - (lg_sl ([.ref o0])).length) Slot.unset).toArray = ls at hl ⊢
  have hl : lv_has ls 3 [(0, .ref o0)] := hl
  refine lv_aload_n hx hb dX12_propose_0 rfl (lv_at hl 0 rfl) ?_
  refine lv_iconst (v := 0) hx hb dX12_propose_1 (by decide) ?_
  refine tw_put (v := .int 0) (ty := .int) hx hb hts bF_X12 tyX12 tyX12_ok nmX12 hown hK hT hG hS hr_o0 shm_0 rfl 0 (by decide) (ht_at hts 0 rfl) (fun _ h9 => h9) rfl (by decide +kernel) rfl rfl (gl_at rfl (gi_all _)) dX12_propose_2 (fun H locs hT oq m1 oj hS => ?_)
  have hF := hF.put hr_o0 skm_0 oq oj (by decide)
  refine lv_aload_n hx hb dX12_propose_5 rfl (lv_at hl 0 rfl) ?_
  refine lv_iconst (v := 1) hx hb dX12_propose_6 (by decide) ?_
  refine lv_aload_n hx hb dX12_propose_7 rfl (lv_at hl 0 rfl) ?_
  refine tw_get hx hb hts bF_X12 hown hK hT hr_o0 shm_0 rfl 52 (by decide) (ht_at hts 1 rfl) (fun _ h9 => h9) dX12_propose_8 (fun v9 m2 h9 => ?_)
  obtain ⟨x3, rfl, gx3, kx3⟩ := h9 _ rfl
  have hFc := gA_free hG hA hS
  refine va_calli (va_runV (As := [.int 1, .int x3]) (rest := []) ⟨hx, hb, hml, hown, hts⟩ (s_reads1 l dC dI kA adK adV G H q wZ wN wH wB wC wL wK wU wV PI im PM PT lS lB lE lN o0 x3 hT hr_o0 (by have q8 := ti_all x3; omega) (by assumption) hgz hgn hgh hgb hgc hgi hgu) (cwV 2 hts (goodIn_app (goodIn_r _ [135, 136, 137, 15] rfl (by decide +kernel)) (goodIn_ca (goodIn_r _ [3, 4, 5, 6, 7, 8, 9, 10, 11, 12, 13, 14, 15, 16, 17, 18, 19, 20, 21, 22, 23, 24, 25, 26, 27, 28, 29, 30, 31, 32, 33, 34, 35, 36, 37, 38, 39, 40, 41, 42, 43, 44, 45, 46, 47, 48, 49, 50, 51, 52, 53, 54, 55, 56, 57, 58, 59, 60, 61, 62, 63, 64, 65, 66, 67, 68, 69, 70, 71, 72, 73, 74, 75, 76, 77, 78, 79, 80, 81, 82, 83, 84, 85, 86, 87, 88, 89, 90, 91, 92, 93, 94, 95, 96, 97, 98, 99, 100, 101, 102, 103, 104, 105, 106, 107, 108, 109, 110, 111, 112, 113, 114, 115, 116, 117, 118, 119, 120, 121, 122, 123, 124, 125, 126, 1, 127, 128, 129, 130, 131, 132, 133, 134] rfl (by decide +kernel)) (bs_in _ _))) rfl rfl rfl (by decide +kernel) ⟨(Nat.le_of_ble_eq_true rfl), (Nat.le_of_ble_eq_true rfl)⟩) ⟨fun a U g mk q => by obtain ⟨q0, q1, qK, qE⟩ := q; exact ⟨q0, q1, va_K.moved (u := U) (U := U.calling g mk a) (Vm.Alike.refl U.vm) qK, EVS.blind g mk a qE⟩, gH_rc hK hT hr_o0 shm_0 rfl, fun U hU hW => ⟨rfl, hU, va_K.moved hW.alike hK, hE.call hS hFc hU hW⟩⟩ rfl rfl hl.1 rfl (lv_room (Nat.le_of_ble_eq_true rfl)) dX12_propose_11 ⟨(Nat.le_of_ble_eq_true rfl), (Nat.le_of_ble_eq_true rfl)⟩) hS (fun q _ h => hFc q h) hFc (fun r4 u t H locs ht hvm hw5 hB _ _ hS => ?_)
  obtain ⟨u6, u7, u8, u9⟩ := u
  obtain ⟨hT, hF1⟩ := hB
  rw [ht] at hT hF1
  have m11 := (hF1.fld hr_o0 skm_0 (k := 52) (by decide) (by decide)).trans m2
  have hF := hF.more hF1 (by decide)
  try dsimp only at hw5
  obtain ⟨h12, hf13⟩ := hw5
  refine lv_istore_n (lv' := [(1, .int r4), (0, .ref o0)]) hx hb dX12_propose_14 rfl hl (by decide) rfl (fun ls hl => ?_)
  refine lv_aload_n hx hb dX12_propose_15 rfl (lv_at hl 1 rfl) ?_
  refine tw_get hx hb hts bF_X12 hown hK hT hr_o0 shm_0 rfl 0 (by decide) (ht_at hts 0 rfl) (fun _ h9 => h9) dX12_propose_16 (fun v9 m14 h9 => ?_)
  obtain ⟨x15, rfl, gx15, kx15⟩ := h9 _ rfl
  refine lv_if_eq (tgt := 24) hx hb dX12_propose_19 (by decide) (fun c16 => ?_) (fun c16 => ?_)
  · have t17 : x15.toInt = 0 := ti_eq c16 rfl (by decide)
    refine lv_aload_n hx hb dX12_propose_24 rfl (lv_at hl 1 rfl) ?_
    refine lv_iconst (v := 1) hx hb dX12_propose_25 (by decide) ?_
    refine tw_put (v := .int 1) (ty := .boolean) hx hb hts bF_X12 tyX12 tyX12_ok nmX12 hown hK hT hG hS hr_o0 shm_0 rfl 52 (by decide) (ht_at hts 1 rfl) (fun _ h9 => h9) rfl (by decide +kernel) rfl rfl (gl_at rfl (gi_of (show (1 : Int32).toInt = 1 from (by decide)) (by first | decide | omega) (by first | decide | omega))) dX12_propose_26 (fun H locs hT oq m18 oj hS => ?_)
    have hF := hF.put hr_o0 skm_0 oq oj (by decide)
    have m19 := (oj 0 (by decide) (by decide)).trans m14
    refine lv_aload_n hx hb dX12_propose_29 rfl (lv_at hl 1 rfl) ?_
    refine lv_lconst (v := 0) hx hb dX12_propose_30 (by decide) ?_
    refine tw_put (v := .long 0) (ty := .long) hx hb hts bF_X12 tyX12 tyX12_ok nmX12 hown hK hT hG hS hr_o0 shm_0 rfl 53 (by decide) (ht_at hts 137 rfl) (fun _ h9 => h9) rfl (by decide +kernel) rfl rfl (gl_at rfl ⟨_, rfl⟩) dX12_propose_31 (fun H locs hT oq m20 oj hS => ?_)
    have hF := hF.put hr_o0 skm_0 oq oj (by decide)
    have m21 := (oj 0 (by decide) (by decide)).trans m19
    have m22 := (oj 52 (by decide) (by decide)).trans m18
    refine lv_aload_n hx hb dX12_propose_34 rfl (lv_at hl 1 rfl) ?_
    refine lv_lconst (v := 0) hx hb dX12_propose_35 (by decide) ?_
    refine tw_put (v := .long 0) (ty := .long) hx hb hts bF_X12 tyX12 tyX12_ok nmX12 hown hK hT hG hS hr_o0 shm_0 rfl 54 (by decide) (ht_at hts 138 rfl) (fun _ h9 => h9) rfl (by decide +kernel) rfl rfl (gl_at rfl ⟨_, rfl⟩) dX12_propose_36 (fun H locs hT oq m23 oj hS => ?_)
    have hF := hF.put hr_o0 skm_0 oq oj (by decide)
    have m24 := (oj 0 (by decide) (by decide)).trans m21
    have m25 := (oj 52 (by decide) (by decide)).trans m22
    have m26 := (oj 53 (by decide) (by decide)).trans m20
    refine lv_iconst (v := 0) hx hb dX12_propose_39 (by decide) ?_
    refine lv_istore_n (lv' := [(2, .int 0), (1, .int r4), (0, .ref o0)]) hx hb dX12_propose_40 rfl hl (by decide) rfl (fun ls hl => ?_)
    have key41 : ∀ (n41 i27 : Nat), i27 + n41 = 60 → 0 ≤ i27 → ∀ (H : Heap) (locs : List Loc), gH (dC, dI) kA (SHm q (wP wZ wN wH wB wC wL wK wU wV) PI im PM PT u6 u7 u8 u9) G H → gF (dC, dI) SKm G ([(0, 0), (0, 11), (0, 12), (0, 13), (0, 14), (0, 15), (0, 16), (0, 28), (0, 52), (0, 53), (0, 54), (19, 0), (20, 0), (21, 0), (22, 0), (23, 0), (24, 0), (25, 0), (26, 0), (27, 0), (28, 0), (56, 0)] : List (Nat × Nat)) s.heap H → va_S A s.heap H locs → el H o0 (dI 15 0) = some (.int x15) → el H o0 (dI 15 52) = some (.int 1) → el H o0 (dI 15 53) = some (.long 0) → el H o0 (dI 15 54) = some (.long 0) → ∀ ls : Array Slot, lv_has ls 3 [(2, .int (nI i27)), (1, .int r4), (0, .ref o0)] → W p l e (headSpec w_s_propose ({ frames := 31, cells := 0, slots := 0, locals := 642 })).room s m #[.ref o0] below meth c H locs 0 0 (MQ below (va_Qi (fun (r : Int32) (u : (Nat → Nat → Int → Prop) × (Nat → Nat → Int → Prop) × (Nat → Nat → Int → Prop) × (Nat → Int)) => match u with | (lS1, lB1, lE1, lN1) => (0 ≤ r.toInt ∧ r.toInt ≤ 20) ∧ (lawsOK lS1 lB1 lE1 lN1)) (fun (u : (Nat → Nat → Int → Prop) × (Nat → Nat → Int → Prop) × (Nat → Nat → Int → Prop) × (Nat → Int)) (t : State) => match u with | (lS1, lB1, lE1, lN1) => gH (dC, dI) kA (SHm q (wP wZ wN wH wB wC wL wK wU wV) PI im PM PT lS1 lB1 lE1 lN1) G t.heap ∧ gF (dC, dI) SKm G ([(0, 0), (0, 11), (0, 12), (0, 13), (0, 14), (0, 15), (0, 16), (0, 28), (0, 52), (0, 53), (0, 54), (19, 0), (20, 0), (21, 0), (22, 0), (23, 0), (24, 0), (25, 0), (26, 0), (27, 0), (28, 0), (56, 0)] : List (Nat × Nat)) s.heap t.heap) A) #[.ref o0] s 0 0 A) (F0 m 41 ls []) := by
      intro n41
      induction n41 with
      | zero =>
        intro i27 hn41 hlo42  H locs hT hF hS m28 m29 m30 m31 ls hl
        obtain rfl : 60 = i27 := by omega
        refine lv_iload_n hx hb dX12_propose_41 rfl (lv_at hl 0 rfl) ?_
        refine lv_bipush (v := 60) hx hb dX12_propose_42 (by decide) ?_
        refine lv_icmp_ge (tgt := 60) hx hb dX12_propose_44 (by decide) (fun c43 => ?_) (fun c43 => (by exfalso; have q9 : ((60 : Nat) : Int) < 60 := ti_nle c43 (by decide) (nI_toInt (by omega)); omega))
        have t44 : 60 ≤ ((60 : Nat) : Int) := ti_le c43 (by decide) (nI_toInt (by omega))
        refine lv_iload_n hx hb dX12_propose_60 rfl (lv_at hl 1 rfl) ?_
        exact W.iret (v := r4) hx hb hr (fun t ht hW => ⟨⟨r4, (u6, u7, u8, u9), rfl, (by exact ⟨(by have q8 := ti_all r4; omega), hf13⟩), by (try dsimp only); rw [ht]; exact ⟨hT, hF⟩⟩, hS.F ht⟩) hS.2.2 dX12_propose_61
      | succ n41 ih41 =>
        intro i27 hn41 hlo42  H locs hT hF hS m28 m29 m30 m31 ls hl
        have hlt44 : i27 < 60 := by omega
        refine lv_iload_n hx hb dX12_propose_41 rfl (lv_at hl 0 rfl) ?_
        refine lv_bipush (v := 60) hx hb dX12_propose_42 (by decide) ?_
        refine lv_icmp_ge (tgt := 60) hx hb dX12_propose_44 (by decide) (fun c45 => (by exfalso; have q9 : 60 ≤ ((i27 : Nat) : Int) := ti_le c45 (by decide) (nI_toInt (by omega)); omega)) (fun c45 => ?_)
        have t46 : ((i27 : Nat) : Int) < 60 := ti_nle c45 (by decide) (nI_toInt (by omega))
        refine lv_aload_n hx hb dX12_propose_47 rfl (lv_at hl 2 rfl) ?_
        refine tw_get hx hb hts bF_X12 hown hK hT hr_o0 shm_0 rfl 55 (by decide) (ht_at hts 139 rfl) (fun _ h9 => h9) dX12_propose_48 (fun v9 m47 h9 => ?_)
        obtain ⟨rfl, hg48⟩ := h9 _ rfl
        refine lv_iload_n hx hb dX12_propose_51 rfl (lv_at hl 0 rfl) ?_
        refine lv_iconst (v := 0) hx hb dX12_propose_52 (by decide) ?_
        refine tw_zast (i := (nI i27)) (x := 0) hx hb hK hT hG hS hg48 shm_56 rfl (vp_in_nI (by omega) (by decide)) (gi_z (rg_t (a := 0) (by decide) (by first | decide | omega) (by first | decide | omega)) (by decide) (by decide)) dX12_propose_53 (fun H locs hT oq m49 oi hS => ?_)
        have hF := hF.ast hg48 skm_56 oq (by decide)
        have m50 := (el_kept (oq _ (gne hr_o0 hg48 (by decide)))).trans m28
        have m51 := (el_kept (oq _ (gne hr_o0 hg48 (by decide)))).trans m29
        have m52 := (el_kept (oq _ (gne hr_o0 hg48 (by decide)))).trans m30
        have m53 := (el_kept (oq _ (gne hr_o0 hg48 (by decide)))).trans m31
        refine lv_iinc (v := nI (i27 + 1)) (lv' := [(2, .int (nI (i27 + 1))), (1, .int r4), (0, .ref o0)]) hx hb dX12_propose_54 hl (k := 0) rfl (nI_add i27 1) (by decide) rfl (fun ls hl => ?_)
        refine lv_goto (tgt := 41) hx hb dX12_propose_57 (by decide) ?_
        exact ih41 (i27 + 1) (by omega) (by omega) _ _ hT hF hS m50 m51 m52 m53 ls (lv_sub hl [0, 1, 2] rfl)
    exact key41 (60 - 0) 0 (by omega) (Nat.le_refl _) _ _ hT hF hS m24 m25 m26 m23 ls (lv_sub hl [0, 1, 2] rfl)
  · have t54 : x15.toInt ≠ 0 := ti_ne c16 rfl (by decide)
    refine lv_iconst (v := 0) hx hb dX12_propose_22 (by decide) ?_
    exact W.iret (v := 0) hx hb hr (fun t ht hW => ⟨⟨0, (u6, u7, u8, u9), rfl, (by exact ⟨(rg_t (a := 0) (by decide) (by first | decide | omega) (by first | decide | omega)), hf13⟩), by (try dsimp only); rw [ht]; exact ⟨hT, hF⟩⟩, hS.F ht⟩) hS.2.2 dX12_propose_23
