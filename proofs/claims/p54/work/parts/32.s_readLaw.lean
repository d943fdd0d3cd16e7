def w_s_readLaw : List Cond := .code yX12_readLaw cX12_readLaw 2 (some .int) :: (HAppend.hAppend (α := List Cond) (β := List Cond) (γ := List Cond) [.fieldLink RX12 332 "SeaLandModel" "taped" "I", .fieldLink RX12 338 "SeaLandModel" "end" "I", .fieldLink RX12 335 "SeaLandModel" "point" "I", .fieldLink RX12 367 "SeaLandModel" "steps" "I", .code yX12_blanks cX12_blanks 1 none, .code yX12_isAt cX12_isAt 3 (some .boolean), .fieldLink RX12 31 "SeaLandModel" "tape" "[B", .methodLink RX12 341 yX12_isAt, .instanceMethod yX12_isAt, .selects RX12 yX12_isAt yX12_isAt, .initialized RX12, .fieldLink RX12 345 "SeaLandModel" "begin" "I", .methodLink RX12 348 yX12_blanks, .instanceMethod yX12_blanks, .selects RX12 yX12_blanks yX12_blanks, .code yX12_readLine cX12_readLine 3 (some .boolean), .code yX12_word cX12_word 1 none, .methodLink RX12 360 yX12_word, .instanceMethod yX12_word, .selects RX12 yX12_word yX12_word, .fieldLink RX12 45 "SeaLandModel" "sort" "[I", .code yX12_sortOf cX12_sortOf 1 (some .int), .code yX12_isWord cX12_isWord 4 (some .boolean), .code yJ0_length_8abf5 cJ0_length_8abf5 1 (some .int), .fieldLink RJ0 9 "java/lang/String" "value" "[B", .code yJ0_coder_7d493 cJ0_coder_7d493 1 (some .byte), .fieldLink RJ0 38 "java/lang/String" "COMPACT_STRINGS" "Z", .fieldLink RJ0 15 "java/lang/String" "coder" "B", .methodLink RJ0 335 yJ0_coder_7d493, .instanceMethod yJ0_coder_7d493, .selects RJ0 yJ0_coder_7d493 yJ0_coder_7d493, .initialized RJ0, .methodLink RX12 351 yJ0_length_8abf5, .instanceMethod yJ0_length_8abf5, .selects RJ0 yJ0_length_8abf5 yJ0_length_8abf5, .code yJ0_charAt_5068e cJ0_charAt_5068e 2 (some .char), .code yJ0_isLatin1_aae02 cJ0_isLatin1_aae02 1 (some .boolean), .methodLink RJ0 492 yJ0_isLatin1_aae02, .instanceMethod yJ0_isLatin1_aae02, .selects RJ0 yJ0_isLatin1_aae02 yJ0_isLatin1_aae02, .code yJ1_charAt_3b067 cJ1_charAt_3b067 2 (some .char), .code yJ0_checkIndex_df160 cJ0_checkIndex_df160 2 none, .fieldLink RJ0 1053 "jdk/internal/util/Preconditions" "SIOOBE_FORMATTER" "Ljava/util/function/BiFunction;", .code yJ3_checkIndex_8e157 cJ3_checkIndex_8e157 3 (some .int), .methodLink RJ0 1059 yJ3_checkIndex_8e157, .static yJ3_checkIndex_8e157, .initialized RJ3, .methodLink RJ1 9 yJ0_checkIndex_df160, .static yJ0_checkIndex_df160, .methodLink RJ0 495 yJ1_charAt_3b067, .static yJ1_charAt_3b067, .initialized RJ1, .methodLink RX12 356 yJ0_charAt_5068e, .instanceMethod yJ0_charAt_5068e, .selects RJ0 yJ0_charAt_5068e yJ0_charAt_5068e, .methodLink RX12 363 yX12_isWord, .instanceMethod yX12_isWord, .selects RX12 yX12_isWord yX12_isWord, .methodLink RX12 443 yX12_sortOf, .instanceMethod yX12_sortOf, .selects RX12 yX12_sortOf yX12_sortOf, .fieldLink RX12 60 "SeaLandModel" "begins" "[I", .fieldLink RX12 63 "SeaLandModel" "ends" "[I", .fieldLink RX12 48 "SeaLandModel" "told" "[I", .code yX12_passes cX12_passes 2 (some .boolean), .methodLink RX12 409 yX12_passes, .instanceMethod yX12_passes, .selects RX12 yX12_passes yX12_passes, .fieldLink RX12 401 "SeaLandModel" "deep" "I", .code yX12_readCond cX12_readCond 1 (some .boolean), .code yX12_readAllOf cX12_readAllOf 1 (some .boolean), .code yX12_readAtom cX12_readAtom 2 (some .boolean), .code yX12_sign cX12_sign 2 (some .boolean), .methodLink RX12 398 yX12_sign, .instanceMethod yX12_sign, .selects RX12 yX12_sign yX12_sign, .code yX12_readSum cX12_readSum 1 (some .boolean), .code yX12_readPart cX12_readPart 2 (some .boolean), .constant RX12 390 99999, .code yX12_number cX12_number 3 (some .int), .methodLink RX12 391 yX12_number, .instanceMethod yX12_number, .selects RX12 yX12_number yX12_number, .code yX12_adds cX12_adds 3 none, .fieldLink RX12 66 "SeaLandModel" "step" "[I", .fieldLink RX12 69 "SeaLandModel" "than" "[I", .methodLink RX12 387 yX12_adds, .instanceMethod yX12_adds, .selects RX12 yX12_adds yX12_adds, .code yX12_fact cX12_fact 1 (some (.object "java/lang/String")), .methodLink RX12 383 yX12_fact, .static yX12_fact, .methodLink RX12 394 yX12_readPart, .instanceMethod yX12_readPart, .selects RX12 yX12_readPart yX12_readPart, .methodLink RX12 415 yX12_readSum, .instanceMethod yX12_readSum, .selects RX12 yX12_readSum yX12_readSum, .methodLink RX12 412 yX12_readAtom, .instanceMethod yX12_readAtom, .selects RX12 yX12_readAtom yX12_readAtom, .methodLink RX12 420 yX12_readAllOf, .instanceMethod yX12_readAllOf, .selects RX12 yX12_readAllOf yX12_readAllOf, .methodLink RX12 404 yX12_readCond, .instanceMethod yX12_readCond, .selects RX12 yX12_readCond yX12_readCond, .code yX12_readLevel cX12_readLevel 2 (some .boolean), .fieldLink RX12 51 "SeaLandModel" "winter" "[I", .fieldLink RX12 54 "SeaLandModel" "from" "[I", .fieldLink RX12 57 "SeaLandModel" "to" "[I", .methodLink RX12 446 yX12_readLevel, .instanceMethod yX12_readLevel, .selects RX12 yX12_readLevel yX12_readLevel, .methodLink RX12 451 yX12_readLine, .instanceMethod yX12_readLine, .selects RX12 yX12_readLine yX12_readLine] bs)
set_option maxHeartbeats 4000000 in
set_option maxRecDepth 100000 in
theorem s_readLaw (l : Launch) (dC : Nat → ClassId) (dI : Nat → Nat → Nat) (kA : Nat → ClassId) (adK adV : Nat → Nat) (G : gT) (H0 : Heap) (q : Nat → Nat) (wZ wN : Nat → Int) (wH wB wC : Int) (wL wK : Nat → Prop) (wU wV : Nat → Nat) (PI : Nat → Int → Prop) (im : Int) (PM PT : Nat → Int → Prop) (lS lB lE : Nat → Nat → Int → Prop) (lN : Nat → Int) (o0 : Nat)  (hT : gH (dC, dI) kA (SHm q (wP wZ wN wH wB wC wL wK wU wV) PI im PM PT lS lB lE lN) G H0) (hr_o0 : G o0 = some 0) (hgz : ∀ i, 0 ≤ wZ i) (hgn : ∀ i, 6500000 ≤ wN i ∧ wN i ≤ 20200000) (hgh : 0 ≤ wH ∧ wH ≤ 40000) (hgb : 0 ≤ wB ∧ wB ≤ 3850000) (hgc : 0 ≤ wC ∧ wC ≤ 30) (hgi : 0 ≤ im ∧ im ≤ 1) (hgu : ∀ a t, G a = some (t + 1) → a = q t) : Met l yX12_readLaw w_s_readLaw ({ frames := 29, cells := 0, slots := 0, locals := 598 }) (va_Pc [.ref o0] (fun U => U.heap = H0 ∧ va_K (dC, dI) vwCl (tyl kA) U ∧ EVS adK adV (gA G H0.size) U U.heap)) (va_Qi (fun (r : Int32) (u : (Nat → Int → Prop) × (Nat → Int → Prop) × (Nat → Int → Prop)) => match u with | (S1, dB1, dE1) => (-1 ≤ r.toInt ∧ r.toInt ≤ 20) ∧ (0 ≤ r.toInt → lwOK S1 dB1 dE1 r.toNatClampNeg 400)) (fun (u : (Nat → Int → Prop) × (Nat → Int → Prop) × (Nat → Int → Prop)) (t : State) => match u with | (S1, dB1, dE1) => gH (dC, dI) kA (SHm q (wP wZ wN wH wB wC wL wK wU wV) PI im PM PT (lD S1 lS) (lD dB1 lB) (lD dE1 lE) lN) G t.heap ∧ gF (dC, dI) SKm G ([(0, 11), (0, 12), (0, 13), (0, 14), (0, 15), (0, 28), (20, 0), (21, 0), (22, 0), (23, 0), (24, 0), (25, 0), (26, 0), (27, 0), (28, 0)] : List (Nat × Nat)) H0 t.heap) (gA G H0.size)) 0 0 (gA G H0.size) := by
  refine Met.ofW (cc := cX12_readLaw) (maxL := 2) (ret := (some .int)) (by decide) rfl ?_
  intro p e s m args below meth c s₁ B hml hv
  obtain ⟨rfl, hH0, hK, hE⟩ := hv
  have hx := B.exec
  have hb := B.bytes
  have hr := B.returns
  have hts := atoms_spec (ws := w_s_readLaw) B.pre
  have hown : s.vm.findClass RX12 = some m.cls := findClass_of_methodNamed B.named
  have hlocks := B.notSynchronized
  subst hH0
  generalize hAe : gA G s.heap.size = A at hE ⊢
  have hA : ∀ q : Nat, s.heap.size ≤ q → A q := fun q h => by rw [← hAe]; exact Or.inr h
  have hG := gA_of hAe
  have hS : va_S A s.heap s.heap [] := va_S.rf
  have hF : gF (dC, dI) SKm G ([(0, 11), (0, 12), (0, 13), (0, 14), (0, 15), (0, 28), (20, 0), (21, 0), (22, 0), (23, 0), (24, 0), (25, 0), (26, 0), (27, 0), (28, 0)] : List (Nat × Nat)) s.heap s.heap := gF.rf
  have hl := lv_entry ([.ref o0]) (n := 2) (Nat.le_of_ble_eq_true rfl)
  rw [lg_entry_eq]
  generalize (lg_sl ([.ref o0]) ++ List.replicate (2 - (lg_sl ([.ref o0])).length) Slot.unset).toArray = ls at hl ⊢
  have hl : lv_has ls 2 [(0, .ref o0)] := hl
  refine lv_aload_n hx hb dX12_readLaw_0 rfl (lv_at hl 0 rfl) ?_
  refine lv_aload_n hx hb dX12_readLaw_1 rfl (lv_at hl 0 rfl) ?_
  refine tw_get hx hb hts bF_X12 hown hK hT hr_o0 shm_0 rfl 11 (by decide) (ht_at hts 0 rfl) (fun _ h9 => h9) dX12_readLaw_2 (fun v9 m1 h9 => ?_)
  obtain ⟨x2, rfl, gx2, kx2⟩ := h9 _ rfl
  refine tw_put (v := .int x2) (ty := .int) hx hb hts bF_X12 tyX12 tyX12_ok nmX12 hown hK hT hG hS hr_o0 shm_0 rfl 13 (by decide) (ht_at hts 1 rfl) (fun _ h9 => h9) rfl (by decide +kernel) rfl rfl (gl_at rfl (gi_of (show x2.toInt = x2.toInt from rfl) (by omega) (by omega))) dX12_readLaw_5 (fun H locs hT oq m3 oj hS => ?_)
  have hF := hF.put hr_o0 skm_0 oq oj (by decide)
  have m4 := (oj 11 (by decide) (by decide)).trans m1
  refine lv_aload_n hx hb dX12_readLaw_8 rfl (lv_at hl 0 rfl) ?_
  refine lv_iconst (v := 0) hx hb dX12_readLaw_9 (by decide) ?_
  refine tw_put (v := .int 0) (ty := .int) hx hb hts bF_X12 tyX12 tyX12_ok nmX12 hown hK hT hG hS hr_o0 shm_0 rfl 11 (by decide) (ht_at hts 0 rfl) (fun _ h9 => h9) rfl (by decide +kernel) rfl rfl (gl_at rfl (gi_of (show (0 : Int32).toInt = 0 from (by decide)) (by first | decide | omega) (by first | decide | omega))) dX12_readLaw_10 (fun H locs hT oq m5 oj hS => ?_)
  have hF := hF.put hr_o0 skm_0 oq oj (by decide)
  have m6 := (oj 13 (by decide) (by decide)).trans m3
  refine lv_aload_n hx hb dX12_readLaw_13 rfl (lv_at hl 0 rfl) ?_
  refine lv_iconst (v := 0) hx hb dX12_readLaw_14 (by decide) ?_
  refine tw_put (v := .int 0) (ty := .int) hx hb hts bF_X12 tyX12 tyX12_ok nmX12 hown hK hT hG hS hr_o0 shm_0 rfl 12 (by decide) (ht_at hts 2 rfl) (fun _ h9 => h9) rfl (by decide +kernel) rfl rfl (gl_at rfl (gi_of (show (0 : Int32).toInt = 0 from (by decide)) (by first | decide | omega) (by first | decide | omega))) dX12_readLaw_15 (fun H locs hT oq m7 oj hS => ?_)
  have hF := hF.put hr_o0 skm_0 oq oj (by decide)
  have m8 := (oj 13 (by decide) (by decide)).trans m6
  have m9 := (oj 11 (by decide) (by decide)).trans m5
  refine lv_aload_n hx hb dX12_readLaw_18 rfl (lv_at hl 0 rfl) ?_
  refine lv_iconst (v := 0) hx hb dX12_readLaw_19 (by decide) ?_
  refine tw_put (v := .int 0) (ty := .int) hx hb hts bF_X12 tyX12 tyX12_ok nmX12 hown hK hT hG hS hr_o0 shm_0 rfl 28 (by decide) (ht_at hts 3 rfl) (fun _ h9 => h9) rfl (by decide +kernel) rfl rfl (gl_at rfl (gi_of (show (0 : Int32).toInt = 0 from (by decide)) (by first | decide | omega) (by first | decide | omega))) dX12_readLaw_20 (fun H locs hT oq m10 oj hS => ?_)
  have hF := hF.put hr_o0 skm_0 oq oj (by decide)
  have m11 := (oj 13 (by decide) (by decide)).trans m8
  have m12 := (oj 11 (by decide) (by decide)).trans m9
  have m13 := (oj 12 (by decide) (by decide)).trans m7
  refine lv_aload_n hx hb dX12_readLaw_23 rfl (lv_at hl 0 rfl) ?_
  have hFc := gA_free hG hA hS
  refine va_callv (va_runV (As := []) (rest := []) ⟨hx, hb, hml, hown, hts⟩ (s_blanks l dC dI kA adK adV G H q wZ wN wH wB wC wL wK wU wV PI im PM PT lS lB lE lN o0 0 x2 hT hr_o0 m13 m11 (rg_t (a := 0) (by decide) (by first | decide | omega) (by first | decide | omega)) (by have q8 := ti_all x2; omega) (by have := (show (0 : Int32).toInt = 0 from (by decide)); have := (show x2.toInt = x2.toInt from rfl); omega) hgz hgn hgh hgb hgc hgi hgu) (cwV 0 hts (goodIn_app (goodIn_r _ [13, 14, 15, 11] rfl (by decide +kernel)) (goodIn_ca (goodIn_r _ [5, 6, 3, 2, 7, 8, 9, 10, 11, 12] rfl (by decide +kernel)) (bs_in _ _))) rfl rfl rfl (by decide +kernel) ⟨(Nat.le_of_ble_eq_true rfl), (Nat.le_of_ble_eq_true rfl)⟩) ⟨fun a U g mk q => by obtain ⟨q0, q1, qK, qE⟩ := q; exact ⟨q0, q1, va_K.moved (u := U) (U := U.calling g mk a) (Vm.Alike.refl U.vm) qK, EVS.blind g mk a qE⟩, gH_rc hK hT hr_o0 shm_0 rfl, fun U hU hW => ⟨rfl, hU, va_K.moved hW.alike hK, hE.call hS hFc hU hW⟩⟩ rfl rfl hl.1 rfl (lv_room (Nat.le_of_ble_eq_true rfl)) dX12_readLaw_24 ⟨(Nat.le_of_ble_eq_true rfl), (Nat.le_of_ble_eq_true rfl)⟩) hS (fun q _ h => hFc q h) hFc (fun u t H locs ht hvm hw15 hB _ _ hS => ?_)
  obtain ⟨u16, u17⟩ := u
  obtain ⟨hT, hF1, m18, m19⟩ := hB
  rw [ht] at hT hF1 m18 m19
  have m20 := (hF1.fld hr_o0 skm_0 (k := 13) (by decide) (by decide)).trans m11
  have m21 := (hF1.fld hr_o0 skm_0 (k := 11) (by decide) (by decide)).trans m12
  have m23 := (hF1.fld hr_o0 skm_0 (k := 28) (by decide) (by decide)).trans m10
  have hF := hF.more hF1 (by decide)
  try dsimp only at hw15
  obtain ⟨h24, h25, hf26⟩ := hw15
  have t27 : (0 : Int32).toInt = 0 := by decide
  refine lv_aload_n hx hb dX12_readLaw_27 rfl (lv_at hl 0 rfl) ?_
  refine tw_getM (v := .int u16) hx hb hts bF_X12 hown hK hT hr_o0 shm_0 rfl 12 (by decide) (ht_at hts 2 rfl) (fun _ h9 => h9) m18 dX12_readLaw_28 ?_
  refine lv_aload_n hx hb dX12_readLaw_31 rfl (lv_at hl 0 rfl) ?_
  refine tw_getM (v := .int x2) hx hb hts bF_X12 hown hK hT hr_o0 shm_0 rfl 13 (by decide) (ht_at hts 1 rfl) (fun _ h9 => h9) m20 dX12_readLaw_32 ?_
  refine lv_icmp_ne (tgt := 40) hx hb dX12_readLaw_35 (by decide) (fun c28 => ?_) (fun c28 => ?_)
  · have t29 : u16.toInt ≠ x2.toInt := ti_ne c28 rfl rfl
    refine lv_iconst (v := 0) hx hb dX12_readLaw_40 (by decide) ?_
    refine lv_istore_n (lv' := [(1, .int 0), (0, .ref o0)]) hx hb dX12_readLaw_41 rfl hl (by decide) rfl (fun ls hl => ?_)
    have key191 : ∀ (n191 : Nat), ∀ (gS0106 : Nat → Int → Prop), ∀ (gdB107 : Nat → Int → Prop), ∀ (gdE108 : Nat → Int → Prop), ∀ (z109 : Int32), ∀ (z113 : Int32), ∀ (z116 : Int32), ∀ (z119 : Int32), (400 - z116.toInt < ((n191 : Nat) : Int)) → ((0 ≤ z109.toInt ∧ z109.toInt ≤ 20) ∧ (0 ≤ z113.toInt ∧ z113.toInt ≤ 400) ∧ (0 ≤ z116.toInt ∧ z116.toInt ≤ 400) ∧ (0 ≤ z119.toInt ∧ z119.toInt ≤ 400) ∧ (lwOK gS0106 gdB107 gdE108 z109.toNatClampNeg z113.toInt) ∧ (z116.toInt ≤ x2.toInt ∧ z113.toInt ≤ z116.toInt)) → ∀ (H : Heap) (locs : List Loc), gH (dC, dI) kA (SHm q (wP wZ wN wH wB wC wL wK wU wV) PI im PM PT (lD gS0106 lS) (lD gdB107 lB) (lD gdE108 lE) lN) G H → gF (dC, dI) SKm G ([(0, 11), (0, 12), (0, 13), (0, 14), (0, 15), (0, 28), (20, 0), (21, 0), (22, 0), (23, 0), (24, 0), (25, 0), (26, 0), (27, 0), (28, 0)] : List (Nat × Nat)) s.heap H → va_S A s.heap H locs → el H o0 (dI 15 13) = some (.int x2) → el H o0 (dI 15 11) = some (.int 0) → el H o0 (dI 15 28) = some (.int z113) → el H o0 (dI 15 12) = some (.int z116) → el H o0 (dI 15 14) = some (.int z119) → ∀ ls : Array Slot, lv_has ls 2 [(1, .int z109), (0, .ref o0)] → W p l e (headSpec w_s_readLaw ({ frames := 29, cells := 0, slots := 0, locals := 598 })).room s m #[.ref o0] below meth c H locs 0 0 (MQ below (va_Qi (fun (r : Int32) (u : (Nat → Int → Prop) × (Nat → Int → Prop) × (Nat → Int → Prop)) => match u with | (S1, dB1, dE1) => (-1 ≤ r.toInt ∧ r.toInt ≤ 20) ∧ (0 ≤ r.toInt → lwOK S1 dB1 dE1 r.toNatClampNeg 400)) (fun (u : (Nat → Int → Prop) × (Nat → Int → Prop) × (Nat → Int → Prop)) (t : State) => match u with | (S1, dB1, dE1) => gH (dC, dI) kA (SHm q (wP wZ wN wH wB wC wL wK wU wV) PI im PM PT (lD S1 lS) (lD dB1 lB) (lD dE1 lE) lN) G t.heap ∧ gF (dC, dI) SKm G ([(0, 11), (0, 12), (0, 13), (0, 14), (0, 15), (0, 28), (20, 0), (21, 0), (22, 0), (23, 0), (24, 0), (25, 0), (26, 0), (27, 0), (28, 0)] : List (Nat × Nat)) s.heap t.heap) A) #[.ref o0] s 0 0 A) (F0 m 42 ls []) := by
      intro n191
      induction n191 with
      | zero =>
        intro gS0106 gdB107 gdE108 z109 z113 z116 z119 hv191 ⟨h110, h114, h117, h120, hg122, hj123⟩ H locs hT hF hS m111 m112 m115 m118 m121 ls hl
        exfalso; omega
      | succ n191 ih191 =>
        intro gS0106 gdB107 gdE108 z109 z113 z116 z119 hv191 ⟨h110, h114, h117, h120, hg122, hj123⟩ H locs hT hF hS m111 m112 m115 m118 m121 ls hl
        refine lv_aload_n hx hb dX12_readLaw_42 rfl (lv_at hl 1 rfl) ?_
        refine lv_iload_n hx hb dX12_readLaw_43 rfl (lv_at hl 0 rfl) ?_
        have hFc := gA_free hG hA hS
        refine va_calli (va_runV (As := [.int z109]) (rest := []) ⟨hx, hb, hml, hown, hts⟩ (s_readLine l dC dI kA adK adV G H q wZ wN wH wB wC wL wK wU wV PI im PM PT lS lB lE lN o0 z109 z116 x2 z113 gS0106 gdB107 gdE108 hT hr_o0 m118 m111 m115 (by have q8 := ti_all z116; omega) (by have q8 := ti_all x2; omega) (by have q8 := ti_all z113; omega) (by have q8 := ti_all z109; omega) (by have := (show z116.toInt = z116.toInt from rfl); have := (show x2.toInt = x2.toInt from rfl); omega) (by have := (show z113.toInt = z113.toInt from rfl); have := (show z116.toInt = z116.toInt from rfl); omega) hg122 hgz hgn hgh hgb hgc hgi hgu) (cwV 1 hts (goodIn_app (goodIn_r _ [115, 116, 117, 11] rfl (by decide +kernel)) (goodIn_ca (goodIn_r _ [16, 17, 5, 6, 3, 2, 7, 8, 9, 10, 11, 12, 13, 14, 15, 18, 19, 20, 21, 22, 23, 24, 25, 26, 27, 28, 29, 30, 31, 32, 33, 34, 35, 36, 37, 38, 39, 40, 41, 42, 43, 44, 45, 46, 47, 48, 49, 50, 51, 52, 53, 54, 55, 56, 57, 58, 59, 60, 61, 62, 4, 63, 64, 65, 66, 67, 68, 69, 70, 71, 72, 73, 74, 75, 76, 77, 78, 79, 80, 81, 82, 83, 84, 85, 86, 87, 88, 89, 90, 91, 92, 93, 94, 95, 96, 97, 98, 99, 100, 101, 102, 103, 104, 105, 106, 107, 108, 109, 110, 111, 112, 113, 114] rfl (by decide +kernel)) (bs_in _ _))) rfl rfl rfl (by decide +kernel) ⟨(Nat.le_of_ble_eq_true rfl), (Nat.le_of_ble_eq_true rfl)⟩) ⟨fun a U g mk q => by obtain ⟨q0, q1, qK, qE⟩ := q; exact ⟨q0, q1, va_K.moved (u := U) (U := U.calling g mk a) (Vm.Alike.refl U.vm) qK, EVS.blind g mk a qE⟩, gH_rc hK hT hr_o0 shm_0 rfl, fun U hU hW => ⟨rfl, hU, va_K.moved hW.alike hK, hE.call hS hFc hU hW⟩⟩ rfl rfl hl.1 rfl (lv_room (Nat.le_of_ble_eq_true rfl)) dX12_readLaw_44 ⟨(Nat.le_of_ble_eq_true rfl), (Nat.le_of_ble_eq_true rfl)⟩) hS (fun q _ h => hFc q h) hFc (fun r192 u t H locs ht hvm hw193 hB _ _ hS => ?_)
        obtain ⟨u194, u195, u196, u197, u198, u199⟩ := u
        obtain ⟨hT, hF1, m200, m201, m202⟩ := hB
        rw [ht] at hT hF1 m200 m201 m202
        have m203 := (hF1.fld hr_o0 skm_0 (k := 13) (by decide) (by decide)).trans m111
        have m204 := (hF1.fld hr_o0 skm_0 (k := 11) (by decide) (by decide)).trans m112
        have hF := hF.more hF1 (by decide)
        try dsimp only at hw193
        obtain ⟨h208, h209, h210, h211, hi212, hf213⟩ := hw193
        refine lv_if_ne (tgt := 52) hx hb dX12_readLaw_47 (by decide) (fun c214 => ?_) (fun c214 => ?_)
        · have t215 : r192.toInt ≠ 0 := ti_ne c214 rfl (by decide)
          have t216 : lwOK u197 u198 u199 (z109.toNatClampNeg + 1) u196.toInt ∧ z109.toInt < 20 := hi212 ((bit_of ⟨by omega, by omega⟩).resolve_left c214)
          refine lv_aload_n hx hb dX12_readLaw_52 rfl (lv_at hl 1 rfl) ?_
          have hFc := gA_free hG hA hS
          refine va_callv (va_runV (As := []) (rest := []) ⟨hx, hb, hml, hown, hts⟩ (s_blanks l dC dI kA adK adV G H q wZ wN wH wB wC wL wK wU wV PI im PM PT (lD u197 lS) (lD u198 lB) (lD u199 lE) lN o0 u194 x2 hT hr_o0 m200 m203 (by have q8 := ti_all u194; omega) (by have q8 := ti_all x2; omega) (by have := (show u194.toInt = u194.toInt from rfl); have := (show x2.toInt = x2.toInt from rfl); omega) hgz hgn hgh hgb hgc hgi hgu) (cwV 0 hts (goodIn_app (goodIn_r _ [13, 14, 15, 11] rfl (by decide +kernel)) (goodIn_ca (goodIn_r _ [5, 6, 3, 2, 7, 8, 9, 10, 11, 12] rfl (by decide +kernel)) (bs_in _ _))) rfl rfl rfl (by decide +kernel) ⟨(Nat.le_of_ble_eq_true rfl), (Nat.le_of_ble_eq_true rfl)⟩) ⟨fun a U g mk q => by obtain ⟨q0, q1, qK, qE⟩ := q; exact ⟨q0, q1, va_K.moved (u := U) (U := U.calling g mk a) (Vm.Alike.refl U.vm) qK, EVS.blind g mk a qE⟩, gH_rc hK hT hr_o0 shm_0 rfl, fun U hU hW => ⟨rfl, hU, va_K.moved hW.alike hK, hE.call hS hFc hU hW⟩⟩ rfl rfl hl.1 rfl (lv_room (Nat.le_of_ble_eq_true rfl)) dX12_readLaw_53 ⟨(Nat.le_of_ble_eq_true rfl), (Nat.le_of_ble_eq_true rfl)⟩) hS (fun q _ h => hFc q h) hFc (fun u t H locs ht hvm hw218 hB _ _ hS => ?_)
          obtain ⟨u219, u220⟩ := u
          obtain ⟨hT, hF1, m221, m222⟩ := hB
          rw [ht] at hT hF1 m221 m222
          have m223 := (hF1.fld hr_o0 skm_0 (k := 13) (by decide) (by decide)).trans m203
          have m224 := (hF1.fld hr_o0 skm_0 (k := 11) (by decide) (by decide)).trans m204
          have m227 := (hF1.fld hr_o0 skm_0 (k := 28) (by decide) (by decide)).trans m202
          have hF := hF.more hF1 (by decide)
          try dsimp only at hw218
          obtain ⟨h228, h229, hf230⟩ := hw218
          refine lv_aload_n hx hb dX12_readLaw_56 rfl (lv_at hl 1 rfl) ?_
          refine tw_getM (v := .int u219) hx hb hts bF_X12 hown hK hT hr_o0 shm_0 rfl 12 (by decide) (ht_at hts 2 rfl) (fun _ h9 => h9) m221 dX12_readLaw_57 ?_
          refine lv_aload_n hx hb dX12_readLaw_60 rfl (lv_at hl 1 rfl) ?_
          refine tw_getM (v := .int x2) hx hb hts bF_X12 hown hK hT hr_o0 shm_0 rfl 13 (by decide) (ht_at hts 1 rfl) (fun _ h9 => h9) m223 dX12_readLaw_61 ?_
          refine lv_icmp_ne (tgt := 71) hx hb dX12_readLaw_64 (by decide) (fun c231 => ?_) (fun c231 => ?_)
          · have t232 : u219.toInt ≠ x2.toInt := ti_ne c231 rfl rfl
            refine lv_aload_n hx hb dX12_readLaw_71 rfl (lv_at hl 1 rfl) ?_
            refine lv_bipush (v := 59) hx hb dX12_readLaw_72 (by decide) ?_
            refine lv_bipush (v := 59) hx hb dX12_readLaw_74 (by decide) ?_
            have hFc := gA_free hG hA hS
            refine va_calli (va_runV (As := [.int 59, .int 59]) (rest := []) ⟨hx, hb, hml, hown, hts⟩ (s_isAt l dC dI kA adK adV G H q wZ wN wH wB wC wL wK wU wV PI im PM PT (lD u197 lS) (lD u198 lB) (lD u199 lE) lN o0 59 59 u219 x2 hT hr_o0 m221 m223 (by have q8 := ti_all u219; omega) (by have q8 := ti_all x2; omega) hgz hgn hgh hgb hgc hgi hgu) (cwV 2 hts (goodIn_app (goodIn_r _ [8, 9, 10, 11] rfl (by decide +kernel)) (goodIn_ca (goodIn_r _ [6, 3, 2, 7] rfl (by decide +kernel)) (bs_in _ _))) rfl rfl rfl (by decide +kernel) ⟨(Nat.le_of_ble_eq_true rfl), (Nat.le_of_ble_eq_true rfl)⟩) ⟨fun a U g mk q => by obtain ⟨q0, q1, qK, qE⟩ := q; exact ⟨q0, q1, va_K.moved (u := U) (U := U.calling g mk a) (Vm.Alike.refl U.vm) qK, EVS.blind g mk a qE⟩, gH_rc hK hT hr_o0 shm_0 rfl, fun U hU hW => ⟨rfl, hU, va_K.moved hW.alike hK, hE.call hS hFc hU hW⟩⟩ rfl rfl hl.1 rfl (lv_room (Nat.le_of_ble_eq_true rfl)) dX12_readLaw_76 ⟨(Nat.le_of_ble_eq_true rfl), (Nat.le_of_ble_eq_true rfl)⟩) hS (fun q _ h => hFc q h) hFc (fun r233 u t H locs ht hvm hw234 hB _ _ hS => ?_)
            obtain ⟨hT, hF1⟩ := hB
            rw [ht] at hT hF1
            have m235 := (hF1.fld hr_o0 skm_0 (k := 13) (by decide) (by decide)).trans m223
            have m236 := (hF1.fld hr_o0 skm_0 (k := 11) (by decide) (by decide)).trans m224
            have m237 := (hF1.fld hr_o0 skm_0 (k := 28) (by decide) (by decide)).trans m227
            have m238 := (hF1.fld hr_o0 skm_0 (k := 12) (by decide) (by decide)).trans m221
            have m239 := (hF1.fld hr_o0 skm_0 (k := 14) (by decide) (by decide)).trans m222
            have hF := hF.more hF1 (by decide)
            try dsimp only at hw234
            obtain ⟨h240, hi241⟩ := hw234
            refine lv_if_ne (tgt := 84) hx hb dX12_readLaw_79 (by decide) (fun c242 => ?_) (fun c242 => ?_)
            · have t243 : r233.toInt ≠ 0 := ti_ne c242 rfl (by decide)
              have t244 : u219.toInt < x2.toInt := hi241 ((bit_of ⟨by omega, by omega⟩).resolve_left c242)
              refine lv_aload_n hx hb dX12_readLaw_84 rfl (lv_at hl 1 rfl) ?_
              refine lv_dup hx hb dX12_readLaw_85 rfl ?_
              refine tw_getM (v := .int u219) hx hb hts bF_X12 hown hK hT hr_o0 shm_0 rfl 12 (by decide) (ht_at hts 2 rfl) (fun _ h9 => h9) m238 dX12_readLaw_86 ?_
              refine lv_iconst (v := 1) hx hb dX12_readLaw_89 (by decide) ?_
              refine lv_iadd hx hb dX12_readLaw_90 ?_
              refine lv_topi (fun x245 ex245 => ?_)
              have t246 : x245.toInt = u219.toInt + 1 := ti_add ex245 rfl (by decide) (by omega) (by omega)
              refine tw_put (v := .int x245) (ty := .int) hx hb hts bF_X12 tyX12 tyX12_ok nmX12 hown hK hT hG hS hr_o0 shm_0 rfl 12 (by decide) (ht_at hts 2 rfl) (fun _ h9 => h9) rfl (by decide +kernel) rfl rfl (gl_at rfl (gi_of (show x245.toInt = x245.toInt from rfl) (by omega) (by omega))) dX12_readLaw_91 (fun H locs hT oq m247 oj hS => ?_)
              have hF := hF.put hr_o0 skm_0 oq oj (by decide)
              have m248 := (oj 13 (by decide) (by decide)).trans m235
              have m249 := (oj 11 (by decide) (by decide)).trans m236
              have m250 := (oj 28 (by decide) (by decide)).trans m237
              have m251 := (oj 14 (by decide) (by decide)).trans m239
              obtain ⟨x252, ex252⟩ : ∃ y : Int32, y = z109 + 1 := ⟨_, rfl⟩
              have t253 : x252.toInt = z109.toInt + 1 := ti_add ex252 rfl (by decide) (by omega) (by omega)
              refine lv_iinc (v := x252) (lv' := [(1, .int x252), (0, .ref o0)]) hx hb dX12_readLaw_94 hl (k := 0) rfl (by first | (rw [ex252]; done) | (rw [ex252]; rfl)) (by decide) rfl (fun ls hl => ?_)
              refine lv_goto (tgt := 42) hx hb dX12_readLaw_97 (by decide) ?_
              exact ih191 u197 u198 u199 x252 u196 x245 u220 (by have q9 := (show x245.toInt = x245.toInt from rfl); omega) ⟨(by have q9 := (show x252.toInt = x252.toInt from rfl); (try have q8 := ti_all x252); omega), (by have q8 := ti_all u196; omega), (by have q8 := ti_all x245; omega), (by have q8 := ti_all u220; omega), (by rw [show x252.toNatClampNeg = z109.toNatClampNeg + 1 from by have q8 := tn_of (show x252.toInt = x252.toInt from rfl) (by omega); have q9 := tn_of (i := z109) rfl (by omega); omega]; exact (by assumption : lwOK _ _ _ _ _ ∧ _).1), (by have := (show x245.toInt = x245.toInt from rfl); have := (show u196.toInt = u196.toInt from rfl); have := (show x2.toInt = x2.toInt from rfl); omega)⟩ _ _ hT hF hS m248 m249 m250 m247 m251 ls (lv_sub hl [0, 1] rfl)
            · have t254 : r233.toInt = 0 := ti_eq c242 rfl (by decide)
              refine lv_iconst (v := (-1)) hx hb dX12_readLaw_82 (by decide) ?_
              exact W.iret (v := (-1)) hx hb hr (fun t ht hW => ⟨⟨(-1), (u197, u198, u199), rfl, (by exact ⟨(rg_t (a := (-1)) (by decide) (by first | decide | omega) (by first | decide | omega)), (fun h9 => absurd h9 (by decide))⟩), by (try dsimp only); rw [ht]; exact ⟨hT, hF⟩⟩, hS.F ht⟩) hS.2.2 dX12_readLaw_83
          · have t255 : u219.toInt = x2.toInt := ti_eq c231 rfl rfl
            refine lv_iload_n hx hb dX12_readLaw_67 rfl (lv_at hl 0 rfl) ?_
            refine lv_iconst (v := 1) hx hb dX12_readLaw_68 (by decide) ?_
            refine lv_iadd hx hb dX12_readLaw_69 ?_
            refine lv_topi (fun x256 ex256 => ?_)
            have t257 : x256.toInt = z109.toInt + 1 := ti_add ex256 rfl (by decide) (by omega) (by omega)
            exact W.iret (v := x256) hx hb hr (fun t ht hW => ⟨⟨x256, (u197, u198, u199), rfl, (by exact ⟨(by have q8 := ti_all x256; omega), (fun _ => by rw [show x256.toNatClampNeg = z109.toNatClampNeg + 1 from by have q8 := tn_of (show x256.toInt = x256.toInt from rfl) (by omega); have q9 := tn_of (i := z109) rfl (by omega); omega]; exact lw_v (by assumption : lwOK _ _ _ _ _ ∧ _).1 (by omega))⟩), by (try dsimp only); rw [ht]; exact ⟨hT, hF⟩⟩, hS.F ht⟩) hS.2.2 dX12_readLaw_70
        · have t258 : r192.toInt = 0 := ti_eq c214 rfl (by decide)
          refine lv_iconst (v := (-1)) hx hb dX12_readLaw_50 (by decide) ?_
          exact W.iret (v := (-1)) hx hb hr (fun t ht hW => ⟨⟨(-1), (u197, u198, u199), rfl, (by exact ⟨(rg_t (a := (-1)) (by decide) (by first | decide | omega) (by first | decide | omega)), (fun h9 => absurd h9 (by decide))⟩), by (try dsimp only); rw [ht]; exact ⟨hT, hF⟩⟩, hS.F ht⟩) hS.2.2 dX12_readLaw_51
    have hT : gH (dC, dI) kA (SHm q (wP wZ wN wH wB wC wL wK wU wV) PI im PM PT (lD (fun _ _ => True) lS) (lD (fun _ _ => True) lB) (lD (fun _ _ => True) lE) lN) G H := SHm_mono hT (fun _ _ _ z => z) (fun _ _ _ z => z) (fun _ _ z => z) (fun _ _ z => z) (fun l i _ x q => lD_in _ (fun _ _ => trivial) l i x q) (fun l i _ x q => lD_in _ (fun _ _ => trivial) l i x q) (fun l i _ x q => lD_in _ (fun _ _ => trivial) l i x q) (fun _ => Int.le_refl _)
    exact key191 401 (fun _ _ => True) (fun _ _ => True) (fun _ _ => True) 0 0 u16 u17 (by have q9 := (show u16.toInt = u16.toInt from rfl); omega) ⟨(by have q9 := (show (0 : Int32).toInt = 0 from (by decide)); (try have q8 := ti_all (0 : Int32)); omega), (rg_t (a := 0) (by decide) (by first | decide | omega) (by first | decide | omega)), (by have q8 := ti_all u16; omega), (by have q8 := ti_all u17; omega), (by rw [show ((0 : Int32)).toNatClampNeg = 0 from by decide, show ((0 : Int32)).toInt = 0 from by decide]; exact lw_0 _ _), (by have := (show u16.toInt = u16.toInt from rfl); have := (show (0 : Int32).toInt = 0 from (by decide)); have := (show x2.toInt = x2.toInt from rfl); omega)⟩ _ _ hT hF hS m20 m21 m23 m18 m19 ls (lv_sub hl [0, 1] rfl)
  · have t259 : u16.toInt = x2.toInt := ti_eq c28 rfl rfl
    refine lv_iconst (v := 0) hx hb dX12_readLaw_38 (by decide) ?_
    have hT : gH (dC, dI) kA (SHm q (wP wZ wN wH wB wC wL wK wU wV) PI im PM PT (lD (fun _ _ => True) lS) (lD (fun _ _ => True) lB) (lD (fun _ _ => True) lE) lN) G H := SHm_mono hT (fun _ _ _ z => z) (fun _ _ _ z => z) (fun _ _ z => z) (fun _ _ z => z) (fun l i _ x q => lD_in _ (fun _ _ => trivial) l i x q) (fun l i _ x q => lD_in _ (fun _ _ => trivial) l i x q) (fun l i _ x q => lD_in _ (fun _ _ => trivial) l i x q) (fun _ => Int.le_refl _)
    exact W.iret (v := 0) hx hb hr (fun t ht hW => ⟨⟨0, ((fun _ _ => True), (fun _ _ => True), (fun _ _ => True)), rfl, (by exact ⟨(rg_t (a := 0) (by decide) (by first | decide | omega) (by first | decide | omega)), (fun _ => by rw [show ((0 : Int32)).toNatClampNeg = 0 from by decide]; exact lw_v (lw_0 _ _) (by decide))⟩), by (try dsimp only); rw [ht]; exact ⟨hT, hF⟩⟩, hS.F ht⟩) hS.2.2 dX12_readLaw_39
