def w_s_readLaw : List Cond := .code yX12_readLaw cX12_readLaw 2 (some .int) :: (HAppend.hAppend (α := List Cond) (β := List Cond) (γ := List Cond) [.fieldLink RX12 332 "SeaLandModel" "taped" "I", .fieldLink RX12 338 "SeaLandModel" "end" "I", .fieldLink RX12 335 "SeaLandModel" "point" "I", .fieldLink RX12 367 "SeaLandModel" "steps" "I", .code yX12_blanks cX12_blanks 1 none, .code yX12_isAt cX12_isAt 3 (some .boolean), .fieldLink RX12 31 "SeaLandModel" "tape" "[B", .methodLink RX12 341 yX12_isAt, .instanceMethod yX12_isAt, .selects RX12 yX12_isAt yX12_isAt, .initialized RX12, .fieldLink RX12 345 "SeaLandModel" "begin" "I", .methodLink RX12 348 yX12_blanks, .instanceMethod yX12_blanks, .selects RX12 yX12_blanks yX12_blanks, .code yX12_readLine cX12_readLine 3 (some .boolean), .code yX12_word cX12_word 1 none, .methodLink RX12 360 yX12_word, .instanceMethod yX12_word, .selects RX12 yX12_word yX12_word, .fieldLink RX12 45 "SeaLandModel" "sort" "[I", .code yX12_sortOf cX12_sortOf 1 (some .int), .code yX12_isWord cX12_isWord 4 (some .boolean), .code yJ0_length_8abf5 cJ0_length_8abf5 1 (some .int), .fieldLink RJ0 9 "java/lang/String" "value" "[B", .code yJ0_coder_7d493 cJ0_coder_7d493 1 (some .byte), .fieldLink RJ0 38 "java/lang/String" "COMPACT_STRINGS" "Z", .fieldLink RJ0 15 "java/lang/String" "coder" "B", .methodLink RJ0 335 yJ0_coder_7d493, .instanceMethod yJ0_coder_7d493, .selects RJ0 yJ0_coder_7d493 yJ0_coder_7d493, .initialized RJ0, .methodLink RX12 351 yJ0_length_8abf5, .instanceMethod yJ0_length_8abf5, .selects RJ0 yJ0_length_8abf5 yJ0_length_8abf5, .code yJ0_charAt_5068e cJ0_charAt_5068e 2 (some .char), .code yJ0_isLatin1_aae02 cJ0_isLatin1_aae02 1 (some .boolean), .methodLink RJ0 492 yJ0_isLatin1_aae02, .instanceMethod yJ0_isLatin1_aae02, .selects RJ0 yJ0_isLatin1_aae02 yJ0_isLatin1_aae02, .code yJ1_charAt_3b067 cJ1_charAt_3b067 2 (some .char), .code yJ0_checkIndex_df160 cJ0_checkIndex_df160 2 none, .fieldLink RJ0 1053 "jdk/internal/util/Preconditions" "SIOOBE_FORMATTER" "Ljava/util/function/BiFunction;", .code yJ3_checkIndex_8e157 cJ3_checkIndex_8e157 3 (some .int), .methodLink RJ0 1059 yJ3_checkIndex_8e157, .static yJ3_checkIndex_8e157, .initialized RJ3, .methodLink RJ1 9 yJ0_checkIndex_df160, .static yJ0_checkIndex_df160, .methodLink RJ0 495 yJ1_charAt_3b067, .static yJ1_charAt_3b067, .initialized RJ1, .methodLink RX12 356 yJ0_charAt_5068e, .instanceMethod yJ0_charAt_5068e, .selects RJ0 yJ0_charAt_5068e yJ0_charAt_5068e, .methodLink RX12 363 yX12_isWord, .instanceMethod yX12_isWord, .selects RX12 yX12_isWord yX12_isWord, .methodLink RX12 443 yX12_sortOf, .instanceMethod yX12_sortOf, .selects RX12 yX12_sortOf yX12_sortOf, .fieldLink RX12 60 "SeaLandModel" "begins" "[I", .fieldLink RX12 63 "SeaLandModel" "ends" "[I", .fieldLink RX12 48 "SeaLandModel" "told" "[I", .code yX12_passes cX12_passes 2 (some .boolean), .methodLink RX12 409 yX12_passes, .instanceMethod yX12_passes, .selects RX12 yX12_passes yX12_passes, .fieldLink RX12 401 "SeaLandModel" "deep" "I", .code yX12_readCond cX12_readCond 1 (some .boolean), .code yX12_readAllOf cX12_readAllOf 1 (some .boolean), .code yX12_readAtom cX12_readAtom 2 (some .boolean), .code yX12_sign cX12_sign 2 (some .boolean), .methodLink RX12 398 yX12_sign, .instanceMethod yX12_sign, .selects RX12 yX12_sign yX12_sign, .code yX12_readSum cX12_readSum 1 (some .boolean), .code yX12_readPart cX12_readPart 2 (some .boolean), .constant RX12 390 99999, .code yX12_number cX12_number 3 (some .int), .methodLink RX12 391 yX12_number, .instanceMethod yX12_number, .selects RX12 yX12_number yX12_number, .code yX12_adds cX12_adds 3 none, .fieldLink RX12 66 "SeaLandModel" "step" "[I", .fieldLink RX12 69 "SeaLandModel" "than" "[I", .methodLink RX12 387 yX12_adds, .instanceMethod yX12_adds, .selects RX12 yX12_adds yX12_adds, .code yX12_fact cX12_fact 1 (some (.object "java/lang/String")), .methodLink RX12 383 yX12_fact, .static yX12_fact, .methodLink RX12 394 yX12_readPart, .instanceMethod yX12_readPart, .selects RX12 yX12_readPart yX12_readPart, .methodLink RX12 415 yX12_readSum, .instanceMethod yX12_readSum, .selects RX12 yX12_readSum yX12_readSum, .methodLink RX12 412 yX12_readAtom, .instanceMethod yX12_readAtom, .selects RX12 yX12_readAtom yX12_readAtom, .methodLink RX12 420 yX12_readAllOf, .instanceMethod yX12_readAllOf, .selects RX12 yX12_readAllOf yX12_readAllOf, .methodLink RX12 404 yX12_readCond, .instanceMethod yX12_readCond, .selects RX12 yX12_readCond yX12_readCond, .code yX12_readLevel cX12_readLevel 2 (some .boolean), .fieldLink RX12 51 "SeaLandModel" "winter" "[I", .fieldLink RX12 54 "SeaLandModel" "from" "[I", .fieldLink RX12 57 "SeaLandModel" "to" "[I", .methodLink RX12 446 yX12_readLevel, .instanceMethod yX12_readLevel, .selects RX12 yX12_readLevel yX12_readLevel, .methodLink RX12 451 yX12_readLine, .instanceMethod yX12_readLine, .selects RX12 yX12_readLine yX12_readLine] bs)
set_option maxHeartbeats 4000000 in
set_option maxRecDepth 100000 in
theorem s_readLaw (l : Launch) (dC : Nat → ClassId) (dI : Nat → Nat → Nat) (kA : Nat → ClassId) (adK adV : Nat → Nat) (G : gT) (H0 : Heap) (q : Nat → Nat) (wZ wN : Nat → Int) (wH wB wC : Int) (wL wK : Nat → Prop) (wU wV : Nat → Nat) (PI : Nat → Int → Prop) (im : Int) (PM PT : Nat → Int → Prop) (lS lB lE : Nat → Nat → Int → Prop) (lN : Nat → Int) (o0 : Nat) (tn : Int32) (vt : Nat → Int32) (vO : Nat → Int32) (vB : Nat → Int32) (vX : Nat → Int32) (vS : Nat → Int32) (vN : Nat → Int32) (N : Nat) (hT : gH (dC, dI) kA (SHm q (wP wZ wN wH wB wC wL wK wU wV) PI im PM PT lS lB lE lN) G H0) (hr_o0 : G o0 = some 0) (hm_tn : el H0 o0 (dI 15 11) = some (.int tn)) (hq0 : 0 ≤ tn.toInt ∧ tn.toInt ≤ 400) (hN : tn.toInt = ((N : Nat) : Int)) (hc_vt : ct H0 (q 10) 400 vt) (hc_vO : ct H0 (q 19) 60 vO) (hc_vB : ct H0 (q 24) 60 vB) (hc_vX : ct H0 (q 25) 60 vX) (hc_vS : ct H0 (q 26) 1200 vS) (hc_vN : ct H0 (q 27) 1200 vN) (hgz : ∀ i, 0 ≤ wZ i) (hgn : ∀ i, 6500000 ≤ wN i ∧ wN i ≤ 20200000) (hgh : 0 ≤ wH ∧ wH ≤ 40000) (hgb : 0 ≤ wB ∧ wB ≤ 3850000) (hgc : 0 ≤ wC ∧ wC ≤ 30) (hgi : 0 ≤ im ∧ im ≤ 1) (hgu : ∀ a t, G a = some (t + 1) → a = q t) : Met l yX12_readLaw w_s_readLaw ({ frames := 29, cells := 0, slots := 0, locals := 598 }) (va_Pc [.ref o0] (fun U => U.heap = H0 ∧ va_K (dC, dI) vwCl (tyl kA) U ∧ EVS adK adV (gA G H0.size) U U.heap)) (va_Qi (fun (r : Int32) (u : Int32 × Int32 × (Nat → Int → Prop) × (Nat → Int → Prop) × (Nat → Int → Prop) × (Nat → Int32) × (Nat → Int32) × (Nat → Int32) × (Nat → Int32) × (Nat → Int32)) => match u with | (t1, b1, S1, dB1, dE1, vO1, vB1, vX1, vS1, vN1) => (0 ≤ b1.toInt ∧ b1.toInt ≤ 400) ∧ (-1 ≤ r.toInt ∧ r.toInt ≤ 20) ∧ (t1.toInt = 0) ∧ (0 ≤ r.toInt → lwOK S1 dB1 dE1 r.toNatClampNeg 400) ∧ ((0 ≤ r.toInt ∧ laR (tx vt) N r.toInt (-1)) ∨ (r.toInt = -1 ∧ laR (tx vt) N (-1) ((b1.toNatClampNeg : Nat) : Int))) ∧ (zKp vO vO1 40) ∧ (zKp vB vB1 40) ∧ (zKp vX vX1 40) ∧ (zKp vS vS1 800) ∧ (zKp vN vN1 800) ∧ (0 ≤ r.toInt → zRe (tx vt) N r.toNatClampNeg (fun l9 => vO1 (40 + l9)) (fun l9 => vB1 (40 + l9)) (fun l9 => vX1 (40 + l9)) (zwo 800 vS1 vN1))) (fun (u : Int32 × Int32 × (Nat → Int → Prop) × (Nat → Int → Prop) × (Nat → Int → Prop) × (Nat → Int32) × (Nat → Int32) × (Nat → Int32) × (Nat → Int32) × (Nat → Int32)) (t : State) => match u with | (t1, b1, S1, dB1, dE1, vO1, vB1, vX1, vS1, vN1) => gH (dC, dI) kA (SHm q (wP wZ wN wH wB wC wL wK wU wV) PI im PM PT (lD S1 lS) (lD dB1 lB) (lD dE1 lE) lN) G t.heap ∧ gF (dC, dI) SKm G ([(0, 11), (0, 12), (0, 13), (0, 14), (0, 15), (0, 28), (20, 0), (21, 0), (22, 0), (23, 0), (24, 0), (25, 0), (26, 0), (27, 0), (28, 0)] : List (Nat × Nat)) H0 t.heap ∧ el t.heap o0 (dI 15 11) = some (.int t1) ∧ el t.heap o0 (dI 15 14) = some (.int b1) ∧ ct t.heap (q 19) 60 vO1 ∧ ct t.heap (q 24) 60 vB1 ∧ ct t.heap (q 25) 60 vX1 ∧ ct t.heap (q 26) 1200 vS1 ∧ ct t.heap (q 27) 1200 vN1) (gA G H0.size)) 0 0 (gA G H0.size) := by
  refine Met.ofW (cc := cX12_readLaw) (maxL := 2) (ret := (some .int)) (by decide) rfl ?_
  intro p e s m args below meth c s₁ B hml hv
  obtain ⟨rfl, hH0, hK, hE⟩ := hv
  have hx := B.exec
  have hb := B.bytes
  have hr := B.returns
  have hts := atoms_spec (ws := w_s_readLaw) B.pre
  have hown : s.vm.findClass RX12 = some m.cls := findClass_of_methodNamed B.named
  have hlocks := B.notSynchronized
  subst hH0
  generalize hAe : gA G s.heap.size = A at hE ⊢
  have hA : ∀ q : Nat, s.heap.size ≤ q → A q := fun q h => by rw [← hAe]; exact Or.inr h
  have hG := gA_of hAe
  have hS : va_S A s.heap s.heap [] := va_S.rf
  have hF : gF (dC, dI) SKm G ([(0, 11), (0, 12), (0, 13), (0, 14), (0, 15), (0, 28), (20, 0), (21, 0), (22, 0), (23, 0), (24, 0), (25, 0), (26, 0), (27, 0), (28, 0)] : List (Nat × Nat)) s.heap s.heap := gF.rf
  have hl := lv_entry ([.ref o0]) (n := 2) (Nat.le_of_ble_eq_true rfl)
  rw [lg_entry_eq]
  generalize (lg_sl ([.ref o0]) ++ List.replicate (2 - (lg_sl ([.ref o0])).length) Slot.unset).toArray = ls at hl ⊢
  have hl : lv_has ls 2 [(0, .ref o0)] := hl
  have hg1 : G (q 10) = some 11 := gx_of hT hr_o0 shm_0 (k := 10) (by decide) rfl
  have hg2 : G (q 19) = some 20 := gx_of hT hr_o0 shm_0 (k := 19) (by decide) rfl
  have hg3 : G (q 24) = some 25 := gx_of hT hr_o0 shm_0 (k := 24) (by decide) rfl
  have hg4 : G (q 25) = some 26 := gx_of hT hr_o0 shm_0 (k := 25) (by decide) rfl
  have hg5 : G (q 26) = some 27 := gx_of hT hr_o0 shm_0 (k := 26) (by decide) rfl
  have hg6 : G (q 27) = some 28 := gx_of hT hr_o0 shm_0 (k := 27) (by decide) rfl
  refine lv_aload_n hx hb dX12_readLaw_0 rfl (lv_at hl 0 rfl) ?_
  refine lv_aload_n hx hb dX12_readLaw_1 rfl (lv_at hl 0 rfl) ?_
  refine tw_getM (v := .int tn) hx hb hts bF_X12 hown hK hT hr_o0 shm_0 rfl 11 (by decide) (ht_at hts 0 rfl) (fun _ h9 => h9) hm_tn dX12_readLaw_2 ?_
  refine tw_put (v := .int tn) (ty := .int) hx hb hts bF_X12 tyX12 tyX12_ok nmX12 hown hK hT hG hS hr_o0 shm_0 rfl 13 (by decide) (ht_at hts 1 rfl) (fun _ h9 => h9) rfl (by decide +kernel) rfl rfl (gl_at rfl (gi_of (show tn.toInt = tn.toInt from rfl) (by omega) (by omega))) dX12_readLaw_5 (fun H locs hT oq m7 oj hS => ?_)
  have hF := hF.put hr_o0 skm_0 oq oj (by decide)
  have m8 := (oj 11 (by decide) (by decide)).trans hm_tn
  have m9 := hc_vt.kept (oq _ (gne hg1 hr_o0 (by decide)))
  have m10 := hc_vO.kept (oq _ (gne hg2 hr_o0 (by decide)))
  have m11 := hc_vB.kept (oq _ (gne hg3 hr_o0 (by decide)))
  have m12 := hc_vX.kept (oq _ (gne hg4 hr_o0 (by decide)))
  have m13 := hc_vS.kept (oq _ (gne hg5 hr_o0 (by decide)))
  have m14 := hc_vN.kept (oq _ (gne hg6 hr_o0 (by decide)))
  refine lv_aload_n hx hb dX12_readLaw_8 rfl (lv_at hl 0 rfl) ?_
  refine lv_iconst (v := 0) hx hb dX12_readLaw_9 (by decide) ?_
  refine tw_put (v := .int 0) (ty := .int) hx hb hts bF_X12 tyX12 tyX12_ok nmX12 hown hK hT hG hS hr_o0 shm_0 rfl 11 (by decide) (ht_at hts 0 rfl) (fun _ h9 => h9) rfl (by decide +kernel) rfl rfl (gl_at rfl (gi_of (show (0 : Int32).toInt = 0 from (by decide)) (by first | decide | omega) (by first | decide | omega))) dX12_readLaw_10 (fun H locs hT oq m15 oj hS => ?_)
  have hF := hF.put hr_o0 skm_0 oq oj (by decide)
  have m16 := m9.kept (oq _ (gne hg1 hr_o0 (by decide)))
  have m17 := m10.kept (oq _ (gne hg2 hr_o0 (by decide)))
  have m18 := m11.kept (oq _ (gne hg3 hr_o0 (by decide)))
  have m19 := m12.kept (oq _ (gne hg4 hr_o0 (by decide)))
  have m20 := m13.kept (oq _ (gne hg5 hr_o0 (by decide)))
  have m21 := m14.kept (oq _ (gne hg6 hr_o0 (by decide)))
  have m22 := (oj 13 (by decide) (by decide)).trans m7
  refine lv_aload_n hx hb dX12_readLaw_13 rfl (lv_at hl 0 rfl) ?_
  refine lv_iconst (v := 0) hx hb dX12_readLaw_14 (by decide) ?_
  refine tw_put (v := .int 0) (ty := .int) hx hb hts bF_X12 tyX12 tyX12_ok nmX12 hown hK hT hG hS hr_o0 shm_0 rfl 12 (by decide) (ht_at hts 2 rfl) (fun _ h9 => h9) rfl (by decide +kernel) rfl rfl (gl_at rfl (gi_of (show (0 : Int32).toInt = 0 from (by decide)) (by first | decide | omega) (by first | decide | omega))) dX12_readLaw_15 (fun H locs hT oq m23 oj hS => ?_)
  have hF := hF.put hr_o0 skm_0 oq oj (by decide)
  have m24 := m16.kept (oq _ (gne hg1 hr_o0 (by decide)))
  have m25 := m17.kept (oq _ (gne hg2 hr_o0 (by decide)))
  have m26 := m18.kept (oq _ (gne hg3 hr_o0 (by decide)))
  have m27 := m19.kept (oq _ (gne hg4 hr_o0 (by decide)))
  have m28 := m20.kept (oq _ (gne hg5 hr_o0 (by decide)))
  have m29 := m21.kept (oq _ (gne hg6 hr_o0 (by decide)))
  have m30 := (oj 13 (by decide) (by decide)).trans m22
  have m31 := (oj 11 (by decide) (by decide)).trans m15
  refine lv_aload_n hx hb dX12_readLaw_18 rfl (lv_at hl 0 rfl) ?_
  refine lv_iconst (v := 0) hx hb dX12_readLaw_19 (by decide) ?_
  refine tw_put (v := .int 0) (ty := .int) hx hb hts bF_X12 tyX12 tyX12_ok nmX12 hown hK hT hG hS hr_o0 shm_0 rfl 28 (by decide) (ht_at hts 3 rfl) (fun _ h9 => h9) rfl (by decide +kernel) rfl rfl (gl_at rfl (gi_of (show (0 : Int32).toInt = 0 from (by decide)) (by first | decide | omega) (by first | decide | omega))) dX12_readLaw_20 (fun H locs hT oq m32 oj hS => ?_)
  have hF := hF.put hr_o0 skm_0 oq oj (by decide)
  have m33 := m24.kept (oq _ (gne hg1 hr_o0 (by decide)))
  have m34 := m25.kept (oq _ (gne hg2 hr_o0 (by decide)))
  have m35 := m26.kept (oq _ (gne hg3 hr_o0 (by decide)))
  have m36 := m27.kept (oq _ (gne hg4 hr_o0 (by decide)))
  have m37 := m28.kept (oq _ (gne hg5 hr_o0 (by decide)))
  have m38 := m29.kept (oq _ (gne hg6 hr_o0 (by decide)))
  have m39 := (oj 13 (by decide) (by decide)).trans m30
  have m40 := (oj 11 (by decide) (by decide)).trans m31
  have m41 := (oj 12 (by decide) (by decide)).trans m23
  refine lv_aload_n hx hb dX12_readLaw_23 rfl (lv_at hl 0 rfl) ?_
  have hFc := gA_free hG hA hS
  refine va_callv (va_runV (As := []) (rest := []) ⟨hx, hb, hml, hown, hts⟩ (s_blanks l dC dI kA adK adV G H q wZ wN wH wB wC wL wK wU wV PI im PM PT lS lB lE lN o0 0 tn vt N hT hr_o0 m41 m39 (rg_t (a := 0) (by decide) (by first | decide | omega) (by first | decide | omega)) (by have q8 := ti_all tn; omega) (by have := (show (0 : Int32).toInt = 0 from (by decide)); have := (show tn.toInt = tn.toInt from rfl); omega) hN m33 hgz hgn hgh hgb hgc hgi hgu) (cwV 0 hts (goodIn_app (goodIn_r _ [13, 14, 15, 11] rfl (by decide +kernel)) (goodIn_ca (goodIn_r _ [5, 6, 3, 2, 7, 8, 9, 10, 11, 12] rfl (by decide +kernel)) (bs_in _ _))) rfl rfl rfl (by decide +kernel) ⟨(Nat.le_of_ble_eq_true rfl), (Nat.le_of_ble_eq_true rfl)⟩) ⟨fun a U g mk q => by obtain ⟨q0, q1, qK, qE⟩ := q; exact ⟨q0, q1, va_K.moved (u := U) (U := U.calling g mk a) (Vm.Alike.refl U.vm) qK, EVS.blind g mk a qE⟩, gH_rc hK hT hr_o0 shm_0 rfl, fun U hU hW => ⟨rfl, hU, va_K.moved hW.alike hK, hE.call hS hFc hU hW⟩⟩ rfl rfl hl.1 rfl (lv_room (Nat.le_of_ble_eq_true rfl)) dX12_readLaw_24 ⟨(Nat.le_of_ble_eq_true rfl), (Nat.le_of_ble_eq_true rfl)⟩) hS (fun q _ h => hFc q h) hFc (fun u t H locs ht hvm hw43 hB _ _ hS => ?_)
  obtain ⟨u44, u45⟩ := u
  obtain ⟨hT, hF1, m46, m47⟩ := hB
  rw [ht] at hT hF1 m46 m47
  have m48 := m33.kept (hF1.arr hg1 skm_11 (by decide))
  have m49 := m34.kept (hF1.arr hg2 skm_20 (by decide))
  have m50 := m35.kept (hF1.arr hg3 skm_25 (by decide))
  have m51 := m36.kept (hF1.arr hg4 skm_26 (by decide))
  have m52 := m37.kept (hF1.arr hg5 skm_27 (by decide))
  have m53 := m38.kept (hF1.arr hg6 skm_28 (by decide))
  have m54 := (hF1.fld hr_o0 skm_0 (k := 13) (by decide) (by decide)).trans m39
  have m55 := (hF1.fld hr_o0 skm_0 (k := 11) (by decide) (by decide)).trans m40
  have m57 := (hF1.fld hr_o0 skm_0 (k := 28) (by decide) (by decide)).trans m32
  have hF := hF.more hF1 (by decide)
  try dsimp only at hw43
  obtain ⟨h58, h59, hf60, hf61, hf62⟩ := hw43
  have t63 : (0 : Int32).toInt = 0 := by decide
  refine lv_aload_n hx hb dX12_readLaw_27 rfl (lv_at hl 0 rfl) ?_
  refine tw_getM (v := .int u44) hx hb hts bF_X12 hown hK hT hr_o0 shm_0 rfl 12 (by decide) (ht_at hts 2 rfl) (fun _ h9 => h9) m46 dX12_readLaw_28 ?_
  refine lv_aload_n hx hb dX12_readLaw_31 rfl (lv_at hl 0 rfl) ?_
  refine tw_getM (v := .int tn) hx hb hts bF_X12 hown hK hT hr_o0 shm_0 rfl 13 (by decide) (ht_at hts 1 rfl) (fun _ h9 => h9) m54 dX12_readLaw_32 ?_
  refine lv_icmp_ne (tgt := 40) hx hb dX12_readLaw_35 (by decide) (fun c64 => ?_) (fun c64 => ?_)
  · have t65 : u44.toInt ≠ tn.toInt := ti_ne c64 rfl rfl
    have hs9 : skp (tx vt) N u44.toNatClampNeg = skp (tx vt) N 0 := by have z0 : (0 : Int32).toNatClampNeg = 0 := (by decide); have i9 := ru_i (P := spB) (t := (tx vt)) (n := N) (Nat.zero_le N); have j9 := hf61; rw [z0] at j9; rw [← j9]; exact i9
    have hne9 : skp (tx vt) N 0 ≠ N := by have z0 : (0 : Int32).toNatClampNeg = 0 := (by decide); have := tn_of (show u44.toInt = u44.toInt from rfl) (by omega); have := tn_of (show tn.toInt = tn.toInt from rfl) (by omega); have j9 := hf61; rw [z0] at j9; rw [j9]; omega
    refine lv_iconst (v := 0) hx hb dX12_readLaw_40 (by decide) ?_
    refine lv_istore_n (lv' := [(1, .int 0), (0, .ref o0)]) hx hb dX12_readLaw_41 rfl hl (by decide) rfl (fun ls hl => ?_)
    have key355 : ∀ (n355 : Nat), ∀ (gS0206 : Nat → Int → Prop), ∀ (gdB207 : Nat → Int → Prop), ∀ (gdE208 : Nat → Int → Prop), ∀ (z209 : Int32), ∀ (V212 : Nat → Int32), ∀ (V214 : Nat → Int32), ∀ (V216 : Nat → Int32), ∀ (V218 : Nat → Int32), ∀ (V220 : Nat → Int32), ∀ (z224 : Int32), ∀ (z227 : Int32), ∀ (z230 : Int32), (400 - z227.toInt < ((n355 : Nat) : Int)) → ((0 ≤ z209.toInt ∧ z209.toInt ≤ 20) ∧ (0 ≤ z224.toInt ∧ z224.toInt ≤ 400) ∧ (0 ≤ z227.toInt ∧ z227.toInt ≤ 400) ∧ (0 ≤ z230.toInt ∧ z230.toInt ≤ 400) ∧ (lwOK gS0206 gdB207 gdE208 z209.toNatClampNeg z224.toInt) ∧ (z227.toInt ≤ tn.toInt ∧ z224.toInt ≤ z227.toInt) ∧ (∀ c f : Int, lwR (kd (tx vt) N) (xn (tx vt) N) z209.toNatClampNeg (skp (tx vt) N z227.toNatClampNeg) c f → lwR (kd (tx vt) N) (xn (tx vt) N) 0 (skp (tx vt) N 0) c f) ∧ (zRw (tx vt) N z209.toNatClampNeg (skp (tx vt) N z227.toNatClampNeg) (fun l9 => V212 (40 + l9)) (fun l9 => V214 (40 + l9)) (fun l9 => V216 (40 + l9)) (zwo 800 V218 V220) z224.toNatClampNeg) ∧ (zKp vO V212 40) ∧ (zKp vB V214 40) ∧ (zKp vX V216 40) ∧ (zKp vS V218 800) ∧ (zKp vN V220 800)) → ∀ (H : Heap) (locs : List Loc), gH (dC, dI) kA (SHm q (wP wZ wN wH wB wC wL wK wU wV) PI im PM PT (lD gS0206 lS) (lD gdB207 lB) (lD gdE208 lE) lN) G H → gF (dC, dI) SKm G ([(0, 11), (0, 12), (0, 13), (0, 14), (0, 15), (0, 28), (20, 0), (21, 0), (22, 0), (23, 0), (24, 0), (25, 0), (26, 0), (27, 0), (28, 0)] : List (Nat × Nat)) s.heap H → va_S A s.heap H locs → ct H (q 10) 400 vt → ct H (q 19) 60 V212 → ct H (q 24) 60 V214 → ct H (q 25) 60 V216 → ct H (q 26) 1200 V218 → ct H (q 27) 1200 V220 → el H o0 (dI 15 13) = some (.int tn) → el H o0 (dI 15 11) = some (.int 0) → el H o0 (dI 15 28) = some (.int z224) → el H o0 (dI 15 12) = some (.int z227) → el H o0 (dI 15 14) = some (.int z230) → ∀ ls : Array Slot, lv_has ls 2 [(1, .int z209), (0, .ref o0)] → W p l e (headSpec w_s_readLaw ({ frames := 29, cells := 0, slots := 0, locals := 598 })).room s m #[.ref o0] below meth c H locs 0 0 (MQ below (va_Qi (fun (r : Int32) (u : Int32 × Int32 × (Nat → Int → Prop) × (Nat → Int → Prop) × (Nat → Int → Prop) × (Nat → Int32) × (Nat → Int32) × (Nat → Int32) × (Nat → Int32) × (Nat → Int32)) => match u with | (t1, b1, S1, dB1, dE1, vO1, vB1, vX1, vS1, vN1) => (0 ≤ b1.toInt ∧ b1.toInt ≤ 400) ∧ (-1 ≤ r.toInt ∧ r.toInt ≤ 20) ∧ (t1.toInt = 0) ∧ (0 ≤ r.toInt → lwOK S1 dB1 dE1 r.toNatClampNeg 400) ∧ ((0 ≤ r.toInt ∧ laR (tx vt) N r.toInt (-1)) ∨ (r.toInt = -1 ∧ laR (tx vt) N (-1) ((b1.toNatClampNeg : Nat) : Int))) ∧ (zKp vO vO1 40) ∧ (zKp vB vB1 40) ∧ (zKp vX vX1 40) ∧ (zKp vS vS1 800) ∧ (zKp vN vN1 800) ∧ (0 ≤ r.toInt → zRe (tx vt) N r.toNatClampNeg (fun l9 => vO1 (40 + l9)) (fun l9 => vB1 (40 + l9)) (fun l9 => vX1 (40 + l9)) (zwo 800 vS1 vN1))) (fun (u : Int32 × Int32 × (Nat → Int → Prop) × (Nat → Int → Prop) × (Nat → Int → Prop) × (Nat → Int32) × (Nat → Int32) × (Nat → Int32) × (Nat → Int32) × (Nat → Int32)) (t : State) => match u with | (t1, b1, S1, dB1, dE1, vO1, vB1, vX1, vS1, vN1) => gH (dC, dI) kA (SHm q (wP wZ wN wH wB wC wL wK wU wV) PI im PM PT (lD S1 lS) (lD dB1 lB) (lD dE1 lE) lN) G t.heap ∧ gF (dC, dI) SKm G ([(0, 11), (0, 12), (0, 13), (0, 14), (0, 15), (0, 28), (20, 0), (21, 0), (22, 0), (23, 0), (24, 0), (25, 0), (26, 0), (27, 0), (28, 0)] : List (Nat × Nat)) s.heap t.heap ∧ el t.heap o0 (dI 15 11) = some (.int t1) ∧ el t.heap o0 (dI 15 14) = some (.int b1) ∧ ct t.heap (q 19) 60 vO1 ∧ ct t.heap (q 24) 60 vB1 ∧ ct t.heap (q 25) 60 vX1 ∧ ct t.heap (q 26) 1200 vS1 ∧ ct t.heap (q 27) 1200 vN1) A) #[.ref o0] s 0 0 A) (F0 m 42 ls []) := by
      intro n355
      induction n355 with
      | zero =>
        intro gS0206 gdB207 gdE208 z209 V212 V214 V216 V218 V220 z224 z227 z230 hv355 ⟨h210, h225, h228, h231, hg233, hj234, hj235, hj236, hj237, hj238, hj239, hj240, hj241⟩ H locs hT hF hS m211 m213 m215 m217 m219 m221 m222 m223 m226 m229 m232 ls hl
        exfalso; have q9 := (show z227.toInt = z227.toInt from rfl); omega
      | succ n355 ih355 =>
        intro gS0206 gdB207 gdE208 z209 V212 V214 V216 V218 V220 z224 z227 z230 hv355 ⟨h210, h225, h228, h231, hg233, hj234, hj235, hj236, hj237, hj238, hj239, hj240, hj241⟩ H locs hT hF hS m211 m213 m215 m217 m219 m221 m222 m223 m226 m229 m232 ls hl
        refine lv_aload_n hx hb dX12_readLaw_42 rfl (lv_at hl 1 rfl) ?_
        refine lv_iload_n hx hb dX12_readLaw_43 rfl (lv_at hl 0 rfl) ?_
        have hFc := gA_free hG hA hS
        refine va_calli (va_runV (As := [.int z209]) (rest := []) ⟨hx, hb, hml, hown, hts⟩ (s_readLine l dC dI kA adK adV G H q wZ wN wH wB wC wL wK wU wV PI im PM PT lS lB lE lN o0 z209 z227 tn z224 vt V212 V214 V216 V218 V220 gS0206 gdB207 gdE208 N hT hr_o0 m229 m222 m226 (by have q8 := ti_all z227; omega) (by have q8 := ti_all tn; omega) (by have q8 := ti_all z224; omega) hN (by have q8 := ti_all z209; omega) (by have := (show z227.toInt = z227.toInt from rfl); have := (show tn.toInt = tn.toInt from rfl); omega) (by have := (show z224.toInt = z224.toInt from rfl); have := (show z227.toInt = z227.toInt from rfl); omega) hg233 m211 m213 m215 m217 m219 m221 hgz hgn hgh hgb hgc hgi hgu) (cwV 1 hts (goodIn_app (goodIn_r _ [115, 116, 117, 11] rfl (by decide +kernel)) (goodIn_ca (goodIn_r _ [16, 17, 5, 6, 3, 2, 7, 8, 9, 10, 11, 12, 13, 14, 15, 18, 19, 20, 21, 22, 23, 24, 25, 26, 27, 28, 29, 30, 31, 32, 33, 34, 35, 36, 37, 38, 39, 40, 41, 42, 43, 44, 45, 46, 47, 48, 49, 50, 51, 52, 53, 54, 55, 56, 57, 58, 59, 60, 61, 62, 4, 63, 64, 65, 66, 67, 68, 69, 70, 71, 72, 73, 74, 75, 76, 77, 78, 79, 80, 81, 82, 83, 84, 85, 86, 87, 88, 89, 90, 91, 92, 93, 94, 95, 96, 97, 98, 99, 100, 101, 102, 103, 104, 105, 106, 107, 108, 109, 110, 111, 112, 113, 114] rfl (by decide +kernel)) (bs_in _ _))) rfl rfl rfl (by decide +kernel) ⟨(Nat.le_of_ble_eq_true rfl), (Nat.le_of_ble_eq_true rfl)⟩) ⟨fun a U g mk q => by obtain ⟨q0, q1, qK, qE⟩ := q; exact ⟨q0, q1, va_K.moved (u := U) (U := U.calling g mk a) (Vm.Alike.refl U.vm) qK, EVS.blind g mk a qE⟩, gH_rc hK hT hr_o0 shm_0 rfl, fun U hU hW => ⟨rfl, hU, va_K.moved hW.alike hK, hE.call hS hFc hU hW⟩⟩ rfl rfl hl.1 rfl (lv_room (Nat.le_of_ble_eq_true rfl)) dX12_readLaw_44 ⟨(Nat.le_of_ble_eq_true rfl), (Nat.le_of_ble_eq_true rfl)⟩) hS (fun q _ h => hFc q h) hFc (fun r356 u t H locs ht hvm hw357 hB _ _ hS => ?_)
        obtain ⟨u358, u359, u360, u361, u362, u363, u364, u365, u366, u367, u368⟩ := u
        obtain ⟨hT, hF1, m369, m370, m371, m372, m373, m374, m375, m376⟩ := hB
        rw [ht] at hT hF1 m369 m370 m371 m372 m373 m374 m375 m376
        have m377 := m211.kept (hF1.arr hg1 skm_11 (by decide))
        have m383 := (hF1.fld hr_o0 skm_0 (k := 13) (by decide) (by decide)).trans m222
        have m384 := (hF1.fld hr_o0 skm_0 (k := 11) (by decide) (by decide)).trans m223
        have hF := hF.more hF1 (by decide)
        try dsimp only at hw357
        obtain ⟨h388, h389, h390, h391, hi392, hf393, hf394, hf395, hf396, hf397, hf398, hf399, hf400⟩ := hw357
        refine lv_if_ne (tgt := 52) hx hb dX12_readLaw_47 (by decide) (fun c401 => ?_) (fun c401 => ?_)
        · have t402 : r356.toInt ≠ 0 := ti_ne c401 rfl (by decide)
          have t403 : lwOK u361 u362 u363 (z209.toNatClampNeg + 1) u360.toInt ∧ z209.toInt < 20 := hi392 ((bit_of ⟨by omega, by omega⟩).resolve_left c401)
          refine lv_aload_n hx hb dX12_readLaw_52 rfl (lv_at hl 1 rfl) ?_
          have hFc := gA_free hG hA hS
          refine va_callv (va_runV (As := []) (rest := []) ⟨hx, hb, hml, hown, hts⟩ (s_blanks l dC dI kA adK adV G H q wZ wN wH wB wC wL wK wU wV PI im PM PT (lD u361 lS) (lD u362 lB) (lD u363 lE) lN o0 u358 tn vt N hT hr_o0 m369 m383 (by have q8 := ti_all u358; omega) (by have q8 := ti_all tn; omega) (by have := (show u358.toInt = u358.toInt from rfl); have := (show tn.toInt = tn.toInt from rfl); omega) hN m377 hgz hgn hgh hgb hgc hgi hgu) (cwV 0 hts (goodIn_app (goodIn_r _ [13, 14, 15, 11] rfl (by decide +kernel)) (goodIn_ca (goodIn_r _ [5, 6, 3, 2, 7, 8, 9, 10, 11, 12] rfl (by decide +kernel)) (bs_in _ _))) rfl rfl rfl (by decide +kernel) ⟨(Nat.le_of_ble_eq_true rfl), (Nat.le_of_ble_eq_true rfl)⟩) ⟨fun a U g mk q => by obtain ⟨q0, q1, qK, qE⟩ := q; exact ⟨q0, q1, va_K.moved (u := U) (U := U.calling g mk a) (Vm.Alike.refl U.vm) qK, EVS.blind g mk a qE⟩, gH_rc hK hT hr_o0 shm_0 rfl, fun U hU hW => ⟨rfl, hU, va_K.moved hW.alike hK, hE.call hS hFc hU hW⟩⟩ rfl rfl hl.1 rfl (lv_room (Nat.le_of_ble_eq_true rfl)) dX12_readLaw_53 ⟨(Nat.le_of_ble_eq_true rfl), (Nat.le_of_ble_eq_true rfl)⟩) hS (fun q _ h => hFc q h) hFc (fun u t H locs ht hvm hw405 hB _ _ hS => ?_)
          obtain ⟨u406, u407⟩ := u
          obtain ⟨hT, hF1, m408, m409⟩ := hB
          rw [ht] at hT hF1 m408 m409
          have m410 := m377.kept (hF1.arr hg1 skm_11 (by decide))
          have m411 := (hF1.fld hr_o0 skm_0 (k := 13) (by decide) (by decide)).trans m383
          have m412 := (hF1.fld hr_o0 skm_0 (k := 11) (by decide) (by decide)).trans m384
          have m415 := (hF1.fld hr_o0 skm_0 (k := 28) (by decide) (by decide)).trans m371
          have m416 := m372.kept (hF1.arr hg2 skm_20 (by decide))
          have m417 := m373.kept (hF1.arr hg3 skm_25 (by decide))
          have m418 := m374.kept (hF1.arr hg4 skm_26 (by decide))
          have m419 := m375.kept (hF1.arr hg5 skm_27 (by decide))
          have m420 := m376.kept (hF1.arr hg6 skm_28 (by decide))
          have hF := hF.more hF1 (by decide)
          try dsimp only at hw405
          obtain ⟨h421, h422, hf423, hf424, hf425⟩ := hw405
          refine lv_aload_n hx hb dX12_readLaw_56 rfl (lv_at hl 1 rfl) ?_
          refine tw_getM (v := .int u406) hx hb hts bF_X12 hown hK hT hr_o0 shm_0 rfl 12 (by decide) (ht_at hts 2 rfl) (fun _ h9 => h9) m408 dX12_readLaw_57 ?_
          refine lv_aload_n hx hb dX12_readLaw_60 rfl (lv_at hl 1 rfl) ?_
          refine tw_getM (v := .int tn) hx hb hts bF_X12 hown hK hT hr_o0 shm_0 rfl 13 (by decide) (ht_at hts 1 rfl) (fun _ h9 => h9) m411 dX12_readLaw_61 ?_
          refine lv_icmp_ne (tgt := 71) hx hb dX12_readLaw_64 (by decide) (fun c426 => ?_) (fun c426 => ?_)
          · have t427 : u406.toInt ≠ tn.toInt := ti_ne c426 rfl rfl
            refine lv_aload_n hx hb dX12_readLaw_71 rfl (lv_at hl 1 rfl) ?_
            refine lv_bipush (v := 59) hx hb dX12_readLaw_72 (by decide) ?_
            refine lv_bipush (v := 59) hx hb dX12_readLaw_74 (by decide) ?_
            have hFc := gA_free hG hA hS
            refine va_calli (va_runV (As := [.int 59, .int 59]) (rest := []) ⟨hx, hb, hml, hown, hts⟩ (s_isAt l dC dI kA adK adV G H q wZ wN wH wB wC wL wK wU wV PI im PM PT (lD u361 lS) (lD u362 lB) (lD u363 lE) lN o0 59 59 u406 tn vt hT hr_o0 m408 m411 (by have q8 := ti_all u406; omega) (by have q8 := ti_all tn; omega) m410 hgz hgn hgh hgb hgc hgi hgu) (cwV 2 hts (goodIn_app (goodIn_r _ [8, 9, 10, 11] rfl (by decide +kernel)) (goodIn_ca (goodIn_r _ [6, 3, 2, 7] rfl (by decide +kernel)) (bs_in _ _))) rfl rfl rfl (by decide +kernel) ⟨(Nat.le_of_ble_eq_true rfl), (Nat.le_of_ble_eq_true rfl)⟩) ⟨fun a U g mk q => by obtain ⟨q0, q1, qK, qE⟩ := q; exact ⟨q0, q1, va_K.moved (u := U) (U := U.calling g mk a) (Vm.Alike.refl U.vm) qK, EVS.blind g mk a qE⟩, gH_rc hK hT hr_o0 shm_0 rfl, fun U hU hW => ⟨rfl, hU, va_K.moved hW.alike hK, hE.call hS hFc hU hW⟩⟩ rfl rfl hl.1 rfl (lv_room (Nat.le_of_ble_eq_true rfl)) dX12_readLaw_76 ⟨(Nat.le_of_ble_eq_true rfl), (Nat.le_of_ble_eq_true rfl)⟩) hS (fun q _ h => hFc q h) hFc (fun r428 u t H locs ht hvm hw429 hB _ _ hS => ?_)
            obtain ⟨hT, hF1⟩ := hB
            rw [ht] at hT hF1
            have m430 := m410.kept (hF1.arr hg1 skm_11 (by decide))
            have m431 := (hF1.fld hr_o0 skm_0 (k := 13) (by decide) (by decide)).trans m411
            have m432 := (hF1.fld hr_o0 skm_0 (k := 11) (by decide) (by decide)).trans m412
            have m433 := (hF1.fld hr_o0 skm_0 (k := 28) (by decide) (by decide)).trans m415
            have m434 := m416.kept (hF1.arr hg2 skm_20 (by decide))
            have m435 := m417.kept (hF1.arr hg3 skm_25 (by decide))
            have m436 := m418.kept (hF1.arr hg4 skm_26 (by decide))
            have m437 := m419.kept (hF1.arr hg5 skm_27 (by decide))
            have m438 := m420.kept (hF1.arr hg6 skm_28 (by decide))
            have m439 := (hF1.fld hr_o0 skm_0 (k := 12) (by decide) (by decide)).trans m408
            have m440 := (hF1.fld hr_o0 skm_0 (k := 14) (by decide) (by decide)).trans m409
            have hF := hF.more hF1 (by decide)
            try dsimp only at hw429
            obtain ⟨h441, hi442, hf443⟩ := hw429
            have t444 : (59 : Int32).toInt = 59 := by decide
            have t445 : (59 : Int32).toInt = 59 := by decide
            refine lv_if_ne (tgt := 84) hx hb dX12_readLaw_79 (by decide) (fun c446 => ?_) (fun c446 => ?_)
            · have t447 : r428.toInt ≠ 0 := ti_ne c446 rfl (by decide)
              have t448 : u406.toInt < tn.toInt := hi442 ((bit_of ⟨by omega, by omega⟩).resolve_left c446)
              refine lv_aload_n hx hb dX12_readLaw_84 rfl (lv_at hl 1 rfl) ?_
              refine lv_dup hx hb dX12_readLaw_85 rfl ?_
              refine tw_getM (v := .int u406) hx hb hts bF_X12 hown hK hT hr_o0 shm_0 rfl 12 (by decide) (ht_at hts 2 rfl) (fun _ h9 => h9) m439 dX12_readLaw_86 ?_
              refine lv_iconst (v := 1) hx hb dX12_readLaw_89 (by decide) ?_
              refine lv_iadd hx hb dX12_readLaw_90 ?_
              refine lv_topi (fun x449 ex449 => ?_)
              have t450 : x449.toInt = u406.toInt + 1 := ti_add ex449 rfl (by decide) (by omega) (by omega)
              refine tw_put (v := .int x449) (ty := .int) hx hb hts bF_X12 tyX12 tyX12_ok nmX12 hown hK hT hG hS hr_o0 shm_0 rfl 12 (by decide) (ht_at hts 2 rfl) (fun _ h9 => h9) rfl (by decide +kernel) rfl rfl (gl_at rfl (gi_of (show x449.toInt = x449.toInt from rfl) (by omega) (by omega))) dX12_readLaw_91 (fun H locs hT oq m451 oj hS => ?_)
              have hF := hF.put hr_o0 skm_0 oq oj (by decide)
              have m452 := m430.kept (oq _ (gne hg1 hr_o0 (by decide)))
              have m453 := (oj 13 (by decide) (by decide)).trans m431
              have m454 := (oj 11 (by decide) (by decide)).trans m432
              have m455 := (oj 28 (by decide) (by decide)).trans m433
              have m456 := m434.kept (oq _ (gne hg2 hr_o0 (by decide)))
              have m457 := m435.kept (oq _ (gne hg3 hr_o0 (by decide)))
              have m458 := m436.kept (oq _ (gne hg4 hr_o0 (by decide)))
              have m459 := m437.kept (oq _ (gne hg5 hr_o0 (by decide)))
              have m460 := m438.kept (oq _ (gne hg6 hr_o0 (by decide)))
              have m461 := (oj 14 (by decide) (by decide)).trans m440
              obtain ⟨x462, ex462⟩ : ∃ y : Int32, y = z209 + 1 := ⟨_, rfl⟩
              have t463 : x462.toInt = z209.toInt + 1 := ti_add ex462 rfl (by decide) (by omega) (by omega)
              refine lv_iinc (v := x462) (lv' := [(1, .int x462), (0, .ref o0)]) hx hb dX12_readLaw_94 hl (k := 0) rfl (by first | (rw [ex462]; done) | (rw [ex462]; rfl)) (by decide) rfl (fun ls hl => ?_)
              refine lv_goto (tgt := 42) hx hb dX12_readLaw_97 (by decide) ?_
              exact ih355 u361 u362 u363 x462 u364 u365 u366 u367 u368 u360 x449 u407 (by have q9 := (show x449.toInt = x449.toInt from rfl); omega) ⟨(by have q9 := (show x462.toInt = x462.toInt from rfl); (try have q8 := ti_all x462); omega), (by have q8 := ti_all u360; omega), (by have q8 := ti_all x449; omega), (by have q8 := ti_all u407; omega), (by rw [show x462.toNatClampNeg = z209.toNatClampNeg + 1 from by have q8 := tn_of (show x462.toInt = x462.toInt from rfl) (by omega); have q9 := tn_of (i := z209) rfl (by omega); omega]; exact (by assumption : lwOK _ _ _ _ _ ∧ _).1), (by have := (show x449.toInt = x449.toInt from rfl); have := (show u360.toInt = u360.toInt from rfl); have := (show tn.toInt = tn.toInt from rfl); omega), (by have := tn_of (show x449.toInt = x449.toInt from rfl) (by omega); have := tn_of (show u406.toInt = u406.toInt from rfl) (by omega); have := tn_of (show u407.toInt = u407.toInt from rfl) (by omega); have := tn_of (show tn.toInt = tn.toInt from rfl) (by omega); have := tn_of (show x462.toInt = x462.toInt from rfl) (by omega); have := tn_of (show z209.toInt = z209.toInt from rfl) (by omega); have l9 := ((hf394.resolve_left (fun h8 => by have := h8.2.1; omega)).2.resolve_right (fun h8 => by have := h8.1; omega)).2; have j9 := hf425; have t9 : tx vt u407.toNatClampNeg = 59 := (by rw [show u407.toNatClampNeg = u406.toNatClampNeg from by omega]; show (vt u406.toNatClampNeg).toInt = 59; omega); obtain ⟨k1, k2⟩ := sg_1 (t := (tx vt)) (n := N) (c := 59) (by unfold sgS; omega) (by omega) t9; have e9 : skp (tx vt) N x449.toNatClampNeg = xn (tx vt) N u407.toNatClampNeg := (by rw [show x449.toNatClampNeg = u407.toNatClampNeg + 1 from by omega, ← k2]; rfl); intro c f h9; rw [show x462.toNatClampNeg = z209.toNatClampNeg + 1 from by omega, e9, ← j9] at h9; rw [← j9] at k1; exact hj235 c f (lw_s1 (by omega) l9 (k1.trans (by decide)) h9)), (by have := tn_of (show x449.toInt = x449.toInt from rfl) (by omega); have := tn_of (show u406.toInt = u406.toInt from rfl) (by omega); have := tn_of (show u407.toInt = u407.toInt from rfl) (by omega); have := tn_of (show tn.toInt = tn.toInt from rfl) (by omega); have := tn_of (show x462.toInt = x462.toInt from rfl) (by omega); have := tn_of (show z209.toInt = z209.toInt from rfl) (by omega); have := tn_of (show z224.toInt = z224.toInt from rfl) (by omega); have := tn_of (show u360.toInt = u360.toInt from rfl) (by omega); have j9 := hf425; have t9 : tx vt u407.toNatClampNeg = 59 := (by rw [show u407.toNatClampNeg = u406.toNatClampNeg from by omega]; show (vt u406.toNatClampNeg).toInt = 59; omega); obtain ⟨k1, k2⟩ := sg_1 (t := (tx vt)) (n := N) (c := 59) (by unfold sgS; omega) (by omega) t9; have e9 : skp (tx vt) N x449.toNatClampNeg = xn (tx vt) N u407.toNatClampNeg := (by rw [show x449.toNatClampNeg = u407.toNatClampNeg + 1 from by omega, ← k2]; rfl); rw [← j9] at k1 e9; exact hj236.step (by exact hf400 (by omega)) hf395.sh hf396.sh hf397.sh (zwo_k hf398 hf399) (by omega) (by omega) (k1.trans (by decide)) e9), (hj237.tr hf395 (by omega)), (hj238.tr hf396 (by omega)), (hj239.tr hf397 (by omega)), (hj240.tr hf398 (by omega)), (hj241.tr hf399 (by omega))⟩ _ _ hT hF hS m452 m456 m457 m458 m459 m460 m453 m454 m455 m451 m461 ls (lv_sub hl [0, 1] rfl)
            · have t464 : r428.toInt = 0 := ti_eq c446 rfl (by decide)
              refine lv_iconst (v := (-1)) hx hb dX12_readLaw_82 (by decide) ?_
              exact W.iret (v := (-1)) hx hb hr (fun t ht hW => ⟨⟨(-1), ((0 : Int32), u407, u361, u362, u363, u364, u365, u366, u367, u368), rfl, (by exact ⟨(by have q8 := ti_all u407; omega), (rg_t (a := (-1)) (by decide) (by first | decide | omega) (by first | decide | omega)), (by have : (0 : Int32).toInt = 0 := (by decide); omega), (fun h9 => absurd h9 (by decide)), (Or.inr ⟨by decide, Or.inr ⟨hne9, hj235 _ _ (by have := tn_of (show u406.toInt = u406.toInt from rfl) (by omega); have := tn_of (show u407.toInt = u407.toInt from rfl) (by omega); have := tn_of (show tn.toInt = tn.toInt from rfl) (by omega); have := tn_of (show z209.toInt = z209.toInt from rfl) (by omega); have l9 := ((hf394.resolve_left (fun h8 => by have := h8.2.1; omega)).2.resolve_right (fun h8 => by have := h8.1; omega)).2; have j9 := hf425; have n9 : kd (tx vt) N u407.toNatClampNeg ≠ sgT 59 := sg_0 (by unfold sgS; omega) (fun h8 => by have h7 : (vt u407.toNatClampNeg).toInt = 59 := h8.2; rw [show u407.toNatClampNeg = u406.toNatClampNeg from by omega] at h7; omega); have m9 : kd (tx vt) N u407.toNatClampNeg ≠ 21 := (fun h8 => by have := kd_21 h8; omega); rw [← j9]; rw [← j9] at n9 m9; exact lw_w (by omega) l9 (fun h7 => n9 (h7.trans (by decide))) m9)⟩⟩), (hj237.tr hf395 (by omega)), (hj238.tr hf396 (by omega)), (hj239.tr hf397 (by omega)), (hj240.tr hf398 (by omega)), (hj241.tr hf399 (by omega)), (fun h8 => absurd h8 (by decide))⟩), by (try dsimp only); rw [ht]; exact ⟨hT, hF, m432, m440, m434, m435, m436, m437, m438⟩⟩, hS.F ht⟩) hS.2.2 dX12_readLaw_83
          · have t465 : u406.toInt = tn.toInt := ti_eq c426 rfl rfl
            refine lv_iload_n hx hb dX12_readLaw_67 rfl (lv_at hl 0 rfl) ?_
            refine lv_iconst (v := 1) hx hb dX12_readLaw_68 (by decide) ?_
            refine lv_iadd hx hb dX12_readLaw_69 ?_
            refine lv_topi (fun x466 ex466 => ?_)
            have t467 : x466.toInt = z209.toInt + 1 := ti_add ex466 rfl (by decide) (by omega) (by omega)
            exact W.iret (v := x466) hx hb hr (fun t ht hW => ⟨⟨x466, ((0 : Int32), u407, u361, u362, u363, u364, u365, u366, u367, u368), rfl, (by exact ⟨(by have q8 := ti_all u407; omega), (by have q8 := ti_all x466; omega), (by have : (0 : Int32).toInt = 0 := (by decide); omega), (fun _ => by rw [show x466.toNatClampNeg = z209.toNatClampNeg + 1 from by have q8 := tn_of (show x466.toInt = x466.toInt from rfl) (by omega); have q9 := tn_of (i := z209) rfl (by omega); omega]; exact lw_v (by assumption : lwOK _ _ _ _ _ ∧ _).1 (by omega)), (Or.inl ⟨by omega, Or.inr ⟨hne9, hj235 _ _ (by have := tn_of (show u406.toInt = u406.toInt from rfl) (by omega); have := tn_of (show u407.toInt = u407.toInt from rfl) (by omega); have := tn_of (show tn.toInt = tn.toInt from rfl) (by omega); have := tn_of (show z209.toInt = z209.toInt from rfl) (by omega); have l9 := ((hf394.resolve_left (fun h8 => by have := h8.2.1; omega)).2.resolve_right (fun h8 => by have := h8.1; omega)).2; have j9 := hf425; have := tn_of (show x466.toInt = x466.toInt from rfl) (by omega); have e9 : kd (tx vt) N u407.toNatClampNeg = 21 := kd_e (by omega); rw [← j9] at e9; exact lw_e (by omega) l9 e9 (by omega))⟩⟩), (hj237.tr hf395 (by omega)), (hj238.tr hf396 (by omega)), (hj239.tr hf397 (by omega)), (hj240.tr hf398 (by omega)), (hj241.tr hf399 (by omega)), (fun _ => by have := tn_of (show u406.toInt = u406.toInt from rfl) (by omega); have := tn_of (show u407.toInt = u407.toInt from rfl) (by omega); have := tn_of (show tn.toInt = tn.toInt from rfl) (by omega); have := tn_of (show z209.toInt = z209.toInt from rfl) (by omega); have := tn_of (show z224.toInt = z224.toInt from rfl) (by omega); have := tn_of (show u360.toInt = u360.toInt from rfl) (by omega); have := tn_of (show x466.toInt = x466.toInt from rfl) (by omega); have j9 := hf425; have e9 : kd (tx vt) N u407.toNatClampNeg = 21 := kd_e (by omega); rw [← j9] at e9; exact hj236.fin hne9 (by exact hf400 (by omega)) hf395.sh hf396.sh hf397.sh (zwo_k hf398 hf399) (by omega) (by omega) e9 (by omega))⟩), by (try dsimp only); rw [ht]; exact ⟨hT, hF, m412, m409, m416, m417, m418, m419, m420⟩⟩, hS.F ht⟩) hS.2.2 dX12_readLaw_70
        · have t468 : r356.toInt = 0 := ti_eq c401 rfl (by decide)
          refine lv_iconst (v := (-1)) hx hb dX12_readLaw_50 (by decide) ?_
          exact W.iret (v := (-1)) hx hb hr (fun t ht hW => ⟨⟨(-1), ((0 : Int32), u359, u361, u362, u363, u364, u365, u366, u367, u368), rfl, (by exact ⟨(by have q8 := ti_all u359; omega), (rg_t (a := (-1)) (by decide) (by first | decide | omega) (by first | decide | omega)), (by have : (0 : Int32).toInt = 0 := (by decide); omega), (fun h9 => absurd h9 (by decide)), (Or.inr ⟨by decide, Or.inr ⟨hne9, hj235 _ _ (by have := tn_of (show z209.toInt = z209.toInt from rfl) (by omega); have := tn_of (show u359.toInt = u359.toInt from rfl) (by omega); rcases hf394 with ⟨y1, y2, y3⟩ | ⟨y1, y2⟩; (rw [← y3]; exact lw_20 (by omega)); exact lw_n (by omega) (y2.resolve_left (fun h8 => by have := h8.1; omega)).2)⟩⟩), (hj237.tr hf395 (by omega)), (hj238.tr hf396 (by omega)), (hj239.tr hf397 (by omega)), (hj240.tr hf398 (by omega)), (hj241.tr hf399 (by omega)), (fun h8 => absurd h8 (by decide))⟩), by (try dsimp only); rw [ht]; exact ⟨hT, hF, m384, m370, m372, m373, m374, m375, m376⟩⟩, hS.F ht⟩) hS.2.2 dX12_readLaw_51
    have hT : gH (dC, dI) kA (SHm q (wP wZ wN wH wB wC wL wK wU wV) PI im PM PT (lD (fun _ _ => True) lS) (lD (fun _ _ => True) lB) (lD (fun _ _ => True) lE) lN) G H := SHm_mono hT (fun _ _ _ z => z) (fun _ _ _ z => z) (fun _ _ z => z) (fun _ _ z => z) (fun l i _ x q => lD_in _ (fun _ _ => trivial) l i x q) (fun l i _ x q => lD_in _ (fun _ _ => trivial) l i x q) (fun l i _ x q => lD_in _ (fun _ _ => trivial) l i x q) (fun _ => Int.le_refl _)
    exact key355 401 (fun _ _ => True) (fun _ _ => True) (fun _ _ => True) 0 vO vB vX vS vN 0 u44 u45 (by have q9 := (show u44.toInt = u44.toInt from rfl); omega) ⟨(by have q9 := (show (0 : Int32).toInt = 0 from (by decide)); (try have q8 := ti_all (0 : Int32)); omega), (rg_t (a := 0) (by decide) (by first | decide | omega) (by first | decide | omega)), (by have q8 := ti_all u44; omega), (by have q8 := ti_all u45; omega), (by rw [show ((0 : Int32)).toNatClampNeg = 0 from by decide, show ((0 : Int32)).toInt = 0 from by decide]; exact lw_0 _ _), (by have := (show u44.toInt = u44.toInt from rfl); have := (show (0 : Int32).toInt = 0 from (by decide)); have := (show tn.toInt = tn.toInt from rfl); omega), (fun c f h9 => by have z0 : (0 : Int32).toNatClampNeg = 0 := (by decide); rw [hs9, z0] at h9; exact h9), (zRw_0 (by decide) (by rw [hs9])), zKp.rf, zKp.rf, zKp.rf, zKp.rf, zKp.rf⟩ _ _ hT hF hS m48 m49 m50 m51 m52 m53 m54 m55 m57 m46 m47 ls (lv_sub hl [0, 1] rfl)
  · have t469 : u44.toInt = tn.toInt := ti_eq c64 rfl rfl
    refine lv_iconst (v := 0) hx hb dX12_readLaw_38 (by decide) ?_
    have hT : gH (dC, dI) kA (SHm q (wP wZ wN wH wB wC wL wK wU wV) PI im PM PT (lD (fun _ _ => True) lS) (lD (fun _ _ => True) lB) (lD (fun _ _ => True) lE) lN) G H := SHm_mono hT (fun _ _ _ z => z) (fun _ _ _ z => z) (fun _ _ z => z) (fun _ _ z => z) (fun l i _ x q => lD_in _ (fun _ _ => trivial) l i x q) (fun l i _ x q => lD_in _ (fun _ _ => trivial) l i x q) (fun l i _ x q => lD_in _ (fun _ _ => trivial) l i x q) (fun _ => Int.le_refl _)
    exact W.iret (v := 0) hx hb hr (fun t ht hW => ⟨⟨0, ((0 : Int32), u45, (fun _ _ => True), (fun _ _ => True), (fun _ _ => True), vO, vB, vX, vS, vN), rfl, (by exact ⟨(by have q8 := ti_all u45; omega), (rg_t (a := 0) (by decide) (by first | decide | omega) (by first | decide | omega)), (by have : (0 : Int32).toInt = 0 := (by decide); omega), (fun _ => by rw [show ((0 : Int32)).toNatClampNeg = 0 from by decide]; exact lw_v (lw_0 _ _) (by decide)), (Or.inl ⟨by decide, by have z0 : (0 : Int32).toNatClampNeg = 0 := (by decide); have := tn_of (show u44.toInt = u44.toInt from rfl) (by omega); have := tn_of (show tn.toInt = tn.toInt from rfl) (by omega); have j9 := hf61; rw [z0] at j9; exact Or.inl ⟨by rw [j9]; omega, by decide, rfl⟩⟩), zKp.rf, zKp.rf, zKp.rf, zKp.rf, zKp.rf, (fun _ => by have z0 : (0 : Int32).toNatClampNeg = 0 := (by decide); have := tn_of (show u44.toInt = u44.toInt from rfl) (by omega); have := tn_of (show tn.toInt = tn.toInt from rfl) (by omega); have j9 := hf61; rw [z0] at j9; exact zRe_0 (by rw [j9]; omega) z0)⟩), by (try dsimp only); rw [ht]; exact ⟨hT, hF, m55, m47, m49, m50, m51, m52, m53⟩⟩, hS.F ht⟩) hS.2.2 dX12_readLaw_39
