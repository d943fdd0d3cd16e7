def w_c_read : List Cond := .code yX4_read cX4_read 4 (some .int) :: (HAppend.hAppend (α := List Cond) (β := List Cond) (γ := List Cond) [.methodLink RX4 46 Lib.Math.min.name, .static Lib.Math.min.name, .initialized "java/lang/Math", .code Lib.Math.min.name Lib.Math.min.code 2 (some .int), .code yX4_scan cX4_scan 6 none, .code yX4_thingEnd cX4_thingEnd 6 (some .int), .code yX4_isLetter cX4_isLetter 1 (some .boolean), .methodLink RX4 81 yX4_isLetter, .static yX4_isLetter, .initialized RX4, .code yX4_isDigit cX4_isDigit 1 (some .boolean), .methodLink RX4 84 yX4_isDigit, .static yX4_isDigit, .methodLink RX4 74 yX4_thingEnd, .static yX4_thingEnd, .fieldLink RX4 11 "SeaLand$Law" "things" "[I", .code yX4_thingAt cX4_thingAt 3 (some .int), .code yX4_signThing cX4_signThing 1 (some .int), .methodLink RX4 93 yX4_signThing, .static yX4_signThing, .code yX4_numberThing cX4_numberThing 5 (some .int), .methodLink RX4 90 yX4_numberThing, .static yX4_numberThing, .code yX4_wordThing cX4_wordThing 4 (some .int), .code yX4_factThing cX4_factThing 3 (some .int), .code yX4_wordIs cX4_wordIs 5 (some .boolean), .code yJ0_length_8abf5 cJ0_length_8abf5 1 (some .int), .fieldLink RJ0 9 "java/lang/String" "value" "[B", .code yJ0_coder_7d493 cJ0_coder_7d493 1 (some .byte), .fieldLink RJ0 38 "java/lang/String" "COMPACT_STRINGS" "Z", .fieldLink RJ0 15 "java/lang/String" "coder" "B", .methodLink RJ0 335 yJ0_coder_7d493, .instanceMethod yJ0_coder_7d493, .selects RJ0 yJ0_coder_7d493 yJ0_coder_7d493, .initialized RJ0, .methodLink RX4 155 yJ0_length_8abf5, .instanceMethod yJ0_length_8abf5, .selects RJ0 yJ0_length_8abf5 yJ0_length_8abf5, .code yJ0_charAt_5068e cJ0_charAt_5068e 2 (some .char), .code yJ0_isLatin1_aae02 cJ0_isLatin1_aae02 1 (some .boolean), .methodLink RJ0 492 yJ0_isLatin1_aae02, .instanceMethod yJ0_isLatin1_aae02, .selects RJ0 yJ0_isLatin1_aae02 yJ0_isLatin1_aae02, .code yJ1_charAt_3b067 cJ1_charAt_3b067 2 (some .char), .code yJ0_checkIndex_df160 cJ0_checkIndex_df160 2 none, .fieldLink RJ0 1053 "jdk/internal/util/Preconditions" "SIOOBE_FORMATTER" "Ljava/util/function/BiFunction;", .code yJ3_checkIndex_8e157 cJ3_checkIndex_8e157 3 (some .int), .methodLink RJ0 1059 yJ3_checkIndex_8e157, .static yJ3_checkIndex_8e157, .initialized RJ3, .methodLink RJ1 9 yJ0_checkIndex_df160, .static yJ0_checkIndex_df160, .methodLink RJ0 495 yJ1_charAt_3b067, .static yJ1_charAt_3b067, .initialized RJ1, .methodLink RX4 161 yJ0_charAt_5068e, .instanceMethod yJ0_charAt_5068e, .selects RJ0 yJ0_charAt_5068e yJ0_charAt_5068e, .methodLink RX4 105 yX4_wordIs, .static yX4_wordIs, .methodLink RX4 97 yX4_factThing, .static yX4_factThing, .code yX4_lineThing cX4_lineThing 4 (some .int), .methodLink RX4 100 yX4_lineThing, .static yX4_lineThing, .methodLink RX4 87 yX4_wordThing, .static yX4_wordThing, .methodLink RX4 78 yX4_thingAt, .static yX4_thingAt, .fieldLink RX4 15 "SeaLand$Law" "begins" "[I", .methodLink RX4 52 yX4_scan, .instanceMethod yX4_scan, .selects RX4 yX4_scan yX4_scan, .fieldLink RX4 56 "SeaLand$Law" "at" "I", .fieldLink RX4 60 "SeaLand$Law" "lines" "I", .fieldLink RX4 63 "SeaLand$Law" "stepped" "I", .code yX4_readLine cX4_readLine 3 (some .boolean), .code yX4_lineKind cX4_lineKind 1 (some .int), .methodLink RX4 165 yX4_lineKind, .static yX4_lineKind, .fieldLink RX4 18 "SeaLand$Law" "kinds" "[I", .fieldLink RX4 33 "SeaLand$Law" "stepFrom" "[I", .code yX4_take cX4_take 2 (some .boolean), .methodLink RX4 70 yX4_take, .instanceMethod yX4_take, .selects RX4 yX4_take yX4_take, .code yX4_readAny cX4_readAny 4 (some .boolean), .code yX4_readAll cX4_readAll 4 (some .boolean), .code yX4_readAtom cX4_readAtom 4 (some .boolean), .code yX4_readComparison cX4_readComparison 3 (some .boolean), .code yX4_readSum cX4_readSum 3 (some .boolean), .code yX4_readPart cX4_readPart 2 (some .boolean), .code yX4_addStep cX4_addStep 2 none, .fieldLink RX4 39 "SeaLand$Law" "steps" "[I", .methodLink RX4 179 yX4_addStep, .instanceMethod yX4_addStep, .selects RX4 yX4_addStep yX4_addStep, .methodLink RX4 192 yX4_readPart, .instanceMethod yX4_readPart, .selects RX4 yX4_readPart yX4_readPart, .methodLink RX4 189 yX4_readSum, .instanceMethod yX4_readSum, .selects RX4 yX4_readSum yX4_readSum, .methodLink RX4 186 yX4_readComparison, .instanceMethod yX4_readComparison, .selects RX4 yX4_readComparison yX4_readComparison, .methodLink RX4 183 yX4_readAtom, .instanceMethod yX4_readAtom, .selects RX4 yX4_readAtom yX4_readAtom, .methodLink RX4 176 yX4_readAll, .instanceMethod yX4_readAll, .selects RX4 yX4_readAll yX4_readAll, .methodLink RX4 173 yX4_readAny, .instanceMethod yX4_readAny, .selects RX4 yX4_readAny yX4_readAny, .fieldLink RX4 36 "SeaLand$Law" "stepTo" "[I", .fieldLink RX4 21 "SeaLand$Law" "firsts" "[I", .code yX4_takeNumber cX4_takeNumber 4 (some .boolean), .methodLink RX4 168 yX4_takeNumber, .instanceMethod yX4_takeNumber, .selects RX4 yX4_takeNumber yX4_takeNumber, .fieldLink RX4 24 "SeaLand$Law" "seconds" "[I", .fieldLink RX4 27 "SeaLand$Law" "froms" "[I", .fieldLink RX4 30 "SeaLand$Law" "tos" "[I", .constant RX4 172 99999, .methodLink RX4 66 yX4_readLine, .instanceMethod yX4_readLine, .selects RX4 yX4_readLine yX4_readLine] bs2)
set_option maxHeartbeats 4000000 in
set_option maxRecDepth 100000 in
theorem c_read (l : Launch) (dC : Nat → ClassId) (dI : Nat → Nat → Nat) (kA : Nat → ClassId) (adK adV : Nat → Nat) (G : gT) (H0 : Heap) (nC nS : Int) (o0 : Nat) (tx : Nat) (le : Int32)  (hT : gH (dC, dI) kA (SHc nC nS) G H0) (hr_tx : G tx = some 16) (hr_o0 : G o0 = some 7) (hq0 : 0 ≤ le.toInt ∧ le.toInt ≤ 400) (hgC : 0 ≤ nC ∧ nC ≤ 40) (hgS : 0 ≤ nS ∧ nS ≤ 60) : Met l yX4_read w_c_read ({ frames := 26, cells := 0, slots := 0, locals := 591 }) (va_Pc [.ref o0, .ref tx, .int le] (fun U => U.heap = H0 ∧ va_K (dC, dI) vwCl (tyl kA) U ∧ EVC adK adV (gA G H0.size) U U.heap)) (va_Qi (fun (r : Int32) (u : Unit) => True) (fun (_ : Unit) (t : State) => gH (dC, dI) kA (SHc nC nS) G t.heap ∧ gF (dC, dI) SKc G ([(7, 11), (7, 12), (7, 13), (40, 0), (41, 0), (42, 0), (43, 0), (44, 0), (45, 0), (46, 0), (47, 0), (48, 0), (49, 0)] : List (Nat × Nat)) H0 t.heap) (gA G H0.size)) 0 0 (gA G H0.size) := by
  refine Met.ofW (cc := cX4_read) (maxL := 4) (ret := (some .int)) (by decide) rfl ?_
  intro p e s m args below meth c s₁ B hml hv
  obtain ⟨rfl, hH0, hK, hE⟩ := hv
  have hx := B.exec
  have hb := B.bytes
  have hr := B.returns
  have hts := atoms_spec (ws := w_c_read) B.pre
  have hown : s.vm.findClass RX4 = some m.cls := findClass_of_methodNamed B.named
  have hlocks := B.notSynchronized
  subst hH0
  generalize hAe : gA G s.heap.size = A at hE ⊢
  have hA : ∀ q : Nat, s.heap.size ≤ q → A q := fun q h => by rw [← hAe]; exact Or.inr h
  have hG := gA_of hAe
  have hS : va_S A s.heap s.heap [] := va_S.rf
  have hF : gF (dC, dI) SKc G ([(7, 11), (7, 12), (7, 13), (40, 0), (41, 0), (42, 0), (43, 0), (44, 0), (45, 0), (46, 0), (47, 0), (48, 0), (49, 0)] : List (Nat × Nat)) s.heap s.heap := gF.rf
  have hl := lv_entry ([.ref o0, .ref tx, .int le]) (n := 4) (Nat.le_of_ble_eq_true rfl)
  rw [lg_entry_eq]
  generalize (lg_sl ([.ref o0, .ref tx, .int le]) ++ List.replicate (4 - (lg_sl ([.ref o0, .ref tx, .int le])).length) Slot.unset).toArray = ls at hl ⊢
  have hl : lv_has ls 4 [(0, .ref o0), (1, .ref tx), (2, .int le)] := hl
  refine lv_aload_n hx hb dX4_read_0 rfl (lv_at hl 0 rfl) ?_
  refine lv_aload_n hx hb dX4_read_1 rfl (lv_at hl 1 rfl) ?_
  refine lv_iload_n hx hb dX4_read_2 rfl (lv_at hl 2 rfl) ?_
  refine lv_sipush (v := 400) hx hb dX4_read_3 (by decide) ?_
  refine va_mmin hx hb (hml.trans hl.1.symm) hown (ht_at2 hts 0 rfl) (ht_at2 hts 1 rfl) (ht_at2 hts 2 rfl) (ht_at2 hts 3 rfl) (Nat.le_of_ble_eq_true rfl) (Nat.le_of_ble_eq_true rfl) (Nat.le_of_ble_eq_true rfl) (Nat.le_of_ble_eq_true rfl) dX4_read_6 ?_
  refine lv_topi (fun x1 ex1 => ?_)
  have t2 : x1.toInt ≤ le.toInt ∧ x1.toInt ≤ 400 ∧ (x1.toInt = le.toInt ∨ x1.toInt = 400) := mn_f ex1 rfl (by decide)
  obtain ⟨v9, m3, h9⟩ := gH_fld hT hr_o0 shc_7 (k := 0) (by decide)
  obtain ⟨b4, rfl, hg5⟩ := h9 _ rfl
  have hFc := gA_free hG hA hS
  refine va_callv (va_runV (As := [.ref tx, .int x1]) (rest := []) ⟨hx, hb, hml, hown, hts⟩ (c_scan l dC dI kA adK adV G s.heap nC nS o0 tx x1 b4 hT hr_tx hr_o0 m3 hg5 (by have q8 := ti_all x1; omega) (by omega) (by omega)) (cwV 2 hts (goodIn_app (goodIn_r _ [71, 72, 73, 10] rfl (by decide +kernel)) (goodIn_ca (goodIn_r _ [5, 6, 7, 8, 9, 10, 11, 12, 13, 14, 15, 16, 17, 18, 19, 20, 21, 22, 23, 24, 25, 26, 27, 28, 29, 30, 31, 32, 33, 34, 35, 36, 37, 38, 39, 40, 41, 42, 43, 44, 45, 46, 47, 48, 49, 50, 51, 52, 53, 54, 55, 56, 57, 58, 59, 60, 61, 62, 63, 64, 65, 66, 67, 68, 69, 70] rfl (by decide +kernel)) (bs2_in _ _))) rfl rfl rfl (by decide +kernel) ⟨(Nat.le_of_ble_eq_true rfl), (Nat.le_of_ble_eq_true rfl)⟩) ⟨fun a U g mk q => by obtain ⟨q0, q1, qK, qE⟩ := q; exact ⟨q0, q1, va_K.moved (u := U) (U := U.calling g mk a) (Vm.Alike.refl U.vm) qK, EVC.blind g mk a qE⟩, gH_rc hK hT hr_o0 shc_7 rfl, fun U hU hW => ⟨rfl, hU, va_K.moved hW.alike hK, hE.call hS hFc hU hW⟩⟩ rfl rfl hl.1 rfl (lv_room (Nat.le_of_ble_eq_true rfl)) dX4_read_9 ⟨(Nat.le_of_ble_eq_true rfl), (Nat.le_of_ble_eq_true rfl)⟩) hS (fun q _ h => hFc q h) hFc (fun u t H locs ht hvm hw7 hB _ _ hS => ?_)
  obtain ⟨u8, rfl⟩ : ∃ z, z = u := ⟨_, rfl⟩
  obtain ⟨hT, hF1, m9⟩ := hB
  rw [ht] at hT hF1 m9
  have m10 := (hF1.fld hr_o0 skc_7 (k := 0) (by decide) (by decide)).trans m3
  have hF := hF.more hF1 (by decide)
  try dsimp only at hw7
  have h11 := hw7
  refine lv_aload_n hx hb dX4_read_12 rfl (lv_at hl 0 rfl) ?_
  refine lv_iconst (v := 0) hx hb dX4_read_13 (by decide) ?_
  refine tw_put (v := .int 0) (ty := .int) hx hb hts bF2_X4 tyX4 tyX4_ok nmX4 hown hK hT hG hS hr_o0 shc_7 rfl 13 (by decide) (ht_at2 hts 73 rfl) (fun _ h9 => h9) rfl (by decide +kernel) rfl rfl (gl_at rfl (gi_of (show (0 : Int32).toInt = 0 from (by decide)) (by first | decide | omega) (by first | decide | omega))) dX4_read_14 (fun H locs hT oq m12 oj hS => ?_)
  have hF := hF.put hr_o0 skc_7 oq oj (by decide)
  have m13 := (oj 0 (by decide) (by decide)).trans m10
  have m14 := (el_kept (oq _ (gne hg5 hr_o0 (by decide)))).trans m9
  refine lv_aload_n hx hb dX4_read_17 rfl (lv_at hl 0 rfl) ?_
  refine lv_iconst (v := 0) hx hb dX4_read_18 (by decide) ?_
  refine tw_put (v := .int 0) (ty := .int) hx hb hts bF2_X4 tyX4 tyX4_ok nmX4 hown hK hT hG hS hr_o0 shc_7 rfl 11 (by decide) (ht_at2 hts 74 rfl) (fun _ h9 => h9) rfl (by decide +kernel) rfl rfl (gl_at rfl (gi_of (show (0 : Int32).toInt = 0 from (by decide)) (by first | decide | omega) (by first | decide | omega))) dX4_read_19 (fun H locs hT oq m15 oj hS => ?_)
  have hF := hF.put hr_o0 skc_7 oq oj (by decide)
  have m16 := (oj 0 (by decide) (by decide)).trans m13
  have m17 := (el_kept (oq _ (gne hg5 hr_o0 (by decide)))).trans m14
  have m18 := (oj 13 (by decide) (by decide)).trans m12
  refine lv_aload_n hx hb dX4_read_22 rfl (lv_at hl 0 rfl) ?_
  refine lv_iconst (v := 0) hx hb dX4_read_23 (by decide) ?_
  refine tw_put (v := .int 0) (ty := .int) hx hb hts bF2_X4 tyX4 tyX4_ok nmX4 hown hK hT hG hS hr_o0 shc_7 rfl 12 (by decide) (ht_at2 hts 75 rfl) (fun _ h9 => h9) rfl (by decide +kernel) rfl rfl (gl_at rfl (gi_of (show (0 : Int32).toInt = 0 from (by decide)) (by first | decide | omega) (by first | decide | omega))) dX4_read_24 (fun H locs hT oq m19 oj hS => ?_)
  have hF := hF.put hr_o0 skc_7 oq oj (by decide)
  have m20 := (oj 0 (by decide) (by decide)).trans m16
  have m21 := (el_kept (oq _ (gne hg5 hr_o0 (by decide)))).trans m17
  have m22 := (oj 13 (by decide) (by decide)).trans m18
  have m23 := (oj 11 (by decide) (by decide)).trans m15
  refine lv_aload_n hx hb dX4_read_27 rfl (lv_at hl 0 rfl) ?_
  refine tw_getM (v := .ref b4) hx hb hts bF2_X4 hown hK hT hr_o0 shc_7 rfl 0 (by decide) (ht_at2 hts 15 rfl) (fun _ h9 => h9) m20 dX4_read_28 ?_
  refine lv_iconst (v := 0) hx hb dX4_read_31 (by decide) ?_
  refine tw_iald (i := 0) hx hb hK hT hg5 shc_40 rfl (by unfold vp_in; decide) dX4_read_32 (fun v9 m24 h9 => ?_)
  obtain ⟨x25, rfl, gx25, kx25⟩ := h9
  have t26 : (0 : Int32).toInt = u8.toInt → x25.toInt = (21 : Int32).toInt := fun h8 => congrArg Int32.toInt (el_same m24 m21 h8)
  refine lv_bipush (v := 21) hx hb dX4_read_33 (by decide) ?_
  have t27 : -2147483648 ≤ x25.toInt ∧ x25.toInt ≤ 2147483647 := ti_all x25
  refine lv_icmp_eq (tgt := 42) hx hb dX4_read_35 (by decide) (fun c28 => ?_) (fun c28 => ?_)
  · have t29 : x25.toInt = 21 := ti_eq c28 rfl (by decide)
    refine lv_iconst (v := 0) hx hb dX4_read_42 (by decide) ?_
    refine lv_istore_n (lv' := [(3, .int 0), (0, .ref o0), (1, .ref tx), (2, .int le)]) hx hb dX4_read_43 rfl hl (by decide) rfl (fun ls hl => ?_)
    have key44 : ∀ (n44 : Nat), (20 - (0 : Int32).toInt < ((n44 : Nat) : Int)) → (((0 : Int32).toInt ≤ u8.toInt)) → ∀ (H : Heap) (locs : List Loc), gH (dC, dI) kA (SHc nC nS) G H → gF (dC, dI) SKc G ([(7, 11), (7, 12), (7, 13), (40, 0), (41, 0), (42, 0), (43, 0), (44, 0), (45, 0), (46, 0), (47, 0), (48, 0), (49, 0)] : List (Nat × Nat)) s.heap H → va_S A s.heap H locs → el H o0 (dI 7 0) = some (.ref b4) → el H b4 u8.toNatClampNeg = some (.int 21) → el H o0 (dI 7 13) = some (.int 0) → el H o0 (dI 7 11) = some (.int 0) → el H o0 (dI 7 12) = some (.int 0) → el H b4 (0 : Int32).toNatClampNeg = some (.int x25) → ∀ ls : Array Slot, lv_has ls 4 [(3, .int 0), (0, .ref o0), (1, .ref tx), (2, .int le)] → W p l e (headSpec w_c_read ({ frames := 26, cells := 0, slots := 0, locals := 591 })).room s m #[.ref o0, .ref tx, .int le] below meth c H locs 0 0 (MQ below (va_Qi (fun (r : Int32) (u : Unit) => True) (fun (_ : Unit) (t : State) => gH (dC, dI) kA (SHc nC nS) G t.heap ∧ gF (dC, dI) SKc G ([(7, 11), (7, 12), (7, 13), (40, 0), (41, 0), (42, 0), (43, 0), (44, 0), (45, 0), (46, 0), (47, 0), (48, 0), (49, 0)] : List (Nat × Nat)) s.heap t.heap) A) #[.ref o0, .ref tx, .int le] s 0 0 A) (F0 m 44 ls []) := by
      intro n44
      induction n44 with
      | zero =>
        intro hv44 hj36 H locs hT hF hS m30 m31 m32 m33 m34 m35 ls hl
        exfalso; have q9 := (show (0 : Int32).toInt = 0 from (by decide)); omega
      | succ n44 ih44 =>
        intro hv44 hj36 H locs hT hF hS m30 m31 m32 m33 m34 m35 ls hl
        refine lv_iload_n hx hb dX4_read_44 rfl (lv_at hl 0 rfl) ?_
        refine lv_if_eq (tgt := 94) hx hb dX4_read_45 (by decide) (fun c45 => ?_) (fun c45 => absurd c45 (by decide))
        refine lv_iload_n hx hb dX4_read_94 rfl (lv_at hl 0 rfl) ?_
        refine lv_if_ne (tgt := 112) hx hb dX4_read_95 (by decide) (fun c46 => absurd c46 (by decide)) (fun c46 => ?_)
        refine lv_aload_n hx hb dX4_read_98 rfl (lv_at hl 1 rfl) ?_
        refine tw_getM (v := .ref b4) hx hb hts bF2_X4 hown hK hT hr_o0 shc_7 rfl 0 (by decide) (ht_at2 hts 15 rfl) (fun _ h9 => h9) m30 dX4_read_99 ?_
        refine lv_aload_n hx hb dX4_read_102 rfl (lv_at hl 1 rfl) ?_
        refine tw_getM (v := .int 0) hx hb hts bF2_X4 hown hK hT hr_o0 shc_7 rfl 13 (by decide) (ht_at2 hts 73 rfl) (fun _ h9 => h9) m32 dX4_read_103 ?_
        refine tw_iald (i := 0) hx hb hK hT hg5 shc_40 rfl (by unfold vp_in; decide) dX4_read_106 (fun v9 m47 h9 => ?_)
        obtain ⟨x48, rfl, gx48, kx48⟩ := h9
        have t49 : (0 : Int32).toInt = u8.toInt → x48.toInt = (21 : Int32).toInt := fun h8 => congrArg Int32.toInt (el_same m47 m31 h8)
        obtain rfl : x25 = x48 := (el_same m47 m35 rfl).symm
        refine lv_bipush (v := 21) hx hb dX4_read_107 (by decide) ?_
        refine lv_icmp_eq (tgt := 124) hx hb dX4_read_109 (by decide) (fun c50 => ?_) (fun c50 => (by exfalso; have q9 : x25.toInt ≠ 21 := ti_ne c50 rfl (by decide); omega))
        have t51 : x25.toInt = 21 := ti_eq c50 rfl (by decide)
        refine lv_iconst (v := (-1)) hx hb dX4_read_124 (by decide) ?_
        exact W.iret (v := (-1)) hx hb hr (fun t ht hW => ⟨⟨(-1), (), rfl, (by exact trivial), by (try dsimp only); rw [ht]; exact ⟨hT, hF⟩⟩, hS.F ht⟩) hS.2.2 dX4_read_125
    exact key44 21 (by have q9 := (show (0 : Int32).toInt = 0 from (by decide)); omega) (by have := (show (0 : Int32).toInt = 0 from (by decide)); have := (show u8.toInt = u8.toInt from rfl); omega) _ _ hT hF hS m20 m21 m22 m23 m19 m24 ls (lv_sub hl [0, 1, 2, 3] rfl)
  · have t52 : x25.toInt ≠ 21 := ti_ne c28 rfl (by decide)
    refine lv_iconst (v := 1) hx hb dX4_read_38 (by decide) ?_
    refine lv_goto (tgt := 43) hx hb dX4_read_39 (by decide) ?_
    refine lv_istore_n (lv' := [(3, .int 1), (0, .ref o0), (1, .ref tx), (2, .int le)]) hx hb dX4_read_43 rfl hl (by decide) rfl (fun ls hl => ?_)
    have key740 : ∀ (n740 : Nat), ∀ (z662 : Int32), ∀ (z666 : Int32), ∀ (z669 : Int32), (20 - z669.toInt < ((n740 : Nat) : Int)) → ((0 ≤ z662.toInt ∧ z662.toInt ≤ 1) ∧ (0 ≤ z666.toInt ∧ z666.toInt ≤ 400) ∧ (0 ≤ z669.toInt ∧ z669.toInt ≤ 20) ∧ (z666.toInt ≤ u8.toInt)) → ∀ (H : Heap) (locs : List Loc), gH (dC, dI) kA (SHc nC nS) G H → gF (dC, dI) SKc G ([(7, 11), (7, 12), (7, 13), (40, 0), (41, 0), (42, 0), (43, 0), (44, 0), (45, 0), (46, 0), (47, 0), (48, 0), (49, 0)] : List (Nat × Nat)) s.heap H → va_S A s.heap H locs → el H o0 (dI 7 0) = some (.ref b4) → el H b4 u8.toNatClampNeg = some (.int 21) → el H o0 (dI 7 13) = some (.int z666) → el H o0 (dI 7 11) = some (.int z669) → el H b4 (0 : Int32).toNatClampNeg = some (.int x25) → ∀ ls : Array Slot, lv_has ls 4 [(3, .int z662), (0, .ref o0), (1, .ref tx), (2, .int le)] → W p l e (headSpec w_c_read ({ frames := 26, cells := 0, slots := 0, locals := 591 })).room s m #[.ref o0, .ref tx, .int le] below meth c H locs 0 0 (MQ below (va_Qi (fun (r : Int32) (u : Unit) => True) (fun (_ : Unit) (t : State) => gH (dC, dI) kA (SHc nC nS) G t.heap ∧ gF (dC, dI) SKc G ([(7, 11), (7, 12), (7, 13), (40, 0), (41, 0), (42, 0), (43, 0), (44, 0), (45, 0), (46, 0), (47, 0), (48, 0), (49, 0)] : List (Nat × Nat)) s.heap t.heap) A) #[.ref o0, .ref tx, .int le] s 0 0 A) (F0 m 44 ls []) := by
      intro n740
      induction n740 with
      | zero =>
        intro z662 z666 z669 hv740 ⟨h663, h667, h670, hj673⟩ H locs hT hF hS m664 m665 m668 m671 m672 ls hl
        exfalso; have q9 := (show z669.toInt = z669.toInt from rfl); omega
      | succ n740 ih740 =>
        intro z662 z666 z669 hv740 ⟨h663, h667, h670, hj673⟩ H locs hT hF hS m664 m665 m668 m671 m672 ls hl
        refine lv_iload_n hx hb dX4_read_44 rfl (lv_at hl 0 rfl) ?_
        refine lv_if_eq (tgt := 94) hx hb dX4_read_45 (by decide) (fun c741 => ?_) (fun c741 => ?_)
        · have t742 : z662.toInt = 0 := ti_eq c741 rfl (by decide)
          refine lv_iload_n hx hb dX4_read_94 rfl (lv_at hl 0 rfl) ?_
          refine lv_if_ne (tgt := 112) hx hb dX4_read_95 (by decide) (fun c743 => (by exfalso; have q9 : z662.toInt ≠ 0 := ti_ne c743 rfl (by decide); omega)) (fun c743 => ?_)
          have t744 : z662.toInt = 0 := ti_eq c743 rfl (by decide)
          refine lv_aload_n hx hb dX4_read_98 rfl (lv_at hl 1 rfl) ?_
          refine tw_getM (v := .ref b4) hx hb hts bF2_X4 hown hK hT hr_o0 shc_7 rfl 0 (by decide) (ht_at2 hts 15 rfl) (fun _ h9 => h9) m664 dX4_read_99 ?_
          refine lv_aload_n hx hb dX4_read_102 rfl (lv_at hl 1 rfl) ?_
          refine tw_getM (v := .int z666) hx hb hts bF2_X4 hown hK hT hr_o0 shc_7 rfl 13 (by decide) (ht_at2 hts 73 rfl) (fun _ h9 => h9) m668 dX4_read_103 ?_
          refine tw_iald (i := z666) hx hb hK hT hg5 shc_40 rfl (vin_t (a := z666.toInt) rfl (by omega) (by omega)) dX4_read_106 (fun v9 m745 h9 => ?_)
          obtain ⟨x746, rfl, gx746, kx746⟩ := h9
          have t747 : z666.toInt = u8.toInt → x746.toInt = (21 : Int32).toInt := fun h8 => congrArg Int32.toInt (el_same m745 m665 h8)
          refine lv_bipush (v := 21) hx hb dX4_read_107 (by decide) ?_
          have t748 : -2147483648 ≤ x746.toInt ∧ x746.toInt ≤ 2147483647 := ti_all x746
          refine lv_icmp_eq (tgt := 124) hx hb dX4_read_109 (by decide) (fun c749 => ?_) (fun c749 => ?_)
          · have t750 : x746.toInt = 21 := ti_eq c749 rfl (by decide)
            refine lv_iconst (v := (-1)) hx hb dX4_read_124 (by decide) ?_
            exact W.iret (v := (-1)) hx hb hr (fun t ht hW => ⟨⟨(-1), (), rfl, (by exact trivial), by (try dsimp only); rw [ht]; exact ⟨hT, hF⟩⟩, hS.F ht⟩) hS.2.2 dX4_read_125
          · have t751 : x746.toInt ≠ 21 := ti_ne c749 rfl (by decide)
            refine lv_aload_n hx hb dX4_read_112 rfl (lv_at hl 1 rfl) ?_
            refine tw_get hx hb hts bF2_X4 hown hK hT hr_o0 shc_7 rfl 1 (by decide) (ht_at2 hts 69 rfl) (fun _ h9 => h9) dX4_read_113 (fun v9 m752 h9 => ?_)
            obtain ⟨b753, rfl, hg754⟩ := h9 _ rfl
            refine lv_aload_n hx hb dX4_read_116 rfl (lv_at hl 1 rfl) ?_
            refine tw_getM (v := .int z666) hx hb hts bF2_X4 hown hK hT hr_o0 shc_7 rfl 13 (by decide) (ht_at2 hts 73 rfl) (fun _ h9 => h9) m668 dX4_read_117 ?_
            refine tw_iald (i := z666) hx hb hK hT hg754 shc_41 rfl (vin_t (a := z666.toInt) rfl (by omega) (by omega)) dX4_read_120 (fun v9 m755 h9 => ?_)
            obtain ⟨x756, rfl, gx756, kx756⟩ := h9
            refine lv_goto (tgt := 125) hx hb dX4_read_121 (by decide) ?_
            exact W.iret (v := x756) hx hb hr (fun t ht hW => ⟨⟨x756, (), rfl, (by exact trivial), by (try dsimp only); rw [ht]; exact ⟨hT, hF⟩⟩, hS.F ht⟩) hS.2.2 dX4_read_125
        · have t757 : z662.toInt ≠ 0 := ti_ne c741 rfl (by decide)
          refine lv_aload_n hx hb dX4_read_48 rfl (lv_at hl 1 rfl) ?_
          refine tw_getM (v := .int z669) hx hb hts bF2_X4 hown hK hT hr_o0 shc_7 rfl 11 (by decide) (ht_at2 hts 74 rfl) (fun _ h9 => h9) m671 dX4_read_49 ?_
          refine lv_bipush (v := 20) hx hb dX4_read_52 (by decide) ?_
          refine lv_icmp_ge (tgt := 94) hx hb dX4_read_54 (by decide) (fun c758 => ?_) (fun c758 => ?_)
          · have t759 : 20 ≤ z669.toInt := ti_le c758 (by decide) rfl
            refine lv_iload_n hx hb dX4_read_94 rfl (lv_at hl 0 rfl) ?_
            refine lv_if_ne (tgt := 112) hx hb dX4_read_95 (by decide) (fun c760 => ?_) (fun c760 => (by exfalso; have q9 : z662.toInt = 0 := ti_eq c760 rfl (by decide); omega))
            have t761 : z662.toInt ≠ 0 := ti_ne c760 rfl (by decide)
            refine lv_aload_n hx hb dX4_read_112 rfl (lv_at hl 1 rfl) ?_
            refine tw_get hx hb hts bF2_X4 hown hK hT hr_o0 shc_7 rfl 1 (by decide) (ht_at2 hts 69 rfl) (fun _ h9 => h9) dX4_read_113 (fun v9 m762 h9 => ?_)
            obtain ⟨b763, rfl, hg764⟩ := h9 _ rfl
            refine lv_aload_n hx hb dX4_read_116 rfl (lv_at hl 1 rfl) ?_
            refine tw_getM (v := .int z666) hx hb hts bF2_X4 hown hK hT hr_o0 shc_7 rfl 13 (by decide) (ht_at2 hts 73 rfl) (fun _ h9 => h9) m668 dX4_read_117 ?_
            refine tw_iald (i := z666) hx hb hK hT hg764 shc_41 rfl (vin_t (a := z666.toInt) rfl (by omega) (by omega)) dX4_read_120 (fun v9 m765 h9 => ?_)
            obtain ⟨x766, rfl, gx766, kx766⟩ := h9
            refine lv_goto (tgt := 125) hx hb dX4_read_121 (by decide) ?_
            exact W.iret (v := x766) hx hb hr (fun t ht hW => ⟨⟨x766, (), rfl, (by exact trivial), by (try dsimp only); rw [ht]; exact ⟨hT, hF⟩⟩, hS.F ht⟩) hS.2.2 dX4_read_125
          · have t767 : z669.toInt < 20 := ti_nle c758 (by decide) rfl
            refine lv_aload_n hx hb dX4_read_57 rfl (lv_at hl 1 rfl) ?_
            have hFc := gA_free hG hA hS
            refine va_calli (va_runV (As := []) (rest := []) ⟨hx, hb, hml, hown, hts⟩ (c_readLine l dC dI kA adK adV G H nC nS o0 b4 z666 z669 21 u8 u8 hT hr_o0 m664 hg5 m668 m671 (by have q8 := ti_all u8; omega) (by have q8 := ti_all z666; omega) (by have := (show z666.toInt = z666.toInt from rfl); have := (show u8.toInt = u8.toInt from rfl); omega) (by have q8 := ti_all z669; omega) (by have q9 := (show u8.toInt = u8.toInt from rfl); have := (show u8.toInt = u8.toInt from rfl); omega) m665 (rg_t (a := 21) (by decide) (by first | decide | omega) (by first | decide | omega)) (by omega) (by omega)) (cwV 0 hts (goodIn_app (goodIn_r _ [126, 127, 128, 10] rfl (by decide +kernel)) (goodIn_ca (goodIn_r _ [77, 16, 74, 78, 79, 80, 10, 81, 75, 82, 76, 83, 84, 85, 86, 87, 88, 89, 90, 91, 92, 93, 94, 95, 96, 97, 98, 99, 100, 101, 102, 103, 104, 105, 106, 107, 108, 109, 110, 111, 112, 113, 114, 115, 116, 117, 118, 119, 120, 121, 122, 123, 124, 125] rfl (by decide +kernel)) (bs2_in _ _))) rfl rfl rfl (by decide +kernel) ⟨(Nat.le_of_ble_eq_true rfl), (Nat.le_of_ble_eq_true rfl)⟩) ⟨fun a U g mk q => by obtain ⟨q0, q1, qK, qE⟩ := q; exact ⟨q0, q1, va_K.moved (u := U) (U := U.calling g mk a) (Vm.Alike.refl U.vm) qK, EVC.blind g mk a qE⟩, gH_rc hK hT hr_o0 shc_7 rfl, fun U hU hW => ⟨rfl, hU, va_K.moved hW.alike hK, hE.call hS hFc hU hW⟩⟩ rfl rfl hl.1 rfl (lv_room (Nat.le_of_ble_eq_true rfl)) dX4_read_58 ⟨(Nat.le_of_ble_eq_true rfl), (Nat.le_of_ble_eq_true rfl)⟩) hS (fun q _ h => hFc q h) hFc (fun r768 u t H locs ht hvm hw769 hB _ _ hS => ?_)
            obtain ⟨u770, rfl⟩ : ∃ z, z = u := ⟨_, rfl⟩
            obtain ⟨hT, hF1, m771⟩ := hB
            rw [ht] at hT hF1 m771
            have m772 := (hF1.fld hr_o0 skc_7 (k := 0) (by decide) (by decide)).trans m664
            have m773 := (el_kept (hF1.arr hg5 skc_40 (by decide))).trans m665
            have m775 := (hF1.fld hr_o0 skc_7 (k := 11) (by decide) (by decide)).trans m671
            have m776 := (el_kept (hF1.arr hg5 skc_40 (by decide))).trans m672
            have hF := hF.more hF1 (by decide)
            try dsimp only at hw769
            obtain ⟨h777, h778, hf779⟩ := hw769
            refine lv_if_ne (tgt := 74) hx hb dX4_read_61 (by decide) (fun c780 => ?_) (fun c780 => ?_)
            · have t781 : r768.toInt ≠ 0 := ti_ne c780 rfl (by decide)
              refine lv_aload_n hx hb dX4_read_74 rfl (lv_at hl 1 rfl) ?_
              refine lv_dup hx hb dX4_read_75 rfl ?_
              refine tw_getM (v := .int z669) hx hb hts bF2_X4 hown hK hT hr_o0 shc_7 rfl 11 (by decide) (ht_at2 hts 74 rfl) (fun _ h9 => h9) m775 dX4_read_76 ?_
              refine lv_iconst (v := 1) hx hb dX4_read_79 (by decide) ?_
              refine lv_iadd hx hb dX4_read_80 ?_
              refine lv_topi (fun x782 ex782 => ?_)
              have t783 : x782.toInt = z669.toInt + 1 := ti_add ex782 rfl (by decide) (by omega) (by omega)
              refine tw_put (v := .int x782) (ty := .int) hx hb hts bF2_X4 tyX4 tyX4_ok nmX4 hown hK hT hG hS hr_o0 shc_7 rfl 11 (by decide) (ht_at2 hts 74 rfl) (fun _ h9 => h9) rfl (by decide +kernel) rfl rfl (gl_at rfl (gi_of (show x782.toInt = x782.toInt from rfl) (by omega) (by omega))) dX4_read_81 (fun H locs hT oq m784 oj hS => ?_)
              have hF := hF.put hr_o0 skc_7 oq oj (by decide)
              have m785 := (oj 0 (by decide) (by decide)).trans m772
              have m786 := (el_kept (oq _ (gne hg5 hr_o0 (by decide)))).trans m773
              have m787 := (el_kept (oq _ (gne hg5 hr_o0 (by decide)))).trans m776
              have m788 := (oj 13 (by decide) (by decide)).trans m771
              refine lv_aload_n hx hb dX4_read_84 rfl (lv_at hl 1 rfl) ?_
              refine lv_bipush (v := 18) hx hb dX4_read_85 (by decide) ?_
              have hFc := gA_free hG hA hS
              refine va_calli (va_runV (As := [.int 18]) (rest := []) ⟨hx, hb, hml, hown, hts⟩ (c_take l dC dI kA adK adV G H nC nS o0 18 b4 u770 21 u8 u8 hT hr_o0 m785 hg5 m788 (by have q8 := ti_all u8; omega) (by have q8 := ti_all u770; omega) (by have := (show u770.toInt = u770.toInt from rfl); have := (show u8.toInt = u8.toInt from rfl); omega) (by have := (show (18 : Int32).toInt = 18 from (by decide)); omega) (by have q9 := (show u8.toInt = u8.toInt from rfl); have := (show u8.toInt = u8.toInt from rfl); omega) m786 (rg_t (a := 21) (by decide) (by first | decide | omega) (by first | decide | omega)) (by omega) (by omega)) (cwV 1 hts (goodIn_app (goodIn_r _ [84, 85, 86, 10] rfl (by decide +kernel)) (goodIn_ca (goodIn_r _ [83, 16, 74] rfl (by decide +kernel)) (bs2_in _ _))) rfl rfl rfl (by decide +kernel) ⟨(Nat.le_of_ble_eq_true rfl), (Nat.le_of_ble_eq_true rfl)⟩) ⟨fun a U g mk q => by obtain ⟨q0, q1, qK, qE⟩ := q; exact ⟨q0, q1, va_K.moved (u := U) (U := U.calling g mk a) (Vm.Alike.refl U.vm) qK, EVC.blind g mk a qE⟩, gH_rc hK hT hr_o0 shc_7 rfl, fun U hU hW => ⟨rfl, hU, va_K.moved hW.alike hK, hE.call hS hFc hU hW⟩⟩ rfl rfl hl.1 rfl (lv_room (Nat.le_of_ble_eq_true rfl)) dX4_read_87 ⟨(Nat.le_of_ble_eq_true rfl), (Nat.le_of_ble_eq_true rfl)⟩) hS (fun q _ h => hFc q h) hFc (fun r789 u t H locs ht hvm hw790 hB _ _ hS => ?_)
              obtain ⟨u791, rfl⟩ : ∃ z, z = u := ⟨_, rfl⟩
              obtain ⟨hT, hF1, m792⟩ := hB
              rw [ht] at hT hF1 m792
              have m793 := (hF1.fld hr_o0 skc_7 (k := 0) (by decide) (by decide)).trans m785
              have m794 := (el_kept (hF1.arr hg5 skc_40 (by decide))).trans m786
              have m795 := (el_kept (hF1.arr hg5 skc_40 (by decide))).trans m787
              have m797 := (hF1.fld hr_o0 skc_7 (k := 11) (by decide) (by decide)).trans m784
              have hF := hF.more hF1 (by decide)
              try dsimp only at hw790
              obtain ⟨h798, h799, hf800⟩ := hw790
              refine lv_istore_n (lv' := [(3, .int r789), (0, .ref o0), (1, .ref tx), (2, .int le)]) hx hb dX4_read_90 rfl hl (by decide) rfl (fun ls hl => ?_)
              refine lv_goto (tgt := 44) hx hb dX4_read_91 (by decide) ?_
              exact ih740 r789 u791 x782 (by have q9 := (show x782.toInt = x782.toInt from rfl); omega) ⟨(by have q8 := ti_all r789; omega), (by have q8 := ti_all u791; omega), (by have q8 := ti_all x782; omega), (by have := (show u791.toInt = u791.toInt from rfl); have := (show u8.toInt = u8.toInt from rfl); omega)⟩ _ _ hT hF hS m793 m794 m792 m797 m795 ls (lv_sub hl [0, 1, 2, 3] rfl)
            · have t801 : r768.toInt = 0 := ti_eq c780 rfl (by decide)
              refine lv_aload_n hx hb dX4_read_64 rfl (lv_at hl 1 rfl) ?_
              refine tw_get hx hb hts bF2_X4 hown hK hT hr_o0 shc_7 rfl 1 (by decide) (ht_at2 hts 69 rfl) (fun _ h9 => h9) dX4_read_65 (fun v9 m802 h9 => ?_)
              obtain ⟨b803, rfl, hg804⟩ := h9 _ rfl
              refine lv_aload_n hx hb dX4_read_68 rfl (lv_at hl 1 rfl) ?_
              refine tw_getM (v := .int u770) hx hb hts bF2_X4 hown hK hT hr_o0 shc_7 rfl 13 (by decide) (ht_at2 hts 73 rfl) (fun _ h9 => h9) m771 dX4_read_69 ?_
              refine tw_iald (i := u770) hx hb hK hT hg804 shc_41 rfl (vin_t (a := u770.toInt) rfl (by omega) (by omega)) dX4_read_72 (fun v9 m805 h9 => ?_)
              obtain ⟨x806, rfl, gx806, kx806⟩ := h9
              exact W.iret (v := x806) hx hb hr (fun t ht hW => ⟨⟨x806, (), rfl, (by exact trivial), by (try dsimp only); rw [ht]; exact ⟨hT, hF⟩⟩, hS.F ht⟩) hS.2.2 dX4_read_73
    exact key740 21 1 0 0 (by have q9 := (show (0 : Int32).toInt = 0 from (by decide)); omega) ⟨(rg_t (a := 1) (by decide) (by first | decide | omega) (by first | decide | omega)), (rg_t (a := 0) (by decide) (by first | decide | omega) (by first | decide | omega)), (rg_t (a := 0) (by decide) (by first | decide | omega) (by first | decide | omega)), (by have := (show (0 : Int32).toInt = 0 from (by decide)); have := (show u8.toInt = u8.toInt from rfl); omega)⟩ _ _ hT hF hS m20 m21 m22 m23 m24 ls (lv_sub hl [0, 1, 2, 3] rfl)
def w_c_joined : List Cond := .code yX4_joined cX4_joined 5 (some .long) :: (HAppend.hAppend (α := List Cond) (β := List Cond) (γ := List Cond) [.methodLink RX4 199 Lib.MathLoose.max_long.x, .static Lib.MathLoose.max_long.x, .initialized "java/lang/Math", .code Lib.MathLoose.max_long.x Lib.MathLoose.max_long.code 4 (some .long)] bs2)
set_option maxHeartbeats 4000000 in
set_option maxRecDepth 100000 in
theorem c_joined (l : Launch) (dC : Nat → ClassId) (dI : Nat → Nat → Nat) (kA : Nat → ClassId) (adK adV : Nat → Nat) (G : gT) (H0 : Heap) (nC nS : Int) (p0 : Int32) (p1 : Int64) (p2 : Int64)  (hT : gH (dC, dI) kA (SHc nC nS) G H0) (hgC : 0 ≤ nC ∧ nC ≤ 40) (hgS : 0 ≤ nS ∧ nS ≤ 60) : Met l yX4_joined w_c_joined ({ frames := 1, cells := 0, slots := 0, locals := 40 }) (va_Pc [.int p0, .long p1, .long p2] (fun U => U.heap = H0 ∧ va_K (dC, dI) vwCl (tyl kA) U ∧ EVC adK adV (gA G H0.size) U U.heap)) (va_Ql (fun (r : Int64) (u : Unit) => True) (fun (_ : Unit) (t : State) => gH (dC, dI) kA (SHc nC nS) G t.heap ∧ gF (dC, dI) SKc G ([] : List (Nat × Nat)) H0 t.heap) (gA G H0.size)) 0 0 (gA G H0.size) := by
  refine Met.ofW (cc := cX4_joined) (maxL := 5) (ret := (some .long)) (by decide) rfl ?_
  intro p e s m args below meth c s₁ B hml hv
  obtain ⟨rfl, hH0, hK, hE⟩ := hv
  have hx := B.exec
  have hb := B.bytes
  have hr := B.returns
  have hts := atoms_spec (ws := w_c_joined) B.pre
  have hown : s.vm.findClass RX4 = some m.cls := findClass_of_methodNamed B.named
  have hlocks := B.notSynchronized
  subst hH0
  generalize hAe : gA G s.heap.size = A at hE ⊢
  have hA : ∀ q : Nat, s.heap.size ≤ q → A q := fun q h => by rw [← hAe]; exact Or.inr h
  have hG := gA_of hAe
  have hS : va_S A s.heap s.heap [] := va_S.rf
  have hF : gF (dC, dI) SKc G ([] : List (Nat × Nat)) s.heap s.heap := gF.rf
  have hl := lv_entry ([.int p0, .long p1, .long p2]) (n := 5) (Nat.le_of_ble_eq_true rfl)
  rw [lg_entry_eq]
  generalize (lg_sl ([.int p0, .long p1, .long p2]) ++ List.replicate (5 - (lg_sl ([.int p0, .long p1, .long p2])).length) Slot.unset).toArray = ls at hl ⊢
  have hl : lv_has ls 5 [(0, .int p0), (1, .long p1), (3, .long p2)] := hl
  refine lv_iload_n hx hb dX4_joined_0 rfl (lv_at hl 0 rfl) ?_
  by_cases hs1 : p0 = 10
  · subst hs1
    refine lv_tableIn (x := 10) (off := 35) (tgt := 36) hx hb dX4_joined_1 (by decide) (by decide) (by decide) (by decide) ?_
    refine lv_lload_n hx hb dX4_joined_36 rfl (lv_at hl 1 rfl) ?_
    refine lv_lload_n hx hb dX4_joined_37 rfl (lv_at hl 2 rfl) ?_
    refine lv_ladd hx hb dX4_joined_38 ?_
    refine lv_topl (fun y2 _ => ?_)
    exact W.lret (v := y2) hx hb hr (fun t ht hW => ⟨⟨y2, (), rfl, (by exact trivial), by (try dsimp only); rw [ht]; exact ⟨hT, hF⟩⟩, hS.F ht⟩) hS.2.2 dX4_joined_39
  by_cases hs3 : p0 = 11
  · subst hs3
    refine lv_tableIn (x := 11) (off := 39) (tgt := 40) hx hb dX4_joined_1 (by decide) (by decide) (by decide) (by decide) ?_
    refine lv_lload_n hx hb dX4_joined_40 rfl (lv_at hl 1 rfl) ?_
    refine lv_lload_n hx hb dX4_joined_41 rfl (lv_at hl 2 rfl) ?_
    refine W.lcmp hx hb dX4_joined_42 ?_
    refine lv_topi (fun x4 _ => ?_)
    have t5 : -2147483648 ≤ x4.toInt ∧ x4.toInt ≤ 2147483647 := ti_all x4
    refine lv_if_ge (tgt := 50) hx hb dX4_joined_43 (by decide) (fun c6 => ?_) (fun c6 => ?_)
    · have t7 : 0 ≤ x4.toInt := ti_le c6 (by decide) rfl
      refine lv_lconst (v := 0) hx hb dX4_joined_50 (by decide) ?_
      exact W.lret (v := 0) hx hb hr (fun t ht hW => ⟨⟨0, (), rfl, (by exact trivial), by (try dsimp only); rw [ht]; exact ⟨hT, hF⟩⟩, hS.F ht⟩) hS.2.2 dX4_joined_51
    · have t8 : x4.toInt < 0 := ti_nle c6 (by decide) rfl
      refine lv_lconst (v := 1) hx hb dX4_joined_46 (by decide) ?_
      refine lv_goto (tgt := 51) hx hb dX4_joined_47 (by decide) ?_
      exact W.lret (v := 1) hx hb hr (fun t ht hW => ⟨⟨1, (), rfl, (by exact trivial), by (try dsimp only); rw [ht]; exact ⟨hT, hF⟩⟩, hS.F ht⟩) hS.2.2 dX4_joined_51
  by_cases hs9 : p0 = 12
  · subst hs9
    refine lv_tableIn (x := 12) (off := 51) (tgt := 52) hx hb dX4_joined_1 (by decide) (by decide) (by decide) (by decide) ?_
    refine lv_lload_n hx hb dX4_joined_52 rfl (lv_at hl 1 rfl) ?_
    refine lv_lload_n hx hb dX4_joined_53 rfl (lv_at hl 2 rfl) ?_
    refine W.lcmp hx hb dX4_joined_54 ?_
    refine lv_topi (fun x10 _ => ?_)
    have t11 : -2147483648 ≤ x10.toInt ∧ x10.toInt ≤ 2147483647 := ti_all x10
    refine lv_if_le (tgt := 62) hx hb dX4_joined_55 (by decide) (fun c12 => ?_) (fun c12 => ?_)
    · have t13 : x10.toInt ≤ 0 := ti_le c12 rfl (by decide)
      refine lv_lconst (v := 0) hx hb dX4_joined_62 (by decide) ?_
      exact W.lret (v := 0) hx hb hr (fun t ht hW => ⟨⟨0, (), rfl, (by exact trivial), by (try dsimp only); rw [ht]; exact ⟨hT, hF⟩⟩, hS.F ht⟩) hS.2.2 dX4_joined_63
    · have t14 : 0 < x10.toInt := ti_nle c12 rfl (by decide)
      refine lv_lconst (v := 1) hx hb dX4_joined_58 (by decide) ?_
      refine lv_goto (tgt := 63) hx hb dX4_joined_59 (by decide) ?_
      exact W.lret (v := 1) hx hb hr (fun t ht hW => ⟨⟨1, (), rfl, (by exact trivial), by (try dsimp only); rw [ht]; exact ⟨hT, hF⟩⟩, hS.F ht⟩) hS.2.2 dX4_joined_63
  by_cases hs15 : p0 = 13
  · subst hs15
    refine lv_tableIn (x := 13) (off := 67) (tgt := 68) hx hb dX4_joined_1 (by decide) (by decide) (by decide) (by decide) ?_
    refine lv_lload_n hx hb dX4_joined_68 rfl (lv_at hl 1 rfl) ?_
    refine lv_lload_n hx hb dX4_joined_69 rfl (lv_at hl 2 rfl) ?_
    refine va_mmax_long hx hb (hml.trans hl.1.symm) hown (ht_at2 hts 0 rfl) (ht_at2 hts 1 rfl) (ht_at2 hts 2 rfl) (ht_at2 hts 3 rfl) (Nat.le_of_ble_eq_true rfl) (Nat.le_of_ble_eq_true rfl) (Nat.le_of_ble_eq_true rfl) (Nat.le_of_ble_eq_true rfl) dX4_joined_70 ?_
    refine lv_topl (fun y16 _ => ?_)
    exact W.lret (v := y16) hx hb hr (fun t ht hW => ⟨⟨y16, (), rfl, (by exact trivial), by (try dsimp only); rw [ht]; exact ⟨hT, hF⟩⟩, hS.F ht⟩) hS.2.2 dX4_joined_73
  by_cases hs17 : p0 = 14
  · subst hs17
    refine lv_tableIn (x := 14) (off := 63) (tgt := 64) hx hb dX4_joined_1 (by decide) (by decide) (by decide) (by decide) ?_
    refine lv_lload_n hx hb dX4_joined_64 rfl (lv_at hl 1 rfl) ?_
    refine lv_lload_n hx hb dX4_joined_65 rfl (lv_at hl 2 rfl) ?_
    refine lv_lmul hx hb dX4_joined_66 ?_
    refine lv_topl (fun y18 _ => ?_)
    exact W.lret (v := y18) hx hb hr (fun t ht hW => ⟨⟨y18, (), rfl, (by exact trivial), by (try dsimp only); rw [ht]; exact ⟨hT, hF⟩⟩, hS.F ht⟩) hS.2.2 dX4_joined_67
  have ho19 : p0.toInt < 10 ∨ 14 < p0.toInt := by
    by_cases hz9 : p0.toInt < 10
    · exact Or.inl hz9
    have u9 : (10 : Int) ≤ p0.toInt := Int.not_lt.mp hz9
    have u9 := ll_nx (k1 := 11) u9 hs1 (by decide) (by decide)
    have u9 := ll_nx (k1 := 12) u9 hs3 (by decide) (by decide)
    have u9 := ll_nx (k1 := 13) u9 hs9 (by decide) (by decide)
    have u9 := ll_nx (k1 := 14) u9 hs15 (by decide) (by decide)
    have u9 := ll_nx (k1 := 15) u9 hs17 (by decide) (by decide)
    exact Or.inr (Int.lt_of_lt_of_le (by decide) u9)
  refine lv_tableOut (tgt := 68) hx hb dX4_joined_1 ho19 (by decide) ?_
  refine lv_lload_n hx hb dX4_joined_68 rfl (lv_at hl 1 rfl) ?_
  refine lv_lload_n hx hb dX4_joined_69 rfl (lv_at hl 2 rfl) ?_
  refine va_mmax_long hx hb (hml.trans hl.1.symm) hown (ht_at2 hts 0 rfl) (ht_at2 hts 1 rfl) (ht_at2 hts 2 rfl) (ht_at2 hts 3 rfl) (Nat.le_of_ble_eq_true rfl) (Nat.le_of_ble_eq_true rfl) (Nat.le_of_ble_eq_true rfl) (Nat.le_of_ble_eq_true rfl) dX4_joined_70 ?_
  refine lv_topl (fun y20 _ => ?_)
  exact W.lret (v := y20) hx hb hr (fun t ht hW => ⟨⟨y20, (), rfl, (by exact trivial), by (try dsimp only); rw [ht]; exact ⟨hT, hF⟩⟩, hS.F ht⟩) hS.2.2 dX4_joined_73
def w_c_lineHolds : List Cond := .code yX4_lineHolds cX4_lineHolds 6 (some .boolean) :: (HAppend.hAppend (α := List Cond) (β := List Cond) (γ := List Cond) [.fieldLink RX4 33 "SeaLand$Law" "stepFrom" "[I", .fieldLink RX4 36 "SeaLand$Law" "stepTo" "[I", .fieldLink RX4 39 "SeaLand$Law" "steps" "[I", .fieldLink RX4 42 "SeaLand$Law" "stack" "[J", .code yX4_joined cX4_joined 5 (some .long), .methodLink RX4 199 Lib.MathLoose.max_long.x, .static Lib.MathLoose.max_long.x, .initialized "java/lang/Math", .code Lib.MathLoose.max_long.x Lib.MathLoose.max_long.code 4 (some .long), .methodLink RX4 195 yX4_joined, .static yX4_joined, .initialized RX4] bs2)
set_option maxHeartbeats 4000000 in
set_option maxRecDepth 100000 in
theorem c_lineHolds (l : Launch) (dC : Nat → ClassId) (dI : Nat → Nat → Nat) (kA : Nat → ClassId) (adK adV : Nat → Nat) (G : gT) (H0 : Heap) (nC nS : Int) (o0 : Nat) (p0 : Int32) (p1 : Nat)  (hT : gH (dC, dI) kA (SHc nC nS) G H0) (hr_p1 : G p1 = some 56) (hr_o0 : G o0 = some 7) (hq0 : 0 ≤ p0.toInt ∧ p0.toInt ≤ 19) (hgC : 0 ≤ nC ∧ nC ≤ 40) (hgS : 0 ≤ nS ∧ nS ≤ 60) : Met l yX4_lineHolds w_c_lineHolds ({ frames := 2, cells := 0, slots := 0, locals := 64 }) (va_Pc [.ref o0, .int p0, .ref p1] (fun U => U.heap = H0 ∧ va_K (dC, dI) vwCl (tyl kA) U ∧ EVC adK adV (gA G H0.size) U U.heap)) (va_Qi (fun (r : Int32) (u : Unit) => (0 ≤ r.toInt ∧ r.toInt ≤ 1)) (fun (_ : Unit) (t : State) => gH (dC, dI) kA (SHc nC nS) G t.heap ∧ gF (dC, dI) SKc G ([(50, 0)] : List (Nat × Nat)) H0 t.heap) (gA G H0.size)) 0 0 (gA G H0.size) := by
  refine Met.ofW (cc := cX4_lineHolds) (maxL := 6) (ret := (some .boolean)) (by decide) rfl ?_
  intro p e s m args below meth c s₁ B hml hv
  obtain ⟨rfl, hH0, hK, hE⟩ := hv
  have hx := B.exec
  have hb := B.bytes
  have hr := B.returns
  have hts := atoms_spec (ws := w_c_lineHolds) B.pre
  have hown : s.vm.findClass RX4 = some m.cls := findClass_of_methodNamed B.named
  have hlocks := B.notSynchronized
  subst hH0
  generalize hAe : gA G s.heap.size = A at hE ⊢
  have hA : ∀ q : Nat, s.heap.size ≤ q → A q := fun q h => by rw [← hAe]; exact Or.inr h
  have hG := gA_of hAe
  have hS : va_S A s.heap s.heap [] := va_S.rf
  have hF : gF (dC, dI) SKc G ([(50, 0)] : List (Nat × Nat)) s.heap s.heap := gF.rf
  have hl := lv_entry ([.ref o0, .int p0, .ref p1]) (n := 6) (Nat.le_of_ble_eq_true rfl)
  rw [lg_entry_eq]
  generalize (lg_sl ([.ref o0, .int p0, .ref p1]) ++ List.replicate (6 - (lg_sl ([.ref o0, .int p0, .ref p1])).length) Slot.unset).toArray = ls at hl ⊢
  have hl : lv_has ls 6 [(0, .ref o0), (1, .int p0), (2, .ref p1)] := hl
  refine lv_iconst (v := 0) hx hb dX4_lineHolds_0 (by decide) ?_
  refine lv_istore_n (lv' := [(3, .int 0), (0, .ref o0), (1, .int p0), (2, .ref p1)]) hx hb dX4_lineHolds_1 rfl hl (by decide) rfl (fun ls hl => ?_)
  refine lv_aload_n hx hb dX4_lineHolds_2 rfl (lv_at hl 1 rfl) ?_
  refine tw_get hx hb hts bF2_X4 hown hK hT hr_o0 shc_7 rfl 7 (by decide) (ht_at2 hts 0 rfl) (fun _ h9 => h9) dX4_lineHolds_3 (fun v9 m1 h9 => ?_)
  obtain ⟨b2, rfl, hg3⟩ := h9 _ rfl
  refine lv_iload_n hx hb dX4_lineHolds_6 rfl (lv_at hl 2 rfl) ?_
  refine tw_iald (i := p0) hx hb hK hT hg3 shc_47 rfl (vin_t (a := p0.toInt) rfl (by omega) (by omega)) dX4_lineHolds_7 (fun v9 m4 h9 => ?_)
  obtain ⟨x5, rfl, gx5, kx5⟩ := h9
  refine lv_istore (lv' := [(4, .int x5), (3, .int 0), (0, .ref o0), (1, .int p0), (2, .ref p1)]) hx hb dX4_lineHolds_8 hl (by decide) rfl (fun ls hl => ?_)
  obtain ⟨k6, hk6, lk6, ek6⟩ := ti_nat x5 (by omega)
  subst ek6
  have jn456 : ∀ (z450 : Int32), ∀ (z452 : Int32), ((0 ≤ z450.toInt ∧ z450.toInt ≤ 400) ∧ (0 ≤ z452.toInt ∧ z452.toInt ≤ 20)) → ∀ (H : Heap) (locs : List Loc), gH (dC, dI) kA (SHc nC nS) G H → gF (dC, dI) SKc G ([(50, 0)] : List (Nat × Nat)) s.heap H → va_S A s.heap H locs → el H o0 (dI 7 7) = some (.ref b2) → el H b2 p0.toNatClampNeg = some (.int (nI k6)) → ∀ ls : Array Slot, lv_has ls 6 [(4, .int z450), (3, .int z452), (0, .ref o0), (1, .int p0), (2, .ref p1)] → W p l e (headSpec w_c_lineHolds ({ frames := 2, cells := 0, slots := 0, locals := 64 })).room s m #[.ref o0, .int p0, .ref p1] below meth c H locs 0 0 (MQ below (va_Qi (fun (r : Int32) (u : Unit) => (0 ≤ r.toInt ∧ r.toInt ≤ 1)) (fun (_ : Unit) (t : State) => gH (dC, dI) kA (SHc nC nS) G t.heap ∧ gF (dC, dI) SKc G ([(50, 0)] : List (Nat × Nat)) s.heap t.heap) A) #[.ref o0, .int p0, .ref p1] s 0 0 A) (F0 m 169 ls []) := by
    intro z450 z452 ⟨h451, h453⟩ H locs hT hF hS m454 m455 ls hl
    refine lv_iload_n hx hb dX4_lineHolds_169 rfl (lv_at hl 1 rfl) ?_
    refine lv_if_eq (tgt := 184) hx hb dX4_lineHolds_170 (by decide) (fun c457 => ?_) (fun c457 => ?_)
    · have t458 : z452.toInt = 0 := ti_eq c457 rfl (by decide)
      refine lv_iconst (v := 1) hx hb dX4_lineHolds_184 (by decide) ?_
      refine lv_goto (tgt := 189) hx hb dX4_lineHolds_185 (by decide) ?_
      exact W.zret (v := 1) hx hb hr (by decide) (fun t ht hW => ⟨⟨1, (), rfl, (by exact (rg_t (a := 1) (by decide) (by first | decide | omega) (by first | decide | omega))), by (try dsimp only); rw [ht]; exact ⟨hT, hF⟩⟩, hS.F ht⟩) hS.2.2 dX4_lineHolds_189
    · have t459 : z452.toInt ≠ 0 := ti_ne c457 rfl (by decide)
      refine lv_aload_n hx hb dX4_lineHolds_173 rfl (lv_at hl 2 rfl) ?_
      refine tw_get hx hb hts bF2_X4 hown hK hT hr_o0 shc_7 rfl 10 (by decide) (ht_at2 hts 3 rfl) (fun _ h9 => h9) dX4_lineHolds_174 (fun v9 m460 h9 => ?_)
      obtain ⟨b461, rfl, hg462⟩ := h9 _ rfl
      refine lv_iconst (v := 0) hx hb dX4_lineHolds_177 (by decide) ?_
      refine tw_lald (i := 0) hx hb hK hT hg462 shc_50 rfl (by unfold vp_in; decide) dX4_lineHolds_178 (fun v9 m463 h9 => ?_)
      obtain ⟨y464, rfl⟩ := h9
      refine lv_lconst (v := 0) hx hb dX4_lineHolds_179 (by decide) ?_
      refine W.lcmp hx hb dX4_lineHolds_180 ?_
      refine lv_topi (fun x465 _ => ?_)
      have t466 : -2147483648 ≤ x465.toInt ∧ x465.toInt ≤ 2147483647 := ti_all x465
      refine lv_if_eq (tgt := 188) hx hb dX4_lineHolds_181 (by decide) (fun c467 => ?_) (fun c467 => ?_)
      · have t468 : x465.toInt = 0 := ti_eq c467 rfl (by decide)
        refine lv_iconst (v := 0) hx hb dX4_lineHolds_188 (by decide) ?_
        exact W.zret (v := 0) hx hb hr (by decide) (fun t ht hW => ⟨⟨0, (), rfl, (by exact (rg_t (a := 0) (by decide) (by first | decide | omega) (by first | decide | omega))), by (try dsimp only); rw [ht]; exact ⟨hT, hF⟩⟩, hS.F ht⟩) hS.2.2 dX4_lineHolds_189
      · have t469 : x465.toInt ≠ 0 := ti_ne c467 rfl (by decide)
        refine lv_iconst (v := 1) hx hb dX4_lineHolds_184 (by decide) ?_
        refine lv_goto (tgt := 189) hx hb dX4_lineHolds_185 (by decide) ?_
        exact W.zret (v := 1) hx hb hr (by decide) (fun t ht hW => ⟨⟨1, (), rfl, (by exact (rg_t (a := 1) (by decide) (by first | decide | omega) (by first | decide | omega))), by (try dsimp only); rw [ht]; exact ⟨hT, hF⟩⟩, hS.F ht⟩) hS.2.2 dX4_lineHolds_189
  have key470 : ∀ (n470 i7 : Nat), i7 + n470 = 400 → k6 ≤ i7 → ∀ (z8 : Int32), ((0 ≤ z8.toInt ∧ z8.toInt ≤ 20)) → ∀ (H : Heap) (locs : List Loc), gH (dC, dI) kA (SHc nC nS) G H → gF (dC, dI) SKc G ([(50, 0)] : List (Nat × Nat)) s.heap H → va_S A s.heap H locs → el H o0 (dI 7 7) = some (.ref b2) → el H b2 p0.toNatClampNeg = some (.int (nI k6)) → ∀ ls : Array Slot, lv_has ls 6 [(4, .int (nI i7)), (3, .int z8), (0, .ref o0), (1, .int p0), (2, .ref p1)] → W p l e (headSpec w_c_lineHolds ({ frames := 2, cells := 0, slots := 0, locals := 64 })).room s m #[.ref o0, .int p0, .ref p1] below meth c H locs 0 0 (MQ below (va_Qi (fun (r : Int32) (u : Unit) => (0 ≤ r.toInt ∧ r.toInt ≤ 1)) (fun (_ : Unit) (t : State) => gH (dC, dI) kA (SHc nC nS) G t.heap ∧ gF (dC, dI) SKc G ([(50, 0)] : List (Nat × Nat)) s.heap t.heap) A) #[.ref o0, .int p0, .ref p1] s 0 0 A) (F0 m 10 ls []) := by
    intro n470
    induction n470 with
    | zero =>
      intro i7 hn470 hlo471 z8 h9 H locs hT hF hS m10 m11 ls hl
      obtain rfl : 400 = i7 := by omega
      refine lv_iload hx hb dX4_lineHolds_10 (lv_at hl 0 rfl) ?_
      refine lv_aload_n hx hb dX4_lineHolds_12 rfl (lv_at hl 2 rfl) ?_
      refine tw_get hx hb hts bF2_X4 hown hK hT hr_o0 shc_7 rfl 8 (by decide) (ht_at2 hts 1 rfl) (fun _ h9 => h9) dX4_lineHolds_13 (fun v9 m472 h9 => ?_)
      obtain ⟨b473, rfl, hg474⟩ := h9 _ rfl
      refine lv_iload_n hx hb dX4_lineHolds_16 rfl (lv_at hl 3 rfl) ?_
      refine tw_iald (i := p0) hx hb hK hT hg474 shc_48 rfl (vin_t (a := p0.toInt) rfl (by omega) (by omega)) dX4_lineHolds_17 (fun v9 m475 h9 => ?_)
      obtain ⟨x476, rfl, gx476, kx476⟩ := h9
      refine lv_icmp_ge (tgt := 169) hx hb dX4_lineHolds_18 (by decide) (fun c477 => ?_) (fun c477 => (by exfalso; have q9 : ((400 : Nat) : Int) < x476.toInt := ti_nle c477 rfl (nI_toInt (by omega)); omega))
      have t478 : x476.toInt ≤ ((400 : Nat) : Int) := ti_le c477 rfl (nI_toInt (by omega))
      exact jn456 (nI 400) z8 ⟨(rg_t (a := ((400 : Nat) : Int)) (nI_toInt (by omega)) (by omega) (by omega)), (by have q8 := ti_all z8; omega)⟩ _ _ hT hF hS m10 m11 ls (lv_sub hl [0, 1, 2, 3, 4] rfl)
    | succ n470 ih470 =>
      intro i7 hn470 hlo471 z8 h9 H locs hT hF hS m10 m11 ls hl
      have hlt478 : i7 < 400 := by omega
      refine lv_iload hx hb dX4_lineHolds_10 (lv_at hl 0 rfl) ?_
      refine lv_aload_n hx hb dX4_lineHolds_12 rfl (lv_at hl 2 rfl) ?_
      refine tw_get hx hb hts bF2_X4 hown hK hT hr_o0 shc_7 rfl 8 (by decide) (ht_at2 hts 1 rfl) (fun _ h9 => h9) dX4_lineHolds_13 (fun v9 m479 h9 => ?_)
      obtain ⟨b480, rfl, hg481⟩ := h9 _ rfl
      refine lv_iload_n hx hb dX4_lineHolds_16 rfl (lv_at hl 3 rfl) ?_
      refine tw_iald (i := p0) hx hb hK hT hg481 shc_48 rfl (vin_t (a := p0.toInt) rfl (by omega) (by omega)) dX4_lineHolds_17 (fun v9 m482 h9 => ?_)
      obtain ⟨x483, rfl, gx483, kx483⟩ := h9
      refine lv_icmp_ge (tgt := 169) hx hb dX4_lineHolds_18 (by decide) (fun c484 => ?_) (fun c484 => ?_)
      · have t485 : x483.toInt ≤ ((i7 : Nat) : Int) := ti_le c484 rfl (nI_toInt (by omega))
        exact jn456 (nI i7) z8 ⟨(rg_t (a := ((i7 : Nat) : Int)) (nI_toInt (by omega)) (by omega) (by omega)), (by have q8 := ti_all z8; omega)⟩ _ _ hT hF hS m10 m11 ls (lv_sub hl [0, 1, 2, 3, 4] rfl)
      · have t486 : ((i7 : Nat) : Int) < x483.toInt := ti_nle c484 rfl (nI_toInt (by omega))
        refine lv_aload_n hx hb dX4_lineHolds_21 rfl (lv_at hl 2 rfl) ?_
        refine tw_get hx hb hts bF2_X4 hown hK hT hr_o0 shc_7 rfl 9 (by decide) (ht_at2 hts 2 rfl) (fun _ h9 => h9) dX4_lineHolds_22 (fun v9 m487 h9 => ?_)
        obtain ⟨b488, rfl, hg489⟩ := h9 _ rfl
        refine lv_iload hx hb dX4_lineHolds_25 (lv_at hl 0 rfl) ?_
        refine tw_iald (i := (nI i7)) hx hb hK hT hg489 shc_49 rfl (vp_in_nI (by omega) (by decide)) dX4_lineHolds_27 (fun v9 m490 h9 => ?_)
        obtain ⟨x491, rfl, gx491, kx491⟩ := h9
        refine lv_istore (lv' := [(5, .int x491), (4, .int (nI i7)), (3, .int z8), (0, .ref o0), (1, .int p0), (2, .ref p1)]) hx hb dX4_lineHolds_28 hl (by decide) rfl (fun ls hl => ?_)
        refine lv_iload hx hb dX4_lineHolds_30 (lv_at hl 0 rfl) ?_
        refine lv_bipush (v := 13) hx hb dX4_lineHolds_32 (by decide) ?_
        have t492 : -2147483648 ≤ x491.toInt ∧ x491.toInt ≤ 2147483647 := ti_all x491
        refine lv_icmp_ne (tgt := 62) hx hb dX4_lineHolds_34 (by decide) (fun c493 => ?_) (fun c493 => ?_)
        · have t494 : x491.toInt ≠ 13 := ti_ne c493 rfl (by decide)
          refine lv_iload hx hb dX4_lineHolds_62 (lv_at hl 0 rfl) ?_
          refine lv_bipush (v := 10) hx hb dX4_lineHolds_64 (by decide) ?_
          refine lv_icmp_lt (tgt := 114) hx hb dX4_lineHolds_66 (by decide) (fun c495 => ?_) (fun c495 => ?_)
          · have t496 : x491.toInt < 10 := ti_lt c495 rfl (by decide)
            refine lv_iload_n hx hb dX4_lineHolds_114 rfl (lv_at hl 2 rfl) ?_
            refine lv_bipush (v := 20) hx hb dX4_lineHolds_115 (by decide) ?_
            refine lv_icmp_ge (tgt := 163) hx hb dX4_lineHolds_117 (by decide) (fun c497 => ?_) (fun c497 => ?_)
            · have t498 : 20 ≤ z8.toInt := ti_le c497 (by decide) rfl
              refine lv_iinc (v := nI (i7 + 1)) (lv' := [(4, .int (nI (i7 + 1))), (5, .int x491), (3, .int z8), (0, .ref o0), (1, .int p0), (2, .ref p1)]) hx hb dX4_lineHolds_163 hl (k := 1) rfl (nI_add i7 1) (by decide) rfl (fun ls hl => ?_)
              refine lv_goto (tgt := 10) hx hb dX4_lineHolds_166 (by decide) ?_
              exact ih470 (i7 + 1) (by omega) (by omega) z8 (by have q8 := ti_all z8; omega) _ _ hT hF hS m10 m11 ls (lv_sub hl [0, 2, 3, 4, 5] rfl)
            · have t499 : z8.toInt < 20 := ti_nle c497 (by decide) rfl
              refine lv_iload hx hb dX4_lineHolds_120 (lv_at hl 0 rfl) ?_
              refine lv_bipush (v := 10) hx hb dX4_lineHolds_122 (by decide) ?_
              refine lv_icmp_lt (tgt := 134) hx hb dX4_lineHolds_124 (by decide) (fun c500 => ?_) (fun c500 => (by exfalso; have q9 : 10 ≤ x491.toInt := ti_nlt c500 rfl (by decide); omega))
              have t501 : x491.toInt < 10 := ti_lt c500 rfl (by decide)
              refine lv_aload_n hx hb dX4_lineHolds_134 rfl (lv_at hl 3 rfl) ?_
              refine tw_get hx hb hts bF2_X4 hown hK hT hr_o0 shc_7 rfl 10 (by decide) (ht_at2 hts 3 rfl) (fun _ h9 => h9) dX4_lineHolds_135 (fun v9 m502 h9 => ?_)
              obtain ⟨b503, rfl, hg504⟩ := h9 _ rfl
              refine lv_iload_n hx hb dX4_lineHolds_138 rfl (lv_at hl 2 rfl) ?_
              refine lv_iload hx hb dX4_lineHolds_139 (lv_at hl 0 rfl) ?_
              refine lv_bipush (v := 40) hx hb dX4_lineHolds_141 (by decide) ?_
              refine lv_icmp_lt (tgt := 155) hx hb dX4_lineHolds_143 (by decide) (fun c505 => ?_) (fun c505 => (by exfalso; have q9 : 40 ≤ x491.toInt := ti_nlt c505 rfl (by decide); omega))
              have t506 : x491.toInt < 40 := ti_lt c505 rfl (by decide)
              refine lv_aload_n hx hb dX4_lineHolds_155 rfl (lv_at hl 5 rfl) ?_
              refine lv_iload hx hb dX4_lineHolds_156 (lv_at hl 0 rfl) ?_
              refine tw_lald (i := x491) hx hb hK hT hr_p1 shc_56 rfl (vin_t (a := x491.toInt) rfl (by omega) (by omega)) dX4_lineHolds_158 (fun v9 m507 h9 => ?_)
              obtain ⟨y508, rfl⟩ := h9
              refine tw_last (i := z8)  hx hb hK hT hG hS hg504 shc_50 rfl (vin_t (a := z8.toInt) rfl (by omega) (by omega)) ⟨_, rfl⟩ dX4_lineHolds_159 (fun H locs hT oq m509 oi hS => ?_)
              have hF := hF.ast hg504 skc_50 oq (by decide)
              have m510 := (el_kept (oq _ (gne hr_o0 hg504 (by decide)))).trans m10
              have m511 := (el_kept (oq _ (gne hg3 hg504 (by decide)))).trans m11
              obtain ⟨x517, ex517⟩ : ∃ y : Int32, y = z8 + 1 := ⟨_, rfl⟩
              have t518 : x517.toInt = z8.toInt + 1 := ti_add ex517 rfl (by decide) (by omega) (by omega)
              refine lv_iinc (v := x517) (lv' := [(3, .int x517), (5, .int x491), (4, .int (nI i7)), (0, .ref o0), (1, .int p0), (2, .ref p1)]) hx hb dX4_lineHolds_160 hl (k := 2) rfl (by first | (rw [ex517]; done) | (rw [ex517]; rfl)) (by decide) rfl (fun ls hl => ?_)
              refine lv_iinc (v := nI (i7 + 1)) (lv' := [(4, .int (nI (i7 + 1))), (3, .int x517), (5, .int x491), (0, .ref o0), (1, .int p0), (2, .ref p1)]) hx hb dX4_lineHolds_163 hl (k := 2) rfl (nI_add i7 1) (by decide) rfl (fun ls hl => ?_)
              refine lv_goto (tgt := 10) hx hb dX4_lineHolds_166 (by decide) ?_
              exact ih470 (i7 + 1) (by omega) (by omega) x517 (by have q8 := ti_all x517; omega) _ _ hT hF hS m510 m511 ls (lv_sub hl [0, 1, 3, 4, 5] rfl)
          · have t519 : 10 ≤ x491.toInt := ti_nlt c495 rfl (by decide)
            refine lv_iload hx hb dX4_lineHolds_69 (lv_at hl 0 rfl) ?_
            refine lv_bipush (v := 15) hx hb dX4_lineHolds_71 (by decide) ?_
            refine lv_icmp_gt (tgt := 114) hx hb dX4_lineHolds_73 (by decide) (fun c520 => ?_) (fun c520 => ?_)
            · have t521 : 15 < x491.toInt := ti_lt c520 (by decide) rfl
              refine lv_iload_n hx hb dX4_lineHolds_114 rfl (lv_at hl 2 rfl) ?_
              refine lv_bipush (v := 20) hx hb dX4_lineHolds_115 (by decide) ?_
              refine lv_icmp_ge (tgt := 163) hx hb dX4_lineHolds_117 (by decide) (fun c522 => ?_) (fun c522 => ?_)
              · have t523 : 20 ≤ z8.toInt := ti_le c522 (by decide) rfl
                refine lv_iinc (v := nI (i7 + 1)) (lv' := [(4, .int (nI (i7 + 1))), (5, .int x491), (3, .int z8), (0, .ref o0), (1, .int p0), (2, .ref p1)]) hx hb dX4_lineHolds_163 hl (k := 1) rfl (nI_add i7 1) (by decide) rfl (fun ls hl => ?_)
                refine lv_goto (tgt := 10) hx hb dX4_lineHolds_166 (by decide) ?_
                exact ih470 (i7 + 1) (by omega) (by omega) z8 (by have q8 := ti_all z8; omega) _ _ hT hF hS m10 m11 ls (lv_sub hl [0, 2, 3, 4, 5] rfl)
              · have t524 : z8.toInt < 20 := ti_nle c522 (by decide) rfl
                refine lv_iload hx hb dX4_lineHolds_120 (lv_at hl 0 rfl) ?_
                refine lv_bipush (v := 10) hx hb dX4_lineHolds_122 (by decide) ?_
                refine lv_icmp_lt (tgt := 134) hx hb dX4_lineHolds_124 (by decide) (fun c525 => (by exfalso; have q9 : x491.toInt < 10 := ti_lt c525 rfl (by decide); have := ti_all x491; omega)) (fun c525 => ?_)
                have t526 : 10 ≤ x491.toInt := ti_nlt c525 rfl (by decide)
                refine lv_iload hx hb dX4_lineHolds_127 (lv_at hl 0 rfl) ?_
                refine lv_bipush (v := 40) hx hb dX4_lineHolds_129 (by decide) ?_
                refine lv_icmp_lt (tgt := 163) hx hb dX4_lineHolds_131 (by decide) (fun c527 => ?_) (fun c527 => ?_)
                · have t528 : x491.toInt < 40 := ti_lt c527 rfl (by decide)
                  refine lv_iinc (v := nI (i7 + 1)) (lv' := [(4, .int (nI (i7 + 1))), (5, .int x491), (3, .int z8), (0, .ref o0), (1, .int p0), (2, .ref p1)]) hx hb dX4_lineHolds_163 hl (k := 1) rfl (nI_add i7 1) (by decide) rfl (fun ls hl => ?_)
                  refine lv_goto (tgt := 10) hx hb dX4_lineHolds_166 (by decide) ?_
                  exact ih470 (i7 + 1) (by omega) (by omega) z8 (by have q8 := ti_all z8; omega) _ _ hT hF hS m10 m11 ls (lv_sub hl [0, 2, 3, 4, 5] rfl)
                · have t529 : 40 ≤ x491.toInt := ti_nlt c527 rfl (by decide)
                  refine lv_aload_n hx hb dX4_lineHolds_134 rfl (lv_at hl 3 rfl) ?_
                  refine tw_get hx hb hts bF2_X4 hown hK hT hr_o0 shc_7 rfl 10 (by decide) (ht_at2 hts 3 rfl) (fun _ h9 => h9) dX4_lineHolds_135 (fun v9 m530 h9 => ?_)
                  obtain ⟨b531, rfl, hg532⟩ := h9 _ rfl
                  refine lv_iload_n hx hb dX4_lineHolds_138 rfl (lv_at hl 2 rfl) ?_
                  refine lv_iload hx hb dX4_lineHolds_139 (lv_at hl 0 rfl) ?_
                  refine lv_bipush (v := 40) hx hb dX4_lineHolds_141 (by decide) ?_
                  refine lv_icmp_lt (tgt := 155) hx hb dX4_lineHolds_143 (by decide) (fun c533 => (by exfalso; have q9 : x491.toInt < 40 := ti_lt c533 rfl (by decide); have := ti_all x491; omega)) (fun c533 => ?_)
                  have t534 : 40 ≤ x491.toInt := ti_nlt c533 rfl (by decide)
                  refine lv_iload hx hb dX4_lineHolds_146 (lv_at hl 0 rfl) ?_
                  refine lv_bipush (v := 40) hx hb dX4_lineHolds_148 (by decide) ?_
                  refine lv_isub hx hb dX4_lineHolds_150 ?_
                  refine lv_topi (fun x535 ex535 => ?_)
                  have t536 : x535.toInt = x491.toInt - 40 := ti_sub ex535 rfl (by decide) (by omega) (by omega)
                  refine lv_i2l (v := x535.toInt64) hx hb dX4_lineHolds_151 rfl ?_
                  refine lv_goto (tgt := 159) hx hb dX4_lineHolds_152 (by decide) ?_
                  refine tw_last (i := z8)  hx hb hK hT hG hS hg532 shc_50 rfl (vin_t (a := z8.toInt) rfl (by omega) (by omega)) ⟨_, rfl⟩ dX4_lineHolds_159 (fun H locs hT oq m537 oi hS => ?_)
                  have hF := hF.ast hg532 skc_50 oq (by decide)
                  have m538 := (el_kept (oq _ (gne hr_o0 hg532 (by decide)))).trans m10
                  have m539 := (el_kept (oq _ (gne hg3 hg532 (by decide)))).trans m11
                  obtain ⟨x545, ex545⟩ : ∃ y : Int32, y = z8 + 1 := ⟨_, rfl⟩
                  have t546 : x545.toInt = z8.toInt + 1 := ti_add ex545 rfl (by decide) (by omega) (by omega)
                  refine lv_iinc (v := x545) (lv' := [(3, .int x545), (5, .int x491), (4, .int (nI i7)), (0, .ref o0), (1, .int p0), (2, .ref p1)]) hx hb dX4_lineHolds_160 hl (k := 2) rfl (by first | (rw [ex545]; done) | (rw [ex545]; rfl)) (by decide) rfl (fun ls hl => ?_)
                  refine lv_iinc (v := nI (i7 + 1)) (lv' := [(4, .int (nI (i7 + 1))), (3, .int x545), (5, .int x491), (0, .ref o0), (1, .int p0), (2, .ref p1)]) hx hb dX4_lineHolds_163 hl (k := 2) rfl (nI_add i7 1) (by decide) rfl (fun ls hl => ?_)
                  refine lv_goto (tgt := 10) hx hb dX4_lineHolds_166 (by decide) ?_
                  exact ih470 (i7 + 1) (by omega) (by omega) x545 (by have q8 := ti_all x545; omega) _ _ hT hF hS m538 m539 ls (lv_sub hl [0, 1, 3, 4, 5] rfl)
            · have t547 : x491.toInt ≤ 15 := ti_nlt c520 (by decide) rfl
              refine lv_iload_n hx hb dX4_lineHolds_76 rfl (lv_at hl 2 rfl) ?_
              refine lv_iconst (v := 1) hx hb dX4_lineHolds_77 (by decide) ?_
              refine lv_icmp_le (tgt := 114) hx hb dX4_lineHolds_78 (by decide) (fun c548 => ?_) (fun c548 => ?_)
              · have t549 : z8.toInt ≤ 1 := ti_le c548 rfl (by decide)
                refine lv_iload_n hx hb dX4_lineHolds_114 rfl (lv_at hl 2 rfl) ?_
                refine lv_bipush (v := 20) hx hb dX4_lineHolds_115 (by decide) ?_
                refine lv_icmp_ge (tgt := 163) hx hb dX4_lineHolds_117 (by decide) (fun c550 => (by exfalso; have q9 : 20 ≤ z8.toInt := ti_le c550 (by decide) rfl; omega)) (fun c550 => ?_)
                have t551 : z8.toInt < 20 := ti_nle c550 (by decide) rfl
                refine lv_iload hx hb dX4_lineHolds_120 (lv_at hl 0 rfl) ?_
                refine lv_bipush (v := 10) hx hb dX4_lineHolds_122 (by decide) ?_
                refine lv_icmp_lt (tgt := 134) hx hb dX4_lineHolds_124 (by decide) (fun c552 => (by exfalso; have q9 : x491.toInt < 10 := ti_lt c552 rfl (by decide); omega)) (fun c552 => ?_)
                have t553 : 10 ≤ x491.toInt := ti_nlt c552 rfl (by decide)
                refine lv_iload hx hb dX4_lineHolds_127 (lv_at hl 0 rfl) ?_
                refine lv_bipush (v := 40) hx hb dX4_lineHolds_129 (by decide) ?_
                refine lv_icmp_lt (tgt := 163) hx hb dX4_lineHolds_131 (by decide) (fun c554 => ?_) (fun c554 => (by exfalso; have q9 : 40 ≤ x491.toInt := ti_nlt c554 rfl (by decide); omega))
                have t555 : x491.toInt < 40 := ti_lt c554 rfl (by decide)
                refine lv_iinc (v := nI (i7 + 1)) (lv' := [(4, .int (nI (i7 + 1))), (5, .int x491), (3, .int z8), (0, .ref o0), (1, .int p0), (2, .ref p1)]) hx hb dX4_lineHolds_163 hl (k := 1) rfl (nI_add i7 1) (by decide) rfl (fun ls hl => ?_)
                refine lv_goto (tgt := 10) hx hb dX4_lineHolds_166 (by decide) ?_
                exact ih470 (i7 + 1) (by omega) (by omega) z8 (by have q8 := ti_all z8; omega) _ _ hT hF hS m10 m11 ls (lv_sub hl [0, 2, 3, 4, 5] rfl)
              · have t556 : 1 < z8.toInt := ti_nle c548 rfl (by decide)
                obtain ⟨x557, ex557⟩ : ∃ y : Int32, y = z8 + (-1) := ⟨_, rfl⟩
                have t558 : x557.toInt = z8.toInt + (-1) := ti_add ex557 rfl (by decide) (by omega) (by omega)
                refine lv_iinc (v := x557) (lv' := [(3, .int x557), (5, .int x491), (4, .int (nI i7)), (0, .ref o0), (1, .int p0), (2, .ref p1)]) hx hb dX4_lineHolds_81 hl (k := 2) rfl (by first | (rw [ex557]; done) | (rw [ex557]; rfl)) (by decide) rfl (fun ls hl => ?_)
                refine lv_aload_n hx hb dX4_lineHolds_84 rfl (lv_at hl 3 rfl) ?_
                refine tw_get hx hb hts bF2_X4 hown hK hT hr_o0 shc_7 rfl 10 (by decide) (ht_at2 hts 3 rfl) (fun _ h9 => h9) dX4_lineHolds_85 (fun v9 m559 h9 => ?_)
                obtain ⟨b560, rfl, hg561⟩ := h9 _ rfl
                refine lv_iload_n hx hb dX4_lineHolds_88 rfl (lv_at hl 0 rfl) ?_
                refine lv_iconst (v := 1) hx hb dX4_lineHolds_89 (by decide) ?_
                refine lv_isub hx hb dX4_lineHolds_90 ?_
                refine lv_topi (fun x562 ex562 => ?_)
                have t563 : x562.toInt = x557.toInt - 1 := ti_sub ex562 rfl (by decide) (by omega) (by omega)
                refine lv_iload hx hb dX4_lineHolds_91 (lv_at hl 1 rfl) ?_
                refine lv_aload_n hx hb dX4_lineHolds_93 rfl (lv_at hl 3 rfl) ?_
                refine tw_getM (v := .ref b560) hx hb hts bF2_X4 hown hK hT hr_o0 shc_7 rfl 10 (by decide) (ht_at2 hts 3 rfl) (fun _ h9 => h9) m559 dX4_lineHolds_94 ?_
                refine lv_iload_n hx hb dX4_lineHolds_97 rfl (lv_at hl 0 rfl) ?_
                refine lv_iconst (v := 1) hx hb dX4_lineHolds_98 (by decide) ?_
                refine lv_isub hx hb dX4_lineHolds_99 ?_
                refine lv_topi (fun x564 ex564 => ?_)
                have t565 : x564.toInt = x557.toInt - 1 := ti_sub ex564 rfl (by decide) (by omega) (by omega)
                refine tw_lald (i := x564) hx hb hK hT hg561 shc_50 rfl (vin_t (a := x564.toInt) rfl (by omega) (by omega)) dX4_lineHolds_100 (fun v9 m566 h9 => ?_)
                obtain ⟨y567, rfl⟩ := h9
                refine lv_aload_n hx hb dX4_lineHolds_101 rfl (lv_at hl 3 rfl) ?_
                refine tw_getM (v := .ref b560) hx hb hts bF2_X4 hown hK hT hr_o0 shc_7 rfl 10 (by decide) (ht_at2 hts 3 rfl) (fun _ h9 => h9) m559 dX4_lineHolds_102 ?_
                refine lv_iload_n hx hb dX4_lineHolds_105 rfl (lv_at hl 0 rfl) ?_
                refine tw_lald (i := x557) hx hb hK hT hg561 shc_50 rfl (vin_t (a := x557.toInt) rfl (by omega) (by omega)) dX4_lineHolds_106 (fun v9 m568 h9 => ?_)
                obtain ⟨y569, rfl⟩ := h9
                have hFc := gA_free hG hA hS
                refine va_calll (va_runS (As := [.int x491, .long y567, .long y569]) (rest := [.int x562, .ref b560]) ⟨hx, hb, hml, hown, hts⟩ (c_joined l dC dI kA adK adV G H nC nS x491 y567 y569 hT (by omega) (by omega)) (va_cwS 3 hts (goodIn_app (goodIn_r _ [10, 11, 12] rfl (by decide +kernel)) (goodIn_ca (goodIn_r _ [5, 6, 7, 8, 9] rfl (by decide +kernel)) (bs2_in _ _))) rfl rfl rfl (by decide +kernel) ⟨(Nat.le_of_ble_eq_true rfl), (Nat.le_of_ble_eq_true rfl)⟩) ⟨fun a U g mk q => by obtain ⟨q0, q1, qK, qE⟩ := q; exact ⟨q0, q1, va_K.moved (u := U) (U := U.calling g mk a) (Vm.Alike.refl U.vm) qK, EVC.blind g mk a qE⟩, fun U hU hW => ⟨rfl, hU, va_K.moved hW.alike hK, hE.call hS hFc hU hW⟩⟩ rfl rfl hl.1 rfl (lv_room (Nat.le_of_ble_eq_true rfl)) dX4_lineHolds_107 ⟨(Nat.le_of_ble_eq_true rfl), (Nat.le_of_ble_eq_true rfl)⟩) hS (fun q _ h => hFc q h) hFc (fun r570 u t H locs ht hvm hw571 hB _ _ hS => ?_)
                obtain ⟨hT, hF1⟩ := hB
                rw [ht] at hT hF1
                have m572 := (hF1.fld hr_o0 skc_7 (k := 7) (by decide) (by decide)).trans m10
                have m573 := (el_kept (hF1.arr hg3 skc_47 (by decide))).trans m11
                have hF := hF.more hF1 (by decide)
                try dsimp only at hw571
                refine tw_last (i := x562)  hx hb hK hT hG hS hg561 shc_50 rfl (vin_t (a := x562.toInt) rfl (by omega) (by omega)) ⟨_, rfl⟩ dX4_lineHolds_110 (fun H locs hT oq m579 oi hS => ?_)
                have hF := hF.ast hg561 skc_50 oq (by decide)
                have m580 := (el_kept (oq _ (gne hr_o0 hg561 (by decide)))).trans m572
                have m581 := (el_kept (oq _ (gne hg3 hg561 (by decide)))).trans m573
                refine lv_goto (tgt := 163) hx hb dX4_lineHolds_111 (by decide) ?_
                refine lv_iinc (v := nI (i7 + 1)) (lv' := [(4, .int (nI (i7 + 1))), (3, .int x557), (5, .int x491), (0, .ref o0), (1, .int p0), (2, .ref p1)]) hx hb dX4_lineHolds_163 hl (k := 2) rfl (nI_add i7 1) (by decide) rfl (fun ls hl => ?_)
                refine lv_goto (tgt := 10) hx hb dX4_lineHolds_166 (by decide) ?_
                exact ih470 (i7 + 1) (by omega) (by omega) x557 (by have q8 := ti_all x557; omega) _ _ hT hF hS m580 m581 ls (lv_sub hl [0, 1, 3, 4, 5] rfl)
        · have t587 : x491.toInt = 13 := ti_eq c493 rfl (by decide)
          refine lv_iload_n hx hb dX4_lineHolds_37 rfl (lv_at hl 2 rfl) ?_
          refine lv_if_le (tgt := 62) hx hb dX4_lineHolds_38 (by decide) (fun c588 => ?_) (fun c588 => ?_)
          · have t589 : z8.toInt ≤ 0 := ti_le c588 rfl (by decide)
            refine lv_iload hx hb dX4_lineHolds_62 (lv_at hl 0 rfl) ?_
            refine lv_bipush (v := 10) hx hb dX4_lineHolds_64 (by decide) ?_
            refine lv_icmp_lt (tgt := 114) hx hb dX4_lineHolds_66 (by decide) (fun c590 => (by exfalso; have q9 : x491.toInt < 10 := ti_lt c590 rfl (by decide); omega)) (fun c590 => ?_)
            have t591 : 10 ≤ x491.toInt := ti_nlt c590 rfl (by decide)
            refine lv_iload hx hb dX4_lineHolds_69 (lv_at hl 0 rfl) ?_
            refine lv_bipush (v := 15) hx hb dX4_lineHolds_71 (by decide) ?_
            refine lv_icmp_gt (tgt := 114) hx hb dX4_lineHolds_73 (by decide) (fun c592 => (by exfalso; have q9 : 15 < x491.toInt := ti_lt c592 (by decide) rfl; omega)) (fun c592 => ?_)
            have t593 : x491.toInt ≤ 15 := ti_nlt c592 (by decide) rfl
            refine lv_iload_n hx hb dX4_lineHolds_76 rfl (lv_at hl 2 rfl) ?_
            refine lv_iconst (v := 1) hx hb dX4_lineHolds_77 (by decide) ?_
            refine lv_icmp_le (tgt := 114) hx hb dX4_lineHolds_78 (by decide) (fun c594 => ?_) (fun c594 => (by exfalso; have q9 : 1 < z8.toInt := ti_nle c594 rfl (by decide); omega))
            have t595 : z8.toInt ≤ 1 := ti_le c594 rfl (by decide)
            refine lv_iload_n hx hb dX4_lineHolds_114 rfl (lv_at hl 2 rfl) ?_
            refine lv_bipush (v := 20) hx hb dX4_lineHolds_115 (by decide) ?_
            refine lv_icmp_ge (tgt := 163) hx hb dX4_lineHolds_117 (by decide) (fun c596 => (by exfalso; have q9 : 20 ≤ z8.toInt := ti_le c596 (by decide) rfl; omega)) (fun c596 => ?_)
            have t597 : z8.toInt < 20 := ti_nle c596 (by decide) rfl
            refine lv_iload hx hb dX4_lineHolds_120 (lv_at hl 0 rfl) ?_
            refine lv_bipush (v := 10) hx hb dX4_lineHolds_122 (by decide) ?_
            refine lv_icmp_lt (tgt := 134) hx hb dX4_lineHolds_124 (by decide) (fun c598 => (by exfalso; have q9 : x491.toInt < 10 := ti_lt c598 rfl (by decide); omega)) (fun c598 => ?_)
            have t599 : 10 ≤ x491.toInt := ti_nlt c598 rfl (by decide)
            refine lv_iload hx hb dX4_lineHolds_127 (lv_at hl 0 rfl) ?_
            refine lv_bipush (v := 40) hx hb dX4_lineHolds_129 (by decide) ?_
            refine lv_icmp_lt (tgt := 163) hx hb dX4_lineHolds_131 (by decide) (fun c600 => ?_) (fun c600 => (by exfalso; have q9 : 40 ≤ x491.toInt := ti_nlt c600 rfl (by decide); omega))
            have t601 : x491.toInt < 40 := ti_lt c600 rfl (by decide)
            refine lv_iinc (v := nI (i7 + 1)) (lv' := [(4, .int (nI (i7 + 1))), (5, .int x491), (3, .int z8), (0, .ref o0), (1, .int p0), (2, .ref p1)]) hx hb dX4_lineHolds_163 hl (k := 1) rfl (nI_add i7 1) (by decide) rfl (fun ls hl => ?_)
            refine lv_goto (tgt := 10) hx hb dX4_lineHolds_166 (by decide) ?_
            exact ih470 (i7 + 1) (by omega) (by omega) z8 (by have q8 := ti_all z8; omega) _ _ hT hF hS m10 m11 ls (lv_sub hl [0, 2, 3, 4, 5] rfl)
          · have t602 : 0 < z8.toInt := ti_nle c588 rfl (by decide)
            refine lv_aload_n hx hb dX4_lineHolds_41 rfl (lv_at hl 3 rfl) ?_
            refine tw_get hx hb hts bF2_X4 hown hK hT hr_o0 shc_7 rfl 10 (by decide) (ht_at2 hts 3 rfl) (fun _ h9 => h9) dX4_lineHolds_42 (fun v9 m603 h9 => ?_)
            obtain ⟨b604, rfl, hg605⟩ := h9 _ rfl
            refine lv_iload_n hx hb dX4_lineHolds_45 rfl (lv_at hl 2 rfl) ?_
            refine lv_iconst (v := 1) hx hb dX4_lineHolds_46 (by decide) ?_
            refine lv_isub hx hb dX4_lineHolds_47 ?_
            refine lv_topi (fun x606 ex606 => ?_)
            have t607 : x606.toInt = z8.toInt - 1 := ti_sub ex606 rfl (by decide) (by omega) (by omega)
            refine lv_lconst (v := 1) hx hb dX4_lineHolds_48 (by decide) ?_
            refine lv_aload_n hx hb dX4_lineHolds_49 rfl (lv_at hl 3 rfl) ?_
            refine tw_getM (v := .ref b604) hx hb hts bF2_X4 hown hK hT hr_o0 shc_7 rfl 10 (by decide) (ht_at2 hts 3 rfl) (fun _ h9 => h9) m603 dX4_lineHolds_50 ?_
            refine lv_iload_n hx hb dX4_lineHolds_53 rfl (lv_at hl 2 rfl) ?_
            refine lv_iconst (v := 1) hx hb dX4_lineHolds_54 (by decide) ?_
            refine lv_isub hx hb dX4_lineHolds_55 ?_
            refine lv_topi (fun x608 ex608 => ?_)
            have t609 : x608.toInt = z8.toInt - 1 := ti_sub ex608 rfl (by decide) (by omega) (by omega)
            refine tw_lald (i := x608) hx hb hK hT hg605 shc_50 rfl (vin_t (a := x608.toInt) rfl (by omega) (by omega)) dX4_lineHolds_56 (fun v9 m610 h9 => ?_)
            obtain ⟨y611, rfl⟩ := h9
            refine lv_lsub hx hb dX4_lineHolds_57 ?_
            refine lv_topl (fun y612 _ => ?_)
            refine tw_last (i := x606)  hx hb hK hT hG hS hg605 shc_50 rfl (vin_t (a := x606.toInt) rfl (by omega) (by omega)) ⟨_, rfl⟩ dX4_lineHolds_58 (fun H locs hT oq m613 oi hS => ?_)
            have hF := hF.ast hg605 skc_50 oq (by decide)
            have m614 := (el_kept (oq _ (gne hr_o0 hg605 (by decide)))).trans m10
            have m615 := (el_kept (oq _ (gne hg3 hg605 (by decide)))).trans m11
            refine lv_goto (tgt := 163) hx hb dX4_lineHolds_59 (by decide) ?_
            refine lv_iinc (v := nI (i7 + 1)) (lv' := [(4, .int (nI (i7 + 1))), (5, .int x491), (3, .int z8), (0, .ref o0), (1, .int p0), (2, .ref p1)]) hx hb dX4_lineHolds_163 hl (k := 1) rfl (nI_add i7 1) (by decide) rfl (fun ls hl => ?_)
            refine lv_goto (tgt := 10) hx hb dX4_lineHolds_166 (by decide) ?_
            exact ih470 (i7 + 1) (by omega) (by omega) z8 (by have q8 := ti_all z8; omega) _ _ hT hF hS m614 m615 ls (lv_sub hl [0, 2, 3, 4, 5] rfl)
  exact key470 (400 - k6) k6 (by omega) (Nat.le_refl _) 0 (rg_t (a := 0) (by decide) (by first | decide | omega) (by first | decide | omega)) _ _ hT hF hS m1 m4 ls (lv_sub hl [0, 1, 2, 3, 4] rfl)
def w_c_sumThatHolds : List Cond := .code yX4_sumThatHolds cX4_sumThatHolds 6 (some .long) :: (HAppend.hAppend (α := List Cond) (β := List Cond) (γ := List Cond) [.fieldLink RX4 60 "SeaLand$Law" "lines" "I", .fieldLink RX4 18 "SeaLand$Law" "kinds" "[I", .code yX4_lineHolds cX4_lineHolds 6 (some .boolean), .fieldLink RX4 33 "SeaLand$Law" "stepFrom" "[I", .fieldLink RX4 36 "SeaLand$Law" "stepTo" "[I", .fieldLink RX4 39 "SeaLand$Law" "steps" "[I", .fieldLink RX4 42 "SeaLand$Law" "stack" "[J", .code yX4_joined cX4_joined 5 (some .long), .methodLink RX4 199 Lib.MathLoose.max_long.x, .static Lib.MathLoose.max_long.x, .initialized "java/lang/Math", .code Lib.MathLoose.max_long.x Lib.MathLoose.max_long.code 4 (some .long), .methodLink RX4 195 yX4_joined, .static yX4_joined, .initialized RX4, .methodLink RX4 203 yX4_lineHolds, .instanceMethod yX4_lineHolds, .selects RX4 yX4_lineHolds yX4_lineHolds, .fieldLink RX4 21 "SeaLand$Law" "firsts" "[I"] bs2)
set_option maxHeartbeats 4000000 in
set_option maxRecDepth 100000 in
theorem c_sumThatHolds (l : Launch) (dC : Nat → ClassId) (dI : Nat → Nat → Nat) (kA : Nat → ClassId) (adK adV : Nat → Nat) (G : gT) (H0 : Heap) (nC nS : Int) (o0 : Nat) (p0 : Int32) (p1 : Nat)  (hT : gH (dC, dI) kA (SHc nC nS) G H0) (hr_p1 : G p1 = some 56) (hr_o0 : G o0 = some 7) (hgC : 0 ≤ nC ∧ nC ≤ 40) (hgS : 0 ≤ nS ∧ nS ≤ 60) : Met l yX4_sumThatHolds w_c_sumThatHolds ({ frames := 3, cells := 0, slots := 0, locals := 89 }) (va_Pc [.ref o0, .int p0, .ref p1] (fun U => U.heap = H0 ∧ va_K (dC, dI) vwCl (tyl kA) U ∧ EVC adK adV (gA G H0.size) U U.heap)) (va_Ql (fun (r : Int64) (u : Unit) => True) (fun (_ : Unit) (t : State) => gH (dC, dI) kA (SHc nC nS) G t.heap ∧ gF (dC, dI) SKc G ([(50, 0)] : List (Nat × Nat)) H0 t.heap) (gA G H0.size)) 0 0 (gA G H0.size) := by
  refine Met.ofW (cc := cX4_sumThatHolds) (maxL := 6) (ret := (some .long)) (by decide) rfl ?_
  intro p e s m args below meth c s₁ B hml hv
  obtain ⟨rfl, hH0, hK, hE⟩ := hv
  have hx := B.exec
  have hb := B.bytes
  have hr := B.returns
  have hts := atoms_spec (ws := w_c_sumThatHolds) B.pre
  have hown : s.vm.findClass RX4 = some m.cls := findClass_of_methodNamed B.named
  have hlocks := B.notSynchronized
  subst hH0
  generalize hAe : gA G s.heap.size = A at hE ⊢
  have hA : ∀ q : Nat, s.heap.size ≤ q → A q := fun q h => by rw [← hAe]; exact Or.inr h
  have hG := gA_of hAe
  have hS : va_S A s.heap s.heap [] := va_S.rf
  have hF : gF (dC, dI) SKc G ([(50, 0)] : List (Nat × Nat)) s.heap s.heap := gF.rf
  have hl := lv_entry ([.ref o0, .int p0, .ref p1]) (n := 6) (Nat.le_of_ble_eq_true rfl)
  rw [lg_entry_eq]
  generalize (lg_sl ([.ref o0, .int p0, .ref p1]) ++ List.replicate (6 - (lg_sl ([.ref o0, .int p0, .ref p1])).length) Slot.unset).toArray = ls at hl ⊢
  have hl : lv_has ls 6 [(0, .ref o0), (1, .int p0), (2, .ref p1)] := hl
  refine lv_lconst (v := 0) hx hb dX4_sumThatHolds_0 (by decide) ?_
  refine lv_lstore_n (lv' := [(3, .long 0), (0, .ref o0), (1, .int p0), (2, .ref p1)]) hx hb dX4_sumThatHolds_1 rfl hl (by decide) rfl (fun ls hl => ?_)
  refine lv_iconst (v := 0) hx hb dX4_sumThatHolds_2 (by decide) ?_
  refine lv_istore (lv' := [(5, .int 0), (3, .long 0), (0, .ref o0), (1, .int p0), (2, .ref p1)]) hx hb dX4_sumThatHolds_3 hl (by decide) rfl (fun ls hl => ?_)
  have key33 : ∀ (n33 i1 : Nat), i1 + n33 = 20 → 0 ≤ i1 → ∀ (y2 : Int64), ∀ (H : Heap) (locs : List Loc), gH (dC, dI) kA (SHc nC nS) G H → gF (dC, dI) SKc G ([(50, 0)] : List (Nat × Nat)) s.heap H → va_S A s.heap H locs → ∀ ls : Array Slot, lv_has ls 6 [(5, .int (nI i1)), (3, .long y2), (0, .ref o0), (1, .int p0), (2, .ref p1)] → W p l e (headSpec w_c_sumThatHolds ({ frames := 3, cells := 0, slots := 0, locals := 89 })).room s m #[.ref o0, .int p0, .ref p1] below meth c H locs 0 0 (MQ below (va_Ql (fun (r : Int64) (u : Unit) => True) (fun (_ : Unit) (t : State) => gH (dC, dI) kA (SHc nC nS) G t.heap ∧ gF (dC, dI) SKc G ([(50, 0)] : List (Nat × Nat)) s.heap t.heap) A) #[.ref o0, .int p0, .ref p1] s 0 0 A) (F0 m 5 ls []) := by
    intro n33
    induction n33 with
    | zero =>
      intro i1 hn33 hlo34 y2 H locs hT hF hS  ls hl
      obtain rfl : 20 = i1 := by omega
      refine lv_iload hx hb dX4_sumThatHolds_5 (lv_at hl 0 rfl) ?_
      refine lv_aload_n hx hb dX4_sumThatHolds_7 rfl (lv_at hl 2 rfl) ?_
      refine tw_get hx hb hts bF2_X4 hown hK hT hr_o0 shc_7 rfl 11 (by decide) (ht_at2 hts 0 rfl) (fun _ h9 => h9) dX4_sumThatHolds_8 (fun v9 m35 h9 => ?_)
      obtain ⟨x36, rfl, gx36, kx36⟩ := h9 _ rfl
      refine lv_icmp_ge (tgt := 52) hx hb dX4_sumThatHolds_11 (by decide) (fun c37 => ?_) (fun c37 => (by exfalso; have q9 : ((20 : Nat) : Int) < x36.toInt := ti_nle c37 rfl (nI_toInt (by omega)); omega))
      have t38 : x36.toInt ≤ ((20 : Nat) : Int) := ti_le c37 rfl (nI_toInt (by omega))
      refine lv_lload_n hx hb dX4_sumThatHolds_52 rfl (lv_at hl 1 rfl) ?_
      exact W.lret (v := y2) hx hb hr (fun t ht hW => ⟨⟨y2, (), rfl, (by exact trivial), by (try dsimp only); rw [ht]; exact ⟨hT, hF⟩⟩, hS.F ht⟩) hS.2.2 dX4_sumThatHolds_53
    | succ n33 ih33 =>
      intro i1 hn33 hlo34 y2 H locs hT hF hS  ls hl
      have hlt38 : i1 < 20 := by omega
      refine lv_iload hx hb dX4_sumThatHolds_5 (lv_at hl 0 rfl) ?_
      refine lv_aload_n hx hb dX4_sumThatHolds_7 rfl (lv_at hl 2 rfl) ?_
      refine tw_get hx hb hts bF2_X4 hown hK hT hr_o0 shc_7 rfl 11 (by decide) (ht_at2 hts 0 rfl) (fun _ h9 => h9) dX4_sumThatHolds_8 (fun v9 m39 h9 => ?_)
      obtain ⟨x40, rfl, gx40, kx40⟩ := h9 _ rfl
      refine lv_icmp_ge (tgt := 52) hx hb dX4_sumThatHolds_11 (by decide) (fun c41 => ?_) (fun c41 => ?_)
      · have t42 : x40.toInt ≤ ((i1 : Nat) : Int) := ti_le c41 rfl (nI_toInt (by omega))
        refine lv_lload_n hx hb dX4_sumThatHolds_52 rfl (lv_at hl 1 rfl) ?_
        exact W.lret (v := y2) hx hb hr (fun t ht hW => ⟨⟨y2, (), rfl, (by exact trivial), by (try dsimp only); rw [ht]; exact ⟨hT, hF⟩⟩, hS.F ht⟩) hS.2.2 dX4_sumThatHolds_53
      · have t43 : ((i1 : Nat) : Int) < x40.toInt := ti_nle c41 rfl (nI_toInt (by omega))
        refine lv_aload_n hx hb dX4_sumThatHolds_14 rfl (lv_at hl 2 rfl) ?_
        refine tw_get hx hb hts bF2_X4 hown hK hT hr_o0 shc_7 rfl 2 (by decide) (ht_at2 hts 1 rfl) (fun _ h9 => h9) dX4_sumThatHolds_15 (fun v9 m44 h9 => ?_)
        obtain ⟨b45, rfl, hg46⟩ := h9 _ rfl
        refine lv_iload hx hb dX4_sumThatHolds_18 (lv_at hl 0 rfl) ?_
        refine tw_iald (i := (nI i1)) hx hb hK hT hg46 shc_42 rfl (vp_in_nI (by omega) (by decide)) dX4_sumThatHolds_20 (fun v9 m47 h9 => ?_)
        obtain ⟨x48, rfl, gx48, kx48⟩ := h9
        refine lv_iload_n hx hb dX4_sumThatHolds_21 rfl (lv_at hl 3 rfl) ?_
        have t49 : -2147483648 ≤ x48.toInt ∧ x48.toInt ≤ 2147483647 := ti_all x48
        have t50 : -2147483648 ≤ p0.toInt ∧ p0.toInt ≤ 2147483647 := ti_all p0
        refine lv_icmp_ne (tgt := 46) hx hb dX4_sumThatHolds_22 (by decide) (fun c51 => ?_) (fun c51 => ?_)
        · have t52 : x48.toInt ≠ p0.toInt := ti_ne c51 rfl rfl
          refine lv_iinc (v := nI (i1 + 1)) (lv' := [(5, .int (nI (i1 + 1))), (3, .long y2), (0, .ref o0), (1, .int p0), (2, .ref p1)]) hx hb dX4_sumThatHolds_46 hl (k := 0) rfl (nI_add i1 1) (by decide) rfl (fun ls hl => ?_)
          refine lv_goto (tgt := 5) hx hb dX4_sumThatHolds_49 (by decide) ?_
          exact ih33 (i1 + 1) (by omega) (by omega) y2 _ _ hT hF hS ls (lv_sub hl [0, 1, 2, 3, 4] rfl)
        · have t53 : x48.toInt = p0.toInt := ti_eq c51 rfl rfl
          refine lv_aload_n hx hb dX4_sumThatHolds_25 rfl (lv_at hl 2 rfl) ?_
          refine lv_iload hx hb dX4_sumThatHolds_26 (lv_at hl 0 rfl) ?_
          refine lv_aload_n hx hb dX4_sumThatHolds_28 rfl (lv_at hl 4 rfl) ?_
          have hFc := gA_free hG hA hS
          refine va_calli (va_runV (As := [.int (nI i1), .ref p1]) (rest := []) ⟨hx, hb, hml, hown, hts⟩ (c_lineHolds l dC dI kA adK adV G H nC nS o0 (nI i1) p1 hT hr_p1 hr_o0 (rg_t (a := ((i1 : Nat) : Int)) (nI_toInt (by omega)) (by omega) (by omega)) (by omega) (by omega)) (cwV 2 hts (goodIn_app (goodIn_r _ [16, 17, 18, 15] rfl (by decide +kernel)) (goodIn_ca (goodIn_r _ [3, 4, 5, 6, 7, 8, 9, 10, 11, 12, 13, 14, 15] rfl (by decide +kernel)) (bs2_in _ _))) rfl rfl rfl (by decide +kernel) ⟨(Nat.le_of_ble_eq_true rfl), (Nat.le_of_ble_eq_true rfl)⟩) ⟨fun a U g mk q => by obtain ⟨q0, q1, qK, qE⟩ := q; exact ⟨q0, q1, va_K.moved (u := U) (U := U.calling g mk a) (Vm.Alike.refl U.vm) qK, EVC.blind g mk a qE⟩, gH_rc hK hT hr_o0 shc_7 rfl, fun U hU hW => ⟨rfl, hU, va_K.moved hW.alike hK, hE.call hS hFc hU hW⟩⟩ rfl rfl hl.1 rfl (lv_room (Nat.le_of_ble_eq_true rfl)) dX4_sumThatHolds_29 ⟨(Nat.le_of_ble_eq_true rfl), (Nat.le_of_ble_eq_true rfl)⟩) hS (fun q _ h => hFc q h) hFc (fun r54 u t H locs ht hvm hw55 hB _ _ hS => ?_)
          obtain ⟨hT, hF1⟩ := hB
          rw [ht] at hT hF1
          have hF := hF.more hF1 (by decide)
          try dsimp only at hw55
          have h59 := hw55
          refine lv_if_eq (tgt := 46) hx hb dX4_sumThatHolds_32 (by decide) (fun c60 => ?_) (fun c60 => ?_)
          · have t61 : r54.toInt = 0 := ti_eq c60 rfl (by decide)
            refine lv_iinc (v := nI (i1 + 1)) (lv' := [(5, .int (nI (i1 + 1))), (3, .long y2), (0, .ref o0), (1, .int p0), (2, .ref p1)]) hx hb dX4_sumThatHolds_46 hl (k := 0) rfl (nI_add i1 1) (by decide) rfl (fun ls hl => ?_)
            refine lv_goto (tgt := 5) hx hb dX4_sumThatHolds_49 (by decide) ?_
            exact ih33 (i1 + 1) (by omega) (by omega) y2 _ _ hT hF hS ls (lv_sub hl [0, 1, 2, 3, 4] rfl)
          · have t62 : r54.toInt ≠ 0 := ti_ne c60 rfl (by decide)
            refine lv_lload_n hx hb dX4_sumThatHolds_35 rfl (lv_at hl 1 rfl) ?_
            refine lv_aload_n hx hb dX4_sumThatHolds_36 rfl (lv_at hl 2 rfl) ?_
            refine tw_get hx hb hts bF2_X4 hown hK hT hr_o0 shc_7 rfl 3 (by decide) (ht_at2 hts 18 rfl) (fun _ h9 => h9) dX4_sumThatHolds_37 (fun v9 m63 h9 => ?_)
            obtain ⟨b64, rfl, hg65⟩ := h9 _ rfl
            refine lv_iload hx hb dX4_sumThatHolds_40 (lv_at hl 0 rfl) ?_
            refine tw_iald (i := (nI i1)) hx hb hK hT hg65 shc_43 rfl (vp_in_nI (by omega) (by decide)) dX4_sumThatHolds_42 (fun v9 m66 h9 => ?_)
            obtain ⟨x67, rfl, gx67, kx67⟩ := h9
            refine lv_i2l (v := x67.toInt64) hx hb dX4_sumThatHolds_43 rfl ?_
            refine lv_ladd hx hb dX4_sumThatHolds_44 ?_
            refine lv_topl (fun y68 _ => ?_)
            refine lv_lstore_n (lv' := [(3, .long y68), (5, .int (nI i1)), (0, .ref o0), (1, .int p0), (2, .ref p1)]) hx hb dX4_sumThatHolds_45 rfl hl (by decide) rfl (fun ls hl => ?_)
            refine lv_iinc (v := nI (i1 + 1)) (lv' := [(5, .int (nI (i1 + 1))), (3, .long y68), (0, .ref o0), (1, .int p0), (2, .ref p1)]) hx hb dX4_sumThatHolds_46 hl (k := 1) rfl (nI_add i1 1) (by decide) rfl (fun ls hl => ?_)
            refine lv_goto (tgt := 5) hx hb dX4_sumThatHolds_49 (by decide) ?_
            exact ih33 (i1 + 1) (by omega) (by omega) y68 _ _ hT hF hS ls (lv_sub hl [0, 1, 2, 3, 4] rfl)
  exact key33 (20 - 0) 0 (by omega) (Nat.le_refl _) 0 _ _ hT hF hS ls (lv_sub hl [0, 1, 2, 3, 4] rfl)
def w_c_firstThatHolds : List Cond := .code yX4_firstThatHolds cX4_firstThatHolds 4 (some .int) :: (HAppend.hAppend (α := List Cond) (β := List Cond) (γ := List Cond) [.fieldLink RX4 60 "SeaLand$Law" "lines" "I", .fieldLink RX4 18 "SeaLand$Law" "kinds" "[I", .code yX4_lineHolds cX4_lineHolds 6 (some .boolean), .fieldLink RX4 33 "SeaLand$Law" "stepFrom" "[I", .fieldLink RX4 36 "SeaLand$Law" "stepTo" "[I", .fieldLink RX4 39 "SeaLand$Law" "steps" "[I", .fieldLink RX4 42 "SeaLand$Law" "stack" "[J", .code yX4_joined cX4_joined 5 (some .long), .methodLink RX4 199 Lib.MathLoose.max_long.x, .static Lib.MathLoose.max_long.x, .initialized "java/lang/Math", .code Lib.MathLoose.max_long.x Lib.MathLoose.max_long.code 4 (some .long), .methodLink RX4 195 yX4_joined, .static yX4_joined, .initialized RX4, .methodLink RX4 203 yX4_lineHolds, .instanceMethod yX4_lineHolds, .selects RX4 yX4_lineHolds yX4_lineHolds] bs2)
set_option maxHeartbeats 4000000 in
set_option maxRecDepth 100000 in
theorem c_firstThatHolds (l : Launch) (dC : Nat → ClassId) (dI : Nat → Nat → Nat) (kA : Nat → ClassId) (adK adV : Nat → Nat) (G : gT) (H0 : Heap) (nC nS : Int) (o0 : Nat) (p0 : Int32) (p1 : Nat)  (hT : gH (dC, dI) kA (SHc nC nS) G H0) (hr_p1 : G p1 = some 56) (hr_o0 : G o0 = some 7) (hgC : 0 ≤ nC ∧ nC ≤ 40) (hgS : 0 ≤ nS ∧ nS ≤ 60) : Met l yX4_firstThatHolds w_c_firstThatHolds ({ frames := 3, cells := 0, slots := 0, locals := 89 }) (va_Pc [.ref o0, .int p0, .ref p1] (fun U => U.heap = H0 ∧ va_K (dC, dI) vwCl (tyl kA) U ∧ EVC adK adV (gA G H0.size) U U.heap)) (va_Qi (fun (r : Int32) (u : Unit) => (-1 ≤ r.toInt ∧ r.toInt ≤ 19)) (fun (_ : Unit) (t : State) => gH (dC, dI) kA (SHc nC nS) G t.heap ∧ gF (dC, dI) SKc G ([(50, 0)] : List (Nat × Nat)) H0 t.heap) (gA G H0.size)) 0 0 (gA G H0.size) := by
  refine Met.ofW (cc := cX4_firstThatHolds) (maxL := 4) (ret := (some .int)) (by decide) rfl ?_
  intro p e s m args below meth c s₁ B hml hv
  obtain ⟨rfl, hH0, hK, hE⟩ := hv
  have hx := B.exec
  have hb := B.bytes
  have hr := B.returns
  have hts := atoms_spec (ws := w_c_firstThatHolds) B.pre
  have hown : s.vm.findClass RX4 = some m.cls := findClass_of_methodNamed B.named
  have hlocks := B.notSynchronized
  subst hH0
  generalize hAe : gA G s.heap.size = A at hE ⊢
  have hA : ∀ q : Nat, s.heap.size ≤ q → A q := fun q h => by rw [← hAe]; exact Or.inr h
  have hG := gA_of hAe
  have hS : va_S A s.heap s.heap [] := va_S.rf
  have hF : gF (dC, dI) SKc G ([(50, 0)] : List (Nat × Nat)) s.heap s.heap := gF.rf
  have hl := lv_entry ([.ref o0, .int p0, .ref p1]) (n := 4) (Nat.le_of_ble_eq_true rfl)
  rw [lg_entry_eq]
  generalize (lg_sl ([.ref o0, .int p0, .ref p1]) ++ List.replicate (4 - (lg_sl ([.ref o0, .int p0, .ref p1])).length) Slot.unset).toArray = ls at hl ⊢
  have hl : lv_has ls 4 [(0, .ref o0), (1, .int p0), (2, .ref p1)] := hl
  refine lv_iconst (v := 0) hx hb dX4_firstThatHolds_0 (by decide) ?_
  refine lv_istore_n (lv' := [(3, .int 0), (0, .ref o0), (1, .int p0), (2, .ref p1)]) hx hb dX4_firstThatHolds_1 rfl hl (by decide) rfl (fun ls hl => ?_)
  have key26 : ∀ (n26 i1 : Nat), i1 + n26 = 20 → 0 ≤ i1 → ∀ (H : Heap) (locs : List Loc), gH (dC, dI) kA (SHc nC nS) G H → gF (dC, dI) SKc G ([(50, 0)] : List (Nat × Nat)) s.heap H → va_S A s.heap H locs → ∀ ls : Array Slot, lv_has ls 4 [(3, .int (nI i1)), (0, .ref o0), (1, .int p0), (2, .ref p1)] → W p l e (headSpec w_c_firstThatHolds ({ frames := 3, cells := 0, slots := 0, locals := 89 })).room s m #[.ref o0, .int p0, .ref p1] below meth c H locs 0 0 (MQ below (va_Qi (fun (r : Int32) (u : Unit) => (-1 ≤ r.toInt ∧ r.toInt ≤ 19)) (fun (_ : Unit) (t : State) => gH (dC, dI) kA (SHc nC nS) G t.heap ∧ gF (dC, dI) SKc G ([(50, 0)] : List (Nat × Nat)) s.heap t.heap) A) #[.ref o0, .int p0, .ref p1] s 0 0 A) (F0 m 2 ls []) := by
    intro n26
    induction n26 with
    | zero =>
      intro i1 hn26 hlo27  H locs hT hF hS  ls hl
      obtain rfl : 20 = i1 := by omega
      refine lv_iload_n hx hb dX4_firstThatHolds_2 rfl (lv_at hl 0 rfl) ?_
      refine lv_aload_n hx hb dX4_firstThatHolds_3 rfl (lv_at hl 1 rfl) ?_
      refine tw_get hx hb hts bF2_X4 hown hK hT hr_o0 shc_7 rfl 11 (by decide) (ht_at2 hts 0 rfl) (fun _ h9 => h9) dX4_firstThatHolds_4 (fun v9 m28 h9 => ?_)
      obtain ⟨x29, rfl, gx29, kx29⟩ := h9 _ rfl
      refine lv_icmp_ge (tgt := 37) hx hb dX4_firstThatHolds_7 (by decide) (fun c30 => ?_) (fun c30 => (by exfalso; have q9 : ((20 : Nat) : Int) < x29.toInt := ti_nle c30 rfl (nI_toInt (by omega)); omega))
      have t31 : x29.toInt ≤ ((20 : Nat) : Int) := ti_le c30 rfl (nI_toInt (by omega))
      refine lv_iconst (v := (-1)) hx hb dX4_firstThatHolds_37 (by decide) ?_
      exact W.iret (v := (-1)) hx hb hr (fun t ht hW => ⟨⟨(-1), (), rfl, (by exact (rg_t (a := (-1)) (by decide) (by first | decide | omega) (by first | decide | omega))), by (try dsimp only); rw [ht]; exact ⟨hT, hF⟩⟩, hS.F ht⟩) hS.2.2 dX4_firstThatHolds_38
    | succ n26 ih26 =>
      intro i1 hn26 hlo27  H locs hT hF hS  ls hl
      have hlt31 : i1 < 20 := by omega
      refine lv_iload_n hx hb dX4_firstThatHolds_2 rfl (lv_at hl 0 rfl) ?_
      refine lv_aload_n hx hb dX4_firstThatHolds_3 rfl (lv_at hl 1 rfl) ?_
      refine tw_get hx hb hts bF2_X4 hown hK hT hr_o0 shc_7 rfl 11 (by decide) (ht_at2 hts 0 rfl) (fun _ h9 => h9) dX4_firstThatHolds_4 (fun v9 m32 h9 => ?_)
      obtain ⟨x33, rfl, gx33, kx33⟩ := h9 _ rfl
      refine lv_icmp_ge (tgt := 37) hx hb dX4_firstThatHolds_7 (by decide) (fun c34 => ?_) (fun c34 => ?_)
      · have t35 : x33.toInt ≤ ((i1 : Nat) : Int) := ti_le c34 rfl (nI_toInt (by omega))
        refine lv_iconst (v := (-1)) hx hb dX4_firstThatHolds_37 (by decide) ?_
        exact W.iret (v := (-1)) hx hb hr (fun t ht hW => ⟨⟨(-1), (), rfl, (by exact (rg_t (a := (-1)) (by decide) (by first | decide | omega) (by first | decide | omega))), by (try dsimp only); rw [ht]; exact ⟨hT, hF⟩⟩, hS.F ht⟩) hS.2.2 dX4_firstThatHolds_38
      · have t36 : ((i1 : Nat) : Int) < x33.toInt := ti_nle c34 rfl (nI_toInt (by omega))
        refine lv_aload_n hx hb dX4_firstThatHolds_10 rfl (lv_at hl 1 rfl) ?_
        refine tw_get hx hb hts bF2_X4 hown hK hT hr_o0 shc_7 rfl 2 (by decide) (ht_at2 hts 1 rfl) (fun _ h9 => h9) dX4_firstThatHolds_11 (fun v9 m37 h9 => ?_)
        obtain ⟨b38, rfl, hg39⟩ := h9 _ rfl
        refine lv_iload_n hx hb dX4_firstThatHolds_14 rfl (lv_at hl 0 rfl) ?_
        refine tw_iald (i := (nI i1)) hx hb hK hT hg39 shc_42 rfl (vp_in_nI (by omega) (by decide)) dX4_firstThatHolds_15 (fun v9 m40 h9 => ?_)
        obtain ⟨x41, rfl, gx41, kx41⟩ := h9
        refine lv_iload_n hx hb dX4_firstThatHolds_16 rfl (lv_at hl 2 rfl) ?_
        have t42 : -2147483648 ≤ x41.toInt ∧ x41.toInt ≤ 2147483647 := ti_all x41
        have t43 : -2147483648 ≤ p0.toInt ∧ p0.toInt ≤ 2147483647 := ti_all p0
        refine lv_icmp_ne (tgt := 31) hx hb dX4_firstThatHolds_17 (by decide) (fun c44 => ?_) (fun c44 => ?_)
        · have t45 : x41.toInt ≠ p0.toInt := ti_ne c44 rfl rfl
          refine lv_iinc (v := nI (i1 + 1)) (lv' := [(3, .int (nI (i1 + 1))), (0, .ref o0), (1, .int p0), (2, .ref p1)]) hx hb dX4_firstThatHolds_31 hl (k := 0) rfl (nI_add i1 1) (by decide) rfl (fun ls hl => ?_)
          refine lv_goto (tgt := 2) hx hb dX4_firstThatHolds_34 (by decide) ?_
          exact ih26 (i1 + 1) (by omega) (by omega) _ _ hT hF hS ls (lv_sub hl [0, 1, 2, 3] rfl)
        · have t46 : x41.toInt = p0.toInt := ti_eq c44 rfl rfl
          refine lv_aload_n hx hb dX4_firstThatHolds_20 rfl (lv_at hl 1 rfl) ?_
          refine lv_iload_n hx hb dX4_firstThatHolds_21 rfl (lv_at hl 0 rfl) ?_
          refine lv_aload_n hx hb dX4_firstThatHolds_22 rfl (lv_at hl 3 rfl) ?_
          have hFc := gA_free hG hA hS
          refine va_calli (va_runV (As := [.int (nI i1), .ref p1]) (rest := []) ⟨hx, hb, hml, hown, hts⟩ (c_lineHolds l dC dI kA adK adV G H nC nS o0 (nI i1) p1 hT hr_p1 hr_o0 (rg_t (a := ((i1 : Nat) : Int)) (nI_toInt (by omega)) (by omega) (by omega)) (by omega) (by omega)) (cwV 2 hts (goodIn_app (goodIn_r _ [16, 17, 18, 15] rfl (by decide +kernel)) (goodIn_ca (goodIn_r _ [3, 4, 5, 6, 7, 8, 9, 10, 11, 12, 13, 14, 15] rfl (by decide +kernel)) (bs2_in _ _))) rfl rfl rfl (by decide +kernel) ⟨(Nat.le_of_ble_eq_true rfl), (Nat.le_of_ble_eq_true rfl)⟩) ⟨fun a U g mk q => by obtain ⟨q0, q1, qK, qE⟩ := q; exact ⟨q0, q1, va_K.moved (u := U) (U := U.calling g mk a) (Vm.Alike.refl U.vm) qK, EVC.blind g mk a qE⟩, gH_rc hK hT hr_o0 shc_7 rfl, fun U hU hW => ⟨rfl, hU, va_K.moved hW.alike hK, hE.call hS hFc hU hW⟩⟩ rfl rfl hl.1 rfl (lv_room (Nat.le_of_ble_eq_true rfl)) dX4_firstThatHolds_23 ⟨(Nat.le_of_ble_eq_true rfl), (Nat.le_of_ble_eq_true rfl)⟩) hS (fun q _ h => hFc q h) hFc (fun r47 u t H locs ht hvm hw48 hB _ _ hS => ?_)
          obtain ⟨hT, hF1⟩ := hB
          rw [ht] at hT hF1
          have hF := hF.more hF1 (by decide)
          try dsimp only at hw48
          have h52 := hw48
          refine lv_if_eq (tgt := 31) hx hb dX4_firstThatHolds_26 (by decide) (fun c53 => ?_) (fun c53 => ?_)
          · have t54 : r47.toInt = 0 := ti_eq c53 rfl (by decide)
            refine lv_iinc (v := nI (i1 + 1)) (lv' := [(3, .int (nI (i1 + 1))), (0, .ref o0), (1, .int p0), (2, .ref p1)]) hx hb dX4_firstThatHolds_31 hl (k := 0) rfl (nI_add i1 1) (by decide) rfl (fun ls hl => ?_)
            refine lv_goto (tgt := 2) hx hb dX4_firstThatHolds_34 (by decide) ?_
            exact ih26 (i1 + 1) (by omega) (by omega) _ _ hT hF hS ls (lv_sub hl [0, 1, 2, 3] rfl)
          · have t55 : r47.toInt ≠ 0 := ti_ne c53 rfl (by decide)
            refine lv_iload_n hx hb dX4_firstThatHolds_29 rfl (lv_at hl 0 rfl) ?_
            exact W.iret (v := nI i1) hx hb hr (fun t ht hW => ⟨⟨nI i1, (), rfl, (by exact (rg_t (a := ((i1 : Nat) : Int)) (nI_toInt (by omega)) (by omega) (by omega))), by (try dsimp only); rw [ht]; exact ⟨hT, hF⟩⟩, hS.F ht⟩) hS.2.2 dX4_firstThatHolds_30
  exact key26 (20 - 0) 0 (by omega) (Nat.le_refl _) _ _ hT hF hS ls (lv_sub hl [0, 1, 2, 3] rfl)
def w_c_lastOf : List Cond := .code yX4_lastOf cX4_lastOf 5 (some .int) :: (HAppend.hAppend (α := List Cond) (β := List Cond) (γ := List Cond) [.fieldLink RX4 60 "SeaLand$Law" "lines" "I", .fieldLink RX4 18 "SeaLand$Law" "kinds" "[I", .fieldLink RX4 21 "SeaLand$Law" "firsts" "[I"] bs2)
set_option maxHeartbeats 4000000 in
set_option maxRecDepth 100000 in
theorem c_lastOf (l : Launch) (dC : Nat → ClassId) (dI : Nat → Nat → Nat) (kA : Nat → ClassId) (adK adV : Nat → Nat) (G : gT) (H0 : Heap) (nC nS : Int) (o0 : Nat) (p0 : Int32) (p1 : Int32)  (hT : gH (dC, dI) kA (SHc nC nS) G H0) (hr_o0 : G o0 = some 7) (hgC : 0 ≤ nC ∧ nC ≤ 40) (hgS : 0 ≤ nS ∧ nS ≤ 60) : Met l yX4_lastOf w_c_lastOf ({ frames := 0, cells := 0, slots := 0, locals := 0 }) (va_Pc [.ref o0, .int p0, .int p1] (fun U => U.heap = H0 ∧ va_K (dC, dI) vwCl (tyl kA) U ∧ EVC adK adV (gA G H0.size) U U.heap)) (va_Qi (fun (r : Int32) (u : Unit) => True) (fun (_ : Unit) (t : State) => gH (dC, dI) kA (SHc nC nS) G t.heap ∧ gF (dC, dI) SKc G ([] : List (Nat × Nat)) H0 t.heap) (gA G H0.size)) 0 0 (gA G H0.size) := by
  refine Met.ofW (cc := cX4_lastOf) (maxL := 5) (ret := (some .int)) (by decide) rfl ?_
  intro p e s m args below meth c s₁ B hml hv
  obtain ⟨rfl, hH0, hK, hE⟩ := hv
  have hx := B.exec
  have hb := B.bytes
  have hr := B.returns
  have hts := atoms_spec (ws := w_c_lastOf) B.pre
  have hown : s.vm.findClass RX4 = some m.cls := findClass_of_methodNamed B.named
  have hlocks := B.notSynchronized
  subst hH0
  generalize hAe : gA G s.heap.size = A at hE ⊢
  have hA : ∀ q : Nat, s.heap.size ≤ q → A q := fun q h => by rw [← hAe]; exact Or.inr h
  have hG := gA_of hAe
  have hS : va_S A s.heap s.heap [] := va_S.rf
  have hF : gF (dC, dI) SKc G ([] : List (Nat × Nat)) s.heap s.heap := gF.rf
  have hl := lv_entry ([.ref o0, .int p0, .int p1]) (n := 5) (Nat.le_of_ble_eq_true rfl)
  rw [lg_entry_eq]
  generalize (lg_sl ([.ref o0, .int p0, .int p1]) ++ List.replicate (5 - (lg_sl ([.ref o0, .int p0, .int p1])).length) Slot.unset).toArray = ls at hl ⊢
  have hl : lv_has ls 5 [(0, .ref o0), (1, .int p0), (2, .int p1)] := hl
  refine lv_iload_n hx hb dX4_lastOf_0 rfl (lv_at hl 2 rfl) ?_
  refine lv_istore_n (lv' := [(3, .int p1), (0, .ref o0), (1, .int p0), (2, .int p1)]) hx hb dX4_lastOf_1 rfl hl (by decide) rfl (fun ls hl => ?_)
  refine lv_iconst (v := 0) hx hb dX4_lastOf_2 (by decide) ?_
  refine lv_istore (lv' := [(4, .int 0), (3, .int p1), (0, .ref o0), (1, .int p0), (2, .int p1)]) hx hb dX4_lastOf_3 hl (by decide) rfl (fun ls hl => ?_)
  have key23 : ∀ (n23 i1 : Nat), i1 + n23 = 20 → 0 ≤ i1 → ∀ (z2 : Int32), ∀ (H : Heap) (locs : List Loc), gH (dC, dI) kA (SHc nC nS) G H → gF (dC, dI) SKc G ([] : List (Nat × Nat)) s.heap H → va_S A s.heap H locs → ∀ ls : Array Slot, lv_has ls 5 [(4, .int (nI i1)), (3, .int z2), (0, .ref o0), (1, .int p0), (2, .int p1)] → W p l e (headSpec w_c_lastOf ({ frames := 0, cells := 0, slots := 0, locals := 0 })).room s m #[.ref o0, .int p0, .int p1] below meth c H locs 0 0 (MQ below (va_Qi (fun (r : Int32) (u : Unit) => True) (fun (_ : Unit) (t : State) => gH (dC, dI) kA (SHc nC nS) G t.heap ∧ gF (dC, dI) SKc G ([] : List (Nat × Nat)) s.heap t.heap) A) #[.ref o0, .int p0, .int p1] s 0 0 A) (F0 m 5 ls []) := by
    intro n23
    induction n23 with
    | zero =>
      intro i1 hn23 hlo24 z2 H locs hT hF hS  ls hl
      obtain rfl : 20 = i1 := by omega
      refine lv_iload hx hb dX4_lastOf_5 (lv_at hl 0 rfl) ?_
      refine lv_aload_n hx hb dX4_lastOf_7 rfl (lv_at hl 2 rfl) ?_
      refine tw_get hx hb hts bF2_X4 hown hK hT hr_o0 shc_7 rfl 11 (by decide) (ht_at2 hts 0 rfl) (fun _ h9 => h9) dX4_lastOf_8 (fun v9 m25 h9 => ?_)
      obtain ⟨x26, rfl, gx26, kx26⟩ := h9 _ rfl
      refine lv_icmp_ge (tgt := 43) hx hb dX4_lastOf_11 (by decide) (fun c27 => ?_) (fun c27 => (by exfalso; have q9 : ((20 : Nat) : Int) < x26.toInt := ti_nle c27 rfl (nI_toInt (by omega)); omega))
      have t28 : x26.toInt ≤ ((20 : Nat) : Int) := ti_le c27 rfl (nI_toInt (by omega))
      refine lv_iload_n hx hb dX4_lastOf_43 rfl (lv_at hl 1 rfl) ?_
      exact W.iret (v := z2) hx hb hr (fun t ht hW => ⟨⟨z2, (), rfl, (by exact trivial), by (try dsimp only); rw [ht]; exact ⟨hT, hF⟩⟩, hS.F ht⟩) hS.2.2 dX4_lastOf_44
    | succ n23 ih23 =>
      intro i1 hn23 hlo24 z2 H locs hT hF hS  ls hl
      have hlt28 : i1 < 20 := by omega
      refine lv_iload hx hb dX4_lastOf_5 (lv_at hl 0 rfl) ?_
      refine lv_aload_n hx hb dX4_lastOf_7 rfl (lv_at hl 2 rfl) ?_
      refine tw_get hx hb hts bF2_X4 hown hK hT hr_o0 shc_7 rfl 11 (by decide) (ht_at2 hts 0 rfl) (fun _ h9 => h9) dX4_lastOf_8 (fun v9 m29 h9 => ?_)
      obtain ⟨x30, rfl, gx30, kx30⟩ := h9 _ rfl
      refine lv_icmp_ge (tgt := 43) hx hb dX4_lastOf_11 (by decide) (fun c31 => ?_) (fun c31 => ?_)
      · have t32 : x30.toInt ≤ ((i1 : Nat) : Int) := ti_le c31 rfl (nI_toInt (by omega))
        refine lv_iload_n hx hb dX4_lastOf_43 rfl (lv_at hl 1 rfl) ?_
        exact W.iret (v := z2) hx hb hr (fun t ht hW => ⟨⟨z2, (), rfl, (by exact trivial), by (try dsimp only); rw [ht]; exact ⟨hT, hF⟩⟩, hS.F ht⟩) hS.2.2 dX4_lastOf_44
      · have t33 : ((i1 : Nat) : Int) < x30.toInt := ti_nle c31 rfl (nI_toInt (by omega))
        refine lv_aload_n hx hb dX4_lastOf_14 rfl (lv_at hl 2 rfl) ?_
        refine tw_get hx hb hts bF2_X4 hown hK hT hr_o0 shc_7 rfl 2 (by decide) (ht_at2 hts 1 rfl) (fun _ h9 => h9) dX4_lastOf_15 (fun v9 m34 h9 => ?_)
        obtain ⟨b35, rfl, hg36⟩ := h9 _ rfl
        refine lv_iload hx hb dX4_lastOf_18 (lv_at hl 0 rfl) ?_
        refine tw_iald (i := (nI i1)) hx hb hK hT hg36 shc_42 rfl (vp_in_nI (by omega) (by decide)) dX4_lastOf_20 (fun v9 m37 h9 => ?_)
        obtain ⟨x38, rfl, gx38, kx38⟩ := h9
        refine lv_iload_n hx hb dX4_lastOf_21 rfl (lv_at hl 3 rfl) ?_
        have t39 : -2147483648 ≤ x38.toInt ∧ x38.toInt ≤ 2147483647 := ti_all x38
        have t40 : -2147483648 ≤ p0.toInt ∧ p0.toInt ≤ 2147483647 := ti_all p0
        refine lv_icmp_ne (tgt := 35) hx hb dX4_lastOf_22 (by decide) (fun c41 => ?_) (fun c41 => ?_)
        · have t42 : x38.toInt ≠ p0.toInt := ti_ne c41 rfl rfl
          refine lv_iload_n hx hb dX4_lastOf_35 rfl (lv_at hl 1 rfl) ?_
          refine lv_istore_n (lv' := [(3, .int z2), (4, .int (nI i1)), (0, .ref o0), (1, .int p0), (2, .int p1)]) hx hb dX4_lastOf_36 rfl hl (by decide) rfl (fun ls hl => ?_)
          refine lv_iinc (v := nI (i1 + 1)) (lv' := [(4, .int (nI (i1 + 1))), (3, .int z2), (0, .ref o0), (1, .int p0), (2, .int p1)]) hx hb dX4_lastOf_37 hl (k := 1) rfl (nI_add i1 1) (by decide) rfl (fun ls hl => ?_)
          refine lv_goto (tgt := 5) hx hb dX4_lastOf_40 (by decide) ?_
          exact ih23 (i1 + 1) (by omega) (by omega) z2 _ _ hT hF hS ls (lv_sub hl [0, 1, 2, 3, 4] rfl)
        · have t43 : x38.toInt = p0.toInt := ti_eq c41 rfl rfl
          refine lv_aload_n hx hb dX4_lastOf_25 rfl (lv_at hl 2 rfl) ?_
          refine tw_get hx hb hts bF2_X4 hown hK hT hr_o0 shc_7 rfl 3 (by decide) (ht_at2 hts 2 rfl) (fun _ h9 => h9) dX4_lastOf_26 (fun v9 m44 h9 => ?_)
          obtain ⟨b45, rfl, hg46⟩ := h9 _ rfl
          refine lv_iload hx hb dX4_lastOf_29 (lv_at hl 0 rfl) ?_
          refine tw_iald (i := (nI i1)) hx hb hK hT hg46 shc_43 rfl (vp_in_nI (by omega) (by decide)) dX4_lastOf_31 (fun v9 m47 h9 => ?_)
          obtain ⟨x48, rfl, gx48, kx48⟩ := h9
          refine lv_goto (tgt := 36) hx hb dX4_lastOf_32 (by decide) ?_
          refine lv_istore_n (lv' := [(3, .int x48), (4, .int (nI i1)), (0, .ref o0), (1, .int p0), (2, .int p1)]) hx hb dX4_lastOf_36 rfl hl (by decide) rfl (fun ls hl => ?_)
          refine lv_iinc (v := nI (i1 + 1)) (lv' := [(4, .int (nI (i1 + 1))), (3, .int x48), (0, .ref o0), (1, .int p0), (2, .int p1)]) hx hb dX4_lastOf_37 hl (k := 1) rfl (nI_add i1 1) (by decide) rfl (fun ls hl => ?_)
          refine lv_goto (tgt := 5) hx hb dX4_lastOf_40 (by decide) ?_
          exact ih23 (i1 + 1) (by omega) (by omega) x48 _ _ hT hF hS ls (lv_sub hl [0, 1, 2, 3, 4] rfl)
  exact key23 (20 - 0) 0 (by omega) (Nat.le_refl _) p1 _ _ hT hF hS ls (lv_sub hl [0, 1, 2, 3, 4] rfl)
def w_c_levelFor : List Cond := .code yX4_levelFor cX4_levelFor 5 (some .int) :: (HAppend.hAppend (α := List Cond) (β := List Cond) (γ := List Cond) [.fieldLink RX4 60 "SeaLand$Law" "lines" "I", .fieldLink RX4 18 "SeaLand$Law" "kinds" "[I", .fieldLink RX4 27 "SeaLand$Law" "froms" "[I", .fieldLink RX4 30 "SeaLand$Law" "tos" "[I", .code yX11_inRectangle cX11_inRectangle 3 (some .boolean), .code yX11_isBetween cX11_isBetween 3 (some .boolean), .methodLink RX11 588 Lib.Math.min.name, .static Lib.Math.min.name, .initialized "java/lang/Math", .code Lib.Math.min.name Lib.Math.min.code 2 (some .int), .methodLink RX11 591 Lib.Math.max.name, .static Lib.Math.max.name, .code Lib.Math.max.name Lib.Math.max.code 2 (some .int), .methodLink RX11 585 yX11_isBetween, .static yX11_isBetween, .initialized RX11, .static yX11_inRectangle, .fieldLink RX4 24 "SeaLand$Law" "seconds" "[I", .fieldLink RX4 21 "SeaLand$Law" "firsts" "[I"] bs2)
set_option maxHeartbeats 4000000 in
set_option maxRecDepth 100000 in
theorem c_levelFor (l : Launch) (dC : Nat → ClassId) (dI : Nat → Nat → Nat) (kA : Nat → ClassId) (adK adV : Nat → Nat) (G : gT) (H0 : Heap) (nC nS : Int) (o0 : Nat) (p0 : Int32) (p1 : Int32)  (hT : gH (dC, dI) kA (SHc nC nS) G H0) (hr_o0 : G o0 = some 7) (hq0 : 0 ≤ p1.toInt ∧ p1.toInt ≤ 1) (hgC : 0 ≤ nC ∧ nC ≤ 40) (hgS : 0 ≤ nS ∧ nS ≤ 60) : Met l yX4_levelFor w_c_levelFor ({ frames := 3, cells := 0, slots := 0, locals := 84 }) (va_Pc [.ref o0, .int p0, .int p1] (fun U => U.heap = H0 ∧ va_K (dC, dI) vwCl (tyl kA) U ∧ EVC adK adV (gA G H0.size) U U.heap)) (va_Qi (fun (r : Int32) (u : Unit) => True) (fun (_ : Unit) (t : State) => gH (dC, dI) kA (SHc nC nS) G t.heap ∧ gF (dC, dI) SKc G ([] : List (Nat × Nat)) H0 t.heap) (gA G H0.size)) 0 0 (gA G H0.size) := by
  refine Met.ofW (cc := cX4_levelFor) (maxL := 5) (ret := (some .int)) (by decide) rfl ?_
  intro p e s m args below meth c s₁ B hml hv
  obtain ⟨rfl, hH0, hK, hE⟩ := hv
  have hx := B.exec
  have hb := B.bytes
  have hr := B.returns
  have hts := atoms_spec (ws := w_c_levelFor) B.pre
  have hown : s.vm.findClass RX4 = some m.cls := findClass_of_methodNamed B.named
  have hlocks := B.notSynchronized
  subst hH0
  generalize hAe : gA G s.heap.size = A at hE ⊢
  have hA : ∀ q : Nat, s.heap.size ≤ q → A q := fun q h => by rw [← hAe]; exact Or.inr h
  have hG := gA_of hAe
  have hS : va_S A s.heap s.heap [] := va_S.rf
  have hF : gF (dC, dI) SKc G ([] : List (Nat × Nat)) s.heap s.heap := gF.rf
  have hl := lv_entry ([.ref o0, .int p0, .int p1]) (n := 5) (Nat.le_of_ble_eq_true rfl)
  rw [lg_entry_eq]
  generalize (lg_sl ([.ref o0, .int p0, .int p1]) ++ List.replicate (5 - (lg_sl ([.ref o0, .int p0, .int p1])).length) Slot.unset).toArray = ls at hl ⊢
  have hl : lv_has ls 5 [(0, .ref o0), (1, .int p0), (2, .int p1)] := hl
  refine lv_sipush (v := 1000) hx hb dX4_levelFor_0 (by decide) ?_
  refine lv_istore_n (lv' := [(3, .int 1000), (0, .ref o0), (1, .int p0), (2, .int p1)]) hx hb dX4_levelFor_3 rfl hl (by decide) rfl (fun ls hl => ?_)
  refine lv_iconst (v := 0) hx hb dX4_levelFor_4 (by decide) ?_
  refine lv_istore (lv' := [(4, .int 0), (3, .int 1000), (0, .ref o0), (1, .int p0), (2, .int p1)]) hx hb dX4_levelFor_5 hl (by decide) rfl (fun ls hl => ?_)
  have key55 : ∀ (n55 i1 : Nat), i1 + n55 = 20 → 0 ≤ i1 → ∀ (z2 : Int32), ∀ (H : Heap) (locs : List Loc), gH (dC, dI) kA (SHc nC nS) G H → gF (dC, dI) SKc G ([] : List (Nat × Nat)) s.heap H → va_S A s.heap H locs → ∀ ls : Array Slot, lv_has ls 5 [(4, .int (nI i1)), (3, .int z2), (0, .ref o0), (1, .int p0), (2, .int p1)] → W p l e (headSpec w_c_levelFor ({ frames := 3, cells := 0, slots := 0, locals := 84 })).room s m #[.ref o0, .int p0, .int p1] below meth c H locs 0 0 (MQ below (va_Qi (fun (r : Int32) (u : Unit) => True) (fun (_ : Unit) (t : State) => gH (dC, dI) kA (SHc nC nS) G t.heap ∧ gF (dC, dI) SKc G ([] : List (Nat × Nat)) s.heap t.heap) A) #[.ref o0, .int p0, .int p1] s 0 0 A) (F0 m 7 ls []) := by
    intro n55
    induction n55 with
    | zero =>
      intro i1 hn55 hlo56 z2 H locs hT hF hS  ls hl
      obtain rfl : 20 = i1 := by omega
      refine lv_iload hx hb dX4_levelFor_7 (lv_at hl 0 rfl) ?_
      refine lv_aload_n hx hb dX4_levelFor_9 rfl (lv_at hl 2 rfl) ?_
      refine tw_get hx hb hts bF2_X4 hown hK hT hr_o0 shc_7 rfl 11 (by decide) (ht_at2 hts 0 rfl) (fun _ h9 => h9) dX4_levelFor_10 (fun v9 m57 h9 => ?_)
      obtain ⟨x58, rfl, gx58, kx58⟩ := h9 _ rfl
      refine lv_icmp_ge (tgt := 79) hx hb dX4_levelFor_13 (by decide) (fun c59 => ?_) (fun c59 => (by exfalso; have q9 : ((20 : Nat) : Int) < x58.toInt := ti_nle c59 rfl (nI_toInt (by omega)); omega))
      have t60 : x58.toInt ≤ ((20 : Nat) : Int) := ti_le c59 rfl (nI_toInt (by omega))
      refine lv_iload_n hx hb dX4_levelFor_79 rfl (lv_at hl 1 rfl) ?_
      exact W.iret (v := z2) hx hb hr (fun t ht hW => ⟨⟨z2, (), rfl, (by exact trivial), by (try dsimp only); rw [ht]; exact ⟨hT, hF⟩⟩, hS.F ht⟩) hS.2.2 dX4_levelFor_80
    | succ n55 ih55 =>
      intro i1 hn55 hlo56 z2 H locs hT hF hS  ls hl
      have hlt60 : i1 < 20 := by omega
      refine lv_iload hx hb dX4_levelFor_7 (lv_at hl 0 rfl) ?_
      refine lv_aload_n hx hb dX4_levelFor_9 rfl (lv_at hl 2 rfl) ?_
      refine tw_get hx hb hts bF2_X4 hown hK hT hr_o0 shc_7 rfl 11 (by decide) (ht_at2 hts 0 rfl) (fun _ h9 => h9) dX4_levelFor_10 (fun v9 m61 h9 => ?_)
      obtain ⟨x62, rfl, gx62, kx62⟩ := h9 _ rfl
      refine lv_icmp_ge (tgt := 79) hx hb dX4_levelFor_13 (by decide) (fun c63 => ?_) (fun c63 => ?_)
      · have t64 : x62.toInt ≤ ((i1 : Nat) : Int) := ti_le c63 rfl (nI_toInt (by omega))
        refine lv_iload_n hx hb dX4_levelFor_79 rfl (lv_at hl 1 rfl) ?_
        exact W.iret (v := z2) hx hb hr (fun t ht hW => ⟨⟨z2, (), rfl, (by exact trivial), by (try dsimp only); rw [ht]; exact ⟨hT, hF⟩⟩, hS.F ht⟩) hS.2.2 dX4_levelFor_80
      · have t65 : ((i1 : Nat) : Int) < x62.toInt := ti_nle c63 rfl (nI_toInt (by omega))
        refine lv_aload_n hx hb dX4_levelFor_16 rfl (lv_at hl 2 rfl) ?_
        refine tw_get hx hb hts bF2_X4 hown hK hT hr_o0 shc_7 rfl 2 (by decide) (ht_at2 hts 1 rfl) (fun _ h9 => h9) dX4_levelFor_17 (fun v9 m66 h9 => ?_)
        obtain ⟨b67, rfl, hg68⟩ := h9 _ rfl
        refine lv_iload hx hb dX4_levelFor_20 (lv_at hl 0 rfl) ?_
        refine tw_iald (i := (nI i1)) hx hb hK hT hg68 shc_42 rfl (vp_in_nI (by omega) (by decide)) dX4_levelFor_22 (fun v9 m69 h9 => ?_)
        obtain ⟨x70, rfl, gx70, kx70⟩ := h9
        refine lv_bipush (v := 7) hx hb dX4_levelFor_23 (by decide) ?_
        have t71 : -2147483648 ≤ x70.toInt ∧ x70.toInt ≤ 2147483647 := ti_all x70
        refine lv_icmp_ne (tgt := 73) hx hb dX4_levelFor_25 (by decide) (fun c72 => ?_) (fun c72 => ?_)
        · have t73 : x70.toInt ≠ 7 := ti_ne c72 rfl (by decide)
          refine lv_iinc (v := nI (i1 + 1)) (lv' := [(4, .int (nI (i1 + 1))), (3, .int z2), (0, .ref o0), (1, .int p0), (2, .int p1)]) hx hb dX4_levelFor_73 hl (k := 0) rfl (nI_add i1 1) (by decide) rfl (fun ls hl => ?_)
          refine lv_goto (tgt := 7) hx hb dX4_levelFor_76 (by decide) ?_
          exact ih55 (i1 + 1) (by omega) (by omega) z2 _ _ hT hF hS ls (lv_sub hl [0, 1, 2, 3, 4] rfl)
        · have t74 : x70.toInt = 7 := ti_eq c72 rfl (by decide)
          refine lv_iload_n hx hb dX4_levelFor_28 rfl (lv_at hl 3 rfl) ?_
          refine lv_aload_n hx hb dX4_levelFor_29 rfl (lv_at hl 2 rfl) ?_
          refine tw_get hx hb hts bF2_X4 hown hK hT hr_o0 shc_7 rfl 5 (by decide) (ht_at2 hts 2 rfl) (fun _ h9 => h9) dX4_levelFor_30 (fun v9 m75 h9 => ?_)
          obtain ⟨b76, rfl, hg77⟩ := h9 _ rfl
          refine lv_iload hx hb dX4_levelFor_33 (lv_at hl 0 rfl) ?_
          refine tw_iald (i := (nI i1)) hx hb hK hT hg77 shc_45 rfl (vp_in_nI (by omega) (by decide)) dX4_levelFor_35 (fun v9 m78 h9 => ?_)
          obtain ⟨x79, rfl, gx79, kx79⟩ := h9
          refine lv_aload_n hx hb dX4_levelFor_36 rfl (lv_at hl 2 rfl) ?_
          refine tw_get hx hb hts bF2_X4 hown hK hT hr_o0 shc_7 rfl 6 (by decide) (ht_at2 hts 3 rfl) (fun _ h9 => h9) dX4_levelFor_37 (fun v9 m80 h9 => ?_)
          obtain ⟨b81, rfl, hg82⟩ := h9 _ rfl
          refine lv_iload hx hb dX4_levelFor_40 (lv_at hl 0 rfl) ?_
          refine tw_iald (i := (nI i1)) hx hb hK hT hg82 shc_46 rfl (vp_in_nI (by omega) (by decide)) dX4_levelFor_42 (fun v9 m83 h9 => ?_)
          obtain ⟨x84, rfl, gx84, kx84⟩ := h9
          have hFc := gA_free hG hA hS
          refine va_calli (va_runSN (As := [.int p0, .int x79, .int x84]) (rest := []) ⟨hx, hb, hml, hown, hts⟩ (c_inRectangle l dC dI kA adK adV G H nC nS p0 x79 x84 hT (by omega) (by omega)) ⟨va_cnB 3 hts (goodIn_ca (goodIn_r _ [5, 6, 7, 8, 9, 10, 11, 12, 13, 14, 15, 16] rfl (by decide +kernel)) (bs2_in _ _)) rfl rfl rfl (hE.nm 110 rfl) (ht_at2 hts 15 rfl) (by decide +kernel) ⟨(Nat.le_of_ble_eq_true rfl), (Nat.le_of_ble_eq_true rfl)⟩, (ht_at2 hts 16 rfl), trivial⟩ ⟨fun a U g mk q => by obtain ⟨q0, q1, qK, qE⟩ := q; exact ⟨q0, q1, va_K.moved (u := U) (U := U.calling g mk a) (Vm.Alike.refl U.vm) qK, EVC.blind g mk a qE⟩, fun U hU hW => ⟨rfl, hU, va_K.moved hW.alike hK, hE.call hS hFc hU hW⟩⟩ rfl rfl hl.1 rfl (lv_room (Nat.le_of_ble_eq_true rfl)) dX4_levelFor_43 ⟨(Nat.le_of_ble_eq_true rfl), (Nat.le_of_ble_eq_true rfl)⟩) hS (fun q _ h => hFc q h) hFc (fun r85 u t H locs ht hvm hw86 hB _ _ hS => ?_)
          obtain ⟨hT, hF1⟩ := hB
          rw [ht] at hT hF1
          have hF := hF.more hF1 (by decide)
          try dsimp only at hw86
          have h94 := hw86
          refine lv_if_eq (tgt := 73) hx hb dX4_levelFor_46 (by decide) (fun c95 => ?_) (fun c95 => ?_)
          · have t96 : r85.toInt = 0 := ti_eq c95 rfl (by decide)
            refine lv_iinc (v := nI (i1 + 1)) (lv' := [(4, .int (nI (i1 + 1))), (3, .int z2), (0, .ref o0), (1, .int p0), (2, .int p1)]) hx hb dX4_levelFor_73 hl (k := 0) rfl (nI_add i1 1) (by decide) rfl (fun ls hl => ?_)
            refine lv_goto (tgt := 7) hx hb dX4_levelFor_76 (by decide) ?_
            exact ih55 (i1 + 1) (by omega) (by omega) z2 _ _ hT hF hS ls (lv_sub hl [0, 1, 2, 3, 4] rfl)
          · have t97 : r85.toInt ≠ 0 := ti_ne c95 rfl (by decide)
            refine lv_iload_n hx hb dX4_levelFor_49 rfl (lv_at hl 4 rfl) ?_
            refine lv_if_eq (tgt := 64) hx hb dX4_levelFor_50 (by decide) (fun c98 => ?_) (fun c98 => ?_)
            · have t99 : p1.toInt = 0 := ti_eq c98 rfl (by decide)
              refine lv_aload_n hx hb dX4_levelFor_64 rfl (lv_at hl 2 rfl) ?_
              refine tw_get hx hb hts bF2_X4 hown hK hT hr_o0 shc_7 rfl 4 (by decide) (ht_at2 hts 17 rfl) (fun _ h9 => h9) dX4_levelFor_65 (fun v9 m100 h9 => ?_)
              obtain ⟨b101, rfl, hg102⟩ := h9 _ rfl
              refine lv_iload hx hb dX4_levelFor_68 (lv_at hl 0 rfl) ?_
              refine tw_iald (i := (nI i1)) hx hb hK hT hg102 shc_44 rfl (vp_in_nI (by omega) (by decide)) dX4_levelFor_70 (fun v9 m103 h9 => ?_)
              obtain ⟨x104, rfl, gx104, kx104⟩ := h9
              refine lv_ineg hx hb dX4_levelFor_71 ?_
              refine lv_topi (fun x105 ex105 => ?_)
              refine lv_istore_n (lv' := [(3, .int x105), (4, .int (nI i1)), (0, .ref o0), (1, .int p0), (2, .int p1)]) hx hb dX4_levelFor_72 rfl hl (by decide) rfl (fun ls hl => ?_)
              refine lv_iinc (v := nI (i1 + 1)) (lv' := [(4, .int (nI (i1 + 1))), (3, .int x105), (0, .ref o0), (1, .int p0), (2, .int p1)]) hx hb dX4_levelFor_73 hl (k := 1) rfl (nI_add i1 1) (by decide) rfl (fun ls hl => ?_)
              refine lv_goto (tgt := 7) hx hb dX4_levelFor_76 (by decide) ?_
              exact ih55 (i1 + 1) (by omega) (by omega) x105 _ _ hT hF hS ls (lv_sub hl [0, 1, 2, 3, 4] rfl)
            · have t106 : p1.toInt ≠ 0 := ti_ne c98 rfl (by decide)
              refine lv_aload_n hx hb dX4_levelFor_53 rfl (lv_at hl 2 rfl) ?_
              refine tw_get hx hb hts bF2_X4 hown hK hT hr_o0 shc_7 rfl 3 (by decide) (ht_at2 hts 18 rfl) (fun _ h9 => h9) dX4_levelFor_54 (fun v9 m107 h9 => ?_)
              obtain ⟨b108, rfl, hg109⟩ := h9 _ rfl
              refine lv_iload hx hb dX4_levelFor_57 (lv_at hl 0 rfl) ?_
              refine tw_iald (i := (nI i1)) hx hb hK hT hg109 shc_43 rfl (vp_in_nI (by omega) (by decide)) dX4_levelFor_59 (fun v9 m110 h9 => ?_)
              obtain ⟨x111, rfl, gx111, kx111⟩ := h9
              refine lv_ineg hx hb dX4_levelFor_60 ?_
              refine lv_topi (fun x112 ex112 => ?_)
              refine lv_goto (tgt := 72) hx hb dX4_levelFor_61 (by decide) ?_
              refine lv_istore_n (lv' := [(3, .int x112), (4, .int (nI i1)), (0, .ref o0), (1, .int p0), (2, .int p1)]) hx hb dX4_levelFor_72 rfl hl (by decide) rfl (fun ls hl => ?_)
              refine lv_iinc (v := nI (i1 + 1)) (lv' := [(4, .int (nI (i1 + 1))), (3, .int x112), (0, .ref o0), (1, .int p0), (2, .int p1)]) hx hb dX4_levelFor_73 hl (k := 1) rfl (nI_add i1 1) (by decide) rfl (fun ls hl => ?_)
              refine lv_goto (tgt := 7) hx hb dX4_levelFor_76 (by decide) ?_
              exact ih55 (i1 + 1) (by omega) (by omega) x112 _ _ hT hF hS ls (lv_sub hl [0, 1, 2, 3, 4] rfl)
  exact key55 (20 - 0) 0 (by omega) (Nat.le_refl _) 1000 _ _ hT hF hS ls (lv_sub hl [0, 1, 2, 3, 4] rfl)
