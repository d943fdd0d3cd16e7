def w_s_readLaw : List Cond := .code yX12_readLaw cX12_readLaw 2 (some .int) :: (HAppend.hAppend (α := List Cond) (β := List Cond) (γ := List Cond) [.fieldLink RX12 332 "SeaLandModel" "taped" "I", .fieldLink RX12 338 "SeaLandModel" "end" "I", .fieldLink RX12 335 "SeaLandModel" "point" "I", .fieldLink RX12 367 "SeaLandModel" "steps" "I", .code yX12_blanks cX12_blanks 1 none, .code yX12_isAt cX12_isAt 3 (some .boolean), .fieldLink RX12 31 "SeaLandModel" "tape" "[B", .methodLink RX12 341 yX12_isAt, .instanceMethod yX12_isAt, .selects RX12 yX12_isAt yX12_isAt, .initialized RX12, .fieldLink RX12 345 "SeaLandModel" "begin" "I", .methodLink RX12 348 yX12_blanks, .instanceMethod yX12_blanks, .selects RX12 yX12_blanks yX12_blanks, .code yX12_readLine cX12_readLine 3 (some .boolean), .code yX12_word cX12_word 1 none, .methodLink RX12 360 yX12_word, .instanceMethod yX12_word, .selects RX12 yX12_word yX12_word, .fieldLink RX12 45 "SeaLandModel" "sort" "[I", .code yX12_sortOf cX12_sortOf 1 (some .int), .code yX12_isWord cX12_isWord 4 (some .boolean), .code yJ0_length_8abf5 cJ0_length_8abf5 1 (some .int), .fieldLink RJ0 9 "java/lang/String" "value" "[B", .code yJ0_coder_7d493 cJ0_coder_7d493 1 (some .byte), .fieldLink RJ0 38 "java/lang/String" "COMPACT_STRINGS" "Z", .fieldLink RJ0 15 "java/lang/String" "coder" "B", .methodLink RJ0 335 yJ0_coder_7d493, .instanceMethod yJ0_coder_7d493, .selects RJ0 yJ0_coder_7d493 yJ0_coder_7d493, .initialized RJ0, .methodLink RX12 351 yJ0_length_8abf5, .instanceMethod yJ0_length_8abf5, .selects RJ0 yJ0_length_8abf5 yJ0_length_8abf5, .code yJ0_charAt_5068e cJ0_charAt_5068e 2 (some .char), .code yJ0_isLatin1_aae02 cJ0_isLatin1_aae02 1 (some .boolean), .methodLink RJ0 492 yJ0_isLatin1_aae02, .instanceMethod yJ0_isLatin1_aae02, .selects RJ0 yJ0_isLatin1_aae02 yJ0_isLatin1_aae02, .code yJ1_charAt_3b067 cJ1_charAt_3b067 2 (some .char), .code yJ0_checkIndex_df160 cJ0_checkIndex_df160 2 none, .fieldLink RJ0 1053 "jdk/internal/util/Preconditions" "SIOOBE_FORMATTER" "Ljava/util/function/BiFunction;", .code yJ3_checkIndex_8e157 cJ3_checkIndex_8e157 3 (some .int), .methodLink RJ0 1059 yJ3_checkIndex_8e157, .static yJ3_checkIndex_8e157, .initialized RJ3, .methodLink RJ1 9 yJ0_checkIndex_df160, .static yJ0_checkIndex_df160, .methodLink RJ0 495 yJ1_charAt_3b067, .static yJ1_charAt_3b067, .initialized RJ1, .methodLink RX12 356 yJ0_charAt_5068e, .instanceMethod yJ0_charAt_5068e, .selects RJ0 yJ0_charAt_5068e yJ0_charAt_5068e, .methodLink RX12 363 yX12_isWord, .instanceMethod yX12_isWord, .selects RX12 yX12_isWord yX12_isWord, .methodLink RX12 443 yX12_sortOf, .instanceMethod yX12_sortOf, .selects RX12 yX12_sortOf yX12_sortOf, .fieldLink RX12 60 "SeaLandModel" "begins" "[I", .fieldLink RX12 63 "SeaLandModel" "ends" "[I", .fieldLink RX12 48 "SeaLandModel" "told" "[I", .code yX12_passes cX12_passes 2 (some .boolean), .methodLink RX12 409 yX12_passes, .instanceMethod yX12_passes, .selects RX12 yX12_passes yX12_passes, .fieldLink RX12 401 "SeaLandModel" "deep" "I", .code yX12_readCond cX12_readCond 1 (some .boolean), .code yX12_readAllOf cX12_readAllOf 1 (some .boolean), .code yX12_readAtom cX12_readAtom 2 (some .boolean), .code yX12_sign cX12_sign 2 (some .boolean), .methodLink RX12 398 yX12_sign, .instanceMethod yX12_sign, .selects RX12 yX12_sign yX12_sign, .code yX12_readSum cX12_readSum 1 (some .boolean), .code yX12_readPart cX12_readPart 2 (some .boolean), .constant RX12 390 99999, .code yX12_number cX12_number 3 (some .int), .methodLink RX12 391 yX12_number, .instanceMethod yX12_number, .selects RX12 yX12_number yX12_number, .code yX12_adds cX12_adds 3 none, .fieldLink RX12 66 "SeaLandModel" "step" "[I", .fieldLink RX12 69 "SeaLandModel" "than" "[I", .methodLink RX12 387 yX12_adds, .instanceMethod yX12_adds, .selects RX12 yX12_adds yX12_adds, .code yX12_fact cX12_fact 1 (some (.object "java/lang/String")), .methodLink RX12 383 yX12_fact, .static yX12_fact, .methodLink RX12 394 yX12_readPart, .instanceMethod yX12_readPart, .selects RX12 yX12_readPart yX12_readPart, .methodLink RX12 415 yX12_readSum, .instanceMethod yX12_readSum, .selects RX12 yX12_readSum yX12_readSum, .methodLink RX12 412 yX12_readAtom, .instanceMethod yX12_readAtom, .selects RX12 yX12_readAtom yX12_readAtom, .methodLink RX12 420 yX12_readAllOf, .instanceMethod yX12_readAllOf, .selects RX12 yX12_readAllOf yX12_readAllOf, .methodLink RX12 404 yX12_readCond, .instanceMethod yX12_readCond, .selects RX12 yX12_readCond yX12_readCond, .code yX12_readLevel cX12_readLevel 2 (some .boolean), .fieldLink RX12 51 "SeaLandModel" "winter" "[I", .fieldLink RX12 54 "SeaLandModel" "from" "[I", .fieldLink RX12 57 "SeaLandModel" "to" "[I", .methodLink RX12 446 yX12_readLevel, .instanceMethod yX12_readLevel, .selects RX12 yX12_readLevel yX12_readLevel, .methodLink RX12 451 yX12_readLine, .instanceMethod yX12_readLine, .selects RX12 yX12_readLine yX12_readLine] bs)
set_option maxHeartbeats 4000000 in
set_option maxRecDepth 100000 in
theorem s_readLaw (l : Launch) (dC : Nat → ClassId) (dI : Nat → Nat → Nat) (kA : Nat → ClassId) (adK adV : Nat → Nat) (G : gT) (H0 : Heap) (q : Nat → Nat) (wZ wN : Nat → Int) (wH wB wC : Int) (wL wK : Nat → Prop) (wU wV : Nat → Nat) (PI : Nat → Int → Prop) (im : Int) (PM PT : Nat → Int → Prop) (lS lB lE : Nat → Nat → Int → Prop) (lN : Nat → Int) (o0 : Nat) (tn : Int32) (vt : Nat → Int32) (N : Nat) (hT : gH (dC, dI) kA (SHm q (wP wZ wN wH wB wC wL wK wU wV) PI im PM PT lS lB lE lN) G H0) (hr_o0 : G o0 = some 0) (hm_tn : el H0 o0 (dI 15 11) = some (.int tn)) (hq0 : 0 ≤ tn.toInt ∧ tn.toInt ≤ 400) (hN : tn.toInt = ((N : Nat) : Int)) (hc_vt : ct H0 (q 10) 400 vt) (hgz : ∀ i, 0 ≤ wZ i) (hgn : ∀ i, 6500000 ≤ wN i ∧ wN i ≤ 20200000) (hgh : 0 ≤ wH ∧ wH ≤ 40000) (hgb : 0 ≤ wB ∧ wB ≤ 3850000) (hgc : 0 ≤ wC ∧ wC ≤ 30) (hgi : 0 ≤ im ∧ im ≤ 1) (hgu : ∀ a t, G a = some (t + 1) → a = q t) : Met l yX12_readLaw w_s_readLaw ({ frames := 29, cells := 0, slots := 0, locals := 598 }) (va_Pc [.ref o0] (fun U => U.heap = H0 ∧ va_K (dC, dI) vwCl (tyl kA) U ∧ EVS adK adV (gA G H0.size) U U.heap)) (va_Qi (fun (r : Int32) (u : Int32 × Int32 × (Nat → Int → Prop) × (Nat → Int → Prop) × (Nat → Int → Prop)) => match u with | (t1, b1, S1, dB1, dE1) => (0 ≤ b1.toInt ∧ b1.toInt ≤ 400) ∧ (-1 ≤ r.toInt ∧ r.toInt ≤ 20) ∧ (t1.toInt = 0) ∧ (0 ≤ r.toInt → lwOK S1 dB1 dE1 r.toNatClampNeg 400) ∧ ((0 ≤ r.toInt ∧ laR (tx vt) N r.toInt (-1)) ∨ (r.toInt = -1 ∧ laR (tx vt) N (-1) ((b1.toNatClampNeg : Nat) : Int)))) (fun (u : Int32 × Int32 × (Nat → Int → Prop) × (Nat → Int → Prop) × (Nat → Int → Prop)) (t : State) => match u with | (t1, b1, S1, dB1, dE1) => gH (dC, dI) kA (SHm q (wP wZ wN wH wB wC wL wK wU wV) PI im PM PT (lD S1 lS) (lD dB1 lB) (lD dE1 lE) lN) G t.heap ∧ gF (dC, dI) SKm G ([(0, 11), (0, 12), (0, 13), (0, 14), (0, 15), (0, 28), (20, 0), (21, 0), (22, 0), (23, 0), (24, 0), (25, 0), (26, 0), (27, 0), (28, 0)] : List (Nat × Nat)) H0 t.heap ∧ el t.heap o0 (dI 15 11) = some (.int t1) ∧ el t.heap o0 (dI 15 14) = some (.int b1)) (gA G H0.size)) 0 0 (gA G H0.size) := by
  refine Met.ofW (cc := cX12_readLaw) (maxL := 2) (ret := (some .int)) (by decide) rfl ?_
  intro p e s m args below meth c s₁ B hml hv
  obtain ⟨rfl, hH0, hK, hE⟩ := hv
  have hx := B.exec
  have hb := B.bytes
  have hr := B.returns
  have hts := atoms_spec (ws := w_s_readLaw) B.pre
  have hown : s.vm.findClass RX12 = some m.cls := findClass_of_methodNamed B.named
  have hlocks := B.notSynchronized
  subst hH0
  generalize hAe : gA G s.heap.size = A at hE ⊢
  have hA : ∀ q : Nat, s.heap.size ≤ q → A q := fun q h => by rw [← hAe]; exact Or.inr h
  have hG := gA_of hAe
  have hS : va_S A s.heap s.heap [] := va_S.rf
  have hF : gF (dC, dI) SKm G ([(0, 11), (0, 12), (0, 13), (0, 14), (0, 15), (0, 28), (20, 0), (21, 0), (22, 0), (23, 0), (24, 0), (25, 0), (26, 0), (27, 0), (28, 0)] : List (Nat × Nat)) s.heap s.heap := gF.rf
  have hl := lv_entry ([.ref o0]) (n := 2) (Nat.le_of_ble_eq_true rfl)
  rw [lg_entry_eq]
  generalize (lg_sl ([.ref o0]) ++ List.replicate (2 - (lg_sl ([.ref o0])).length) Slot.unset).toArray = ls at hl ⊢
  have hl : lv_has ls 2 [(0, .ref o0)] := hl
  have hg1 : G (q 10) = some 11 := gx_of hT hr_o0 shm_0 (k := 10) (by decide) rfl
  refine lv_aload_n hx hb dX12_readLaw_0 rfl (lv_at hl 0 rfl) ?_
  refine lv_aload_n hx hb dX12_readLaw_1 rfl (lv_at hl 0 rfl) ?_
  refine tw_getM (v := .int tn) hx hb hts bF_X12 hown hK hT hr_o0 shm_0 rfl 11 (by decide) (ht_at hts 0 rfl) (fun _ h9 => h9) hm_tn dX12_readLaw_2 ?_
  refine tw_put (v := .int tn) (ty := .int) hx hb hts bF_X12 tyX12 tyX12_ok nmX12 hown hK hT hG hS hr_o0 shm_0 rfl 13 (by decide) (ht_at hts 1 rfl) (fun _ h9 => h9) rfl (by decide +kernel) rfl rfl (gl_at rfl (gi_of (show tn.toInt = tn.toInt from rfl) (by omega) (by omega))) dX12_readLaw_5 (fun H locs hT oq m2 oj hS => ?_)
  have hF := hF.put hr_o0 skm_0 oq oj (by decide)
  have m3 := (oj 11 (by decide) (by decide)).trans hm_tn
  have m4 := hc_vt.kept (oq _ (gne hg1 hr_o0 (by decide)))
  refine lv_aload_n hx hb dX12_readLaw_8 rfl (lv_at hl 0 rfl) ?_
  refine lv_iconst (v := 0) hx hb dX12_readLaw_9 (by decide) ?_
  refine tw_put (v := .int 0) (ty := .int) hx hb hts bF_X12 tyX12 tyX12_ok nmX12 hown hK hT hG hS hr_o0 shm_0 rfl 11 (by decide) (ht_at hts 0 rfl) (fun _ h9 => h9) rfl (by decide +kernel) rfl rfl (gl_at rfl (gi_of (show (0 : Int32).toInt = 0 from (by decide)) (by omega) (by omega))) dX12_readLaw_10 (fun H locs hT oq m5 oj hS => ?_)
  have hF := hF.put hr_o0 skm_0 oq oj (by decide)
  have m6 := m4.kept (oq _ (gne hg1 hr_o0 (by decide)))
  have m7 := (oj 13 (by decide) (by decide)).trans m2
  refine lv_aload_n hx hb dX12_readLaw_13 rfl (lv_at hl 0 rfl) ?_
  refine lv_iconst (v := 0) hx hb dX12_readLaw_14 (by decide) ?_
  refine tw_put (v := .int 0) (ty := .int) hx hb hts bF_X12 tyX12 tyX12_ok nmX12 hown hK hT hG hS hr_o0 shm_0 rfl 12 (by decide) (ht_at hts 2 rfl) (fun _ h9 => h9) rfl (by decide +kernel) rfl rfl (gl_at rfl (gi_of (show (0 : Int32).toInt = 0 from (by decide)) (by omega) (by omega))) dX12_readLaw_15 (fun H locs hT oq m8 oj hS => ?_)
  have hF := hF.put hr_o0 skm_0 oq oj (by decide)
  have m9 := m6.kept (oq _ (gne hg1 hr_o0 (by decide)))
  have m10 := (oj 13 (by decide) (by decide)).trans m7
  have m11 := (oj 11 (by decide) (by decide)).trans m5
  refine lv_aload_n hx hb dX12_readLaw_18 rfl (lv_at hl 0 rfl) ?_
  refine lv_iconst (v := 0) hx hb dX12_readLaw_19 (by decide) ?_
  refine tw_put (v := .int 0) (ty := .int) hx hb hts bF_X12 tyX12 tyX12_ok nmX12 hown hK hT hG hS hr_o0 shm_0 rfl 28 (by decide) (ht_at hts 3 rfl) (fun _ h9 => h9) rfl (by decide +kernel) rfl rfl (gl_at rfl (gi_of (show (0 : Int32).toInt = 0 from (by decide)) (by omega) (by omega))) dX12_readLaw_20 (fun H locs hT oq m12 oj hS => ?_)
  have hF := hF.put hr_o0 skm_0 oq oj (by decide)
  have m13 := m9.kept (oq _ (gne hg1 hr_o0 (by decide)))
  have m14 := (oj 13 (by decide) (by decide)).trans m10
  have m15 := (oj 11 (by decide) (by decide)).trans m11
  have m16 := (oj 12 (by decide) (by decide)).trans m8
  refine lv_aload_n hx hb dX12_readLaw_23 rfl (lv_at hl 0 rfl) ?_
  have hFc := gA_free hG hA hS
  refine va_callv (va_runV (As := []) (rest := []) ⟨hx, hb, hml, hown, hts⟩ (s_blanks l dC dI kA adK adV G H q wZ wN wH wB wC wL wK wU wV PI im PM PT lS lB lE lN o0 0 tn vt N hT hr_o0 m16 m14 (rg_t (a := 0) (by decide) (by omega) (by omega)) (by have q8 := ti_all tn; omega) (by have := (show (0 : Int32).toInt = 0 from (by decide)); have := (show tn.toInt = tn.toInt from rfl); omega) hN m13 hgz hgn hgh hgb hgc hgi hgu) (cwV 0 hts (goodIn_app (goodIn_r _ [13, 14, 15, 11] rfl (by decide +kernel)) (goodIn_ca (goodIn_r _ [5, 6, 3, 2, 7, 8, 9, 10, 11, 12] rfl (by decide +kernel)) (bs_in _ _))) rfl rfl rfl (by decide +kernel) ⟨(Nat.le_of_ble_eq_true rfl), (Nat.le_of_ble_eq_true rfl)⟩) ⟨fun a U g mk q => by obtain ⟨q0, q1, qK, qE⟩ := q; exact ⟨q0, q1, va_K.moved (u := U) (U := U.calling g mk a) (Vm.Alike.refl U.vm) qK, EVS.blind g mk a qE⟩, gH_recv hK hT hr_o0 shm_0 rfl, fun U hU hW => ⟨rfl, hU, va_K.moved hW.alike hK, hE.call hS hFc hU hW⟩⟩ rfl rfl hl.1 rfl (lv_room (Nat.le_of_ble_eq_true rfl)) dX12_readLaw_24 ⟨(Nat.le_of_ble_eq_true rfl), (Nat.le_of_ble_eq_true rfl)⟩) hS (fun q _ h => hFc q h) hFc (fun u t H locs ht hvm hw18 hB _ _ hS => ?_)
  obtain ⟨u19, u20⟩ := u
  obtain ⟨hT, hF1, m21, m22⟩ := hB
  rw [ht] at hT hF1 m21 m22
  have m23 := m13.kept (hF1.arr hg1 skm_11 (by decide))
  have m24 := (hF1.fld hr_o0 skm_0 (k := 13) (by decide) (by decide)).trans m14
  have m25 := (hF1.fld hr_o0 skm_0 (k := 11) (by decide) (by decide)).trans m15
  have m27 := (hF1.fld hr_o0 skm_0 (k := 28) (by decide) (by decide)).trans m12
  have hF := hF.more hF1 (by decide)
  try dsimp only at hw18
  obtain ⟨h28, h29, hf30, hf31, hf32⟩ := hw18
  have t33 : (0 : Int32).toInt = 0 := by decide
  refine lv_aload_n hx hb dX12_readLaw_27 rfl (lv_at hl 0 rfl) ?_
  refine tw_getM (v := .int u19) hx hb hts bF_X12 hown hK hT hr_o0 shm_0 rfl 12 (by decide) (ht_at hts 2 rfl) (fun _ h9 => h9) m21 dX12_readLaw_28 ?_
  refine lv_aload_n hx hb dX12_readLaw_31 rfl (lv_at hl 0 rfl) ?_
  refine tw_getM (v := .int tn) hx hb hts bF_X12 hown hK hT hr_o0 shm_0 rfl 13 (by decide) (ht_at hts 1 rfl) (fun _ h9 => h9) m24 dX12_readLaw_32 ?_
  refine lv_icmp_ne (tgt := 40) hx hb dX12_readLaw_35 (by decide) (fun c34 => ?_) (fun c34 => ?_)
  · have t35 : u19.toInt ≠ tn.toInt := ti_ne c34 rfl rfl
    have hs9 : skp (tx vt) N u19.toNatClampNeg = skp (tx vt) N 0 := by have z0 : (0 : Int32).toNatClampNeg = 0 := (by decide); have i9 := ru_i (P := spB) (t := (tx vt)) (n := N) (Nat.zero_le N); have j9 := hf31; rw [z0] at j9; rw [← j9]; exact i9
    have hne9 : skp (tx vt) N 0 ≠ N := by have z0 : (0 : Int32).toNatClampNeg = 0 := (by decide); have := tn_of (show u19.toInt = u19.toInt from rfl) (by omega); have := tn_of (show tn.toInt = tn.toInt from rfl) (by omega); have j9 := hf31; rw [z0] at j9; rw [j9]; omega
    refine lv_iconst (v := 0) hx hb dX12_readLaw_40 (by decide) ?_
    refine lv_istore_n (lv' := [(1, .int 0), (0, .ref o0)]) hx hb dX12_readLaw_41 rfl hl (by decide) rfl (fun ls hl => ?_)
    have key221 : ∀ (n221 : Nat), ∀ (gS0124 : Nat → Int → Prop), ∀ (gdB125 : Nat → Int → Prop), ∀ (gdE126 : Nat → Int → Prop), ∀ (z127 : Int32), ∀ (z132 : Int32), ∀ (z135 : Int32), ∀ (z138 : Int32), (400 - z135.toInt < ((n221 : Nat) : Int)) → ((0 ≤ z127.toInt ∧ z127.toInt ≤ 20) ∧ (0 ≤ z132.toInt ∧ z132.toInt ≤ 400) ∧ (0 ≤ z135.toInt ∧ z135.toInt ≤ 400) ∧ (0 ≤ z138.toInt ∧ z138.toInt ≤ 400) ∧ (lwOK gS0124 gdB125 gdE126 z127.toNatClampNeg z132.toInt) ∧ (z135.toInt ≤ tn.toInt ∧ z132.toInt ≤ z135.toInt) ∧ (∀ c f : Int, lwR (kd (tx vt) N) (xn (tx vt) N) z127.toNatClampNeg (skp (tx vt) N z135.toNatClampNeg) c f → lwR (kd (tx vt) N) (xn (tx vt) N) 0 (skp (tx vt) N 0) c f)) → ∀ (H : Heap) (locs : List Loc), gH (dC, dI) kA (SHm q (wP wZ wN wH wB wC wL wK wU wV) PI im PM PT (lD gS0124 lS) (lD gdB125 lB) (lD gdE126 lE) lN) G H → gF (dC, dI) SKm G ([(0, 11), (0, 12), (0, 13), (0, 14), (0, 15), (0, 28), (20, 0), (21, 0), (22, 0), (23, 0), (24, 0), (25, 0), (26, 0), (27, 0), (28, 0)] : List (Nat × Nat)) s.heap H → va_S A s.heap H locs → ct H (q 10) 400 vt → el H o0 (dI 15 13) = some (.int tn) → el H o0 (dI 15 11) = some (.int 0) → el H o0 (dI 15 28) = some (.int z132) → el H o0 (dI 15 12) = some (.int z135) → el H o0 (dI 15 14) = some (.int z138) → ∀ ls : Array Slot, lv_has ls 2 [(1, .int z127), (0, .ref o0)] → W p l e (headSpec w_s_readLaw ({ frames := 29, cells := 0, slots := 0, locals := 598 })).room s m #[.ref o0] below meth c H locs 0 0 (MQ below (va_Qi (fun (r : Int32) (u : Int32 × Int32 × (Nat → Int → Prop) × (Nat → Int → Prop) × (Nat → Int → Prop)) => match u with | (t1, b1, S1, dB1, dE1) => (0 ≤ b1.toInt ∧ b1.toInt ≤ 400) ∧ (-1 ≤ r.toInt ∧ r.toInt ≤ 20) ∧ (t1.toInt = 0) ∧ (0 ≤ r.toInt → lwOK S1 dB1 dE1 r.toNatClampNeg 400) ∧ ((0 ≤ r.toInt ∧ laR (tx vt) N r.toInt (-1)) ∨ (r.toInt = -1 ∧ laR (tx vt) N (-1) ((b1.toNatClampNeg : Nat) : Int)))) (fun (u : Int32 × Int32 × (Nat → Int → Prop) × (Nat → Int → Prop) × (Nat → Int → Prop)) (t : State) => match u with | (t1, b1, S1, dB1, dE1) => gH (dC, dI) kA (SHm q (wP wZ wN wH wB wC wL wK wU wV) PI im PM PT (lD S1 lS) (lD dB1 lB) (lD dE1 lE) lN) G t.heap ∧ gF (dC, dI) SKm G ([(0, 11), (0, 12), (0, 13), (0, 14), (0, 15), (0, 28), (20, 0), (21, 0), (22, 0), (23, 0), (24, 0), (25, 0), (26, 0), (27, 0), (28, 0)] : List (Nat × Nat)) s.heap t.heap ∧ el t.heap o0 (dI 15 11) = some (.int t1) ∧ el t.heap o0 (dI 15 14) = some (.int b1)) A) #[.ref o0] s 0 0 A) (F0 m 42 ls []) := by
      intro n221
      induction n221 with
      | zero =>
        intro gS0124 gdB125 gdE126 z127 z132 z135 z138 hv221 ⟨h128, h133, h136, h139, hg141, hj142, hj143⟩ H locs hT hF hS m129 m130 m131 m134 m137 m140 ls hl
        exfalso; have q9 := (show z135.toInt = z135.toInt from rfl); omega
      | succ n221 ih221 =>
        intro gS0124 gdB125 gdE126 z127 z132 z135 z138 hv221 ⟨h128, h133, h136, h139, hg141, hj142, hj143⟩ H locs hT hF hS m129 m130 m131 m134 m137 m140 ls hl
        refine lv_aload_n hx hb dX12_readLaw_42 rfl (lv_at hl 1 rfl) ?_
        refine lv_iload_n hx hb dX12_readLaw_43 rfl (lv_at hl 0 rfl) ?_
        have hFc := gA_free hG hA hS
        refine va_calli (va_runV (As := [.int z127]) (rest := []) ⟨hx, hb, hml, hown, hts⟩ (s_readLine l dC dI kA adK adV G H q wZ wN wH wB wC wL wK wU wV PI im PM PT lS lB lE lN o0 z127 z135 tn z132 vt gS0124 gdB125 gdE126 N hT hr_o0 m137 m130 m134 (by have q8 := ti_all z135; omega) (by have q8 := ti_all tn; omega) (by have q8 := ti_all z132; omega) hN (by have q8 := ti_all z127; omega) (by have := (show z135.toInt = z135.toInt from rfl); have := (show tn.toInt = tn.toInt from rfl); omega) (by have := (show z132.toInt = z132.toInt from rfl); have := (show z135.toInt = z135.toInt from rfl); omega) hg141 m129 hgz hgn hgh hgb hgc hgi hgu) (cwV 1 hts (goodIn_app (goodIn_r _ [115, 116, 117, 11] rfl (by decide +kernel)) (goodIn_ca (goodIn_r _ [16, 17, 5, 6, 3, 2, 7, 8, 9, 10, 11, 12, 13, 14, 15, 18, 19, 20, 21, 22, 23, 24, 25, 26, 27, 28, 29, 30, 31, 32, 33, 34, 35, 36, 37, 38, 39, 40, 41, 42, 43, 44, 45, 46, 47, 48, 49, 50, 51, 52, 53, 54, 55, 56, 57, 58, 59, 60, 61, 62, 4, 63, 64, 65, 66, 67, 68, 69, 70, 71, 72, 73, 74, 75, 76, 77, 78, 79, 80, 81, 82, 83, 84, 85, 86, 87, 88, 89, 90, 91, 92, 93, 94, 95, 96, 97, 98, 99, 100, 101, 102, 103, 104, 105, 106, 107, 108, 109, 110, 111, 112, 113, 114] rfl (by decide +kernel)) (bs_in _ _))) rfl rfl rfl (by decide +kernel) ⟨(Nat.le_of_ble_eq_true rfl), (Nat.le_of_ble_eq_true rfl)⟩) ⟨fun a U g mk q => by obtain ⟨q0, q1, qK, qE⟩ := q; exact ⟨q0, q1, va_K.moved (u := U) (U := U.calling g mk a) (Vm.Alike.refl U.vm) qK, EVS.blind g mk a qE⟩, gH_recv hK hT hr_o0 shm_0 rfl, fun U hU hW => ⟨rfl, hU, va_K.moved hW.alike hK, hE.call hS hFc hU hW⟩⟩ rfl rfl hl.1 rfl (lv_room (Nat.le_of_ble_eq_true rfl)) dX12_readLaw_44 ⟨(Nat.le_of_ble_eq_true rfl), (Nat.le_of_ble_eq_true rfl)⟩) hS (fun q _ h => hFc q h) hFc (fun r222 u t H locs ht hvm hw223 hB _ _ hS => ?_)
        obtain ⟨u224, u225, u226, u227, u228, u229⟩ := u
        obtain ⟨hT, hF1, m230, m231, m232⟩ := hB
        rw [ht] at hT hF1 m230 m231 m232
        have m233 := m129.kept (hF1.arr hg1 skm_11 (by decide))
        have m234 := (hF1.fld hr_o0 skm_0 (k := 13) (by decide) (by decide)).trans m130
        have m235 := (hF1.fld hr_o0 skm_0 (k := 11) (by decide) (by decide)).trans m131
        have hF := hF.more hF1 (by decide)
        try dsimp only at hw223
        obtain ⟨h239, h240, h241, h242, hi243, hf244, hf245⟩ := hw223
        refine lv_if_ne (tgt := 52) hx hb dX12_readLaw_47 (by decide) (fun c246 => ?_) (fun c246 => ?_)
        · have t247 : r222.toInt ≠ 0 := ti_ne c246 rfl (by decide)
          have t248 : lwOK u227 u228 u229 (z127.toNatClampNeg + 1) u226.toInt ∧ z127.toInt < 20 := hi243 ((bit_of ⟨by omega, by omega⟩).resolve_left c246)
          refine lv_aload_n hx hb dX12_readLaw_52 rfl (lv_at hl 1 rfl) ?_
          have hFc := gA_free hG hA hS
          refine va_callv (va_runV (As := []) (rest := []) ⟨hx, hb, hml, hown, hts⟩ (s_blanks l dC dI kA adK adV G H q wZ wN wH wB wC wL wK wU wV PI im PM PT (lD u227 lS) (lD u228 lB) (lD u229 lE) lN o0 u224 tn vt N hT hr_o0 m230 m234 (by have q8 := ti_all u224; omega) (by have q8 := ti_all tn; omega) (by have := (show u224.toInt = u224.toInt from rfl); have := (show tn.toInt = tn.toInt from rfl); omega) hN m233 hgz hgn hgh hgb hgc hgi hgu) (cwV 0 hts (goodIn_app (goodIn_r _ [13, 14, 15, 11] rfl (by decide +kernel)) (goodIn_ca (goodIn_r _ [5, 6, 3, 2, 7, 8, 9, 10, 11, 12] rfl (by decide +kernel)) (bs_in _ _))) rfl rfl rfl (by decide +kernel) ⟨(Nat.le_of_ble_eq_true rfl), (Nat.le_of_ble_eq_true rfl)⟩) ⟨fun a U g mk q => by obtain ⟨q0, q1, qK, qE⟩ := q; exact ⟨q0, q1, va_K.moved (u := U) (U := U.calling g mk a) (Vm.Alike.refl U.vm) qK, EVS.blind g mk a qE⟩, gH_recv hK hT hr_o0 shm_0 rfl, fun U hU hW => ⟨rfl, hU, va_K.moved hW.alike hK, hE.call hS hFc hU hW⟩⟩ rfl rfl hl.1 rfl (lv_room (Nat.le_of_ble_eq_true rfl)) dX12_readLaw_53 ⟨(Nat.le_of_ble_eq_true rfl), (Nat.le_of_ble_eq_true rfl)⟩) hS (fun q _ h => hFc q h) hFc (fun u t H locs ht hvm hw250 hB _ _ hS => ?_)
          obtain ⟨u251, u252⟩ := u
          obtain ⟨hT, hF1, m253, m254⟩ := hB
          rw [ht] at hT hF1 m253 m254
          have m255 := m233.kept (hF1.arr hg1 skm_11 (by decide))
          have m256 := (hF1.fld hr_o0 skm_0 (k := 13) (by decide) (by decide)).trans m234
          have m257 := (hF1.fld hr_o0 skm_0 (k := 11) (by decide) (by decide)).trans m235
          have m260 := (hF1.fld hr_o0 skm_0 (k := 28) (by decide) (by decide)).trans m232
          have hF := hF.more hF1 (by decide)
          try dsimp only at hw250
          obtain ⟨h261, h262, hf263, hf264, hf265⟩ := hw250
          refine lv_aload_n hx hb dX12_readLaw_56 rfl (lv_at hl 1 rfl) ?_
          refine tw_getM (v := .int u251) hx hb hts bF_X12 hown hK hT hr_o0 shm_0 rfl 12 (by decide) (ht_at hts 2 rfl) (fun _ h9 => h9) m253 dX12_readLaw_57 ?_
          refine lv_aload_n hx hb dX12_readLaw_60 rfl (lv_at hl 1 rfl) ?_
          refine tw_getM (v := .int tn) hx hb hts bF_X12 hown hK hT hr_o0 shm_0 rfl 13 (by decide) (ht_at hts 1 rfl) (fun _ h9 => h9) m256 dX12_readLaw_61 ?_
          refine lv_icmp_ne (tgt := 71) hx hb dX12_readLaw_64 (by decide) (fun c266 => ?_) (fun c266 => ?_)
          · have t267 : u251.toInt ≠ tn.toInt := ti_ne c266 rfl rfl
            refine lv_aload_n hx hb dX12_readLaw_71 rfl (lv_at hl 1 rfl) ?_
            refine lv_bipush (v := 59) hx hb dX12_readLaw_72 (by decide) ?_
            refine lv_bipush (v := 59) hx hb dX12_readLaw_74 (by decide) ?_
            have hFc := gA_free hG hA hS
            refine va_calli (va_runV (As := [.int 59, .int 59]) (rest := []) ⟨hx, hb, hml, hown, hts⟩ (s_isAt l dC dI kA adK adV G H q wZ wN wH wB wC wL wK wU wV PI im PM PT (lD u227 lS) (lD u228 lB) (lD u229 lE) lN o0 59 59 u251 tn vt hT hr_o0 m253 m256 (by have q8 := ti_all u251; omega) (by have q8 := ti_all tn; omega) m255 hgz hgn hgh hgb hgc hgi hgu) (cwV 2 hts (goodIn_app (goodIn_r _ [8, 9, 10, 11] rfl (by decide +kernel)) (goodIn_ca (goodIn_r _ [6, 3, 2, 7] rfl (by decide +kernel)) (bs_in _ _))) rfl rfl rfl (by decide +kernel) ⟨(Nat.le_of_ble_eq_true rfl), (Nat.le_of_ble_eq_true rfl)⟩) ⟨fun a U g mk q => by obtain ⟨q0, q1, qK, qE⟩ := q; exact ⟨q0, q1, va_K.moved (u := U) (U := U.calling g mk a) (Vm.Alike.refl U.vm) qK, EVS.blind g mk a qE⟩, gH_recv hK hT hr_o0 shm_0 rfl, fun U hU hW => ⟨rfl, hU, va_K.moved hW.alike hK, hE.call hS hFc hU hW⟩⟩ rfl rfl hl.1 rfl (lv_room (Nat.le_of_ble_eq_true rfl)) dX12_readLaw_76 ⟨(Nat.le_of_ble_eq_true rfl), (Nat.le_of_ble_eq_true rfl)⟩) hS (fun q _ h => hFc q h) hFc (fun r268 u t H locs ht hvm hw269 hB _ _ hS => ?_)
            obtain ⟨hT, hF1⟩ := hB
            rw [ht] at hT hF1
            have m270 := m255.kept (hF1.arr hg1 skm_11 (by decide))
            have m271 := (hF1.fld hr_o0 skm_0 (k := 13) (by decide) (by decide)).trans m256
            have m272 := (hF1.fld hr_o0 skm_0 (k := 11) (by decide) (by decide)).trans m257
            have m273 := (hF1.fld hr_o0 skm_0 (k := 28) (by decide) (by decide)).trans m260
            have m274 := (hF1.fld hr_o0 skm_0 (k := 12) (by decide) (by decide)).trans m253
            have m275 := (hF1.fld hr_o0 skm_0 (k := 14) (by decide) (by decide)).trans m254
            have hF := hF.more hF1 (by decide)
            try dsimp only at hw269
            obtain ⟨h276, hi277, hf278⟩ := hw269
            have t279 : (59 : Int32).toInt = 59 := by decide
            have t280 : (59 : Int32).toInt = 59 := by decide
            refine lv_if_ne (tgt := 84) hx hb dX12_readLaw_79 (by decide) (fun c281 => ?_) (fun c281 => ?_)
            · have t282 : r268.toInt ≠ 0 := ti_ne c281 rfl (by decide)
              have t283 : u251.toInt < tn.toInt := hi277 ((bit_of ⟨by omega, by omega⟩).resolve_left c281)
              refine lv_aload_n hx hb dX12_readLaw_84 rfl (lv_at hl 1 rfl) ?_
              refine lv_dup hx hb dX12_readLaw_85 rfl ?_
              refine tw_getM (v := .int u251) hx hb hts bF_X12 hown hK hT hr_o0 shm_0 rfl 12 (by decide) (ht_at hts 2 rfl) (fun _ h9 => h9) m274 dX12_readLaw_86 ?_
              refine lv_iconst (v := 1) hx hb dX12_readLaw_89 (by decide) ?_
              refine lv_iadd hx hb dX12_readLaw_90 ?_
              refine lv_topi (fun x284 ex284 => ?_)
              have t285 : x284.toInt = u251.toInt + 1 := ti_add ex284 rfl (by decide) (by omega) (by omega)
              refine tw_put (v := .int x284) (ty := .int) hx hb hts bF_X12 tyX12 tyX12_ok nmX12 hown hK hT hG hS hr_o0 shm_0 rfl 12 (by decide) (ht_at hts 2 rfl) (fun _ h9 => h9) rfl (by decide +kernel) rfl rfl (gl_at rfl (gi_of (show x284.toInt = x284.toInt from rfl) (by omega) (by omega))) dX12_readLaw_91 (fun H locs hT oq m286 oj hS => ?_)
              have hF := hF.put hr_o0 skm_0 oq oj (by decide)
              have m287 := m270.kept (oq _ (gne hg1 hr_o0 (by decide)))
              have m288 := (oj 13 (by decide) (by decide)).trans m271
              have m289 := (oj 11 (by decide) (by decide)).trans m272
              have m290 := (oj 28 (by decide) (by decide)).trans m273
              have m291 := (oj 14 (by decide) (by decide)).trans m275
              obtain ⟨x292, ex292⟩ : ∃ y : Int32, y = z127 + 1 := ⟨_, rfl⟩
              have t293 : x292.toInt = z127.toInt + 1 := ti_add ex292 rfl (by decide) (by omega) (by omega)
              refine lv_iinc (v := x292) (lv' := [(1, .int x292), (0, .ref o0)]) hx hb dX12_readLaw_94 hl (k := 0) rfl (by first | (rw [ex292]; done) | (rw [ex292]; rfl)) (by decide) rfl (fun ls hl => ?_)
              refine lv_goto (tgt := 42) hx hb dX12_readLaw_97 (by decide) ?_
              exact ih221 u227 u228 u229 x292 u226 x284 u252 (by have q9 := (show x284.toInt = x284.toInt from rfl); omega) ⟨(by have q9 := (show x292.toInt = x292.toInt from rfl); (try have q8 := ti_all x292); omega), (by have q8 := ti_all u226; omega), (by have q8 := ti_all x284; omega), (by have q8 := ti_all u252; omega), (by rw [show x292.toNatClampNeg = z127.toNatClampNeg + 1 from by have q8 := tn_of (show x292.toInt = x292.toInt from rfl) (by omega); have q9 := tn_of (i := z127) rfl (by omega); omega]; exact (by assumption : lwOK _ _ _ _ _ ∧ _).1), (by have := (show x284.toInt = x284.toInt from rfl); have := (show u226.toInt = u226.toInt from rfl); have := (show tn.toInt = tn.toInt from rfl); omega), (by have := tn_of (show x284.toInt = x284.toInt from rfl) (by omega); have := tn_of (show u251.toInt = u251.toInt from rfl) (by omega); have := tn_of (show u252.toInt = u252.toInt from rfl) (by omega); have := tn_of (show tn.toInt = tn.toInt from rfl) (by omega); have := tn_of (show x292.toInt = x292.toInt from rfl) (by omega); have := tn_of (show z127.toInt = z127.toInt from rfl) (by omega); have l9 := ((hf245.resolve_left (fun h8 => by have := h8.2.1; omega)).2.resolve_right (fun h8 => by have := h8.1; omega)).2; have j9 := hf265; have t9 : tx vt u252.toNatClampNeg = 59 := (by rw [show u252.toNatClampNeg = u251.toNatClampNeg from by omega]; show (vt u251.toNatClampNeg).toInt = 59; omega); obtain ⟨k1, k2⟩ := sg_1 (t := (tx vt)) (n := N) (c := 59) (by unfold sgS; omega) (by omega) t9; have e9 : skp (tx vt) N x284.toNatClampNeg = xn (tx vt) N u252.toNatClampNeg := (by rw [show x284.toNatClampNeg = u252.toNatClampNeg + 1 from by omega, ← k2]; rfl); intro c f h9; rw [show x292.toNatClampNeg = z127.toNatClampNeg + 1 from by omega, e9, ← j9] at h9; rw [← j9] at k1; exact hj143 c f (lw_s1 (by omega) l9 (k1.trans (by decide)) h9))⟩ _ _ hT hF hS m287 m288 m289 m290 m286 m291 ls (lv_sub hl [0, 1] rfl)
            · have t294 : r268.toInt = 0 := ti_eq c281 rfl (by decide)
              refine lv_iconst (v := (-1)) hx hb dX12_readLaw_82 (by decide) ?_
              exact W.iret (v := (-1)) hx hb hr (fun t ht hW => ⟨⟨(-1), ((0 : Int32), u252, u227, u228, u229), rfl, (by exact ⟨(by have q8 := ti_all u252; omega), (rg_t (a := (-1)) (by decide) (by omega) (by omega)), (by have : (0 : Int32).toInt = 0 := (by decide); omega), (fun h9 => absurd h9 (by decide)), (Or.inr ⟨by decide, Or.inr ⟨hne9, hj143 _ _ (by have := tn_of (show u251.toInt = u251.toInt from rfl) (by omega); have := tn_of (show u252.toInt = u252.toInt from rfl) (by omega); have := tn_of (show tn.toInt = tn.toInt from rfl) (by omega); have := tn_of (show z127.toInt = z127.toInt from rfl) (by omega); have l9 := ((hf245.resolve_left (fun h8 => by have := h8.2.1; omega)).2.resolve_right (fun h8 => by have := h8.1; omega)).2; have j9 := hf265; have n9 : kd (tx vt) N u252.toNatClampNeg ≠ sgT 59 := sg_0 (by unfold sgS; omega) (fun h8 => by have h7 : (vt u252.toNatClampNeg).toInt = 59 := h8.2; rw [show u252.toNatClampNeg = u251.toNatClampNeg from by omega] at h7; omega); have m9 : kd (tx vt) N u252.toNatClampNeg ≠ 21 := (fun h8 => by have := kd_21 h8; omega); rw [← j9]; rw [← j9] at n9 m9; exact lw_w (by omega) l9 (fun h7 => n9 (h7.trans (by decide))) m9)⟩⟩)⟩), by (try dsimp only); rw [ht]; exact ⟨hT, hF, m272, m275⟩⟩, hS.F ht⟩) hS.2.2 dX12_readLaw_83
          · have t295 : u251.toInt = tn.toInt := ti_eq c266 rfl rfl
            refine lv_iload_n hx hb dX12_readLaw_67 rfl (lv_at hl 0 rfl) ?_
            refine lv_iconst (v := 1) hx hb dX12_readLaw_68 (by decide) ?_
            refine lv_iadd hx hb dX12_readLaw_69 ?_
            refine lv_topi (fun x296 ex296 => ?_)
            have t297 : x296.toInt = z127.toInt + 1 := ti_add ex296 rfl (by decide) (by omega) (by omega)
            exact W.iret (v := x296) hx hb hr (fun t ht hW => ⟨⟨x296, ((0 : Int32), u252, u227, u228, u229), rfl, (by exact ⟨(by have q8 := ti_all u252; omega), (by have q8 := ti_all x296; omega), (by have : (0 : Int32).toInt = 0 := (by decide); omega), (fun _ => by rw [show x296.toNatClampNeg = z127.toNatClampNeg + 1 from by have q8 := tn_of (show x296.toInt = x296.toInt from rfl) (by omega); have q9 := tn_of (i := z127) rfl (by omega); omega]; exact lw_v (by assumption : lwOK _ _ _ _ _ ∧ _).1 (by omega)), (Or.inl ⟨by omega, Or.inr ⟨hne9, hj143 _ _ (by have := tn_of (show u251.toInt = u251.toInt from rfl) (by omega); have := tn_of (show u252.toInt = u252.toInt from rfl) (by omega); have := tn_of (show tn.toInt = tn.toInt from rfl) (by omega); have := tn_of (show z127.toInt = z127.toInt from rfl) (by omega); have l9 := ((hf245.resolve_left (fun h8 => by have := h8.2.1; omega)).2.resolve_right (fun h8 => by have := h8.1; omega)).2; have j9 := hf265; have := tn_of (show x296.toInt = x296.toInt from rfl) (by omega); have e9 : kd (tx vt) N u252.toNatClampNeg = 21 := kd_e (by omega); rw [← j9] at e9; exact lw_e (by omega) l9 e9 (by omega))⟩⟩)⟩), by (try dsimp only); rw [ht]; exact ⟨hT, hF, m257, m254⟩⟩, hS.F ht⟩) hS.2.2 dX12_readLaw_70
        · have t298 : r222.toInt = 0 := ti_eq c246 rfl (by decide)
          refine lv_iconst (v := (-1)) hx hb dX12_readLaw_50 (by decide) ?_
          exact W.iret (v := (-1)) hx hb hr (fun t ht hW => ⟨⟨(-1), ((0 : Int32), u225, u227, u228, u229), rfl, (by exact ⟨(by have q8 := ti_all u225; omega), (rg_t (a := (-1)) (by decide) (by omega) (by omega)), (by have : (0 : Int32).toInt = 0 := (by decide); omega), (fun h9 => absurd h9 (by decide)), (Or.inr ⟨by decide, Or.inr ⟨hne9, hj143 _ _ (by have := tn_of (show z127.toInt = z127.toInt from rfl) (by omega); have := tn_of (show u225.toInt = u225.toInt from rfl) (by omega); rcases hf245 with ⟨y1, y2, y3⟩ | ⟨y1, y2⟩; (rw [← y3]; exact lw_20 (by omega)); exact lw_n (by omega) (y2.resolve_left (fun h8 => by have := h8.1; omega)).2)⟩⟩)⟩), by (try dsimp only); rw [ht]; exact ⟨hT, hF, m235, m231⟩⟩, hS.F ht⟩) hS.2.2 dX12_readLaw_51
    have hT : gH (dC, dI) kA (SHm q (wP wZ wN wH wB wC wL wK wU wV) PI im PM PT (lD (fun _ _ => True) lS) (lD (fun _ _ => True) lB) (lD (fun _ _ => True) lE) lN) G H := SHm_mono hT (fun _ _ _ z => z) (fun _ _ _ z => z) (fun _ _ z => z) (fun _ _ z => z) (fun l i _ x q => lD_in _ (fun _ _ => trivial) l i x q) (fun l i _ x q => lD_in _ (fun _ _ => trivial) l i x q) (fun l i _ x q => lD_in _ (fun _ _ => trivial) l i x q) (fun _ => Int.le_refl _)
    exact key221 401 (fun _ _ => True) (fun _ _ => True) (fun _ _ => True) 0 0 u19 u20 (by have q9 := (show u19.toInt = u19.toInt from rfl); omega) ⟨(by have q9 := (show (0 : Int32).toInt = 0 from (by decide)); (try have q8 := ti_all (0 : Int32)); omega), (rg_t (a := 0) (by decide) (by omega) (by omega)), (by have q8 := ti_all u19; omega), (by have q8 := ti_all u20; omega), (by rw [show ((0 : Int32)).toNatClampNeg = 0 from by decide, show ((0 : Int32)).toInt = 0 from by decide]; exact lw_0 _ _), (by have := (show u19.toInt = u19.toInt from rfl); have := (show (0 : Int32).toInt = 0 from (by decide)); have := (show tn.toInt = tn.toInt from rfl); omega), (fun c f h9 => by have z0 : (0 : Int32).toNatClampNeg = 0 := (by decide); rw [hs9, z0] at h9; exact h9)⟩ _ _ hT hF hS m23 m24 m25 m27 m21 m22 ls (lv_sub hl [0, 1] rfl)
  · have t299 : u19.toInt = tn.toInt := ti_eq c34 rfl rfl
    refine lv_iconst (v := 0) hx hb dX12_readLaw_38 (by decide) ?_
    have hT : gH (dC, dI) kA (SHm q (wP wZ wN wH wB wC wL wK wU wV) PI im PM PT (lD (fun _ _ => True) lS) (lD (fun _ _ => True) lB) (lD (fun _ _ => True) lE) lN) G H := SHm_mono hT (fun _ _ _ z => z) (fun _ _ _ z => z) (fun _ _ z => z) (fun _ _ z => z) (fun l i _ x q => lD_in _ (fun _ _ => trivial) l i x q) (fun l i _ x q => lD_in _ (fun _ _ => trivial) l i x q) (fun l i _ x q => lD_in _ (fun _ _ => trivial) l i x q) (fun _ => Int.le_refl _)
    exact W.iret (v := 0) hx hb hr (fun t ht hW => ⟨⟨0, ((0 : Int32), u20, (fun _ _ => True), (fun _ _ => True), (fun _ _ => True)), rfl, (by exact ⟨(by have q8 := ti_all u20; omega), (rg_t (a := 0) (by decide) (by omega) (by omega)), (by have : (0 : Int32).toInt = 0 := (by decide); omega), (fun _ => by rw [show ((0 : Int32)).toNatClampNeg = 0 from by decide]; exact lw_v (lw_0 _ _) (by decide)), (Or.inl ⟨by decide, by have z0 : (0 : Int32).toNatClampNeg = 0 := (by decide); have := tn_of (show u19.toInt = u19.toInt from rfl) (by omega); have := tn_of (show tn.toInt = tn.toInt from rfl) (by omega); have j9 := hf31; rw [z0] at j9; exact Or.inl ⟨by rw [j9]; omega, by decide, rfl⟩⟩)⟩), by (try dsimp only); rw [ht]; exact ⟨hT, hF, m25, m22⟩⟩, hS.F ht⟩) hS.2.2 dX12_readLaw_39
