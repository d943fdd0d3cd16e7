def w_l_proposeZ : List Cond := .codeWith yL_propose cL_propose 3 (some .int) [(0, 8, 11, 15), (0, 8, 14, 17)] :: (HAppend.hAppend (α := List Cond) (β := List Cond) (γ := List Cond) [.code yX11_propose cX11_propose 1 (some .int), .fieldLink RX11 30 "SeaLand" "board" "LSeaLand$Board;", .fieldLink RX11 9 "SeaLand" "tape" "[I", .fieldLink RX11 47 "SeaLand" "taped" "I", .code yX4_read cX4_read 4 (some .int), .methodLink RX4 46 Lib.Math.min.name, .static Lib.Math.min.name, .initialized "java/lang/Math", .code Lib.Math.min.name Lib.Math.min.code 2 (some .int), .code yX4_scan cX4_scan 6 none, .fieldLink RX4 11 "SeaLand$Law" "things" "[I", .fieldLink RX4 15 "SeaLand$Law" "begins" "[I", .code yX4_thingEnd cX4_thingEnd 6 (some .int), .code yX4_isLetter cX4_isLetter 1 (some .boolean), .methodLink RX4 81 yX4_isLetter, .static yX4_isLetter, .initialized RX4, .code yX4_isDigit cX4_isDigit 1 (some .boolean), .methodLink RX4 84 yX4_isDigit, .static yX4_isDigit, .methodLink RX4 74 yX4_thingEnd, .static yX4_thingEnd, .code yX4_thingAt cX4_thingAt 3 (some .int), .code yX4_signThing cX4_signThing 1 (some .int), .methodLink RX4 93 yX4_signThing, .static yX4_signThing, .code yX4_numberThing cX4_numberThing 5 (some .int), .methodLink RX4 90 yX4_numberThing, .static yX4_numberThing, .code yX4_wordThing cX4_wordThing 4 (some .int), .code yX4_factThing cX4_factThing 3 (some .int), .code yX4_wordIs cX4_wordIs 5 (some .boolean), .code yJ0_length_8abf5 cJ0_length_8abf5 1 (some .int), .fieldLink RJ0 9 "java/lang/String" "value" "[B", .code yJ0_coder_7d493 cJ0_coder_7d493 1 (some .byte), .fieldLink RJ0 38 "java/lang/String" "COMPACT_STRINGS" "Z", .fieldLink RJ0 15 "java/lang/String" "coder" "B", .methodLink RJ0 335 yJ0_coder_7d493, .instanceMethod yJ0_coder_7d493, .selects RJ0 yJ0_coder_7d493 yJ0_coder_7d493, .initialized RJ0, .methodLink RX4 155 yJ0_length_8abf5, .instanceMethod yJ0_length_8abf5, .selects RJ0 yJ0_length_8abf5 yJ0_length_8abf5, .code yJ0_charAt_5068e cJ0_charAt_5068e 2 (some .char), .code yJ0_isLatin1_aae02 cJ0_isLatin1_aae02 1 (some .boolean), .methodLink RJ0 492 yJ0_isLatin1_aae02, .instanceMethod yJ0_isLatin1_aae02, .selects RJ0 yJ0_isLatin1_aae02 yJ0_isLatin1_aae02, .code yJ1_charAt_3b067 cJ1_charAt_3b067 2 (some .char), .code yJ0_checkIndex_df160 cJ0_checkIndex_df160 2 none, .fieldLink RJ0 1053 "jdk/internal/util/Preconditions" "SIOOBE_FORMATTER" "Ljava/util/function/BiFunction;", .code yJ3_checkIndex_8e157 cJ3_checkIndex_8e157 3 (some .int), .methodLink RJ0 1059 yJ3_checkIndex_8e157, .static yJ3_checkIndex_8e157, .initialized RJ3, .methodLink RJ1 9 yJ0_checkIndex_df160, .static yJ0_checkIndex_df160, .methodLink RJ0 495 yJ1_charAt_3b067, .static yJ1_charAt_3b067, .initialized RJ1, .methodLink RX4 161 yJ0_charAt_5068e, .instanceMethod yJ0_charAt_5068e, .selects RJ0 yJ0_charAt_5068e yJ0_charAt_5068e, .methodLink RX4 105 yX4_wordIs, .static yX4_wordIs, .methodLink RX4 97 yX4_factThing, .static yX4_factThing, .code yX4_lineThing cX4_lineThing 4 (some .int), .methodLink RX4 100 yX4_lineThing, .static yX4_lineThing, .methodLink RX4 87 yX4_wordThing, .static yX4_wordThing, .methodLink RX4 78 yX4_thingAt, .static yX4_thingAt, .methodLink RX4 52 yX4_scan, .instanceMethod yX4_scan, .selects RX4 yX4_scan yX4_scan, .fieldLink RX4 56 "SeaLand$Law" "at" "I", .fieldLink RX4 60 "SeaLand$Law" "lines" "I", .fieldLink RX4 63 "SeaLand$Law" "stepped" "I", .code yX4_readLine cX4_readLine 3 (some .boolean), .code yX4_lineKind cX4_lineKind 1 (some .int), .methodLink RX4 165 yX4_lineKind, .static yX4_lineKind, .fieldLink RX4 18 "SeaLand$Law" "kinds" "[I", .fieldLink RX4 33 "SeaLand$Law" "stepFrom" "[I", .code yX4_take cX4_take 2 (some .boolean), .methodLink RX4 70 yX4_take, .instanceMethod yX4_take, .selects RX4 yX4_take yX4_take, .fieldLink RX4 36 "SeaLand$Law" "stepTo" "[I", .code yX4_readAny cX4_readAny 4 (some .boolean), .code yX4_readAll cX4_readAll 4 (some .boolean), .code yX4_readAtom cX4_readAtom 4 (some .boolean), .code yX4_readComparison cX4_readComparison 3 (some .boolean), .code yX4_readSum cX4_readSum 3 (some .boolean), .code yX4_readPart cX4_readPart 2 (some .boolean), .code yX4_addStep cX4_addStep 2 none, .fieldLink RX4 39 "SeaLand$Law" "steps" "[I", .methodLink RX4 179 yX4_addStep, .instanceMethod yX4_addStep, .selects RX4 yX4_addStep yX4_addStep, .methodLink RX4 192 yX4_readPart, .instanceMethod yX4_readPart, .selects RX4 yX4_readPart yX4_readPart, .methodLink RX4 189 yX4_readSum, .instanceMethod yX4_readSum, .selects RX4 yX4_readSum yX4_readSum, .methodLink RX4 186 yX4_readComparison, .instanceMethod yX4_readComparison, .selects RX4 yX4_readComparison yX4_readComparison, .methodLink RX4 183 yX4_readAtom, .instanceMethod yX4_readAtom, .selects RX4 yX4_readAtom yX4_readAtom, .methodLink RX4 176 yX4_readAll, .instanceMethod yX4_readAll, .selects RX4 yX4_readAll yX4_readAll, .methodLink RX4 173 yX4_readAny, .instanceMethod yX4_readAny, .selects RX4 yX4_readAny yX4_readAny, .fieldLink RX4 21 "SeaLand$Law" "firsts" "[I", .code yX4_takeNumber cX4_takeNumber 4 (some .boolean), .methodLink RX4 168 yX4_takeNumber, .instanceMethod yX4_takeNumber, .selects RX4 yX4_takeNumber yX4_takeNumber, .fieldLink RX4 24 "SeaLand$Law" "seconds" "[I", .fieldLink RX4 27 "SeaLand$Law" "froms" "[I", .fieldLink RX4 30 "SeaLand$Law" "tos" "[I", .constant RX4 172 99999, .methodLink RX4 66 yX4_readLine, .instanceMethod yX4_readLine, .selects RX4 yX4_readLine yX4_readLine, .methodLink RX11 266 yX4_read, .instanceMethod yX4_read, .selects RX4 yX4_read yX4_read, .code yX11_needNumbers cX11_needNumbers 1 none, .classLink RX11 547 "java/lang/IllegalArgumentException", .initialized "java/lang/IllegalArgumentException", .methodLink RX11 62 yX11_needNumbers, .static yX11_needNumbers, .initialized RX11, .code yX0_proposeSpare cX0_proposeSpare 3 (some .int), .fieldLink RX0 45 "SeaLand$Board" "proposed" "LSeaLand$Law;", .fieldLink RX0 48 "SeaLand$Board" "spare" "LSeaLand$Law;", .fieldLink RX0 64 "SeaLand$Board" "voting" "Z", .fieldLink RX0 68 "SeaLand$Board" "yesVotes" "J", .fieldLink RX0 72 "SeaLand$Board" "allVotes" "J", .fieldLink RX0 75 "SeaLand$Board" "settled" "I", .fieldLink RX0 11 "SeaLand$Board" "settlers" "[LSeaLand$Settler;", .methodLink RX11 289 yX0_proposeSpare, .instanceMethod yX0_proposeSpare, .selects RX0 yX0_proposeSpare yX0_proposeSpare, .initialized RX0, .classLink RX11 69 "java/lang/IllegalStateException", .initialized "java/lang/IllegalStateException", .methodLink RL 87 yX11_propose, .instanceMethod yX11_propose, .selects RX11 yX11_propose yX11_propose, .classLink RL 15 "java/lang/IllegalArgumentException", .classLink RL 17 "java/lang/IllegalStateException"] bs2)
set_option maxHeartbeats 4000000 in
set_option maxRecDepth 100000 in
theorem l_proposeZ (l : Launch) (hlt : l.stackTraces = false) (dC : Nat → ClassId) (dI : Nat → Nat → Nat) (kA : Nat → ClassId) (adK adV : Nat → Nat) (G : gT) (H0 : Heap) (nC nS : Int) (o0 : Nat) (ou : Nat) (bd : Nat) (tn : Int32) (ta : Nat) (sp : Nat) (po : Nat) (vo : Int32) (yv : Int64) (dv9 : Int64) (sd9 : Int32) (kn9 : Nat) (sf9 : Nat) (st9 : Nat) (sp9 : Nat) (vc : Nat → Int32) (vK : Nat → Int32) (vF : Nat → Int32) (vE : Nat → Int32) (vS : Nat → Int32) (N : Nat) (fv : Int32) (hT : gH (dC, dI) kA (SHc nC nS) G H0) (hr_o0 : G o0 = some 167) (hr_ou : G ou = some 98) (hm_bd : el H0 o0 (dI 14 3) = some (.ref bd)) (hr_bd : G bd = some 166) (hm_tn : el H0 o0 (dI 14 7) = some (.int tn)) (hm_ta : el H0 o0 (dI 14 0) = some (.ref ta)) (hr_ta : G ta = some 16) (hm_sp : el H0 bd (dI 3 9) = some (.ref sp)) (hr_sp : G sp = some 152) (hm_po : el H0 bd (dI 3 8) = some (.ref po)) (hr_po : G po = some 140) (hm_vo : el H0 bd (dI 3 11) = some (.int vo)) (hm_yv : el H0 bd (dI 3 12) = some (.long yv)) (hm_dv9 : el H0 bd (dI 3 13) = some (.long dv9)) (hm_sd9 : el H0 bd (dI 3 14) = some (.int sd9)) (hm_kn9 : el H0 sp (dI 7 2) = some (.ref kn9)) (hr_kn9 : G kn9 = some 155) (hm_sf9 : el H0 sp (dI 7 7) = some (.ref sf9)) (hr_sf9 : G sf9 = some 160) (hm_st9 : el H0 sp (dI 7 8) = some (.ref st9)) (hr_st9 : G st9 = some 161) (hm_sp9 : el H0 sp (dI 7 9) = some (.ref sp9)) (hr_sp9 : G sp9 = some 162) (hq0 : 0 ≤ tn.toInt ∧ tn.toInt ≤ 400) (hq1 : 0 ≤ vo.toInt ∧ vo.toInt ≤ 1) (hq2 : 0 ≤ sd9.toInt ∧ sd9.toInt ≤ 60) (hc_vc : ct H0 ta 400 vc) (hc_vK : ct H0 kn9 20 vK) (hc_vF : ct H0 sf9 20 vF) (hc_vE : ct H0 st9 20 vE) (hc_vS : ct H0 sp9 400 vS) (hN : tn.toInt = ((N : Nat) : Int)) (hfv : fv = Int32.ofInt (laE (tc vc) N).2) (hsd : sd9.toInt = nS) (hgC : 0 ≤ nC ∧ nC ≤ 40) (hgS : 0 ≤ nS ∧ nS ≤ 60) : Met l yL_propose w_l_proposeZ ({ frames := 28, cells := 1, slots := 6, locals := 634 }) (va_Pc [.ref o0, .ref ou] (fun U => U.heap = H0 ∧ va_K (dC, dI) vwCl (tyl kA) U ∧ EVC adK adV (gA G H0.size) U U.heap ∧ NC U)) (va_Qi (fun (r : Int32) (u : Int32 × Int32 × Int32 × Nat × Nat × Int64 × Int64) => match u with | (f1, t1, v1, po1, sp1, y1, d1) => (0 ≤ r.toInt ∧ r.toInt ≤ 2) ∧ (f1.toInt = fv.toInt ∧ t1.toInt = 0) ∧ ((r.toInt = 0 ∧ (laE (tc vc) N).2 = -1 ∧ vo.toInt = 0 ∧ v1.toInt = 1 ∧ po1 = sp ∧ sp1 = po ∧ y1.toInt = 0 ∧ d1.toInt = 0) ∨ (r.toInt ≠ 0 ∧ ((laE (tc vc) N).2 ≠ -1 ∨ vo.toInt = 1) ∧ v1.toInt = vo.toInt ∧ po1 = po ∧ sp1 = sp ∧ y1 = yv ∧ d1 = dv9))) (fun (u : Int32 × Int32 × Int32 × Nat × Nat × Int64 × Int64) (t : State) => match u with | (f1, t1, v1, po1, sp1, y1, d1) => gH (dC, dI) kA (SHc nC nS) G t.heap ∧ gF (dC, dI) SKc G ([(10, 11), (98, 0), (152, 11), (152, 12), (152, 13), (153, 0), (154, 0), (155, 0), (156, 0), (157, 0), (158, 0), (159, 0), (160, 0), (161, 0), (162, 0), (166, 8), (166, 9), (166, 10), (166, 11), (166, 12), (166, 13), (167, 7)] : List (Nat × Nat)) H0 t.heap ∧ el t.heap bd (dI 3 10) = some (.int f1) ∧ el t.heap o0 (dI 14 7) = some (.int t1) ∧ el t.heap bd (dI 3 11) = some (.int v1) ∧ el t.heap bd (dI 3 8) = some (.ref po1) ∧ el t.heap bd (dI 3 9) = some (.ref sp1) ∧ el t.heap bd (dI 3 12) = some (.long y1) ∧ el t.heap bd (dI 3 13) = some (.long d1)) (gA G H0.size)) 1 6 (gA G H0.size) := by
  refine va_MetW (cc := cL_propose) (maxL := 3) (ret := (some .int)) (by decide) rfl ?_
  intro p e s m args below meth c s₁ B hml hv
  have hNt := hN
  obtain ⟨rfl, hH0, hK, hE, hN⟩ := hv
  have hx := B.exec
  have hb := B.bytes
  have hr := B.returns
  have hts := atoms_spec (ws := w_l_proposeZ) B.pre
  have hown : s.vm.findClass RL = some m.cls := findClass_of_methodNamed B.named
  have hlocks := B.notSynchronized
  have htab := vx_table (x := yL_propose) B (hts _ List.mem_cons_self)
  subst hH0
  generalize hAe : gA G s.heap.size = A at hE ⊢
  have hA : ∀ q : Nat, s.heap.size ≤ q → A q := fun q h => by rw [← hAe]; exact Or.inr h
  have hG := gA_of hAe
  have hS : va_S A s.heap s.heap [] := va_S.rf
  have hF : gF (dC, dI) SKc G ([(10, 11), (98, 0), (152, 11), (152, 12), (152, 13), (153, 0), (154, 0), (155, 0), (156, 0), (157, 0), (158, 0), (159, 0), (160, 0), (161, 0), (162, 0), (166, 8), (166, 9), (166, 10), (166, 11), (166, 12), (166, 13), (167, 7)] : List (Nat × Nat)) s.heap s.heap := gF.rf
  have hl := lv_entry ([.ref o0, .ref ou]) (n := 3) (Nat.le_of_ble_eq_true rfl)
  rw [lg_entry_eq]
  generalize (lg_sl ([.ref o0, .ref ou]) ++ List.replicate (3 - (lg_sl ([.ref o0, .ref ou])).length) Slot.unset).toArray = ls at hl ⊢
  have hl : lv_has ls 3 [(0, .ref o0), (1, .ref ou)] := hl
  refine lv_aload_n hx hb dL_propose_0 rfl (lv_at hl 1 rfl) ?_
  refine lv_iconst (v := 0) hx hb dL_propose_1 (by decide) ?_
  refine lv_aload_n hx hb dL_propose_2 rfl (lv_at hl 0 rfl) ?_
  have hFc := gA_free hG hA hS
  refine vx_calli (vx_runV (As := []) (rest := [.int 0, .ref ou]) ⟨hx, hb, hml, hown, hts⟩ (c_proposeZ l hlt dC dI kA adK adV G s.heap nC nS o0 bd tn ta sp po vo yv dv9 sd9 kn9 sf9 st9 sp9 vc vK vF vE vS N fv hT hr_o0 hm_bd hr_bd hm_tn hm_ta hr_ta hm_sp hr_sp hm_po hr_po hm_vo hm_yv hm_dv9 hm_sd9 hm_kn9 hr_kn9 hm_sf9 hr_sf9 hm_st9 hr_st9 hm_sp9 hr_sp9 (by have q8 := ti_all tn; omega) (by have q8 := ti_all vo; omega) (by have q8 := ti_all sd9; omega) hsd hNt hfv hc_vc hc_vK hc_vF hc_vE hc_vS (by omega) (by omega)) (cwV 0 hts (goodIn_app (goodIn_r _ [157, 158, 159, 142] rfl (by decide +kernel)) (goodIn_ca (goodIn_r _ [1, 2, 3, 4, 5, 6, 7, 8, 9, 10, 11, 12, 13, 14, 15, 16, 17, 18, 19, 20, 21, 22, 23, 24, 25, 26, 27, 28, 29, 30, 31, 32, 33, 34, 35, 36, 37, 38, 39, 40, 41, 42, 43, 44, 45, 46, 47, 48, 49, 50, 51, 52, 53, 54, 55, 56, 57, 58, 59, 60, 61, 62, 63, 64, 65, 66, 67, 68, 69, 70, 71, 72, 73, 74, 75, 76, 77, 78, 79, 80, 81, 82, 83, 84, 85, 86, 87, 88, 89, 90, 91, 92, 93, 94, 95, 96, 97, 98, 99, 100, 101, 102, 103, 104, 105, 106, 107, 108, 109, 110, 111, 112, 113, 114, 115, 116, 117, 118, 119, 120, 121, 122, 123, 124, 125, 126, 127, 128, 129, 130, 131, 132, 133, 134, 135, 136, 137, 138, 139, 140, 141, 142, 143, 144, 145, 146, 147, 148, 149, 150, 151, 152, 153, 154, 155, 156] rfl (by decide +kernel)) (bs2_in _ _))) rfl rfl rfl (by decide +kernel) ⟨(Nat.le_of_ble_eq_true rfl), (Nat.le_of_ble_eq_true rfl)⟩) ⟨fun a U g mk q => by obtain ⟨q0, q1, qK, qE⟩ := q; exact ⟨q0, q1, va_K.moved (u := U) (U := U.calling g mk a) (Vm.Alike.refl U.vm) qK, EVC.blind g mk a qE⟩, gH_rc hK hT hr_o0 shc_167 rfl, fun U hU hW => ⟨rfl, hU, va_K.moved hW.alike hK, hE.call hS hFc hU hW⟩⟩ rfl rfl hl.1 rfl (lv_room (Nat.le_of_ble_eq_true rfl)) dL_propose_3 ⟨(Nat.le_of_ble_eq_true rfl), (Nat.le_of_ble_eq_true rfl)⟩) hS (fun q _ h => hFc q h) hFc (fun q _ h => hFc q h) (fun E ce q9 u t H locs ht hvm _ hw2 _ _ hS hce hcv hcl => ?_) (fun r1 u t H locs ht hvm hw2 hB _ _ hS => ?_)
  · obtain ⟨hw2, hxf, hTx, hFx, hxm0, hxm1, hxm2, hxm3, hxm4, hxm5, hxm6⟩ := hw2; rw [ht] at hTx hFx hxm0 hxm1 hxm2 hxm3 hxm4 hxm5 hxm6
    have hT := hTx; have hF := hF.more hFx (by decide)
    rcases hw2 with rfl | rfl
    · have hxf := (hxf.resolve_right (fun h => absurd h.1 (by decide))).2
      refine vx_catch (E := "java/lang/IllegalArgumentException") hown [] ⟨0, 8, 11, 15⟩ [⟨0, 8, 14, 17⟩] (by rw [htab]; rfl) (fun z h => absurd h List.not_mem_nil) (by decide) (by decide) (ht_at2 hts 159 rfl) (va_Nw.use rfl (hE.1.1.2.1.2.1 _ (List.mem_of_getElem? (i := 1) rfl))) hce hcv hcl ?_
      refine lv_astore_n (lv' := [(2, .ref q9), (0, .ref o0), (1, .ref ou)]) hx hb dL_propose_11 rfl hl (by decide) rfl (fun ls hl => ?_)
      refine lv_iconst (v := 1) hx hb dL_propose_12 (by decide) ?_
      exact W.iret (v := 1) hx hb hr (fun t ht hW => ⟨⟨1, (fv, (0 : Int32), vo, po, sp, yv, dv9), rfl, (by exact ⟨(by have : (0 : Int32).toInt = 0 := (by decide); have : (1 : Int32).toInt = 1 := (by decide); exact ⟨by omega, by omega⟩), (by have : (0 : Int32).toInt = 0 := (by decide); have : (1 : Int32).toInt = 1 := (by decide); exact ⟨by omega, by omega⟩), (by have : (0 : Int32).toInt = 0 := (by decide); have : (1 : Int32).toInt = 1 := (by decide); exact Or.inr ⟨by omega, by omega, by omega, rfl, rfl, rfl, rfl⟩)⟩), by (try dsimp only); rw [ht]; exact ⟨hT, hF, hxm0, hxm1, hxm2, hxm5, hxm6, hxm3, hxm4⟩⟩, hS.F ht⟩) hS.2.2 dL_propose_13
    · have hxf := (hxf.resolve_left (fun h => absurd h.1 (by decide))).2
      refine vx_catch (E := "java/lang/IllegalStateException") hown [⟨0, 8, 11, 15⟩] ⟨0, 8, 14, 17⟩ [] (by rw [htab]; rfl) (fun z h => by
          simp only [List.mem_cons, List.not_mem_nil, or_false] at h
          rcases h with rfl
          · exact Or.inr ⟨by decide, "java/lang/IllegalArgumentException", (ht_at2 hts 159 rfl), hN ("java/lang/IllegalStateException", "java/lang/IllegalArgumentException") (by decide +kernel)⟩) (by decide) (by decide) (ht_at2 hts 160 rfl) (va_Nw.use rfl (hE.1.1.2.1.2.1 _ (List.mem_of_getElem? (i := 3) rfl))) hce hcv hcl ?_
      refine lv_astore_n (lv' := [(2, .ref q9), (0, .ref o0), (1, .ref ou)]) hx hb dL_propose_14 rfl hl (by decide) rfl (fun ls hl => ?_)
      refine lv_iconst (v := 2) hx hb dL_propose_15 (by decide) ?_
      exact W.iret (v := 2) hx hb hr (fun t ht hW => ⟨⟨2, (fv, (0 : Int32), vo, po, sp, yv, dv9), rfl, (by exact ⟨(by have : (0 : Int32).toInt = 0 := (by decide); have : (2 : Int32).toInt = 2 := (by decide); exact ⟨by omega, by omega⟩), (by have : (0 : Int32).toInt = 0 := (by decide); have : (2 : Int32).toInt = 2 := (by decide); exact ⟨by omega, by omega⟩), (by have : (0 : Int32).toInt = 0 := (by decide); have : (2 : Int32).toInt = 2 := (by decide); exact Or.inr ⟨by omega, by omega, by omega, rfl, rfl, rfl, rfl⟩)⟩), by (try dsimp only); rw [ht]; exact ⟨hT, hF, hxm0, hxm1, hxm2, hxm5, hxm6, hxm3, hxm4⟩⟩, hS.F ht⟩) hS.2.2 dL_propose_16
  · obtain ⟨u3, u4, u5⟩ := u
    obtain ⟨hT, hF1, m6, m7, m8, m9, m10, m11, m12⟩ := hB
    rw [ht] at hT hF1 m6 m7 m8 m9 m10 m11 m12
    have hF := hF.more hF1 (by decide)
    try dsimp only at hw2
    obtain ⟨h31, hf32⟩ := hw2
    refine lv_i2l (v := r1.toInt64) hx hb dL_propose_6 rfl ?_
    refine tw_last (i := 0)  hx hb hK hT hG hS hr_ou shc_98 rfl (by unfold vp_in; decide) ⟨_, rfl⟩ dL_propose_7 (fun H locs hT oq m33 oi hS => ?_)
    have hF := hF.ast hr_ou skc_98 oq (by decide)
    have m42 := (el_kept (oq _ (gne hr_bd hr_ou (by decide)))).trans m6
    have m43 := (el_kept (oq _ (gne hr_o0 hr_ou (by decide)))).trans m7
    have m44 := (el_kept (oq _ (gne hr_bd hr_ou (by decide)))).trans m8
    have m45 := (el_kept (oq _ (gne hr_bd hr_ou (by decide)))).trans m9
    have m46 := (el_kept (oq _ (gne hr_bd hr_ou (by decide)))).trans m10
    have m47 := (el_kept (oq _ (gne hr_bd hr_ou (by decide)))).trans m11
    have m48 := (el_kept (oq _ (gne hr_bd hr_ou (by decide)))).trans m12
    refine lv_goto (tgt := 17) hx hb dL_propose_8 (by decide) ?_
    refine lv_iconst (v := 0) hx hb dL_propose_17 (by decide) ?_
    exact W.iret (v := 0) hx hb hr (fun t ht hW => ⟨⟨0, (u3, u4, u5, sp, po, (0 : Int64), (0 : Int64)), rfl, (by exact ⟨(by have : (0 : Int32).toInt = 0 := (by decide); exact ⟨by omega, by omega⟩), (by have : (0 : Int32).toInt = 0 := (by decide); exact ⟨by omega, by omega⟩), (by have : (0 : Int32).toInt = 0 := (by decide); exact Or.inl ⟨by omega, by omega, by omega, by omega, rfl, rfl, by decide, by decide⟩)⟩), by (try dsimp only); rw [ht]; exact ⟨hT, hF, m42, m43, m44, m45, m46, m47, m48⟩⟩, hS.F ht⟩) hS.2.2 dL_propose_18
def w_l_closeZN : List Cond := .codeWith yL_close cL_close 3 (some .int) [(0, 15, 18, 17)] :: (HAppend.hAppend (α := List Cond) (β := List Cond) (γ := List Cond) [.code yX11_close cX11_close 1 (some .boolean), .code yX11_needVote cX11_needVote 1 none, .fieldLink RX11 30 "SeaLand" "board" "LSeaLand$Board;", .classLink RX11 69 "java/lang/IllegalStateException", .initialized "java/lang/IllegalStateException", .methodLink RX11 296 yX11_needVote, .instanceMethod yX11_needVote, .selects RX11 yX11_needVote yX11_needVote, .initialized RX11, .code yX0_closeVote cX0_closeVote 3 (some .boolean), .fieldLink RX0 68 "SeaLand$Board" "yesVotes" "J", .constantLong RX0 92 100, .fieldLink RX0 72 "SeaLand$Board" "allVotes" "J", .fieldLink RX0 41 "SeaLand$Board" "force" "LSeaLand$Law;", .code yX4_lastOf cX4_lastOf 5 (some .int), .fieldLink RX4 60 "SeaLand$Law" "lines" "I", .fieldLink RX4 18 "SeaLand$Law" "kinds" "[I", .fieldLink RX4 21 "SeaLand$Law" "firsts" "[I", .methodLink RX0 94 yX4_lastOf, .instanceMethod yX4_lastOf, .selects RX4 yX4_lastOf yX4_lastOf, .initialized RX4, .fieldLink RX0 64 "SeaLand$Board" "voting" "Z", .methodLink RX11 303 yX0_closeVote, .instanceMethod yX0_closeVote, .selects RX0 yX0_closeVote yX0_closeVote, .initialized RX0, .methodLink RL 94 yX11_close, .instanceMethod yX11_close, .selects RX11 yX11_close yX11_close, .classLink RL 17 "java/lang/IllegalStateException"] bs2)
set_option maxHeartbeats 4000000 in
set_option maxRecDepth 100000 in
theorem l_closeZN (l : Launch) (hlt : l.stackTraces = false) (dC : Nat → ClassId) (dI : Nat → Nat → Nat) (kA : Nat → ClassId) (adK adV : Nat → Nat) (G : gT) (H0 : Heap) (nC nS : Int) (o0 : Nat) (ou : Nat) (bd : Nat) (vo : Int32) (yv : Int64) (dv9 : Int64) (fo : Nat) (hT : gH (dC, dI) kA (SHc nC nS) G H0) (hr_o0 : G o0 = some 167) (hr_ou : G ou = some 98) (hm_bd : el H0 o0 (dI 14 3) = some (.ref bd)) (hr_bd : G bd = some 166) (hm_vo : el H0 bd (dI 3 11) = some (.int vo)) (hm_yv : el H0 bd (dI 3 12) = some (.long yv)) (hm_dv9 : el H0 bd (dI 3 13) = some (.long dv9)) (hm_fo : el H0 bd (dI 3 7) = some (.ref fo)) (hr_fo : G fo = some 7) (hq0 : 0 ≤ vo.toInt ∧ vo.toInt ≤ 1) (hyv : yv.toInt = 0) (hdv : dv9.toInt = 0) (hgC : 0 ≤ nC ∧ nC ≤ 40) (hgS : 0 ≤ nS ∧ nS ≤ 60) : Met l yL_close w_l_closeZN ({ frames := 8, cells := 1, slots := 6, locals := 140 }) (va_Pc [.ref o0, .ref ou] (fun U => U.heap = H0 ∧ va_K (dC, dI) vwCl (tyl kA) U ∧ EVC adK adV (gA G H0.size) U U.heap ∧ NC U)) (va_Qi (fun (r : Int32) (u : Int32) => (0 ≤ r.toInt ∧ r.toInt ≤ 1) ∧ (u.toInt = 0)) (fun (v1 : Int32) (t : State) => gH (dC, dI) kA (SHc nC nS) G t.heap ∧ gF (dC, dI) SKc G ([(98, 0), (166, 11)] : List (Nat × Nat)) H0 t.heap ∧ el t.heap bd (dI 3 11) = some (.int v1)) (gA G H0.size)) 1 6 (gA G H0.size) := by
  refine va_MetW (cc := cL_close) (maxL := 3) (ret := (some .int)) (by decide) rfl ?_
  intro p e s m args below meth c s₁ B hml hv
  obtain ⟨rfl, hH0, hK, hE, hN⟩ := hv
  have hx := B.exec
  have hb := B.bytes
  have hr := B.returns
  have hts := atoms_spec (ws := w_l_closeZN) B.pre
  have hown : s.vm.findClass RL = some m.cls := findClass_of_methodNamed B.named
  have hlocks := B.notSynchronized
  have htab := vx_table (x := yL_close) B (hts _ List.mem_cons_self)
  subst hH0
  generalize hAe : gA G s.heap.size = A at hE ⊢
  have hA : ∀ q : Nat, s.heap.size ≤ q → A q := fun q h => by rw [← hAe]; exact Or.inr h
  have hG := gA_of hAe
  have hS : va_S A s.heap s.heap [] := va_S.rf
  have hF : gF (dC, dI) SKc G ([(98, 0), (166, 11)] : List (Nat × Nat)) s.heap s.heap := gF.rf
  have hl := lv_entry ([.ref o0, .ref ou]) (n := 3) (Nat.le_of_ble_eq_true rfl)
  rw [lg_entry_eq]
  generalize (lg_sl ([.ref o0, .ref ou]) ++ List.replicate (3 - (lg_sl ([.ref o0, .ref ou])).length) Slot.unset).toArray = ls at hl ⊢
  have hl : lv_has ls 3 [(0, .ref o0), (1, .ref ou)] := hl
  refine lv_aload_n hx hb dL_close_0 rfl (lv_at hl 1 rfl) ?_
  refine lv_iconst (v := 0) hx hb dL_close_1 (by decide) ?_
  refine lv_aload_n hx hb dL_close_2 rfl (lv_at hl 0 rfl) ?_
  have hFc := gA_free hG hA hS
  refine vx_calli (vx_runV (As := []) (rest := [.int 0, .ref ou]) ⟨hx, hb, hml, hown, hts⟩ (c_closeZN l hlt dC dI kA adK adV G s.heap nC nS o0 bd vo yv dv9 fo hT hr_o0 hm_bd hr_bd hm_vo hm_yv hm_dv9 hm_fo hr_fo (by have q8 := ti_all vo; omega) hyv hdv (by omega) (by omega)) (cwV 0 hts (goodIn_app (goodIn_r _ [28, 29, 30, 9] rfl (by decide +kernel)) (goodIn_ca (goodIn_r _ [1, 2, 3, 4, 5, 6, 7, 8, 9, 10, 11, 12, 13, 14, 15, 16, 17, 18, 19, 20, 21, 22, 23, 24, 25, 26, 27] rfl (by decide +kernel)) (bs2_in _ _))) rfl rfl rfl (by decide +kernel) ⟨(Nat.le_of_ble_eq_true rfl), (Nat.le_of_ble_eq_true rfl)⟩) ⟨fun a U g mk q => by obtain ⟨q0, q1, qK, qE⟩ := q; exact ⟨q0, q1, va_K.moved (u := U) (U := U.calling g mk a) (Vm.Alike.refl U.vm) qK, EVC.blind g mk a qE⟩, gH_rc hK hT hr_o0 shc_167 rfl, fun U hU hW => ⟨rfl, hU, va_K.moved hW.alike hK, hE.call hS hFc hU hW⟩⟩ rfl rfl hl.1 rfl (lv_room (Nat.le_of_ble_eq_true rfl)) dL_close_3 ⟨(Nat.le_of_ble_eq_true rfl), (Nat.le_of_ble_eq_true rfl)⟩) hS (fun q _ h => hFc q h) hFc (fun q _ h => hFc q h) (fun E ce q9 u t H locs ht hvm _ hw2 _ _ hS hce hcv hcl => ?_) (fun r1 u t H locs ht hvm hw2 hB _ _ hS => ?_)
  · obtain ⟨hw2, hxf, hTx, hFx, hxbx⟩ := hw2; rw [ht] at hTx hFx hxbx
    have hT := hTx; have hF := hF.more hFx (by decide)
    subst hw2
    have m4 := (hxbx.fld hr_bd skc_166 (k := 11) (by decide) (by decide)).trans hm_vo
    have hxf := hxf.2
    refine vx_catch (E := "java/lang/IllegalStateException") hown [] ⟨0, 15, 18, 17⟩ [] (by rw [htab]; rfl) (fun z h => absurd h List.not_mem_nil) (by decide) (by decide) (ht_at2 hts 30 rfl) (va_Nw.use rfl (hE.1.1.2.1.2.1 _ (List.mem_of_getElem? (i := 3) rfl))) hce hcv hcl ?_
    refine lv_astore_n (lv' := [(2, .ref q9), (0, .ref o0), (1, .ref ou)]) hx hb dL_close_18 rfl hl (by decide) rfl (fun ls hl => ?_)
    refine lv_iconst (v := 1) hx hb dL_close_19 (by decide) ?_
    exact W.iret (v := 1) hx hb hr (fun t ht hW => ⟨⟨1, vo, rfl, (by exact ⟨(by have : (1 : Int32).toInt = 1 := (by decide); exact ⟨by omega, by omega⟩), (by have : (1 : Int32).toInt = 1 := (by decide); omega)⟩), by (try dsimp only); rw [ht]; exact ⟨hT, hF, m4⟩⟩, hS.F ht⟩) hS.2.2 dL_close_20
  · obtain ⟨u8, rfl⟩ : ∃ z, z = u := ⟨_, rfl⟩
    obtain ⟨hT, hF1, m9⟩ := hB
    rw [ht] at hT hF1 m9
    have hF := hF.more hF1 (by decide)
    try dsimp only at hw2
    obtain ⟨h15, hf16⟩ := hw2
    refine lv_if_eq (tgt := 13) hx hb dL_close_6 (by decide) (fun c17 => ?_) (fun c17 => (by exfalso; have q9 : r1.toInt ≠ 0 := ti_ne c17 rfl (by decide); omega))
    have t18 : r1.toInt = 0 := ti_eq c17 rfl (by decide)
    refine lv_lconst (v := 0) hx hb dL_close_13 (by decide) ?_
    refine tw_last (i := 0)  hx hb hK hT hG hS hr_ou shc_98 rfl (by unfold vp_in; decide) ⟨_, rfl⟩ dL_close_14 (fun H locs hT oq m19 oi hS => ?_)
    have hF := hF.ast hr_ou skc_98 oq (by decide)
    have m24 := (el_kept (oq _ (gne hr_bd hr_ou (by decide)))).trans m9
    refine lv_goto (tgt := 21) hx hb dL_close_15 (by decide) ?_
    refine lv_iconst (v := 0) hx hb dL_close_21 (by decide) ?_
    exact W.iret (v := 0) hx hb hr (fun t ht hW => ⟨⟨0, u8, rfl, (by exact ⟨(by have : (0 : Int32).toInt = 0 := (by decide); exact ⟨by omega, by omega⟩), (by have : (0 : Int32).toInt = 0 := (by decide); omega)⟩), by (try dsimp only); rw [ht]; exact ⟨hT, hF, m24⟩⟩, hS.F ht⟩) hS.2.2 dL_close_22
def w_l_closeZG : List Cond := .codeWith yL_close cL_close 3 (some .int) [(0, 15, 18, 17)] :: (HAppend.hAppend (α := List Cond) (β := List Cond) (γ := List Cond) [.code yX11_close cX11_close 1 (some .boolean), .code yX11_needVote cX11_needVote 1 none, .fieldLink RX11 30 "SeaLand" "board" "LSeaLand$Board;", .classLink RX11 69 "java/lang/IllegalStateException", .initialized "java/lang/IllegalStateException", .methodLink RX11 296 yX11_needVote, .instanceMethod yX11_needVote, .selects RX11 yX11_needVote yX11_needVote, .initialized RX11, .code yX0_closeVote cX0_closeVote 3 (some .boolean), .fieldLink RX0 68 "SeaLand$Board" "yesVotes" "J", .constantLong RX0 92 100, .fieldLink RX0 72 "SeaLand$Board" "allVotes" "J", .fieldLink RX0 41 "SeaLand$Board" "force" "LSeaLand$Law;", .code yX4_lastOf cX4_lastOf 5 (some .int), .fieldLink RX4 60 "SeaLand$Law" "lines" "I", .fieldLink RX4 18 "SeaLand$Law" "kinds" "[I", .fieldLink RX4 21 "SeaLand$Law" "firsts" "[I", .methodLink RX0 94 yX4_lastOf, .instanceMethod yX4_lastOf, .selects RX4 yX4_lastOf yX4_lastOf, .initialized RX4, .fieldLink RX0 64 "SeaLand$Board" "voting" "Z", .fieldLink RX0 45 "SeaLand$Board" "proposed" "LSeaLand$Law;", .methodLink RX11 303 yX0_closeVote, .instanceMethod yX0_closeVote, .selects RX0 yX0_closeVote yX0_closeVote, .initialized RX0, .methodLink RL 94 yX11_close, .instanceMethod yX11_close, .selects RX11 yX11_close yX11_close, .classLink RL 17 "java/lang/IllegalStateException"] bs2)
set_option maxHeartbeats 4000000 in
set_option maxRecDepth 100000 in
theorem l_closeZG (l : Launch) (hlt : l.stackTraces = false) (dC : Nat → ClassId) (dI : Nat → Nat → Nat) (kA : Nat → ClassId) (adK adV : Nat → Nat) (G : gT) (H0 : Heap) (nC nS : Int) (o0 : Nat) (ou : Nat) (bd : Nat) (vo : Int32) (fo : Nat) (po : Nat) (hT : gH (dC, dI) kA (SHc nC nS) G H0) (hr_o0 : G o0 = some 167) (hr_ou : G ou = some 98) (hm_bd : el H0 o0 (dI 14 3) = some (.ref bd)) (hr_bd : G bd = some 166) (hm_vo : el H0 bd (dI 3 11) = some (.int vo)) (hm_fo : el H0 bd (dI 3 7) = some (.ref fo)) (hr_fo : G fo = some 7) (hm_po : el H0 bd (dI 3 8) = some (.ref po)) (hr_po : G po = some 140) (hq0 : 0 ≤ vo.toInt ∧ vo.toInt ≤ 1) (hgC : 0 ≤ nC ∧ nC ≤ 40) (hgS : 0 ≤ nS ∧ nS ≤ 60) : Met l yL_close w_l_closeZG ({ frames := 8, cells := 1, slots := 6, locals := 140 }) (va_Pc [.ref o0, .ref ou] (fun U => U.heap = H0 ∧ va_K (dC, dI) vwCl (tyl kA) U ∧ EVC adK adV (gA G H0.size) U U.heap ∧ NC U)) (va_Qi (fun (r : Int32) (u : Int32 × Nat × Nat) => match u with | (v1, fo1, po1) => (0 ≤ r.toInt ∧ r.toInt ≤ 1) ∧ (v1.toInt = 0) ∧ ((fo1 = fo ∧ po1 = po) ∨ (fo1 = po ∧ po1 = fo))) (fun (u : Int32 × Nat × Nat) (t : State) => match u with | (v1, fo1, po1) => gH (dC, dI) kA (SHc nC nS) G t.heap ∧ gF (dC, dI) SKc G ([(98, 0), (166, 7), (166, 8), (166, 11)] : List (Nat × Nat)) H0 t.heap ∧ el t.heap bd (dI 3 11) = some (.int v1) ∧ el t.heap bd (dI 3 7) = some (.ref fo1) ∧ el t.heap bd (dI 3 8) = some (.ref po1)) (gA G H0.size)) 1 6 (gA G H0.size) := by
  refine va_MetW (cc := cL_close) (maxL := 3) (ret := (some .int)) (by decide) rfl ?_
  intro p e s m args below meth c s₁ B hml hv
  obtain ⟨rfl, hH0, hK, hE, hN⟩ := hv
  have hx := B.exec
  have hb := B.bytes
  have hr := B.returns
  have hts := atoms_spec (ws := w_l_closeZG) B.pre
  have hown : s.vm.findClass RL = some m.cls := findClass_of_methodNamed B.named
  have hlocks := B.notSynchronized
  have htab := vx_table (x := yL_close) B (hts _ List.mem_cons_self)
  subst hH0
  generalize hAe : gA G s.heap.size = A at hE ⊢
  have hA : ∀ q : Nat, s.heap.size ≤ q → A q := fun q h => by rw [← hAe]; exact Or.inr h
  have hG := gA_of hAe
  have hS : va_S A s.heap s.heap [] := va_S.rf
  have hF : gF (dC, dI) SKc G ([(98, 0), (166, 7), (166, 8), (166, 11)] : List (Nat × Nat)) s.heap s.heap := gF.rf
  have hl := lv_entry ([.ref o0, .ref ou]) (n := 3) (Nat.le_of_ble_eq_true rfl)
  rw [lg_entry_eq]
  generalize (lg_sl ([.ref o0, .ref ou]) ++ List.replicate (3 - (lg_sl ([.ref o0, .ref ou])).length) Slot.unset).toArray = ls at hl ⊢
  have hl : lv_has ls 3 [(0, .ref o0), (1, .ref ou)] := hl
  refine lv_aload_n hx hb dL_close_0 rfl (lv_at hl 1 rfl) ?_
  refine lv_iconst (v := 0) hx hb dL_close_1 (by decide) ?_
  refine lv_aload_n hx hb dL_close_2 rfl (lv_at hl 0 rfl) ?_
  have hFc := gA_free hG hA hS
  refine vx_calli (vx_runV (As := []) (rest := [.int 0, .ref ou]) ⟨hx, hb, hml, hown, hts⟩ (c_closeZG l hlt dC dI kA adK adV G s.heap nC nS o0 bd vo fo po hT hr_o0 hm_bd hr_bd hm_vo hm_fo hr_fo hm_po hr_po (by have q8 := ti_all vo; omega) (by omega) (by omega)) (cwV 0 hts (goodIn_app (goodIn_r _ [29, 30, 31, 9] rfl (by decide +kernel)) (goodIn_ca (goodIn_r _ [1, 2, 3, 4, 5, 6, 7, 8, 9, 10, 11, 12, 13, 14, 15, 16, 17, 18, 19, 20, 21, 22, 23, 24, 25, 26, 27, 28] rfl (by decide +kernel)) (bs2_in _ _))) rfl rfl rfl (by decide +kernel) ⟨(Nat.le_of_ble_eq_true rfl), (Nat.le_of_ble_eq_true rfl)⟩) ⟨fun a U g mk q => by obtain ⟨q0, q1, qK, qE⟩ := q; exact ⟨q0, q1, va_K.moved (u := U) (U := U.calling g mk a) (Vm.Alike.refl U.vm) qK, EVC.blind g mk a qE⟩, gH_rc hK hT hr_o0 shc_167 rfl, fun U hU hW => ⟨rfl, hU, va_K.moved hW.alike hK, hE.call hS hFc hU hW⟩⟩ rfl rfl hl.1 rfl (lv_room (Nat.le_of_ble_eq_true rfl)) dL_close_3 ⟨(Nat.le_of_ble_eq_true rfl), (Nat.le_of_ble_eq_true rfl)⟩) hS (fun q _ h => hFc q h) hFc (fun q _ h => hFc q h) (fun E ce q9 u t H locs ht hvm _ hw2 _ _ hS hce hcv hcl => ?_) (fun r1 u t H locs ht hvm hw2 hB _ _ hS => ?_)
  · obtain ⟨hw2, hxf, hTx, hFx, hxbx⟩ := hw2; rw [ht] at hTx hFx hxbx
    have hT := hTx; have hF := hF.more hFx (by decide)
    subst hw2
    have m4 := (hxbx.fld hr_bd skc_166 (k := 11) (by decide) (by decide)).trans hm_vo
    have m5 := (hxbx.fld hr_bd skc_166 (k := 7) (by decide) (by decide)).trans hm_fo
    have m6 := (hxbx.fld hr_bd skc_166 (k := 8) (by decide) (by decide)).trans hm_po
    have hxf := hxf.2
    refine vx_catch (E := "java/lang/IllegalStateException") hown [] ⟨0, 15, 18, 17⟩ [] (by rw [htab]; rfl) (fun z h => absurd h List.not_mem_nil) (by decide) (by decide) (ht_at2 hts 31 rfl) (va_Nw.use rfl (hE.1.1.2.1.2.1 _ (List.mem_of_getElem? (i := 3) rfl))) hce hcv hcl ?_
    refine lv_astore_n (lv' := [(2, .ref q9), (0, .ref o0), (1, .ref ou)]) hx hb dL_close_18 rfl hl (by decide) rfl (fun ls hl => ?_)
    refine lv_iconst (v := 1) hx hb dL_close_19 (by decide) ?_
    exact W.iret (v := 1) hx hb hr (fun t ht hW => ⟨⟨1, (vo, fo, po), rfl, (by exact ⟨(by have : (1 : Int32).toInt = 1 := (by decide); exact ⟨by omega, by omega⟩), (by have : (1 : Int32).toInt = 1 := (by decide); omega), (Or.inl ⟨rfl, rfl⟩)⟩), by (try dsimp only); rw [ht]; exact ⟨hT, hF, m4, m5, m6⟩⟩, hS.F ht⟩) hS.2.2 dL_close_20
  · obtain ⟨u7, u8, u9⟩ := u
    obtain ⟨hT, hF1, m10, m11, m12⟩ := hB
    rw [ht] at hT hF1 m10 m11 m12
    have hF := hF.more hF1 (by decide)
    try dsimp only at hw2
    obtain ⟨h17, hf18, hf19⟩ := hw2
    refine lv_if_eq (tgt := 13) hx hb dL_close_6 (by decide) (fun c20 => ?_) (fun c20 => ?_)
    · have t21 : r1.toInt = 0 := ti_eq c20 rfl (by decide)
      refine lv_lconst (v := 0) hx hb dL_close_13 (by decide) ?_
      refine tw_last (i := 0)  hx hb hK hT hG hS hr_ou shc_98 rfl (by unfold vp_in; decide) ⟨_, rfl⟩ dL_close_14 (fun H locs hT oq m22 oi hS => ?_)
      have hF := hF.ast hr_ou skc_98 oq (by decide)
      have m24 := (el_kept (oq _ (gne hr_bd hr_ou (by decide)))).trans m10
      have m25 := (el_kept (oq _ (gne hr_bd hr_ou (by decide)))).trans m11
      have m26 := (el_kept (oq _ (gne hr_bd hr_ou (by decide)))).trans m12
      refine lv_goto (tgt := 21) hx hb dL_close_15 (by decide) ?_
      refine lv_iconst (v := 0) hx hb dL_close_21 (by decide) ?_
      exact W.iret (v := 0) hx hb hr (fun t ht hW => ⟨⟨0, (u7, u8, u9), rfl, (by exact ⟨(by have : (0 : Int32).toInt = 0 := (by decide); exact ⟨by omega, by omega⟩), (by have : (0 : Int32).toInt = 0 := (by decide); omega), hf19⟩), by (try dsimp only); rw [ht]; exact ⟨hT, hF, m24, m25, m26⟩⟩, hS.F ht⟩) hS.2.2 dL_close_22
    · have t27 : r1.toInt ≠ 0 := ti_ne c20 rfl (by decide)
      refine lv_lconst (v := 1) hx hb dL_close_9 (by decide) ?_
      refine lv_goto (tgt := 14) hx hb dL_close_10 (by decide) ?_
      refine tw_last (i := 0)  hx hb hK hT hG hS hr_ou shc_98 rfl (by unfold vp_in; decide) ⟨_, rfl⟩ dL_close_14 (fun H locs hT oq m28 oi hS => ?_)
      have hF := hF.ast hr_ou skc_98 oq (by decide)
      have m30 := (el_kept (oq _ (gne hr_bd hr_ou (by decide)))).trans m10
      have m31 := (el_kept (oq _ (gne hr_bd hr_ou (by decide)))).trans m11
      have m32 := (el_kept (oq _ (gne hr_bd hr_ou (by decide)))).trans m12
      refine lv_goto (tgt := 21) hx hb dL_close_15 (by decide) ?_
      refine lv_iconst (v := 0) hx hb dL_close_21 (by decide) ?_
      exact W.iret (v := 0) hx hb hr (fun t ht hW => ⟨⟨0, (u7, u8, u9), rfl, (by exact ⟨(by have : (0 : Int32).toInt = 0 := (by decide); exact ⟨by omega, by omega⟩), (by have : (0 : Int32).toInt = 0 := (by decide); omega), hf19⟩), by (try dsimp only); rw [ht]; exact ⟨hT, hF, m30, m31, m32⟩⟩, hS.F ht⟩) hS.2.2 dL_close_22

