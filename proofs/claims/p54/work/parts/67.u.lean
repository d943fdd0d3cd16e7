def w_c_passHourE : List Cond := .code yX3_passHour cX3_passHour 3 none :: (HAppend.hAppend (α := List Cond) (β := List Cond) (γ := List Cond) [.fieldLink RX3 32 "SeaLand$Lake" "hour" "I", .fieldLink RX3 12 "SeaLand$Lake" "sky" "LSeaLand$Sky;", .code yX8_outsideAt cX8_outsideAt 4 (some .int), .fieldLink RX8 9 "SeaLand$Sky" "tides" "[I", .code yJ9_floorMod_7cf53 cJ9_floorMod_7cf53 3 (some .int), .methodLink RX8 38 yJ9_floorMod_7cf53, .static yJ9_floorMod_7cf53, .initialized RJ9, .fieldLink RX8 34 "SeaLand$Sky" "storms" "I", .fieldLink RX8 15 "SeaLand$Sky" "stormFrom" "[I", .fieldLink RX8 18 "SeaLand$Sky" "stormTo" "[I", .fieldLink RX8 21 "SeaLand$Sky" "stormMore" "[I", .methodLink RX3 44 yX8_outsideAt, .instanceMethod yX8_outsideAt, .selects RX8 yX8_outsideAt yX8_outsideAt, .initialized RX8, .fieldLink RX3 21 "SeaLand$Lake" "ground" "LSeaLand$Ground;", .code yX8_rainAt cX8_rainAt 3 (some .int), .fieldLink RX8 31 "SeaLand$Sky" "rain" "LSeaLand$Tellings;", .code yX9_standingAt cX9_standingAt 5 (some .int), .fieldLink RX9 18 "SeaLand$Tellings" "told" "I", .fieldLink RX9 9 "SeaLand$Tellings" "hours" "[I", .methodLink RX8 44 yX9_standingAt, .instanceMethod yX9_standingAt, .selects RX9 yX9_standingAt yX9_standingAt, .initialized RX9, .methodLink RX3 103 yX8_rainAt, .instanceMethod yX8_rainAt, .selects RX8 yX8_rainAt yX8_rainAt, .code yX2_rainOnLand cX2_rainOnLand 3 none, .fieldLink RX2 9 "SeaLand$Ground" "isLand" "[Z", .fieldLink RX2 25 "SeaLand$Ground" "water" "[I", .fieldLink RX2 54 "SeaLand$Ground" "rained" "I", .methodLink RX3 106 yX2_rainOnLand, .instanceMethod yX2_rainOnLand, .selects RX2 yX2_rainOnLand yX2_rainOnLand, .initialized RX2, .fieldLink RX3 47 "SeaLand$Lake" "built" "I", .fieldLink RX3 27 "SeaLand$Lake" "works" "[LSeaLand$Work;", .code yX3_runSluice cX3_runSluice 5 none, .code yX2_levelOf cX2_levelOf 2 (some .int), .fieldLink RX2 15 "SeaLand$Ground" "height" "[I", .methodLink RX3 40 yX2_levelOf, .instanceMethod yX2_levelOf, .selects RX2 yX2_levelOf yX2_levelOf, .methodLink RX3 71 Lib.Math.min.name, .static Lib.Math.min.name, .initialized "java/lang/Math", .code Lib.Math.min.name Lib.Math.min.code 2 (some .int), .code yX2_giveToSea cX2_giveToSea 3 none, .fieldLink RX2 28 "SeaLand$Ground" "salt" "[I", .code yX2_saltGoingWith cX2_saltGoingWith 4 (some .int), .methodLink RX2 60 yX2_saltGoingWith, .instanceMethod yX2_saltGoingWith, .selects RX2 yX2_saltGoingWith yX2_saltGoingWith, .fieldLink RX2 64 "SeaLand$Ground" "wentOut" "I", .methodLink RX3 154 yX2_giveToSea, .instanceMethod yX2_giveToSea, .selects RX2 yX2_giveToSea yX2_giveToSea, .code yX10_moved cX10_moved 2 none, .fieldLink RX10 44 "SeaLand$Work" "latest" "I", .fieldLink RX10 47 "SeaLand$Work" "total" "I", .methodLink RX3 140 yX10_moved, .instanceMethod yX10_moved, .selects RX10 yX10_moved yX10_moved, .initialized RX10, .methodLink RX3 114 yX3_runSluice, .instanceMethod yX3_runSluice, .selects RX3 yX3_runSluice yX3_runSluice, .initialized RX3, .code yX2_runDitches cX2_runDitches 3 none, .fieldLink RX2 37 "SeaLand$Ground" "ditchTo" "[I", .fieldLink RX2 40 "SeaLand$Ground" "ditchWater" "[I", .fieldLink RX2 43 "SeaLand$Ground" "ditchSalt" "[I", .code yX2_reckonDitch cX2_reckonDitch 5 none, .fieldLink RX2 22 "SeaLand$Ground" "ditch" "[I", .code yX2_lowestDitchBeside cX2_lowestDitchBeside 4 (some .int), .code yX2_lowerDitch cX2_lowerDitch 4 (some .int), .methodLink RX2 79 yX2_levelOf, .methodLink RX2 87 yX2_lowerDitch, .instanceMethod yX2_lowerDitch, .selects RX2 yX2_lowerDitch yX2_lowerDitch, .methodLink RX2 75 yX2_lowestDitchBeside, .instanceMethod yX2_lowestDitchBeside, .selects RX2 yX2_lowestDitchBeside yX2_lowestDitchBeside, .methodLink RX2 82 Lib.Math.min.name, .methodLink RX2 71 yX2_reckonDitch, .instanceMethod yX2_reckonDitch, .selects RX2 yX2_reckonDitch yX2_reckonDitch, .methodLink RX3 117 yX2_runDitches, .instanceMethod yX2_runDitches, .selects RX2 yX2_runDitches yX2_runDitches, .code yX8_windAt cX8_windAt 4 (some .int), .fieldLink RX8 27 "SeaLand$Sky" "wind" "LSeaLand$Tellings;", .code yX9_nearestNumberBefore cX9_nearestNumberBefore 5 (some .int), .fieldLink RX9 15 "SeaLand$Tellings" "numbers" "[I", .methodLink RX8 54 yX9_nearestNumberBefore, .instanceMethod yX9_nearestNumberBefore, .selects RX9 yX9_nearestNumberBefore yX9_nearestNumberBefore, .code yX9_nearestNumberAfter cX9_nearestNumberAfter 5 (some .int), .constant RX9 22 40001, .methodLink RX8 57 yX9_nearestNumberAfter, .instanceMethod yX9_nearestNumberAfter, .selects RX9 yX9_nearestNumberAfter yX9_nearestNumberAfter, .methodLink RX8 60 Lib.Math.max.name, .static Lib.Math.max.name, .code Lib.Math.max.name Lib.Math.max.code 2 (some .int), .methodLink RX3 120 yX8_windAt, .instanceMethod yX8_windAt, .selects RX8 yX8_windAt yX8_windAt, .code yX3_runMills cX3_runMills 3 none, .code yX3_runEngine cX3_runEngine 3 none, .code yX3_liftBy cX3_liftBy 4 none, .code yX2_giveTo cX2_giveTo 5 none, .methodLink RX2 67 yX2_giveToSea, .methodLink RX3 171 yX2_giveTo, .instanceMethod yX2_giveTo, .selects RX2 yX2_giveTo yX2_giveTo, .methodLink RX3 161 yX3_liftBy, .instanceMethod yX3_liftBy, .selects RX3 yX3_liftBy yX3_liftBy, .methodLink RX3 164 yX3_runEngine, .instanceMethod yX3_runEngine, .selects RX3 yX3_runEngine yX3_runEngine, .methodLink RX3 123 yX3_runMills, .instanceMethod yX3_runMills, .selects RX3 yX3_runMills yX3_runMills, .code yX2_endDay cX2_endDay 2 none, .fieldLink RX2 31 "SeaLand$Ground" "dry" "[I", .code yX2_sinksNow cX2_sinksNow 2 (some .boolean), .fieldLink RX2 19 "SeaLand$Ground" "soil" "[I", .methodLink RX2 91 yX2_sinksNow, .instanceMethod yX2_sinksNow, .selects RX2 yX2_sinksNow yX2_sinksNow, .fieldLink RX2 34 "SeaLand$Ground" "wet" "[I", .methodLink RX3 126 yX2_endDay, .instanceMethod yX2_endDay, .selects RX2 yX2_endDay yX2_endDay, .code yX10_isBank cX10_isBank 1 (some .boolean), .fieldLink RX10 18 "SeaLand$Work" "kind" "I", .methodLink RX3 67 yX10_isBank, .instanceMethod yX10_isBank, .selects RX10 yX10_isBank yX10_isBank, .code yX3_runBank cX3_runBank 4 none, .code yX3_seepOf cX3_seepOf 5 (some .int), .methodLink RX3 97 Lib.Math.max.name, .code yX10_leakBelow cX10_leakBelow 6 (some .int), .fieldLink RX10 34 "SeaLand$Work" "layers" "I", .fieldLink RX10 9 "SeaLand$Work" "thick" "[I", .fieldLink RX10 15 "SeaLand$Work" "clay" "[I", .methodLink RX3 100 yX10_leakBelow, .instanceMethod yX10_leakBelow, .selects RX10 yX10_leakBelow yX10_leakBelow, .methodLink RX3 132 yX3_seepOf, .instanceMethod yX3_seepOf, .selects RX3 yX3_seepOf yX3_seepOf, .code yX10_breakOpen cX10_breakOpen 1 none, .fieldLink RX10 31 "SeaLand$Work" "width" "I", .methodLink RX3 143 yX10_breakOpen, .instanceMethod yX10_breakOpen, .selects RX10 yX10_breakOpen yX10_breakOpen, .code yX3_runBreach cX3_runBreach 4 none, .constantLong RX3 149 120, .code yX2_takeFromSea cX2_takeFromSea 3 none, .fieldLink RX2 57 "SeaLand$Ground" "cameIn" "I", .methodLink RX3 136 yX2_takeFromSea, .instanceMethod yX2_takeFromSea, .selects RX2 yX2_takeFromSea yX2_takeFromSea, .methodLink RX3 146 yX3_runBreach, .instanceMethod yX3_runBreach, .selects RX3 yX3_runBreach yX3_runBreach, .code yX3_crestOf cX3_crestOf 2 (some .int), .code yX10_thickness cX10_thickness 3 (some .int), .methodLink RX3 80 yX10_thickness, .instanceMethod yX10_thickness, .selects RX10 yX10_thickness yX10_thickness, .methodLink RX3 84 yX3_crestOf, .instanceMethod yX3_crestOf, .selects RX3 yX3_crestOf yX3_crestOf, .code yX10_widen cX10_widen 1 none, .code yX10_wider cX10_wider 1 (some .int), .methodLink RX10 54 Lib.Math.min.name, .methodLink RX10 50 yX10_wider, .static yX10_wider, .methodLink RX3 129 yX10_widen, .instanceMethod yX10_widen, .selects RX10 yX10_widen yX10_widen, .methodLink RX3 110 yX3_runBank, .instanceMethod yX3_runBank, .selects RX3 yX3_runBank yX3_runBank] bs2)
set_option maxHeartbeats 4000000 in
set_option maxRecDepth 100000 in
theorem c_passHourE (l : Launch) (dC : Nat → ClassId) (dI : Nat → Nat → Nat) (kA : Nat → ClassId) (adK adV : Nat → Nat) (G : gT) (H0 : Heap) (nC nS : Int) (o0 : Nat) (ho : Int32)  (hT : gH (dC, dI) kA (SHc nC nS) G H0) (hr_o0 : G o0 = some 6) (hm_ho : el H0 o0 (dI 6 4) = some (.int ho)) (hq0 : 0 ≤ ho.toInt ∧ ho.toInt ≤ 39999) (hgC : 0 ≤ nC ∧ nC ≤ 40) (hgS : 0 ≤ nS ∧ nS ≤ 60) : Met l yX3_passHour w_c_passHourE ({ frames := 6, cells := 0, slots := 0, locals := 136 }) (va_Pc [.ref o0] (fun U => U.heap = H0 ∧ va_K (dC, dI) vwCl (tyl kA) U ∧ EVC adK adV (gA G H0.size) U U.heap)) (va_Qv (fun (u : Int32) => (1 ≤ u.toInt ∧ u.toInt ≤ 40000) ∧ (u.toInt = ho.toInt + 1)) (fun (h1 : Int32) (t : State) => gH (dC, dI) kA (SHc nC nS) G t.heap ∧ gF (dC, dI) SKc G ([(5, 11), (5, 12), (5, 13), (6, 4), (13, 2), (13, 6), (13, 8), (13, 10), (13, 11), (26, 0), (29, 0), (30, 0), (31, 0), (32, 0), (33, 0), (34, 0), (35, 0)] : List (Nat × Nat)) H0 t.heap ∧ el t.heap o0 (dI 6 4) = some (.int h1)) (gA G H0.size)) 0 0 (gA G H0.size) := by
  refine Met.ofW (cc := cX3_passHour) (maxL := 3) (ret := none) (by decide) rfl ?_
  intro p e s m args below meth c s₁ B hml hv
  obtain ⟨rfl, hH0, hK, hE⟩ := hv
  have hx := B.exec
  have hb := B.bytes
  have hr := B.returns
  have hts := atoms_spec (ws := w_c_passHourE) B.pre
  have hown : s.vm.findClass RX3 = some m.cls := findClass_of_methodNamed B.named
  have hlocks := B.notSynchronized
  subst hH0
  generalize hAe : gA G s.heap.size = A at hE ⊢
  have hA : ∀ q : Nat, s.heap.size ≤ q → A q := fun q h => by rw [← hAe]; exact Or.inr h
  have hG := gA_of hAe
  have hS : va_S A s.heap s.heap [] := va_S.rf
  have hF : gF (dC, dI) SKc G ([(5, 11), (5, 12), (5, 13), (6, 4), (13, 2), (13, 6), (13, 8), (13, 10), (13, 11), (26, 0), (29, 0), (30, 0), (31, 0), (32, 0), (33, 0), (34, 0), (35, 0)] : List (Nat × Nat)) s.heap s.heap := gF.rf
  have hl := lv_entry ([.ref o0]) (n := 3) (Nat.le_of_ble_eq_true rfl)
  rw [lg_entry_eq]
  generalize (lg_sl ([.ref o0]) ++ List.replicate (3 - (lg_sl ([.ref o0])).length) Slot.unset).toArray = ls at hl ⊢
  have hl : lv_has ls 3 [(0, .ref o0)] := hl
  refine lv_aload_n hx hb dX3_passHour_0 rfl (lv_at hl 0 rfl) ?_
  refine lv_dup hx hb dX3_passHour_1 rfl ?_
  refine tw_getM (v := .int ho) hx hb hts bF2_X3 hown hK hT hr_o0 shc_6 rfl 4 (by decide) (ht_at2 hts 0 rfl) (fun _ h9 => h9) hm_ho dX3_passHour_2 ?_
  refine lv_iconst (v := 1) hx hb dX3_passHour_5 (by decide) ?_
  refine lv_iadd hx hb dX3_passHour_6 ?_
  refine lv_topi (fun x1 ex1 => ?_)
  have t2 : x1.toInt = ho.toInt + 1 := ti_add ex1 rfl (by decide) (by omega) (by omega)
  refine tw_put (v := .int x1) (ty := .int) hx hb hts bF2_X3 tyX3 tyX3_ok nmX3 hown hK hT hG hS hr_o0 shc_6 rfl 4 (by decide) (ht_at2 hts 0 rfl) (fun _ h9 => h9) rfl (by decide +kernel) rfl rfl (gl_at rfl (gi_of (show x1.toInt = x1.toInt from rfl) (by omega) (by omega))) dX3_passHour_7 (fun H locs hT oq m3 oj hS => ?_)
  have hF := hF.put hr_o0 skc_6 oq oj (by decide)
  refine lv_aload_n hx hb dX3_passHour_10 rfl (lv_at hl 0 rfl) ?_
  refine tw_get hx hb hts bF2_X3 hown hK hT hr_o0 shc_6 rfl 0 (by decide) (ht_at2 hts 1 rfl) (fun _ h9 => h9) dX3_passHour_11 (fun v9 m4 h9 => ?_)
  obtain ⟨b5, rfl, hg6⟩ := h9 _ rfl
  refine lv_aload_n hx hb dX3_passHour_14 rfl (lv_at hl 0 rfl) ?_
  refine tw_getM (v := .int x1) hx hb hts bF2_X3 hown hK hT hr_o0 shc_6 rfl 4 (by decide) (ht_at2 hts 0 rfl) (fun _ h9 => h9) m3 dX3_passHour_15 ?_
  have hFc := gA_free hG hA hS
  refine va_calli (va_runV (As := [.int x1]) (rest := []) ⟨hx, hb, hml, hown, hts⟩ (c_outsideAt l dC dI kA adK adV G H nC nS b5 x1 hT hg6 (by have q8 := ti_all x1; omega) (by omega) (by omega)) (cwV 1 hts (goodIn_app (goodIn_r _ [13, 14, 15, 16] rfl (by decide +kernel)) (goodIn_ca (goodIn_r _ [3, 4, 5, 6, 7, 8, 9, 10, 11, 12] rfl (by decide +kernel)) (bs2_in _ _))) rfl rfl rfl (by decide +kernel) ⟨(Nat.le_of_ble_eq_true rfl), (Nat.le_of_ble_eq_true rfl)⟩) ⟨fun a U g mk q => by obtain ⟨q0, q1, qK, qE⟩ := q; exact ⟨q0, q1, va_K.moved (u := U) (U := U.calling g mk a) (Vm.Alike.refl U.vm) qK, EVC.blind g mk a qE⟩, gH_rc hK hT hg6 shc_11 rfl, fun U hU hW => ⟨rfl, hU, va_K.moved hW.alike hK, hE.call hS hFc hU hW⟩⟩ rfl rfl hl.1 rfl (lv_room (Nat.le_of_ble_eq_true rfl)) dX3_passHour_18 ⟨(Nat.le_of_ble_eq_true rfl), (Nat.le_of_ble_eq_true rfl)⟩) hS (fun q _ h => hFc q h) hFc (fun r7 u t H locs ht hvm hw8 hB _ _ hS => ?_)
  obtain ⟨hT, hF1⟩ := hB
  rw [ht] at hT hF1
  have m9 := (hF1.fld hr_o0 skc_6 (k := 4) (by decide) (by decide)).trans m3
  have m10 := (hF1.fld hr_o0 skc_6 (k := 0) (by decide) (by decide)).trans m4
  have hF := hF.more hF1 (by decide)
  try dsimp only at hw8
  refine lv_istore_n (lv' := [(1, .int r7), (0, .ref o0)]) hx hb dX3_passHour_21 rfl hl (by decide) rfl (fun ls hl => ?_)
  refine lv_aload_n hx hb dX3_passHour_22 rfl (lv_at hl 1 rfl) ?_
  refine tw_get hx hb hts bF2_X3 hown hK hT hr_o0 shc_6 rfl 1 (by decide) (ht_at2 hts 16 rfl) (fun _ h9 => h9) dX3_passHour_23 (fun v9 m11 h9 => ?_)
  obtain ⟨b12, rfl, hg13⟩ := h9 _ rfl
  refine lv_aload_n hx hb dX3_passHour_26 rfl (lv_at hl 1 rfl) ?_
  refine tw_getM (v := .ref b5) hx hb hts bF2_X3 hown hK hT hr_o0 shc_6 rfl 0 (by decide) (ht_at2 hts 1 rfl) (fun _ h9 => h9) m10 dX3_passHour_27 ?_
  refine lv_aload_n hx hb dX3_passHour_30 rfl (lv_at hl 1 rfl) ?_
  refine tw_getM (v := .int x1) hx hb hts bF2_X3 hown hK hT hr_o0 shc_6 rfl 4 (by decide) (ht_at2 hts 0 rfl) (fun _ h9 => h9) m9 dX3_passHour_31 ?_
  have hFc := gA_free hG hA hS
  refine va_calli (va_runV (As := [.int x1]) (rest := [.ref b12]) ⟨hx, hb, hml, hown, hts⟩ (c_rainAt l dC dI kA adK adV G H nC nS b5 x1 hT hg6 (by omega) (by omega)) (cwV 1 hts (goodIn_app (goodIn_r _ [27, 28, 29, 16] rfl (by decide +kernel)) (goodIn_ca (goodIn_r _ [18, 19, 20, 21, 22, 23, 24, 25, 26] rfl (by decide +kernel)) (bs2_in _ _))) rfl rfl rfl (by decide +kernel) ⟨(Nat.le_of_ble_eq_true rfl), (Nat.le_of_ble_eq_true rfl)⟩) ⟨fun a U g mk q => by obtain ⟨q0, q1, qK, qE⟩ := q; exact ⟨q0, q1, va_K.moved (u := U) (U := U.calling g mk a) (Vm.Alike.refl U.vm) qK, EVC.blind g mk a qE⟩, gH_rc hK hT hg6 shc_11 rfl, fun U hU hW => ⟨rfl, hU, va_K.moved hW.alike hK, hE.call hS hFc hU hW⟩⟩ rfl rfl hl.1 rfl (lv_room (Nat.le_of_ble_eq_true rfl)) dX3_passHour_34 ⟨(Nat.le_of_ble_eq_true rfl), (Nat.le_of_ble_eq_true rfl)⟩) hS (fun q _ h => hFc q h) hFc (fun r14 u t H locs ht hvm hw15 hB _ _ hS => ?_)
  obtain ⟨hT, hF1⟩ := hB
  rw [ht] at hT hF1
  have m16 := (hF1.fld hr_o0 skc_6 (k := 4) (by decide) (by decide)).trans m9
  have m17 := (hF1.fld hr_o0 skc_6 (k := 0) (by decide) (by decide)).trans m10
  have m18 := (hF1.fld hr_o0 skc_6 (k := 1) (by decide) (by decide)).trans m11
  have hF := hF.more hF1 (by decide)
  try dsimp only at hw15
  have hFc := gA_free hG hA hS
  refine va_callv (va_runV (As := [.int r14]) (rest := []) ⟨hx, hb, hml, hown, hts⟩ (c_rainOnLand l dC dI kA adK adV G H nC nS b12 r14 hT hg13 (by omega) (by omega)) (cwV 1 hts (goodIn_app (goodIn_r _ [34, 35, 36, 37] rfl (by decide +kernel)) (goodIn_ca (goodIn_r _ [30, 31, 32, 33] rfl (by decide +kernel)) (bs2_in _ _))) rfl rfl rfl (by decide +kernel) ⟨(Nat.le_of_ble_eq_true rfl), (Nat.le_of_ble_eq_true rfl)⟩) ⟨fun a U g mk q => by obtain ⟨q0, q1, qK, qE⟩ := q; exact ⟨q0, q1, va_K.moved (u := U) (U := U.calling g mk a) (Vm.Alike.refl U.vm) qK, EVC.blind g mk a qE⟩, gH_rc hK hT hg13 shc_5 rfl, fun U hU hW => ⟨rfl, hU, va_K.moved hW.alike hK, hE.call hS hFc hU hW⟩⟩ rfl rfl hl.1 rfl (lv_room (Nat.le_of_ble_eq_true rfl)) dX3_passHour_37 ⟨(Nat.le_of_ble_eq_true rfl), (Nat.le_of_ble_eq_true rfl)⟩) hS (fun q _ h => hFc q h) hFc (fun u t H locs ht hvm hw20 hB _ _ hS => ?_)
  obtain ⟨hT, hF1⟩ := hB
  rw [ht] at hT hF1
  have m21 := (hF1.fld hr_o0 skc_6 (k := 4) (by decide) (by decide)).trans m16
  have m22 := (hF1.fld hr_o0 skc_6 (k := 0) (by decide) (by decide)).trans m17
  have m23 := (hF1.fld hr_o0 skc_6 (k := 1) (by decide) (by decide)).trans m18
  have hF := hF.more hF1 (by decide)
  try dsimp only at hw20
  refine lv_iconst (v := 0) hx hb dX3_passHour_40 (by decide) ?_
  refine lv_istore_n (lv' := [(2, .int 0), (1, .int r7), (0, .ref o0)]) hx hb dX3_passHour_41 rfl hl (by decide) rfl (fun ls hl => ?_)
  have key243 : ∀ (n243 i24 : Nat), i24 + n243 = 30 → 0 ≤ i24 → ∀ (H : Heap) (locs : List Loc), gH (dC, dI) kA (SHc nC nS) G H → gF (dC, dI) SKc G ([(5, 11), (5, 12), (5, 13), (6, 4), (13, 2), (13, 6), (13, 8), (13, 10), (13, 11), (26, 0), (29, 0), (30, 0), (31, 0), (32, 0), (33, 0), (34, 0), (35, 0)] : List (Nat × Nat)) s.heap H → va_S A s.heap H locs → el H o0 (dI 6 4) = some (.int x1) → el H o0 (dI 6 0) = some (.ref b5) → el H o0 (dI 6 1) = some (.ref b12) → ∀ ls : Array Slot, lv_has ls 3 [(2, .int (nI i24)), (1, .int r7), (0, .ref o0)] → W p l e (headSpec w_c_passHourE ({ frames := 6, cells := 0, slots := 0, locals := 136 })).room s m #[.ref o0] below meth c H locs 0 0 (MQ below (va_Qv (fun (u : Int32) => (1 ≤ u.toInt ∧ u.toInt ≤ 40000) ∧ (u.toInt = ho.toInt + 1)) (fun (h1 : Int32) (t : State) => gH (dC, dI) kA (SHc nC nS) G t.heap ∧ gF (dC, dI) SKc G ([(5, 11), (5, 12), (5, 13), (6, 4), (13, 2), (13, 6), (13, 8), (13, 10), (13, 11), (26, 0), (29, 0), (30, 0), (31, 0), (32, 0), (33, 0), (34, 0), (35, 0)] : List (Nat × Nat)) s.heap t.heap ∧ el t.heap o0 (dI 6 4) = some (.int h1)) A) #[.ref o0] s 0 0 A) (F0 m 42 ls []) := by
    intro n243
    induction n243 with
    | zero =>
      intro i24 hn243 hlo244  H locs hT hF hS m25 m26 m27 ls hl
      obtain rfl : 30 = i24 := by omega
      refine lv_iload_n hx hb dX3_passHour_42 rfl (lv_at hl 0 rfl) ?_
      refine lv_aload_n hx hb dX3_passHour_43 rfl (lv_at hl 2 rfl) ?_
      refine tw_get hx hb hts bF2_X3 hown hK hT hr_o0 shc_6 rfl 3 (by decide) (ht_at2 hts 37 rfl) (fun _ h9 => h9) dX3_passHour_44 (fun v9 m245 h9 => ?_)
      obtain ⟨x246, rfl, gx246, kx246⟩ := h9 _ rfl
      refine lv_icmp_ge (tgt := 79) hx hb dX3_passHour_47 (by decide) (fun c247 => ?_) (fun c247 => (by exfalso; have q9 : ((30 : Nat) : Int) < x246.toInt := ti_nle c247 rfl (nI_toInt (by omega)); omega))
      have t248 : x246.toInt ≤ ((30 : Nat) : Int) := ti_le c247 rfl (nI_toInt (by omega))
      refine lv_iconst (v := 0) hx hb dX3_passHour_79 (by decide) ?_
      refine lv_istore_n (lv' := [(2, .int 0), (1, .int r7), (0, .ref o0)]) hx hb dX3_passHour_80 rfl hl (by decide) rfl (fun ls hl => ?_)
      have jn369 : ∀ (z363 : Int32), ((0 ≤ z363.toInt ∧ z363.toInt ≤ 30)) → ∀ (H : Heap) (locs : List Loc), gH (dC, dI) kA (SHc nC nS) G H → gF (dC, dI) SKc G ([(5, 11), (5, 12), (5, 13), (6, 4), (13, 2), (13, 6), (13, 8), (13, 10), (13, 11), (26, 0), (29, 0), (30, 0), (31, 0), (32, 0), (33, 0), (34, 0), (35, 0)] : List (Nat × Nat)) s.heap H → va_S A s.heap H locs → el H o0 (dI 6 4) = some (.int x1) → el H o0 (dI 6 0) = some (.ref b5) → el H o0 (dI 6 1) = some (.ref b12) → el H o0 (dI 6 3) = some (.int x246) → ∀ ls : Array Slot, lv_has ls 3 [(2, .int z363), (1, .int r7), (0, .ref o0)] → W p l e (headSpec w_c_passHourE ({ frames := 6, cells := 0, slots := 0, locals := 136 })).room s m #[.ref o0] below meth c H locs 0 0 (MQ below (va_Qv (fun (u : Int32) => (1 ≤ u.toInt ∧ u.toInt ≤ 40000) ∧ (u.toInt = ho.toInt + 1)) (fun (h1 : Int32) (t : State) => gH (dC, dI) kA (SHc nC nS) G t.heap ∧ gF (dC, dI) SKc G ([(5, 11), (5, 12), (5, 13), (6, 4), (13, 2), (13, 6), (13, 8), (13, 10), (13, 11), (26, 0), (29, 0), (30, 0), (31, 0), (32, 0), (33, 0), (34, 0), (35, 0)] : List (Nat × Nat)) s.heap t.heap ∧ el t.heap o0 (dI 6 4) = some (.int h1)) A) #[.ref o0] s 0 0 A) (F0 m 119 ls []) := by
        intro z363 h364 H locs hT hF hS m365 m366 m367 m368 ls hl
        refine lv_aload_n hx hb dX3_passHour_119 rfl (lv_at hl 2 rfl) ?_
        refine tw_getM (v := .ref b12) hx hb hts bF2_X3 hown hK hT hr_o0 shc_6 rfl 1 (by decide) (ht_at2 hts 16 rfl) (fun _ h9 => h9) m367 dX3_passHour_120 ?_
        have hFc := gA_free hG hA hS
        refine va_callv (va_runV (As := []) (rest := []) ⟨hx, hb, hml, hown, hts⟩ (c_runDitches l dC dI kA adK adV G H nC nS b12 hT hg13 (by omega) (by omega)) (cwV 0 hts (goodIn_app (goodIn_r _ [90, 91, 92, 37] rfl (by decide +kernel)) (goodIn_ca (goodIn_r _ [71, 72, 32, 73, 51, 74, 75, 76, 77, 78, 41, 42, 79, 44, 45, 37, 80, 81, 82, 83, 84, 85, 86, 47, 48, 49, 52, 53, 54, 55, 87, 88, 89] rfl (by decide +kernel)) (bs2_in _ _))) rfl rfl rfl (by decide +kernel) ⟨(Nat.le_of_ble_eq_true rfl), (Nat.le_of_ble_eq_true rfl)⟩) ⟨fun a U g mk q => by obtain ⟨q0, q1, qK, qE⟩ := q; exact ⟨q0, q1, va_K.moved (u := U) (U := U.calling g mk a) (Vm.Alike.refl U.vm) qK, EVC.blind g mk a qE⟩, gH_rc hK hT hg13 shc_5 rfl, fun U hU hW => ⟨rfl, hU, va_K.moved hW.alike hK, hE.call hS hFc hU hW⟩⟩ rfl rfl hl.1 rfl (lv_room (Nat.le_of_ble_eq_true rfl)) dX3_passHour_123 ⟨(Nat.le_of_ble_eq_true rfl), (Nat.le_of_ble_eq_true rfl)⟩) hS (fun q _ h => hFc q h) hFc (fun u t H locs ht hvm hw371 hB _ _ hS => ?_)
        obtain ⟨hT, hF1⟩ := hB
        rw [ht] at hT hF1
        have m372 := (hF1.fld hr_o0 skc_6 (k := 4) (by decide) (by decide)).trans m365
        have m373 := (hF1.fld hr_o0 skc_6 (k := 0) (by decide) (by decide)).trans m366
        have m374 := (hF1.fld hr_o0 skc_6 (k := 1) (by decide) (by decide)).trans m367
        have hF := hF.more hF1 (by decide)
        try dsimp only at hw371
        refine lv_aload_n hx hb dX3_passHour_126 rfl (lv_at hl 2 rfl) ?_
        refine lv_aload_n hx hb dX3_passHour_127 rfl (lv_at hl 2 rfl) ?_
        refine tw_getM (v := .ref b5) hx hb hts bF2_X3 hown hK hT hr_o0 shc_6 rfl 0 (by decide) (ht_at2 hts 1 rfl) (fun _ h9 => h9) m373 dX3_passHour_128 ?_
        refine lv_aload_n hx hb dX3_passHour_131 rfl (lv_at hl 2 rfl) ?_
        refine tw_getM (v := .int x1) hx hb hts bF2_X3 hown hK hT hr_o0 shc_6 rfl 4 (by decide) (ht_at2 hts 0 rfl) (fun _ h9 => h9) m372 dX3_passHour_132 ?_
        have hFc := gA_free hG hA hS
        refine va_calli (va_runV (As := [.int x1]) (rest := [.ref o0]) ⟨hx, hb, hml, hown, hts⟩ (c_windAt l dC dI kA adK adV G H nC nS b5 x1 hT hg6 (by omega) (by omega)) (cwV 1 hts (goodIn_app (goodIn_r _ [108, 109, 110, 16] rfl (by decide +kernel)) (goodIn_ca (goodIn_r _ [93, 94, 20, 21, 22, 23, 24, 25, 26, 95, 96, 97, 98, 99, 100, 101, 102, 103, 104, 105, 106, 48, 107] rfl (by decide +kernel)) (bs2_in _ _))) rfl rfl rfl (by decide +kernel) ⟨(Nat.le_of_ble_eq_true rfl), (Nat.le_of_ble_eq_true rfl)⟩) ⟨fun a U g mk q => by obtain ⟨q0, q1, qK, qE⟩ := q; exact ⟨q0, q1, va_K.moved (u := U) (U := U.calling g mk a) (Vm.Alike.refl U.vm) qK, EVC.blind g mk a qE⟩, gH_rc hK hT hg6 shc_11 rfl, fun U hU hW => ⟨rfl, hU, va_K.moved hW.alike hK, hE.call hS hFc hU hW⟩⟩ rfl rfl hl.1 rfl (lv_room (Nat.le_of_ble_eq_true rfl)) dX3_passHour_135 ⟨(Nat.le_of_ble_eq_true rfl), (Nat.le_of_ble_eq_true rfl)⟩) hS (fun q _ h => hFc q h) hFc (fun r376 u t H locs ht hvm hw377 hB _ _ hS => ?_)
        obtain ⟨hT, hF1⟩ := hB
        rw [ht] at hT hF1
        have m378 := (hF1.fld hr_o0 skc_6 (k := 4) (by decide) (by decide)).trans m372
        have m380 := (hF1.fld hr_o0 skc_6 (k := 1) (by decide) (by decide)).trans m374
        have hF := hF.more hF1 (by decide)
        try dsimp only at hw377
        have hFc := gA_free hG hA hS
        refine va_callv (va_runV (As := [.int r376]) (rest := []) ⟨hx, hb, hml, hown, hts⟩ (c_runMills l dC dI kA adK adV G H nC nS o0 r376 hT hr_o0 (by omega) (by omega)) (cwV 1 hts (goodIn_app (goodIn_r _ [125, 126, 127, 70] rfl (by decide +kernel)) (goodIn_ca (goodIn_r _ [111, 38, 39, 112, 113, 17, 46, 47, 48, 49, 114, 31, 52, 32, 51, 53, 54, 55, 37, 50, 56, 115, 58, 59, 116, 117, 118, 60, 61, 62, 63, 64, 65, 66, 119, 120, 121, 70, 122, 123, 124] rfl (by decide +kernel)) (bs2_in _ _))) rfl rfl rfl (by decide +kernel) ⟨(Nat.le_of_ble_eq_true rfl), (Nat.le_of_ble_eq_true rfl)⟩) ⟨fun a U g mk q => by obtain ⟨q0, q1, qK, qE⟩ := q; exact ⟨q0, q1, va_K.moved (u := U) (U := U.calling g mk a) (Vm.Alike.refl U.vm) qK, EVC.blind g mk a qE⟩, gH_rc hK hT hr_o0 shc_6 rfl, fun U hU hW => ⟨rfl, hU, va_K.moved hW.alike hK, hE.call hS hFc hU hW⟩⟩ rfl rfl hl.1 rfl (lv_room (Nat.le_of_ble_eq_true rfl)) dX3_passHour_138 ⟨(Nat.le_of_ble_eq_true rfl), (Nat.le_of_ble_eq_true rfl)⟩) hS (fun q _ h => hFc q h) hFc (fun u t H locs ht hvm hw383 hB _ _ hS => ?_)
        obtain ⟨hT, hF1⟩ := hB
        rw [ht] at hT hF1
        have m384 := (hF1.fld hr_o0 skc_6 (k := 4) (by decide) (by decide)).trans m378
        have m386 := (hF1.fld hr_o0 skc_6 (k := 1) (by decide) (by decide)).trans m380
        have hF := hF.more hF1 (by decide)
        try dsimp only at hw383
        refine lv_aload_n hx hb dX3_passHour_141 rfl (lv_at hl 2 rfl) ?_
        refine tw_getM (v := .int x1) hx hb hts bF2_X3 hown hK hT hr_o0 shc_6 rfl 4 (by decide) (ht_at2 hts 0 rfl) (fun _ h9 => h9) m384 dX3_passHour_142 ?_
        refine lv_bipush (v := 24) hx hb dX3_passHour_145 (by decide) ?_
        refine lv_irem hx hb dX3_passHour_147 (by decide) ?_
        refine lv_topi (fun x388 ex388 => ?_)
        have t389 : x388.toInt = x1.toInt % 24 := ti_rem ex388 rfl (by decide) (by omega) (by omega)
        refine lv_if_ne (tgt := 158) hx hb dX3_passHour_148 (by decide) (fun c390 => ?_) (fun c390 => ?_)
        · have t391 : x388.toInt ≠ 0 := ti_ne c390 rfl (by decide)
          exact W.vret hx hb hr (fun t ht hW => ⟨⟨x1, rfl, (by exact ⟨(by have q8 := ti_all x1; omega), (by omega)⟩), by (try dsimp only); rw [ht]; exact ⟨hT, hF, m384⟩⟩, hS.F ht⟩) hS.2.2 dX3_passHour_158
        · have t392 : x388.toInt = 0 := ti_eq c390 rfl (by decide)
          refine lv_aload_n hx hb dX3_passHour_151 rfl (lv_at hl 2 rfl) ?_
          refine tw_getM (v := .ref b12) hx hb hts bF2_X3 hown hK hT hr_o0 shc_6 rfl 1 (by decide) (ht_at2 hts 16 rfl) (fun _ h9 => h9) m386 dX3_passHour_152 ?_
          have hFc := gA_free hG hA hS
          refine va_callv (va_runV (As := []) (rest := []) ⟨hx, hb, hml, hown, hts⟩ (c_endDay l dC dI kA adK adV G H nC nS b12 hT hg13 (by omega) (by omega)) (cwV 0 hts (goodIn_app (goodIn_r _ [136, 137, 138, 37] rfl (by decide +kernel)) (goodIn_ca (goodIn_r _ [128, 31, 32, 129, 42, 130, 131, 132, 133, 134, 37, 51, 135] rfl (by decide +kernel)) (bs2_in _ _))) rfl rfl rfl (by decide +kernel) ⟨(Nat.le_of_ble_eq_true rfl), (Nat.le_of_ble_eq_true rfl)⟩) ⟨fun a U g mk q => by obtain ⟨q0, q1, qK, qE⟩ := q; exact ⟨q0, q1, va_K.moved (u := U) (U := U.calling g mk a) (Vm.Alike.refl U.vm) qK, EVC.blind g mk a qE⟩, gH_rc hK hT hg13 shc_5 rfl, fun U hU hW => ⟨rfl, hU, va_K.moved hW.alike hK, hE.call hS hFc hU hW⟩⟩ rfl rfl hl.1 rfl (lv_room (Nat.le_of_ble_eq_true rfl)) dX3_passHour_155 ⟨(Nat.le_of_ble_eq_true rfl), (Nat.le_of_ble_eq_true rfl)⟩) hS (fun q _ h => hFc q h) hFc (fun u t H locs ht hvm hw394 hB _ _ hS => ?_)
          obtain ⟨hT, hF1⟩ := hB
          rw [ht] at hT hF1
          have m395 := (hF1.fld hr_o0 skc_6 (k := 4) (by decide) (by decide)).trans m384
          have hF := hF.more hF1 (by decide)
          try dsimp only at hw394
          exact W.vret hx hb hr (fun t ht hW => ⟨⟨x1, rfl, (by exact ⟨(by have q8 := ti_all x1; omega), (by omega)⟩), by (try dsimp only); rw [ht]; exact ⟨hT, hF, m395⟩⟩, hS.F ht⟩) hS.2.2 dX3_passHour_158
      have key399 : ∀ (n399 i249 : Nat), i249 + n399 = 30 → 0 ≤ i249 → ∀ (H : Heap) (locs : List Loc), gH (dC, dI) kA (SHc nC nS) G H → gF (dC, dI) SKc G ([(5, 11), (5, 12), (5, 13), (6, 4), (13, 2), (13, 6), (13, 8), (13, 10), (13, 11), (26, 0), (29, 0), (30, 0), (31, 0), (32, 0), (33, 0), (34, 0), (35, 0)] : List (Nat × Nat)) s.heap H → va_S A s.heap H locs → el H o0 (dI 6 4) = some (.int x1) → el H o0 (dI 6 0) = some (.ref b5) → el H o0 (dI 6 1) = some (.ref b12) → el H o0 (dI 6 3) = some (.int x246) → ∀ ls : Array Slot, lv_has ls 3 [(2, .int (nI i249)), (1, .int r7), (0, .ref o0)] → W p l e (headSpec w_c_passHourE ({ frames := 6, cells := 0, slots := 0, locals := 136 })).room s m #[.ref o0] below meth c H locs 0 0 (MQ below (va_Qv (fun (u : Int32) => (1 ≤ u.toInt ∧ u.toInt ≤ 40000) ∧ (u.toInt = ho.toInt + 1)) (fun (h1 : Int32) (t : State) => gH (dC, dI) kA (SHc nC nS) G t.heap ∧ gF (dC, dI) SKc G ([(5, 11), (5, 12), (5, 13), (6, 4), (13, 2), (13, 6), (13, 8), (13, 10), (13, 11), (26, 0), (29, 0), (30, 0), (31, 0), (32, 0), (33, 0), (34, 0), (35, 0)] : List (Nat × Nat)) s.heap t.heap ∧ el t.heap o0 (dI 6 4) = some (.int h1)) A) #[.ref o0] s 0 0 A) (F0 m 81 ls []) := by
        intro n399
        induction n399 with
        | zero =>
          intro i249 hn399 hlo400  H locs hT hF hS m250 m251 m252 m253 ls hl
          obtain rfl : 30 = i249 := by omega
          refine lv_iload_n hx hb dX3_passHour_81 rfl (lv_at hl 0 rfl) ?_
          refine lv_aload_n hx hb dX3_passHour_82 rfl (lv_at hl 2 rfl) ?_
          refine tw_getM (v := .int x246) hx hb hts bF2_X3 hown hK hT hr_o0 shc_6 rfl 3 (by decide) (ht_at2 hts 37 rfl) (fun _ h9 => h9) m253 dX3_passHour_83 ?_
          refine lv_icmp_ge (tgt := 119) hx hb dX3_passHour_86 (by decide) (fun c401 => ?_) (fun c401 => (by exfalso; have q9 : ((30 : Nat) : Int) < x246.toInt := ti_nle c401 rfl (nI_toInt (by omega)); omega))
          have t402 : x246.toInt ≤ ((30 : Nat) : Int) := ti_le c401 rfl (nI_toInt (by omega))
          exact jn369 (nI 30) (rg_t (a := ((30 : Nat) : Int)) (nI_toInt (by omega)) (by omega) (by omega)) _ _ hT hF hS m250 m251 m252 m253 ls (lv_sub hl [0, 1, 2] rfl)
        | succ n399 ih399 =>
          intro i249 hn399 hlo400  H locs hT hF hS m250 m251 m252 m253 ls hl
          have hlt402 : i249 < 30 := by omega
          refine lv_iload_n hx hb dX3_passHour_81 rfl (lv_at hl 0 rfl) ?_
          refine lv_aload_n hx hb dX3_passHour_82 rfl (lv_at hl 2 rfl) ?_
          refine tw_getM (v := .int x246) hx hb hts bF2_X3 hown hK hT hr_o0 shc_6 rfl 3 (by decide) (ht_at2 hts 37 rfl) (fun _ h9 => h9) m253 dX3_passHour_83 ?_
          refine lv_icmp_ge (tgt := 119) hx hb dX3_passHour_86 (by decide) (fun c403 => ?_) (fun c403 => ?_)
          · have t404 : x246.toInt ≤ ((i249 : Nat) : Int) := ti_le c403 rfl (nI_toInt (by omega))
            exact jn369 (nI i249) (rg_t (a := ((i249 : Nat) : Int)) (nI_toInt (by omega)) (by omega) (by omega)) _ _ hT hF hS m250 m251 m252 m253 ls (lv_sub hl [0, 1, 2] rfl)
          · have t405 : ((i249 : Nat) : Int) < x246.toInt := ti_nle c403 rfl (nI_toInt (by omega))
            refine lv_aload_n hx hb dX3_passHour_89 rfl (lv_at hl 2 rfl) ?_
            refine tw_get hx hb hts bF2_X3 hown hK hT hr_o0 shc_6 rfl 2 (by decide) (ht_at2 hts 38 rfl) (fun _ h9 => h9) dX3_passHour_90 (fun v9 m406 h9 => ?_)
            obtain ⟨b407, rfl, hg408⟩ := h9 _ rfl
            refine lv_iload_n hx hb dX3_passHour_93 rfl (lv_at hl 0 rfl) ?_
            refine tw_aald (i := (nI i249)) hx hb hK hT hg408 shc_18 rfl (vp_in_nI (by omega) (by decide)) dX3_passHour_94 (fun v9 m409 h9 => ?_)
            obtain ⟨b410, rfl, hg411⟩ := h9
            refine tw_getN hx hb hts bF2_X10 hown hK hT hg411 shc_13 rfl 2 (by decide) (hE.nw 79 rfl) (fun _ h9 => h9) dX3_passHour_95 (fun v9 m412 h9 => ?_)
            obtain ⟨x413, rfl, gx413, kx413⟩ := h9 _ rfl
            refine lv_iconst (v := 4) hx hb dX3_passHour_98 (by decide) ?_
            have t414 : -2147483648 ≤ x413.toInt ∧ x413.toInt ≤ 2147483647 := ti_all x413
            refine lv_icmp_ne (tgt := 113) hx hb dX3_passHour_99 (by decide) (fun c415 => ?_) (fun c415 => ?_)
            · have t416 : x413.toInt ≠ 4 := ti_ne c415 rfl (by decide)
              refine lv_iinc (v := nI (i249 + 1)) (lv' := [(2, .int (nI (i249 + 1))), (1, .int r7), (0, .ref o0)]) hx hb dX3_passHour_113 hl (k := 0) rfl (nI_add i249 1) (by decide) rfl (fun ls hl => ?_)
              refine lv_goto (tgt := 81) hx hb dX3_passHour_116 (by decide) ?_
              exact ih399 (i249 + 1) (by omega) (by omega) _ _ hT hF hS m250 m251 m252 m253 ls (lv_sub hl [0, 1, 2] rfl)
            · have t417 : x413.toInt = 4 := ti_eq c415 rfl (by decide)
              refine lv_aload_n hx hb dX3_passHour_102 rfl (lv_at hl 2 rfl) ?_
              refine lv_aload_n hx hb dX3_passHour_103 rfl (lv_at hl 2 rfl) ?_
              refine tw_getM (v := .ref b407) hx hb hts bF2_X3 hown hK hT hr_o0 shc_6 rfl 2 (by decide) (ht_at2 hts 38 rfl) (fun _ h9 => h9) m406 dX3_passHour_104 ?_
              refine lv_iload_n hx hb dX3_passHour_107 rfl (lv_at hl 0 rfl) ?_
              refine tw_aald (i := (nI i249)) hx hb hK hT hg408 shc_18 rfl (vp_in_nI (by omega) (by decide)) dX3_passHour_108 (fun v9 m418 h9 => ?_)
              obtain ⟨b419, rfl, hg420⟩ := h9
              obtain rfl : b410 = b419 := (el_sameR m418 m409 (show (nI i249).toInt = (nI i249).toInt from by have q9 := (show (nI i249).toInt = ((i249 : Nat) : Int) from (nI_toInt (by omega))); have q8 := (show (nI i249).toInt = ((i249 : Nat) : Int) from (nI_toInt (by omega))); omega)).symm
              refine lv_iload_n hx hb dX3_passHour_109 rfl (lv_at hl 1 rfl) ?_
              have hFc := gA_free hG hA hS
              refine va_callv (va_runV (As := [.ref b410, .int r7]) (rest := []) ⟨hx, hb, hml, hown, hts⟩ (c_runSluice l dC dI kA adK adV G H nC nS o0 b410 r7 hT hg411 hr_o0 (by omega) (by omega)) (cwV 2 hts (goodIn_app (goodIn_r _ [67, 68, 69, 70] rfl (by decide +kernel)) (goodIn_ca (goodIn_r _ [40, 17, 41, 42, 32, 43, 44, 45, 37, 46, 47, 48, 49, 50, 51, 52, 53, 54, 55, 56, 57, 58, 59, 60, 61, 62, 63, 64, 65, 66] rfl (by decide +kernel)) (bs2_in _ _))) rfl rfl rfl (by decide +kernel) ⟨(Nat.le_of_ble_eq_true rfl), (Nat.le_of_ble_eq_true rfl)⟩) ⟨fun a U g mk q => by obtain ⟨q0, q1, qK, qE⟩ := q; exact ⟨q0, q1, va_K.moved (u := U) (U := U.calling g mk a) (Vm.Alike.refl U.vm) qK, EVC.blind g mk a qE⟩, gH_rc hK hT hr_o0 shc_6 rfl, fun U hU hW => ⟨rfl, hU, va_K.moved hW.alike hK, hE.call hS hFc hU hW⟩⟩ rfl rfl hl.1 rfl (lv_room (Nat.le_of_ble_eq_true rfl)) dX3_passHour_110 ⟨(Nat.le_of_ble_eq_true rfl), (Nat.le_of_ble_eq_true rfl)⟩) hS (fun q _ h => hFc q h) hFc (fun u t H locs ht hvm hw422 hB _ _ hS => ?_)
              obtain ⟨hT, hF1⟩ := hB
              rw [ht] at hT hF1
              have m423 := (hF1.fld hr_o0 skc_6 (k := 4) (by decide) (by decide)).trans m250
              have m424 := (hF1.fld hr_o0 skc_6 (k := 0) (by decide) (by decide)).trans m251
              have m425 := (hF1.fld hr_o0 skc_6 (k := 1) (by decide) (by decide)).trans m252
              have m426 := (hF1.fld hr_o0 skc_6 (k := 3) (by decide) (by decide)).trans m253
              have hF := hF.more hF1 (by decide)
              try dsimp only at hw422
              refine lv_iinc (v := nI (i249 + 1)) (lv' := [(2, .int (nI (i249 + 1))), (1, .int r7), (0, .ref o0)]) hx hb dX3_passHour_113 hl (k := 0) rfl (nI_add i249 1) (by decide) rfl (fun ls hl => ?_)
              refine lv_goto (tgt := 81) hx hb dX3_passHour_116 (by decide) ?_
              exact ih399 (i249 + 1) (by omega) (by omega) _ _ hT hF hS m423 m424 m425 m426 ls (lv_sub hl [0, 1, 2] rfl)
      exact key399 (30 - 0) 0 (by omega) (Nat.le_refl _) _ _ hT hF hS m25 m26 m27 m245 ls (lv_sub hl [0, 1, 2] rfl)
    | succ n243 ih243 =>
      intro i24 hn243 hlo244  H locs hT hF hS m25 m26 m27 ls hl
      have hlt429 : i24 < 30 := by omega
      refine lv_iload_n hx hb dX3_passHour_42 rfl (lv_at hl 0 rfl) ?_
      refine lv_aload_n hx hb dX3_passHour_43 rfl (lv_at hl 2 rfl) ?_
      refine tw_get hx hb hts bF2_X3 hown hK hT hr_o0 shc_6 rfl 3 (by decide) (ht_at2 hts 37 rfl) (fun _ h9 => h9) dX3_passHour_44 (fun v9 m430 h9 => ?_)
      obtain ⟨x431, rfl, gx431, kx431⟩ := h9 _ rfl
      refine lv_icmp_ge (tgt := 79) hx hb dX3_passHour_47 (by decide) (fun c432 => ?_) (fun c432 => ?_)
      · have t433 : x431.toInt ≤ ((i24 : Nat) : Int) := ti_le c432 rfl (nI_toInt (by omega))
        refine lv_iconst (v := 0) hx hb dX3_passHour_79 (by decide) ?_
        refine lv_istore_n (lv' := [(2, .int 0), (1, .int r7), (0, .ref o0)]) hx hb dX3_passHour_80 rfl hl (by decide) rfl (fun ls hl => ?_)
        have jn554 : ∀ (z548 : Int32), ((0 ≤ z548.toInt ∧ z548.toInt ≤ 30)) → ∀ (H : Heap) (locs : List Loc), gH (dC, dI) kA (SHc nC nS) G H → gF (dC, dI) SKc G ([(5, 11), (5, 12), (5, 13), (6, 4), (13, 2), (13, 6), (13, 8), (13, 10), (13, 11), (26, 0), (29, 0), (30, 0), (31, 0), (32, 0), (33, 0), (34, 0), (35, 0)] : List (Nat × Nat)) s.heap H → va_S A s.heap H locs → el H o0 (dI 6 4) = some (.int x1) → el H o0 (dI 6 0) = some (.ref b5) → el H o0 (dI 6 1) = some (.ref b12) → el H o0 (dI 6 3) = some (.int x431) → ∀ ls : Array Slot, lv_has ls 3 [(2, .int z548), (1, .int r7), (0, .ref o0)] → W p l e (headSpec w_c_passHourE ({ frames := 6, cells := 0, slots := 0, locals := 136 })).room s m #[.ref o0] below meth c H locs 0 0 (MQ below (va_Qv (fun (u : Int32) => (1 ≤ u.toInt ∧ u.toInt ≤ 40000) ∧ (u.toInt = ho.toInt + 1)) (fun (h1 : Int32) (t : State) => gH (dC, dI) kA (SHc nC nS) G t.heap ∧ gF (dC, dI) SKc G ([(5, 11), (5, 12), (5, 13), (6, 4), (13, 2), (13, 6), (13, 8), (13, 10), (13, 11), (26, 0), (29, 0), (30, 0), (31, 0), (32, 0), (33, 0), (34, 0), (35, 0)] : List (Nat × Nat)) s.heap t.heap ∧ el t.heap o0 (dI 6 4) = some (.int h1)) A) #[.ref o0] s 0 0 A) (F0 m 119 ls []) := by
          intro z548 h549 H locs hT hF hS m550 m551 m552 m553 ls hl
          refine lv_aload_n hx hb dX3_passHour_119 rfl (lv_at hl 2 rfl) ?_
          refine tw_getM (v := .ref b12) hx hb hts bF2_X3 hown hK hT hr_o0 shc_6 rfl 1 (by decide) (ht_at2 hts 16 rfl) (fun _ h9 => h9) m552 dX3_passHour_120 ?_
          have hFc := gA_free hG hA hS
          refine va_callv (va_runV (As := []) (rest := []) ⟨hx, hb, hml, hown, hts⟩ (c_runDitches l dC dI kA adK adV G H nC nS b12 hT hg13 (by omega) (by omega)) (cwV 0 hts (goodIn_app (goodIn_r _ [90, 91, 92, 37] rfl (by decide +kernel)) (goodIn_ca (goodIn_r _ [71, 72, 32, 73, 51, 74, 75, 76, 77, 78, 41, 42, 79, 44, 45, 37, 80, 81, 82, 83, 84, 85, 86, 47, 48, 49, 52, 53, 54, 55, 87, 88, 89] rfl (by decide +kernel)) (bs2_in _ _))) rfl rfl rfl (by decide +kernel) ⟨(Nat.le_of_ble_eq_true rfl), (Nat.le_of_ble_eq_true rfl)⟩) ⟨fun a U g mk q => by obtain ⟨q0, q1, qK, qE⟩ := q; exact ⟨q0, q1, va_K.moved (u := U) (U := U.calling g mk a) (Vm.Alike.refl U.vm) qK, EVC.blind g mk a qE⟩, gH_rc hK hT hg13 shc_5 rfl, fun U hU hW => ⟨rfl, hU, va_K.moved hW.alike hK, hE.call hS hFc hU hW⟩⟩ rfl rfl hl.1 rfl (lv_room (Nat.le_of_ble_eq_true rfl)) dX3_passHour_123 ⟨(Nat.le_of_ble_eq_true rfl), (Nat.le_of_ble_eq_true rfl)⟩) hS (fun q _ h => hFc q h) hFc (fun u t H locs ht hvm hw556 hB _ _ hS => ?_)
          obtain ⟨hT, hF1⟩ := hB
          rw [ht] at hT hF1
          have m557 := (hF1.fld hr_o0 skc_6 (k := 4) (by decide) (by decide)).trans m550
          have m558 := (hF1.fld hr_o0 skc_6 (k := 0) (by decide) (by decide)).trans m551
          have m559 := (hF1.fld hr_o0 skc_6 (k := 1) (by decide) (by decide)).trans m552
          have hF := hF.more hF1 (by decide)
          try dsimp only at hw556
          refine lv_aload_n hx hb dX3_passHour_126 rfl (lv_at hl 2 rfl) ?_
          refine lv_aload_n hx hb dX3_passHour_127 rfl (lv_at hl 2 rfl) ?_
          refine tw_getM (v := .ref b5) hx hb hts bF2_X3 hown hK hT hr_o0 shc_6 rfl 0 (by decide) (ht_at2 hts 1 rfl) (fun _ h9 => h9) m558 dX3_passHour_128 ?_
          refine lv_aload_n hx hb dX3_passHour_131 rfl (lv_at hl 2 rfl) ?_
          refine tw_getM (v := .int x1) hx hb hts bF2_X3 hown hK hT hr_o0 shc_6 rfl 4 (by decide) (ht_at2 hts 0 rfl) (fun _ h9 => h9) m557 dX3_passHour_132 ?_
          have hFc := gA_free hG hA hS
          refine va_calli (va_runV (As := [.int x1]) (rest := [.ref o0]) ⟨hx, hb, hml, hown, hts⟩ (c_windAt l dC dI kA adK adV G H nC nS b5 x1 hT hg6 (by omega) (by omega)) (cwV 1 hts (goodIn_app (goodIn_r _ [108, 109, 110, 16] rfl (by decide +kernel)) (goodIn_ca (goodIn_r _ [93, 94, 20, 21, 22, 23, 24, 25, 26, 95, 96, 97, 98, 99, 100, 101, 102, 103, 104, 105, 106, 48, 107] rfl (by decide +kernel)) (bs2_in _ _))) rfl rfl rfl (by decide +kernel) ⟨(Nat.le_of_ble_eq_true rfl), (Nat.le_of_ble_eq_true rfl)⟩) ⟨fun a U g mk q => by obtain ⟨q0, q1, qK, qE⟩ := q; exact ⟨q0, q1, va_K.moved (u := U) (U := U.calling g mk a) (Vm.Alike.refl U.vm) qK, EVC.blind g mk a qE⟩, gH_rc hK hT hg6 shc_11 rfl, fun U hU hW => ⟨rfl, hU, va_K.moved hW.alike hK, hE.call hS hFc hU hW⟩⟩ rfl rfl hl.1 rfl (lv_room (Nat.le_of_ble_eq_true rfl)) dX3_passHour_135 ⟨(Nat.le_of_ble_eq_true rfl), (Nat.le_of_ble_eq_true rfl)⟩) hS (fun q _ h => hFc q h) hFc (fun r561 u t H locs ht hvm hw562 hB _ _ hS => ?_)
          obtain ⟨hT, hF1⟩ := hB
          rw [ht] at hT hF1
          have m563 := (hF1.fld hr_o0 skc_6 (k := 4) (by decide) (by decide)).trans m557
          have m565 := (hF1.fld hr_o0 skc_6 (k := 1) (by decide) (by decide)).trans m559
          have hF := hF.more hF1 (by decide)
          try dsimp only at hw562
          have hFc := gA_free hG hA hS
          refine va_callv (va_runV (As := [.int r561]) (rest := []) ⟨hx, hb, hml, hown, hts⟩ (c_runMills l dC dI kA adK adV G H nC nS o0 r561 hT hr_o0 (by omega) (by omega)) (cwV 1 hts (goodIn_app (goodIn_r _ [125, 126, 127, 70] rfl (by decide +kernel)) (goodIn_ca (goodIn_r _ [111, 38, 39, 112, 113, 17, 46, 47, 48, 49, 114, 31, 52, 32, 51, 53, 54, 55, 37, 50, 56, 115, 58, 59, 116, 117, 118, 60, 61, 62, 63, 64, 65, 66, 119, 120, 121, 70, 122, 123, 124] rfl (by decide +kernel)) (bs2_in _ _))) rfl rfl rfl (by decide +kernel) ⟨(Nat.le_of_ble_eq_true rfl), (Nat.le_of_ble_eq_true rfl)⟩) ⟨fun a U g mk q => by obtain ⟨q0, q1, qK, qE⟩ := q; exact ⟨q0, q1, va_K.moved (u := U) (U := U.calling g mk a) (Vm.Alike.refl U.vm) qK, EVC.blind g mk a qE⟩, gH_rc hK hT hr_o0 shc_6 rfl, fun U hU hW => ⟨rfl, hU, va_K.moved hW.alike hK, hE.call hS hFc hU hW⟩⟩ rfl rfl hl.1 rfl (lv_room (Nat.le_of_ble_eq_true rfl)) dX3_passHour_138 ⟨(Nat.le_of_ble_eq_true rfl), (Nat.le_of_ble_eq_true rfl)⟩) hS (fun q _ h => hFc q h) hFc (fun u t H locs ht hvm hw568 hB _ _ hS => ?_)
          obtain ⟨hT, hF1⟩ := hB
          rw [ht] at hT hF1
          have m569 := (hF1.fld hr_o0 skc_6 (k := 4) (by decide) (by decide)).trans m563
          have m571 := (hF1.fld hr_o0 skc_6 (k := 1) (by decide) (by decide)).trans m565
          have hF := hF.more hF1 (by decide)
          try dsimp only at hw568
          refine lv_aload_n hx hb dX3_passHour_141 rfl (lv_at hl 2 rfl) ?_
          refine tw_getM (v := .int x1) hx hb hts bF2_X3 hown hK hT hr_o0 shc_6 rfl 4 (by decide) (ht_at2 hts 0 rfl) (fun _ h9 => h9) m569 dX3_passHour_142 ?_
          refine lv_bipush (v := 24) hx hb dX3_passHour_145 (by decide) ?_
          refine lv_irem hx hb dX3_passHour_147 (by decide) ?_
          refine lv_topi (fun x573 ex573 => ?_)
          have t574 : x573.toInt = x1.toInt % 24 := ti_rem ex573 rfl (by decide) (by omega) (by omega)
          refine lv_if_ne (tgt := 158) hx hb dX3_passHour_148 (by decide) (fun c575 => ?_) (fun c575 => ?_)
          · have t576 : x573.toInt ≠ 0 := ti_ne c575 rfl (by decide)
            exact W.vret hx hb hr (fun t ht hW => ⟨⟨x1, rfl, (by exact ⟨(by have q8 := ti_all x1; omega), (by omega)⟩), by (try dsimp only); rw [ht]; exact ⟨hT, hF, m569⟩⟩, hS.F ht⟩) hS.2.2 dX3_passHour_158
          · have t577 : x573.toInt = 0 := ti_eq c575 rfl (by decide)
            refine lv_aload_n hx hb dX3_passHour_151 rfl (lv_at hl 2 rfl) ?_
            refine tw_getM (v := .ref b12) hx hb hts bF2_X3 hown hK hT hr_o0 shc_6 rfl 1 (by decide) (ht_at2 hts 16 rfl) (fun _ h9 => h9) m571 dX3_passHour_152 ?_
            have hFc := gA_free hG hA hS
            refine va_callv (va_runV (As := []) (rest := []) ⟨hx, hb, hml, hown, hts⟩ (c_endDay l dC dI kA adK adV G H nC nS b12 hT hg13 (by omega) (by omega)) (cwV 0 hts (goodIn_app (goodIn_r _ [136, 137, 138, 37] rfl (by decide +kernel)) (goodIn_ca (goodIn_r _ [128, 31, 32, 129, 42, 130, 131, 132, 133, 134, 37, 51, 135] rfl (by decide +kernel)) (bs2_in _ _))) rfl rfl rfl (by decide +kernel) ⟨(Nat.le_of_ble_eq_true rfl), (Nat.le_of_ble_eq_true rfl)⟩) ⟨fun a U g mk q => by obtain ⟨q0, q1, qK, qE⟩ := q; exact ⟨q0, q1, va_K.moved (u := U) (U := U.calling g mk a) (Vm.Alike.refl U.vm) qK, EVC.blind g mk a qE⟩, gH_rc hK hT hg13 shc_5 rfl, fun U hU hW => ⟨rfl, hU, va_K.moved hW.alike hK, hE.call hS hFc hU hW⟩⟩ rfl rfl hl.1 rfl (lv_room (Nat.le_of_ble_eq_true rfl)) dX3_passHour_155 ⟨(Nat.le_of_ble_eq_true rfl), (Nat.le_of_ble_eq_true rfl)⟩) hS (fun q _ h => hFc q h) hFc (fun u t H locs ht hvm hw579 hB _ _ hS => ?_)
            obtain ⟨hT, hF1⟩ := hB
            rw [ht] at hT hF1
            have m580 := (hF1.fld hr_o0 skc_6 (k := 4) (by decide) (by decide)).trans m569
            have hF := hF.more hF1 (by decide)
            try dsimp only at hw579
            exact W.vret hx hb hr (fun t ht hW => ⟨⟨x1, rfl, (by exact ⟨(by have q8 := ti_all x1; omega), (by omega)⟩), by (try dsimp only); rw [ht]; exact ⟨hT, hF, m580⟩⟩, hS.F ht⟩) hS.2.2 dX3_passHour_158
        have key584 : ∀ (n584 i434 : Nat), i434 + n584 = 30 → 0 ≤ i434 → ∀ (H : Heap) (locs : List Loc), gH (dC, dI) kA (SHc nC nS) G H → gF (dC, dI) SKc G ([(5, 11), (5, 12), (5, 13), (6, 4), (13, 2), (13, 6), (13, 8), (13, 10), (13, 11), (26, 0), (29, 0), (30, 0), (31, 0), (32, 0), (33, 0), (34, 0), (35, 0)] : List (Nat × Nat)) s.heap H → va_S A s.heap H locs → el H o0 (dI 6 4) = some (.int x1) → el H o0 (dI 6 0) = some (.ref b5) → el H o0 (dI 6 1) = some (.ref b12) → el H o0 (dI 6 3) = some (.int x431) → ∀ ls : Array Slot, lv_has ls 3 [(2, .int (nI i434)), (1, .int r7), (0, .ref o0)] → W p l e (headSpec w_c_passHourE ({ frames := 6, cells := 0, slots := 0, locals := 136 })).room s m #[.ref o0] below meth c H locs 0 0 (MQ below (va_Qv (fun (u : Int32) => (1 ≤ u.toInt ∧ u.toInt ≤ 40000) ∧ (u.toInt = ho.toInt + 1)) (fun (h1 : Int32) (t : State) => gH (dC, dI) kA (SHc nC nS) G t.heap ∧ gF (dC, dI) SKc G ([(5, 11), (5, 12), (5, 13), (6, 4), (13, 2), (13, 6), (13, 8), (13, 10), (13, 11), (26, 0), (29, 0), (30, 0), (31, 0), (32, 0), (33, 0), (34, 0), (35, 0)] : List (Nat × Nat)) s.heap t.heap ∧ el t.heap o0 (dI 6 4) = some (.int h1)) A) #[.ref o0] s 0 0 A) (F0 m 81 ls []) := by
          intro n584
          induction n584 with
          | zero =>
            intro i434 hn584 hlo585  H locs hT hF hS m435 m436 m437 m438 ls hl
            obtain rfl : 30 = i434 := by omega
            refine lv_iload_n hx hb dX3_passHour_81 rfl (lv_at hl 0 rfl) ?_
            refine lv_aload_n hx hb dX3_passHour_82 rfl (lv_at hl 2 rfl) ?_
            refine tw_getM (v := .int x431) hx hb hts bF2_X3 hown hK hT hr_o0 shc_6 rfl 3 (by decide) (ht_at2 hts 37 rfl) (fun _ h9 => h9) m438 dX3_passHour_83 ?_
            refine lv_icmp_ge (tgt := 119) hx hb dX3_passHour_86 (by decide) (fun c586 => ?_) (fun c586 => (by exfalso; have q9 : ((30 : Nat) : Int) < x431.toInt := ti_nle c586 rfl (nI_toInt (by omega)); omega))
            have t587 : x431.toInt ≤ ((30 : Nat) : Int) := ti_le c586 rfl (nI_toInt (by omega))
            exact jn554 (nI 30) (rg_t (a := ((30 : Nat) : Int)) (nI_toInt (by omega)) (by omega) (by omega)) _ _ hT hF hS m435 m436 m437 m438 ls (lv_sub hl [0, 1, 2] rfl)
          | succ n584 ih584 =>
            intro i434 hn584 hlo585  H locs hT hF hS m435 m436 m437 m438 ls hl
            have hlt587 : i434 < 30 := by omega
            refine lv_iload_n hx hb dX3_passHour_81 rfl (lv_at hl 0 rfl) ?_
            refine lv_aload_n hx hb dX3_passHour_82 rfl (lv_at hl 2 rfl) ?_
            refine tw_getM (v := .int x431) hx hb hts bF2_X3 hown hK hT hr_o0 shc_6 rfl 3 (by decide) (ht_at2 hts 37 rfl) (fun _ h9 => h9) m438 dX3_passHour_83 ?_
            refine lv_icmp_ge (tgt := 119) hx hb dX3_passHour_86 (by decide) (fun c588 => ?_) (fun c588 => ?_)
            · have t589 : x431.toInt ≤ ((i434 : Nat) : Int) := ti_le c588 rfl (nI_toInt (by omega))
              exact jn554 (nI i434) (rg_t (a := ((i434 : Nat) : Int)) (nI_toInt (by omega)) (by omega) (by omega)) _ _ hT hF hS m435 m436 m437 m438 ls (lv_sub hl [0, 1, 2] rfl)
            · have t590 : ((i434 : Nat) : Int) < x431.toInt := ti_nle c588 rfl (nI_toInt (by omega))
              refine lv_aload_n hx hb dX3_passHour_89 rfl (lv_at hl 2 rfl) ?_
              refine tw_get hx hb hts bF2_X3 hown hK hT hr_o0 shc_6 rfl 2 (by decide) (ht_at2 hts 38 rfl) (fun _ h9 => h9) dX3_passHour_90 (fun v9 m591 h9 => ?_)
              obtain ⟨b592, rfl, hg593⟩ := h9 _ rfl
              refine lv_iload_n hx hb dX3_passHour_93 rfl (lv_at hl 0 rfl) ?_
              refine tw_aald (i := (nI i434)) hx hb hK hT hg593 shc_18 rfl (vp_in_nI (by omega) (by decide)) dX3_passHour_94 (fun v9 m594 h9 => ?_)
              obtain ⟨b595, rfl, hg596⟩ := h9
              refine tw_getN hx hb hts bF2_X10 hown hK hT hg596 shc_13 rfl 2 (by decide) (hE.nw 79 rfl) (fun _ h9 => h9) dX3_passHour_95 (fun v9 m597 h9 => ?_)
              obtain ⟨x598, rfl, gx598, kx598⟩ := h9 _ rfl
              refine lv_iconst (v := 4) hx hb dX3_passHour_98 (by decide) ?_
              have t599 : -2147483648 ≤ x598.toInt ∧ x598.toInt ≤ 2147483647 := ti_all x598
              refine lv_icmp_ne (tgt := 113) hx hb dX3_passHour_99 (by decide) (fun c600 => ?_) (fun c600 => ?_)
              · have t601 : x598.toInt ≠ 4 := ti_ne c600 rfl (by decide)
                refine lv_iinc (v := nI (i434 + 1)) (lv' := [(2, .int (nI (i434 + 1))), (1, .int r7), (0, .ref o0)]) hx hb dX3_passHour_113 hl (k := 0) rfl (nI_add i434 1) (by decide) rfl (fun ls hl => ?_)
                refine lv_goto (tgt := 81) hx hb dX3_passHour_116 (by decide) ?_
                exact ih584 (i434 + 1) (by omega) (by omega) _ _ hT hF hS m435 m436 m437 m438 ls (lv_sub hl [0, 1, 2] rfl)
              · have t602 : x598.toInt = 4 := ti_eq c600 rfl (by decide)
                refine lv_aload_n hx hb dX3_passHour_102 rfl (lv_at hl 2 rfl) ?_
                refine lv_aload_n hx hb dX3_passHour_103 rfl (lv_at hl 2 rfl) ?_
                refine tw_getM (v := .ref b592) hx hb hts bF2_X3 hown hK hT hr_o0 shc_6 rfl 2 (by decide) (ht_at2 hts 38 rfl) (fun _ h9 => h9) m591 dX3_passHour_104 ?_
                refine lv_iload_n hx hb dX3_passHour_107 rfl (lv_at hl 0 rfl) ?_
                refine tw_aald (i := (nI i434)) hx hb hK hT hg593 shc_18 rfl (vp_in_nI (by omega) (by decide)) dX3_passHour_108 (fun v9 m603 h9 => ?_)
                obtain ⟨b604, rfl, hg605⟩ := h9
                obtain rfl : b595 = b604 := (el_sameR m603 m594 (show (nI i434).toInt = (nI i434).toInt from by have q9 := (show (nI i434).toInt = ((i434 : Nat) : Int) from (nI_toInt (by omega))); have q8 := (show (nI i434).toInt = ((i434 : Nat) : Int) from (nI_toInt (by omega))); omega)).symm
                refine lv_iload_n hx hb dX3_passHour_109 rfl (lv_at hl 1 rfl) ?_
                have hFc := gA_free hG hA hS
                refine va_callv (va_runV (As := [.ref b595, .int r7]) (rest := []) ⟨hx, hb, hml, hown, hts⟩ (c_runSluice l dC dI kA adK adV G H nC nS o0 b595 r7 hT hg596 hr_o0 (by omega) (by omega)) (cwV 2 hts (goodIn_app (goodIn_r _ [67, 68, 69, 70] rfl (by decide +kernel)) (goodIn_ca (goodIn_r _ [40, 17, 41, 42, 32, 43, 44, 45, 37, 46, 47, 48, 49, 50, 51, 52, 53, 54, 55, 56, 57, 58, 59, 60, 61, 62, 63, 64, 65, 66] rfl (by decide +kernel)) (bs2_in _ _))) rfl rfl rfl (by decide +kernel) ⟨(Nat.le_of_ble_eq_true rfl), (Nat.le_of_ble_eq_true rfl)⟩) ⟨fun a U g mk q => by obtain ⟨q0, q1, qK, qE⟩ := q; exact ⟨q0, q1, va_K.moved (u := U) (U := U.calling g mk a) (Vm.Alike.refl U.vm) qK, EVC.blind g mk a qE⟩, gH_rc hK hT hr_o0 shc_6 rfl, fun U hU hW => ⟨rfl, hU, va_K.moved hW.alike hK, hE.call hS hFc hU hW⟩⟩ rfl rfl hl.1 rfl (lv_room (Nat.le_of_ble_eq_true rfl)) dX3_passHour_110 ⟨(Nat.le_of_ble_eq_true rfl), (Nat.le_of_ble_eq_true rfl)⟩) hS (fun q _ h => hFc q h) hFc (fun u t H locs ht hvm hw607 hB _ _ hS => ?_)
                obtain ⟨hT, hF1⟩ := hB
                rw [ht] at hT hF1
                have m608 := (hF1.fld hr_o0 skc_6 (k := 4) (by decide) (by decide)).trans m435
                have m609 := (hF1.fld hr_o0 skc_6 (k := 0) (by decide) (by decide)).trans m436
                have m610 := (hF1.fld hr_o0 skc_6 (k := 1) (by decide) (by decide)).trans m437
                have m611 := (hF1.fld hr_o0 skc_6 (k := 3) (by decide) (by decide)).trans m438
                have hF := hF.more hF1 (by decide)
                try dsimp only at hw607
                refine lv_iinc (v := nI (i434 + 1)) (lv' := [(2, .int (nI (i434 + 1))), (1, .int r7), (0, .ref o0)]) hx hb dX3_passHour_113 hl (k := 0) rfl (nI_add i434 1) (by decide) rfl (fun ls hl => ?_)
                refine lv_goto (tgt := 81) hx hb dX3_passHour_116 (by decide) ?_
                exact ih584 (i434 + 1) (by omega) (by omega) _ _ hT hF hS m608 m609 m610 m611 ls (lv_sub hl [0, 1, 2] rfl)
        exact key584 (30 - 0) 0 (by omega) (Nat.le_refl _) _ _ hT hF hS m25 m26 m27 m430 ls (lv_sub hl [0, 1, 2] rfl)
      · have t615 : ((i24 : Nat) : Int) < x431.toInt := ti_nle c432 rfl (nI_toInt (by omega))
        refine lv_aload_n hx hb dX3_passHour_50 rfl (lv_at hl 2 rfl) ?_
        refine tw_get hx hb hts bF2_X3 hown hK hT hr_o0 shc_6 rfl 2 (by decide) (ht_at2 hts 38 rfl) (fun _ h9 => h9) dX3_passHour_51 (fun v9 m616 h9 => ?_)
        obtain ⟨b617, rfl, hg618⟩ := h9 _ rfl
        refine lv_iload_n hx hb dX3_passHour_54 rfl (lv_at hl 0 rfl) ?_
        refine tw_aald (i := (nI i24)) hx hb hK hT hg618 shc_18 rfl (vp_in_nI (by omega) (by decide)) dX3_passHour_55 (fun v9 m619 h9 => ?_)
        obtain ⟨b620, rfl, hg621⟩ := h9
        have hFc := gA_free hG hA hS
        refine va_calli (va_runV (As := []) (rest := []) ⟨hx, hb, hml, hown, hts⟩ (c_isBank l dC dI kA adK adV G H nC nS b620 hT hg621 (by omega) (by omega)) (cwV 0 hts (goodIn_app (goodIn_r _ [141, 142, 143, 66] rfl (by decide +kernel)) (goodIn_ca (goodIn_r _ [139, 140] rfl (by decide +kernel)) (bs2_in _ _))) rfl rfl rfl (by decide +kernel) ⟨(Nat.le_of_ble_eq_true rfl), (Nat.le_of_ble_eq_true rfl)⟩) ⟨fun a U g mk q => by obtain ⟨q0, q1, qK, qE⟩ := q; exact ⟨q0, q1, va_K.moved (u := U) (U := U.calling g mk a) (Vm.Alike.refl U.vm) qK, EVC.blind g mk a qE⟩, gH_rc hK hT hg621 shc_13 rfl, fun U hU hW => ⟨rfl, hU, va_K.moved hW.alike hK, hE.call hS hFc hU hW⟩⟩ rfl rfl hl.1 rfl (lv_room (Nat.le_of_ble_eq_true rfl)) dX3_passHour_56 ⟨(Nat.le_of_ble_eq_true rfl), (Nat.le_of_ble_eq_true rfl)⟩) hS (fun q _ h => hFc q h) hFc (fun r622 u t H locs ht hvm hw623 hB _ _ hS => ?_)
        obtain ⟨hT, hF1⟩ := hB
        rw [ht] at hT hF1
        have m624 := (hF1.fld hr_o0 skc_6 (k := 4) (by decide) (by decide)).trans m25
        have m625 := (hF1.fld hr_o0 skc_6 (k := 0) (by decide) (by decide)).trans m26
        have m626 := (hF1.fld hr_o0 skc_6 (k := 1) (by decide) (by decide)).trans m27
        have m628 := (hF1.fld hr_o0 skc_6 (k := 2) (by decide) (by decide)).trans m616
        have m629 := (el_kept (hF1.arr hg618 skc_18 (by decide))).trans m619
        have hF := hF.more hF1 (by decide)
        try dsimp only at hw623
        have h630 := hw623
        refine lv_if_eq (tgt := 73) hx hb dX3_passHour_59 (by decide) (fun c631 => ?_) (fun c631 => ?_)
        · have t632 : r622.toInt = 0 := ti_eq c631 rfl (by decide)
          refine lv_iinc (v := nI (i24 + 1)) (lv' := [(2, .int (nI (i24 + 1))), (1, .int r7), (0, .ref o0)]) hx hb dX3_passHour_73 hl (k := 0) rfl (nI_add i24 1) (by decide) rfl (fun ls hl => ?_)
          refine lv_goto (tgt := 42) hx hb dX3_passHour_76 (by decide) ?_
          exact ih243 (i24 + 1) (by omega) (by omega) _ _ hT hF hS m624 m625 m626 ls (lv_sub hl [0, 1, 2] rfl)
        · have t633 : r622.toInt ≠ 0 := ti_ne c631 rfl (by decide)
          refine lv_aload_n hx hb dX3_passHour_62 rfl (lv_at hl 2 rfl) ?_
          refine lv_aload_n hx hb dX3_passHour_63 rfl (lv_at hl 2 rfl) ?_
          refine tw_getM (v := .ref b617) hx hb hts bF2_X3 hown hK hT hr_o0 shc_6 rfl 2 (by decide) (ht_at2 hts 38 rfl) (fun _ h9 => h9) m628 dX3_passHour_64 ?_
          refine lv_iload_n hx hb dX3_passHour_67 rfl (lv_at hl 0 rfl) ?_
          refine tw_aald (i := (nI i24)) hx hb hK hT hg618 shc_18 rfl (vp_in_nI (by omega) (by decide)) dX3_passHour_68 (fun v9 m634 h9 => ?_)
          obtain ⟨b635, rfl, hg636⟩ := h9
          obtain rfl : b620 = b635 := (el_sameR m634 m629 (show (nI i24).toInt = (nI i24).toInt from by have q9 := (show (nI i24).toInt = ((i24 : Nat) : Int) from (nI_toInt (by omega))); have q8 := (show (nI i24).toInt = ((i24 : Nat) : Int) from (nI_toInt (by omega))); omega)).symm
          refine lv_iload_n hx hb dX3_passHour_69 rfl (lv_at hl 1 rfl) ?_
          have hFc := gA_free hG hA hS
          refine va_callv (va_runV (As := [.ref b620, .int r7]) (rest := []) ⟨hx, hb, hml, hown, hts⟩ (c_runBank l dC dI kA adK adV G H nC nS o0 b620 r7 hT hg621 hr_o0 (by omega) (by omega)) (cwV 2 hts (goodIn_app (goodIn_r _ [188, 189, 190, 70] rfl (by decide +kernel)) (goodIn_ca (goodIn_r _ [144, 145, 17, 41, 42, 32, 43, 44, 45, 37, 146, 106, 48, 107, 147, 148, 149, 150, 151, 152, 153, 66, 154, 155, 156, 70, 157, 140, 158, 159, 160, 161, 162, 163, 46, 47, 49, 50, 51, 52, 53, 54, 55, 56, 57, 58, 59, 164, 165, 166, 167, 168, 60, 61, 62, 63, 64, 65, 169, 170, 171, 172, 173, 174, 175, 176, 177, 178, 179, 180, 181, 182, 183, 184, 185, 186, 187] rfl (by decide +kernel)) (bs2_in _ _))) rfl rfl rfl (by decide +kernel) ⟨(Nat.le_of_ble_eq_true rfl), (Nat.le_of_ble_eq_true rfl)⟩) ⟨fun a U g mk q => by obtain ⟨q0, q1, qK, qE⟩ := q; exact ⟨q0, q1, va_K.moved (u := U) (U := U.calling g mk a) (Vm.Alike.refl U.vm) qK, EVC.blind g mk a qE⟩, gH_rc hK hT hr_o0 shc_6 rfl, fun U hU hW => ⟨rfl, hU, va_K.moved hW.alike hK, hE.call hS hFc hU hW⟩⟩ rfl rfl hl.1 rfl (lv_room (Nat.le_of_ble_eq_true rfl)) dX3_passHour_70 ⟨(Nat.le_of_ble_eq_true rfl), (Nat.le_of_ble_eq_true rfl)⟩) hS (fun q _ h => hFc q h) hFc (fun u t H locs ht hvm hw638 hB _ _ hS => ?_)
          obtain ⟨hT, hF1⟩ := hB
          rw [ht] at hT hF1
          have m639 := (hF1.fld hr_o0 skc_6 (k := 4) (by decide) (by decide)).trans m624
          have m640 := (hF1.fld hr_o0 skc_6 (k := 0) (by decide) (by decide)).trans m625
          have m641 := (hF1.fld hr_o0 skc_6 (k := 1) (by decide) (by decide)).trans m626
          have hF := hF.more hF1 (by decide)
          try dsimp only at hw638
          refine lv_iinc (v := nI (i24 + 1)) (lv' := [(2, .int (nI (i24 + 1))), (1, .int r7), (0, .ref o0)]) hx hb dX3_passHour_73 hl (k := 0) rfl (nI_add i24 1) (by decide) rfl (fun ls hl => ?_)
          refine lv_goto (tgt := 42) hx hb dX3_passHour_76 (by decide) ?_
          exact ih243 (i24 + 1) (by omega) (by omega) _ _ hT hF hS m639 m640 m641 ls (lv_sub hl [0, 1, 2] rfl)
  exact key243 (30 - 0) 0 (by omega) (Nat.le_refl _) _ _ hT hF hS m21 m22 m23 ls (lv_sub hl [0, 1, 2] rfl)
def w_c_hoursE : List Cond := .code yX11_hours cX11_hours 3 (some .int) :: (HAppend.hAppend (α := List Cond) (β := List Cond) (γ := List Cond) [.code yX11_within cX11_within 3 (some .boolean), .methodLink RX11 58 yX11_within, .static yX11_within, .initialized RX11, .code yX11_needNumbers cX11_needNumbers 1 none, .classLink RX11 547 "java/lang/IllegalArgumentException", .initialized "java/lang/IllegalArgumentException", .methodLink RX11 62 yX11_needNumbers, .static yX11_needNumbers, .fieldLink RX11 16 "SeaLand" "lake" "LSeaLand$Lake;", .constant RX11 110 40000, .code yX3_passHour cX3_passHour 3 none, .fieldLink RX3 32 "SeaLand$Lake" "hour" "I", .fieldLink RX3 12 "SeaLand$Lake" "sky" "LSeaLand$Sky;", .code yX8_outsideAt cX8_outsideAt 4 (some .int), .fieldLink RX8 9 "SeaLand$Sky" "tides" "[I", .code yJ9_floorMod_7cf53 cJ9_floorMod_7cf53 3 (some .int), .methodLink RX8 38 yJ9_floorMod_7cf53, .static yJ9_floorMod_7cf53, .initialized RJ9, .fieldLink RX8 34 "SeaLand$Sky" "storms" "I", .fieldLink RX8 15 "SeaLand$Sky" "stormFrom" "[I", .fieldLink RX8 18 "SeaLand$Sky" "stormTo" "[I", .fieldLink RX8 21 "SeaLand$Sky" "stormMore" "[I", .methodLink RX3 44 yX8_outsideAt, .instanceMethod yX8_outsideAt, .selects RX8 yX8_outsideAt yX8_outsideAt, .initialized RX8, .fieldLink RX3 21 "SeaLand$Lake" "ground" "LSeaLand$Ground;", .code yX8_rainAt cX8_rainAt 3 (some .int), .fieldLink RX8 31 "SeaLand$Sky" "rain" "LSeaLand$Tellings;", .code yX9_standingAt cX9_standingAt 5 (some .int), .fieldLink RX9 18 "SeaLand$Tellings" "told" "I", .fieldLink RX9 9 "SeaLand$Tellings" "hours" "[I", .methodLink RX8 44 yX9_standingAt, .instanceMethod yX9_standingAt, .selects RX9 yX9_standingAt yX9_standingAt, .initialized RX9, .methodLink RX3 103 yX8_rainAt, .instanceMethod yX8_rainAt, .selects RX8 yX8_rainAt yX8_rainAt, .code yX2_rainOnLand cX2_rainOnLand 3 none, .fieldLink RX2 9 "SeaLand$Ground" "isLand" "[Z", .fieldLink RX2 25 "SeaLand$Ground" "water" "[I", .fieldLink RX2 54 "SeaLand$Ground" "rained" "I", .methodLink RX3 106 yX2_rainOnLand, .instanceMethod yX2_rainOnLand, .selects RX2 yX2_rainOnLand yX2_rainOnLand, .initialized RX2, .fieldLink RX3 47 "SeaLand$Lake" "built" "I", .fieldLink RX3 27 "SeaLand$Lake" "works" "[LSeaLand$Work;", .code yX3_runSluice cX3_runSluice 5 none, .code yX2_levelOf cX2_levelOf 2 (some .int), .fieldLink RX2 15 "SeaLand$Ground" "height" "[I", .methodLink RX3 40 yX2_levelOf, .instanceMethod yX2_levelOf, .selects RX2 yX2_levelOf yX2_levelOf, .methodLink RX3 71 Lib.Math.min.name, .static Lib.Math.min.name, .initialized "java/lang/Math", .code Lib.Math.min.name Lib.Math.min.code 2 (some .int), .code yX2_giveToSea cX2_giveToSea 3 none, .fieldLink RX2 28 "SeaLand$Ground" "salt" "[I", .code yX2_saltGoingWith cX2_saltGoingWith 4 (some .int), .methodLink RX2 60 yX2_saltGoingWith, .instanceMethod yX2_saltGoingWith, .selects RX2 yX2_saltGoingWith yX2_saltGoingWith, .fieldLink RX2 64 "SeaLand$Ground" "wentOut" "I", .methodLink RX3 154 yX2_giveToSea, .instanceMethod yX2_giveToSea, .selects RX2 yX2_giveToSea yX2_giveToSea, .code yX10_moved cX10_moved 2 none, .fieldLink RX10 44 "SeaLand$Work" "latest" "I", .fieldLink RX10 47 "SeaLand$Work" "total" "I", .methodLink RX3 140 yX10_moved, .instanceMethod yX10_moved, .selects RX10 yX10_moved yX10_moved, .initialized RX10, .methodLink RX3 114 yX3_runSluice, .instanceMethod yX3_runSluice, .selects RX3 yX3_runSluice yX3_runSluice, .initialized RX3, .code yX2_runDitches cX2_runDitches 3 none, .fieldLink RX2 37 "SeaLand$Ground" "ditchTo" "[I", .fieldLink RX2 40 "SeaLand$Ground" "ditchWater" "[I", .fieldLink RX2 43 "SeaLand$Ground" "ditchSalt" "[I", .code yX2_reckonDitch cX2_reckonDitch 5 none, .fieldLink RX2 22 "SeaLand$Ground" "ditch" "[I", .code yX2_lowestDitchBeside cX2_lowestDitchBeside 4 (some .int), .code yX2_lowerDitch cX2_lowerDitch 4 (some .int), .methodLink RX2 79 yX2_levelOf, .methodLink RX2 87 yX2_lowerDitch, .instanceMethod yX2_lowerDitch, .selects RX2 yX2_lowerDitch yX2_lowerDitch, .methodLink RX2 75 yX2_lowestDitchBeside, .instanceMethod yX2_lowestDitchBeside, .selects RX2 yX2_lowestDitchBeside yX2_lowestDitchBeside, .methodLink RX2 82 Lib.Math.min.name, .methodLink RX2 71 yX2_reckonDitch, .instanceMethod yX2_reckonDitch, .selects RX2 yX2_reckonDitch yX2_reckonDitch, .methodLink RX3 117 yX2_runDitches, .instanceMethod yX2_runDitches, .selects RX2 yX2_runDitches yX2_runDitches, .code yX8_windAt cX8_windAt 4 (some .int), .fieldLink RX8 27 "SeaLand$Sky" "wind" "LSeaLand$Tellings;", .code yX9_nearestNumberBefore cX9_nearestNumberBefore 5 (some .int), .fieldLink RX9 15 "SeaLand$Tellings" "numbers" "[I", .methodLink RX8 54 yX9_nearestNumberBefore, .instanceMethod yX9_nearestNumberBefore, .selects RX9 yX9_nearestNumberBefore yX9_nearestNumberBefore, .code yX9_nearestNumberAfter cX9_nearestNumberAfter 5 (some .int), .constant RX9 22 40001, .methodLink RX8 57 yX9_nearestNumberAfter, .instanceMethod yX9_nearestNumberAfter, .selects RX9 yX9_nearestNumberAfter yX9_nearestNumberAfter, .methodLink RX8 60 Lib.Math.max.name, .static Lib.Math.max.name, .code Lib.Math.max.name Lib.Math.max.code 2 (some .int), .methodLink RX3 120 yX8_windAt, .instanceMethod yX8_windAt, .selects RX8 yX8_windAt yX8_windAt, .code yX3_runMills cX3_runMills 3 none, .code yX3_runEngine cX3_runEngine 3 none, .code yX3_liftBy cX3_liftBy 4 none, .code yX2_giveTo cX2_giveTo 5 none, .methodLink RX2 67 yX2_giveToSea, .methodLink RX3 171 yX2_giveTo, .instanceMethod yX2_giveTo, .selects RX2 yX2_giveTo yX2_giveTo, .methodLink RX3 161 yX3_liftBy, .instanceMethod yX3_liftBy, .selects RX3 yX3_liftBy yX3_liftBy, .methodLink RX3 164 yX3_runEngine, .instanceMethod yX3_runEngine, .selects RX3 yX3_runEngine yX3_runEngine, .methodLink RX3 123 yX3_runMills, .instanceMethod yX3_runMills, .selects RX3 yX3_runMills yX3_runMills, .code yX2_endDay cX2_endDay 2 none, .fieldLink RX2 31 "SeaLand$Ground" "dry" "[I", .code yX2_sinksNow cX2_sinksNow 2 (some .boolean), .fieldLink RX2 19 "SeaLand$Ground" "soil" "[I", .methodLink RX2 91 yX2_sinksNow, .instanceMethod yX2_sinksNow, .selects RX2 yX2_sinksNow yX2_sinksNow, .fieldLink RX2 34 "SeaLand$Ground" "wet" "[I", .methodLink RX3 126 yX2_endDay, .instanceMethod yX2_endDay, .selects RX2 yX2_endDay yX2_endDay, .code yX10_isBank cX10_isBank 1 (some .boolean), .fieldLink RX10 18 "SeaLand$Work" "kind" "I", .methodLink RX3 67 yX10_isBank, .instanceMethod yX10_isBank, .selects RX10 yX10_isBank yX10_isBank, .code yX3_runBank cX3_runBank 4 none, .code yX3_seepOf cX3_seepOf 5 (some .int), .methodLink RX3 97 Lib.Math.max.name, .code yX10_leakBelow cX10_leakBelow 6 (some .int), .fieldLink RX10 34 "SeaLand$Work" "layers" "I", .fieldLink RX10 9 "SeaLand$Work" "thick" "[I", .fieldLink RX10 15 "SeaLand$Work" "clay" "[I", .methodLink RX3 100 yX10_leakBelow, .instanceMethod yX10_leakBelow, .selects RX10 yX10_leakBelow yX10_leakBelow, .methodLink RX3 132 yX3_seepOf, .instanceMethod yX3_seepOf, .selects RX3 yX3_seepOf yX3_seepOf, .code yX10_breakOpen cX10_breakOpen 1 none, .fieldLink RX10 31 "SeaLand$Work" "width" "I", .methodLink RX3 143 yX10_breakOpen, .instanceMethod yX10_breakOpen, .selects RX10 yX10_breakOpen yX10_breakOpen, .code yX3_runBreach cX3_runBreach 4 none, .constantLong RX3 149 120, .code yX2_takeFromSea cX2_takeFromSea 3 none, .fieldLink RX2 57 "SeaLand$Ground" "cameIn" "I", .methodLink RX3 136 yX2_takeFromSea, .instanceMethod yX2_takeFromSea, .selects RX2 yX2_takeFromSea yX2_takeFromSea, .methodLink RX3 146 yX3_runBreach, .instanceMethod yX3_runBreach, .selects RX3 yX3_runBreach yX3_runBreach, .code yX3_crestOf cX3_crestOf 2 (some .int), .code yX10_thickness cX10_thickness 3 (some .int), .methodLink RX3 80 yX10_thickness, .instanceMethod yX10_thickness, .selects RX10 yX10_thickness yX10_thickness, .methodLink RX3 84 yX3_crestOf, .instanceMethod yX3_crestOf, .selects RX3 yX3_crestOf yX3_crestOf, .code yX10_widen cX10_widen 1 none, .code yX10_wider cX10_wider 1 (some .int), .methodLink RX10 54 Lib.Math.min.name, .methodLink RX10 50 yX10_wider, .static yX10_wider, .methodLink RX3 129 yX10_widen, .instanceMethod yX10_widen, .selects RX10 yX10_widen yX10_widen, .methodLink RX3 110 yX3_runBank, .instanceMethod yX3_runBank, .selects RX3 yX3_runBank yX3_runBank, .methodLink RX11 223 yX3_passHour, .instanceMethod yX3_passHour, .selects RX3 yX3_passHour yX3_passHour, .fieldLink RX11 23 "SeaLand" "rows" "LSeaLand$Rows;", .code yX6_write cX6_write 5 none, .fieldLink RX6 18 "SeaLand$Rows" "kept" "I", .fieldLink RX6 22 "SeaLand$Rows" "oldest" "I", .methodLink RX6 34 yX8_outsideAt, .code yX6_placeOf cX6_placeOf 3 (some .int), .methodLink RX6 40 yX6_placeOf, .instanceMethod yX6_placeOf, .selects RX6 yX6_placeOf yX6_placeOf, .initialized RX6, .fieldLink RX6 15 "SeaLand$Rows" "proof" "[I", .methodLink RX6 54 yX2_levelOf, .fieldLink RX6 9 "SeaLand$Rows" "shown" "[I", .methodLink RX11 226 yX6_write, .instanceMethod yX6_write, .selects RX6 yX6_write yX6_write] bs2)
set_option maxHeartbeats 4000000 in
set_option maxRecDepth 100000 in
theorem c_hoursE (l : Launch) (hlt : l.stackTraces = false) (dC : Nat → ClassId) (dI : Nat → Nat → Nat) (kA : Nat → ClassId) (adK adV : Nat → Nat) (G : gT) (H0 : Heap) (nC nS : Int) (o0 : Nat) (p0 : Int32) (lk : Nat) (ho : Int32)  (hT : gH (dC, dI) kA (SHc nC nS) G H0) (hr_o0 : G o0 = some 14) (hm_lk : el H0 o0 (dI 14 1) = some (.ref lk)) (hr_lk : G lk = some 6) (hm_ho : el H0 lk (dI 6 4) = some (.int ho)) (hq0 : 0 ≤ ho.toInt ∧ ho.toInt ≤ 40000) (hgC : 0 ≤ nC ∧ nC ≤ 40) (hgS : 0 ≤ nS ∧ nS ≤ 60) : vx_Met l yX11_hours w_c_hoursE ({ frames := 7, cells := 1, slots := 6, locals := 158 }) (va_Pc [.ref o0, .int p0] (fun U => U.heap = H0 ∧ va_K (dC, dI) vwCl (tyl kA) U ∧ EVC adK adV (gA G H0.size) U U.heap)) (va_Qi (fun (r : Int32) (u : Int32) => (0 ≤ r.toInt ∧ r.toInt ≤ 40000) ∧ ((0 ≤ p0.toInt ∧ p0.toInt ≤ 240) ∧ r.toInt = u.toInt ∧ ((u.toInt = ho.toInt + p0.toInt ∧ ho.toInt + p0.toInt ≤ 40000) ∨ (u.toInt = 40000 ∧ 40000 ≤ ho.toInt + p0.toInt)))) (fun (h1 : Int32) (t : State) => gH (dC, dI) kA (SHc nC nS) G t.heap ∧ gF (dC, dI) SKc G ([(5, 11), (5, 12), (5, 13), (6, 4), (9, 2), (9, 3), (13, 2), (13, 6), (13, 8), (13, 10), (13, 11), (26, 0), (29, 0), (30, 0), (31, 0), (32, 0), (33, 0), (34, 0), (35, 0), (38, 0), (39, 0)] : List (Nat × Nat)) H0 t.heap ∧ el t.heap lk (dI 6 4) = some (.int h1)) (gA G H0.size)) (vx_X (fun _ : Unit => True) (fun E _ t => (E = "java/lang/IllegalArgumentException") ∧ (¬ (0 ≤ p0.toInt ∧ p0.toInt ≤ 240)) ∧ gH (dC, dI) kA (SHc nC nS) G t.heap ∧ gF (dC, dI) SKc G ([(5, 11), (5, 12), (5, 13), (6, 4), (9, 2), (9, 3), (13, 2), (13, 6), (13, 8), (13, 10), (13, 11), (26, 0), (29, 0), (30, 0), (31, 0), (32, 0), (33, 0), (34, 0), (35, 0), (38, 0), (39, 0)] : List (Nat × Nat)) H0 t.heap ∧ el t.heap lk (dI 6 4) = some (.int ho)) (gA G H0.size)) 1 6 (gA G H0.size) := by
  refine vx_ofW (cc := cX11_hours) (maxL := 3) (ret := (some .int)) (by decide) rfl ?_
  intro p e s m args below meth c s₁ B hml hnt hv
  obtain ⟨rfl, hH0, hK, hE⟩ := hv
  have hx := B.exec
  have hb := B.bytes
  have hr := B.returns
  have hts := atoms_spec (ws := w_c_hoursE) B.pre
  have hown : s.vm.findClass RX11 = some m.cls := findClass_of_methodNamed B.named
  have hlocks := B.notSynchronized
  subst hH0
  generalize hAe : gA G s.heap.size = A at hE ⊢
  have hA : ∀ q : Nat, s.heap.size ≤ q → A q := fun q h => by rw [← hAe]; exact Or.inr h
  have hG := gA_of hAe
  have hS : va_S A s.heap s.heap [] := va_S.rf
  have hF : gF (dC, dI) SKc G ([(5, 11), (5, 12), (5, 13), (6, 4), (9, 2), (9, 3), (13, 2), (13, 6), (13, 8), (13, 10), (13, 11), (26, 0), (29, 0), (30, 0), (31, 0), (32, 0), (33, 0), (34, 0), (35, 0), (38, 0), (39, 0)] : List (Nat × Nat)) s.heap s.heap := gF.rf
  have hl := lv_entry ([.ref o0, .int p0]) (n := 3) (Nat.le_of_ble_eq_true rfl)
  rw [lg_entry_eq]
  generalize (lg_sl ([.ref o0, .int p0]) ++ List.replicate (3 - (lg_sl ([.ref o0, .int p0])).length) Slot.unset).toArray = ls at hl ⊢
  have hl : lv_has ls 3 [(0, .ref o0), (1, .int p0)] := hl
  refine lv_iload_n hx hb dX11_hours_0 rfl (lv_at hl 1 rfl) ?_
  refine lv_iconst (v := 0) hx hb dX11_hours_1 (by decide) ?_
  refine lv_sipush (v := 240) hx hb dX11_hours_2 (by decide) ?_
  have hFc := gA_free hG hA hS
  refine va_calli (va_runS (As := [.int p0, .int 0, .int 240]) (rest := []) ⟨hx, hb, hml, hown, hts⟩ (c_within l dC dI kA adK adV G s.heap nC nS p0 0 240 hT (by omega) (by omega)) (va_cwS 3 hts (goodIn_app (goodIn_r _ [2, 3, 4] rfl (by decide +kernel)) (goodIn_ca (goodIn_r _ [1] rfl (by decide +kernel)) (bs2_in _ _))) rfl rfl rfl (by decide +kernel) ⟨(Nat.le_of_ble_eq_true rfl), (Nat.le_of_ble_eq_true rfl)⟩) ⟨fun a U g mk q => by obtain ⟨q0, q1, qK, qE⟩ := q; exact ⟨q0, q1, va_K.moved (u := U) (U := U.calling g mk a) (Vm.Alike.refl U.vm) qK, EVC.blind g mk a qE⟩, fun U hU hW => ⟨rfl, hU, va_K.moved hW.alike hK, hE.call hS hFc hU hW⟩⟩ rfl rfl hl.1 rfl (lv_room (Nat.le_of_ble_eq_true rfl)) dX11_hours_5 ⟨(Nat.le_of_ble_eq_true rfl), (Nat.le_of_ble_eq_true rfl)⟩) hS (fun q _ h => hFc q h) hFc (fun r1 u t H locs ht hvm hw2 hB _ _ hS => ?_)
  obtain ⟨hT, hF1⟩ := hB
  rw [ht] at hT hF1
  have m3 := (hF1.fld hr_o0 skc_14 (k := 1) (by decide) (by decide)).trans hm_lk
  have m4 := (hF1.fld hr_lk skc_6 (k := 4) (by decide) (by decide)).trans hm_ho
  have hF := hF.more hF1 (by decide)
  try dsimp only at hw2
  obtain ⟨h5, hi6, hi7⟩ := hw2
  have hb8 : r1 = 0 ∨ r1 = 1 := bit_of ⟨by omega, by omega⟩
  rcases hb8 with rfl | rfl
  · have t9 : (0 : Int32).toInt = 0 := by decide
    have t10 : (240 : Int32).toInt = 240 := by decide
    have t11 : p0.toInt < (0 : Int32).toInt ∨ (240 : Int32).toInt < p0.toInt := hi7 rfl
    have hFc := gA_free hG hA hS
    refine vx_callN (vx_runS (As := [.int 0]) (rest := []) ⟨hx, hb, hml, hown, hts⟩ (c_needNumbers0 l hlt dC dI kA adK adV G H nC nS hT (by omega) (by omega)) (va_cwS 1 hts (goodIn_app (goodIn_r _ [8, 9, 4] rfl (by decide +kernel)) (goodIn_ca (goodIn_r _ [5, 6, 7] rfl (by decide +kernel)) (bs2_in _ _))) rfl rfl rfl (by decide +kernel) ⟨(Nat.le_of_ble_eq_true rfl), (Nat.le_of_ble_eq_true rfl)⟩) ⟨fun a U g mk q => by obtain ⟨q0, q1, qK, qE⟩ := q; exact ⟨q0, q1, va_K.moved (u := U) (U := U.calling g mk a) (Vm.Alike.refl U.vm) qK, EVC.blind g mk a qE⟩, fun U hU hW => ⟨rfl, hU, va_K.moved hW.alike hK, hE.call hS hFc hU hW⟩⟩ rfl rfl hl.1 rfl (lv_room (Nat.le_of_ble_eq_true rfl)) dX11_hours_8 ⟨(Nat.le_of_ble_eq_true rfl), (Nat.le_of_ble_eq_true rfl)⟩) hS hFc (fun q _ h => hFc q h) (fun E ce q9 u t H locs ht hvm _ hw13 _ _ hS hce hcv hcl => ?_)
    obtain ⟨hw13, hTx, hFx⟩ := hw13; rw [ht] at hTx hFx
    exact vx_out (fun x h => (hnt x h).elim) hlocks hce hcv hcl (fun t2 h2 hW => ⟨(), trivial, ⟨((fun h9 => h9) hw13), (by first | omega | exact hxf.elim), by rw [h2]; exact hTx, by rw [h2]; exact hF.more hFx (by decide), by rw [h2]; exact (hFx.fld hr_lk skc_6 (k := 4) (by decide) (by decide)).trans m4⟩, hS.F h2⟩) hS.2.2 (by decide) (by decide)
  · have t14 : (0 : Int32).toInt = 0 := by decide
    have t15 : (240 : Int32).toInt = 240 := by decide
    have t16 : (0 : Int32).toInt ≤ p0.toInt ∧ p0.toInt ≤ (240 : Int32).toInt := hi6 rfl
    have hFc := gA_free hG hA hS
    refine vx_callv (vx_runS (As := [.int 1]) (rest := []) ⟨hx, hb, hml, hown, hts⟩ (c_needNumbers1X l hlt dC dI kA adK adV G H nC nS hT (by omega) (by omega)) (va_cwS 1 hts (goodIn_app (goodIn_r _ [8, 9, 4] rfl (by decide +kernel)) (goodIn_ca (goodIn_r _ [5] rfl (by decide +kernel)) (bs2_in _ _))) rfl rfl rfl (by decide +kernel) ⟨(Nat.le_of_ble_eq_true rfl), (Nat.le_of_ble_eq_true rfl)⟩) ⟨fun a U g mk q => by obtain ⟨q0, q1, qK, qE⟩ := q; exact ⟨q0, q1, va_K.moved (u := U) (U := U.calling g mk a) (Vm.Alike.refl U.vm) qK, EVC.blind g mk a qE⟩, fun U hU hW => ⟨rfl, hU, va_K.moved hW.alike hK, hE.call hS hFc hU hW⟩⟩ rfl rfl hl.1 rfl (lv_room (Nat.le_of_ble_eq_true rfl)) dX11_hours_8 ⟨(Nat.le_of_ble_eq_true rfl), (Nat.le_of_ble_eq_true rfl)⟩) hS (fun q _ h => hFc q h) hFc (fun q _ h => hFc q h) (fun E ce q9 u t H locs ht hvm _ hw18 _ _ hS hce hcv hcl => ?_) (fun u t H locs ht hvm hw18 hB _ _ hS => ?_)
    · obtain ⟨hw18, hxf, hTx, hFx⟩ := hw18; rw [ht] at hTx hFx
      exact vx_out (fun x h => (hnt x h).elim) hlocks hce hcv hcl (fun t2 h2 hW => ⟨(), trivial, ⟨((fun h9 => h9) hw18), (by first | omega | exact hxf.elim), by rw [h2]; exact hTx, by rw [h2]; exact hF.more hFx (by decide), by rw [h2]; exact (hFx.fld hr_lk skc_6 (k := 4) (by decide) (by decide)).trans m4⟩, hS.F h2⟩) hS.2.2 (by decide) (by decide)
    · obtain ⟨hT, hF1⟩ := hB
      rw [ht] at hT hF1
      have m19 := (hF1.fld hr_o0 skc_14 (k := 1) (by decide) (by decide)).trans m3
      have m20 := (hF1.fld hr_lk skc_6 (k := 4) (by decide) (by decide)).trans m4
      have hF := hF.more hF1 (by decide)
      try dsimp only at hw18
      refine lv_iconst (v := 0) hx hb dX11_hours_11 (by decide) ?_
      refine lv_istore_n (lv' := [(2, .int 0), (0, .ref o0), (1, .int p0)]) hx hb dX11_hours_12 rfl hl (by decide) rfl (fun ls hl => ?_)
      have key49 : ∀ (n49 i21 : Nat), i21 + n49 = 240 → 0 ≤ i21 → ∀ (z23 : Int32), ((0 ≤ z23.toInt ∧ z23.toInt ≤ 40000) ∧ (z23.toInt = ho.toInt + ((i21 : Nat) : Int) ∧ ((i21 : Nat) : Int) ≤ p0.toInt)) → ∀ (H : Heap) (locs : List Loc), gH (dC, dI) kA (SHc nC nS) G H → gF (dC, dI) SKc G ([(5, 11), (5, 12), (5, 13), (6, 4), (9, 2), (9, 3), (13, 2), (13, 6), (13, 8), (13, 10), (13, 11), (26, 0), (29, 0), (30, 0), (31, 0), (32, 0), (33, 0), (34, 0), (35, 0), (38, 0), (39, 0)] : List (Nat × Nat)) s.heap H → va_S A s.heap H locs → el H o0 (dI 14 1) = some (.ref lk) → el H lk (dI 6 4) = some (.int z23) → ∀ ls : Array Slot, lv_has ls 3 [(2, .int (nI i21)), (0, .ref o0), (1, .int p0)] → W p l e (headSpec w_c_hoursE ({ frames := 7, cells := 1, slots := 6, locals := 158 })).room s m #[.ref o0, .int p0] below meth c H locs 0 0 (vx_MQ below (va_Qi (fun (r : Int32) (u : Int32) => (0 ≤ r.toInt ∧ r.toInt ≤ 40000) ∧ ((0 ≤ p0.toInt ∧ p0.toInt ≤ 240) ∧ r.toInt = u.toInt ∧ ((u.toInt = ho.toInt + p0.toInt ∧ ho.toInt + p0.toInt ≤ 40000) ∨ (u.toInt = 40000 ∧ 40000 ≤ ho.toInt + p0.toInt)))) (fun (h1 : Int32) (t : State) => gH (dC, dI) kA (SHc nC nS) G t.heap ∧ gF (dC, dI) SKc G ([(5, 11), (5, 12), (5, 13), (6, 4), (9, 2), (9, 3), (13, 2), (13, 6), (13, 8), (13, 10), (13, 11), (26, 0), (29, 0), (30, 0), (31, 0), (32, 0), (33, 0), (34, 0), (35, 0), (38, 0), (39, 0)] : List (Nat × Nat)) s.heap t.heap ∧ el t.heap lk (dI 6 4) = some (.int h1)) A) (vx_X (fun _ : Unit => True) (fun E _ t => (E = "java/lang/IllegalArgumentException") ∧ (¬ (0 ≤ p0.toInt ∧ p0.toInt ≤ 240)) ∧ gH (dC, dI) kA (SHc nC nS) G t.heap ∧ gF (dC, dI) SKc G ([(5, 11), (5, 12), (5, 13), (6, 4), (9, 2), (9, 3), (13, 2), (13, 6), (13, 8), (13, 10), (13, 11), (26, 0), (29, 0), (30, 0), (31, 0), (32, 0), (33, 0), (34, 0), (35, 0), (38, 0), (39, 0)] : List (Nat × Nat)) s.heap t.heap ∧ el t.heap lk (dI 6 4) = some (.int ho)) A) #[.ref o0, .int p0] s 1 6 A) (F0 m 13 ls []) := by
        intro n49
        induction n49 with
        | zero =>
          intro i21 hn49 hlo50 z23 ⟨h24, hj26⟩ H locs hT hF hS m22 m25 ls hl
          obtain rfl : 240 = i21 := by omega
          refine lv_iload_n hx hb dX11_hours_13 rfl (lv_at hl 0 rfl) ?_
          refine lv_iload_n hx hb dX11_hours_14 rfl (lv_at hl 2 rfl) ?_
          refine lv_icmp_ge (tgt := 54) hx hb dX11_hours_15 (by decide) (fun c51 => ?_) (fun c51 => (by exfalso; have q9 : ((240 : Nat) : Int) < p0.toInt := ti_nle c51 rfl (nI_toInt (by omega)); omega))
          have t52 : p0.toInt ≤ ((240 : Nat) : Int) := ti_le c51 rfl (nI_toInt (by omega))
          refine lv_aload_n hx hb dX11_hours_54 rfl (lv_at hl 1 rfl) ?_
          refine tw_getM (v := .ref lk) hx hb hts bF2_X11 hown hK hT hr_o0 shc_14 rfl 1 (by decide) (ht_at2 hts 9 rfl) (fun _ h9 => h9) m22 dX11_hours_55 ?_
          refine tw_getNM (v := .int z23) hx hb hts bF2_X3 hown hK hT hr_lk shc_6 rfl 4 (by decide) (hE.nw 0 rfl) (fun _ h9 => h9) m25 dX11_hours_58 ?_
          refine W.widen (k := 1) (n := 6) (by decide) (by decide) ?_
          exact vx_ret (W.iret (v := z23) hx hb hr (fun t ht hW => ⟨⟨z23, z23, rfl, (by exact ⟨(by have q8 := ti_all z23; omega), (by omega)⟩), by (try dsimp only); rw [ht]; exact ⟨hT, hF, m25⟩⟩, hS.F ht⟩) hS.2.2 dX11_hours_61)
        | succ n49 ih49 =>
          intro i21 hn49 hlo50 z23 ⟨h24, hj26⟩ H locs hT hF hS m22 m25 ls hl
          have hlt52 : i21 < 240 := by omega
          refine lv_iload_n hx hb dX11_hours_13 rfl (lv_at hl 0 rfl) ?_
          refine lv_iload_n hx hb dX11_hours_14 rfl (lv_at hl 2 rfl) ?_
          refine lv_icmp_ge (tgt := 54) hx hb dX11_hours_15 (by decide) (fun c53 => ?_) (fun c53 => ?_)
          · have t54 : p0.toInt ≤ ((i21 : Nat) : Int) := ti_le c53 rfl (nI_toInt (by omega))
            refine lv_aload_n hx hb dX11_hours_54 rfl (lv_at hl 1 rfl) ?_
            refine tw_getM (v := .ref lk) hx hb hts bF2_X11 hown hK hT hr_o0 shc_14 rfl 1 (by decide) (ht_at2 hts 9 rfl) (fun _ h9 => h9) m22 dX11_hours_55 ?_
            refine tw_getNM (v := .int z23) hx hb hts bF2_X3 hown hK hT hr_lk shc_6 rfl 4 (by decide) (hE.nw 0 rfl) (fun _ h9 => h9) m25 dX11_hours_58 ?_
            refine W.widen (k := 1) (n := 6) (by decide) (by decide) ?_
            exact vx_ret (W.iret (v := z23) hx hb hr (fun t ht hW => ⟨⟨z23, z23, rfl, (by exact ⟨(by have q8 := ti_all z23; omega), (by omega)⟩), by (try dsimp only); rw [ht]; exact ⟨hT, hF, m25⟩⟩, hS.F ht⟩) hS.2.2 dX11_hours_61)
          · have t55 : ((i21 : Nat) : Int) < p0.toInt := ti_nle c53 rfl (nI_toInt (by omega))
            refine lv_aload_n hx hb dX11_hours_18 rfl (lv_at hl 1 rfl) ?_
            refine tw_getM (v := .ref lk) hx hb hts bF2_X11 hown hK hT hr_o0 shc_14 rfl 1 (by decide) (ht_at2 hts 9 rfl) (fun _ h9 => h9) m22 dX11_hours_19 ?_
            refine tw_getNM (v := .int z23) hx hb hts bF2_X3 hown hK hT hr_lk shc_6 rfl 4 (by decide) (hE.nw 0 rfl) (fun _ h9 => h9) m25 dX11_hours_22 ?_
            refine lv_ldc (v := 40000) hx hb hown (ht_at2 hts 10 rfl) dX11_hours_25 ?_
            refine lv_icmp_ge (tgt := 54) hx hb dX11_hours_27 (by decide) (fun c56 => ?_) (fun c56 => ?_)
            · have t57 : 40000 ≤ z23.toInt := ti_le c56 (by decide) rfl
              refine lv_aload_n hx hb dX11_hours_54 rfl (lv_at hl 1 rfl) ?_
              refine tw_getM (v := .ref lk) hx hb hts bF2_X11 hown hK hT hr_o0 shc_14 rfl 1 (by decide) (ht_at2 hts 9 rfl) (fun _ h9 => h9) m22 dX11_hours_55 ?_
              refine tw_getNM (v := .int z23) hx hb hts bF2_X3 hown hK hT hr_lk shc_6 rfl 4 (by decide) (hE.nw 0 rfl) (fun _ h9 => h9) m25 dX11_hours_58 ?_
              refine W.widen (k := 1) (n := 6) (by decide) (by decide) ?_
              exact vx_ret (W.iret (v := z23) hx hb hr (fun t ht hW => ⟨⟨z23, z23, rfl, (by exact ⟨(by have q8 := ti_all z23; omega), (by omega)⟩), by (try dsimp only); rw [ht]; exact ⟨hT, hF, m25⟩⟩, hS.F ht⟩) hS.2.2 dX11_hours_61)
            · have t58 : z23.toInt < 40000 := ti_nle c56 (by decide) rfl
              refine lv_aload_n hx hb dX11_hours_30 rfl (lv_at hl 1 rfl) ?_
              refine tw_getM (v := .ref lk) hx hb hts bF2_X11 hown hK hT hr_o0 shc_14 rfl 1 (by decide) (ht_at2 hts 9 rfl) (fun _ h9 => h9) m22 dX11_hours_31 ?_
              have hFc := gA_free hG hA hS
              refine va_callv (va_runV (As := []) (rest := []) ⟨hx, hb, hml, hown, hts⟩ (c_passHourE l dC dI kA adK adV G H nC nS lk z23 hT hr_lk m25 (by have q8 := ti_all z23; omega) (by omega) (by omega)) (cwV 0 hts (goodIn_app (goodIn_r _ [203, 204, 205, 82] rfl (by decide +kernel)) (goodIn_ca (goodIn_r _ [12, 13, 14, 15, 16, 17, 18, 19, 20, 21, 22, 23, 24, 25, 26, 27, 28, 29, 30, 31, 32, 33, 34, 35, 36, 37, 38, 39, 40, 41, 42, 43, 44, 45, 46, 47, 48, 49, 50, 51, 52, 53, 54, 55, 56, 57, 58, 59, 60, 61, 62, 63, 64, 65, 66, 67, 68, 69, 70, 71, 72, 73, 74, 75, 76, 77, 78, 79, 80, 81, 82, 83, 84, 85, 86, 87, 88, 89, 90, 91, 92, 93, 94, 95, 96, 97, 98, 99, 100, 101, 102, 103, 104, 105, 106, 107, 108, 109, 110, 111, 112, 113, 114, 115, 116, 117, 118, 119, 120, 121, 122, 123, 124, 125, 126, 127, 128, 129, 130, 131, 132, 133, 134, 135, 136, 137, 138, 139, 140, 141, 142, 143, 144, 145, 146, 147, 148, 149, 150, 151, 152, 153, 154, 155, 156, 157, 158, 159, 160, 161, 162, 163, 164, 165, 166, 167, 168, 169, 170, 171, 172, 173, 174, 175, 176, 177, 178, 179, 180, 181, 182, 183, 184, 185, 186, 187, 188, 189, 190, 191, 192, 193, 194, 195, 196, 197, 198, 199, 200, 201, 202] rfl (by decide +kernel)) (bs2_in _ _))) rfl rfl rfl (by decide +kernel) ⟨(Nat.le_of_ble_eq_true rfl), (Nat.le_of_ble_eq_true rfl)⟩) ⟨fun a U g mk q => by obtain ⟨q0, q1, qK, qE⟩ := q; exact ⟨q0, q1, va_K.moved (u := U) (U := U.calling g mk a) (Vm.Alike.refl U.vm) qK, EVC.blind g mk a qE⟩, gH_rc hK hT hr_lk shc_6 rfl, fun U hU hW => ⟨rfl, hU, va_K.moved hW.alike hK, hE.call hS hFc hU hW⟩⟩ rfl rfl hl.1 rfl (lv_room (Nat.le_of_ble_eq_true rfl)) dX11_hours_34 ⟨(Nat.le_of_ble_eq_true rfl), (Nat.le_of_ble_eq_true rfl)⟩) hS (fun q _ h => hFc q h) hFc (fun u t H locs ht hvm hw60 hB _ _ hS => ?_)
              obtain ⟨u61, rfl⟩ : ∃ z, z = u := ⟨_, rfl⟩
              obtain ⟨hT, hF1, m62⟩ := hB
              rw [ht] at hT hF1 m62
              have m63 := (hF1.fld hr_o0 skc_14 (k := 1) (by decide) (by decide)).trans m22
              have hF := hF.more hF1 (by decide)
              try dsimp only at hw60
              obtain ⟨h65, hf66⟩ := hw60
              refine lv_aload_n hx hb dX11_hours_37 rfl (lv_at hl 1 rfl) ?_
              refine tw_get hx hb hts bF2_X11 hown hK hT hr_o0 shc_14 rfl 2 (by decide) (ht_at2 hts 205 rfl) (fun _ h9 => h9) dX11_hours_38 (fun v9 m67 h9 => ?_)
              obtain ⟨b68, rfl, hg69⟩ := h9 _ rfl
              refine lv_aload_n hx hb dX11_hours_41 rfl (lv_at hl 1 rfl) ?_
              refine tw_getM (v := .ref lk) hx hb hts bF2_X11 hown hK hT hr_o0 shc_14 rfl 1 (by decide) (ht_at2 hts 9 rfl) (fun _ h9 => h9) m63 dX11_hours_42 ?_
              have hFc := gA_free hG hA hS
              refine va_callv (va_runV (As := [.ref lk]) (rest := []) ⟨hx, hb, hml, hown, hts⟩ (c_write l dC dI kA adK adV G H nC nS b68 lk hT hr_lk hg69 (by omega) (by omega)) (cwV 1 hts (goodIn_app (goodIn_r _ [219, 220, 221, 215] rfl (by decide +kernel)) (goodIn_ca (goodIn_r _ [207, 208, 209, 15, 16, 17, 18, 19, 20, 21, 22, 23, 24, 210, 26, 27, 28, 211, 212, 213, 214, 215, 216, 53, 54, 44, 217, 56, 57, 49, 218] rfl (by decide +kernel)) (bs2_in _ _))) rfl rfl rfl (by decide +kernel) ⟨(Nat.le_of_ble_eq_true rfl), (Nat.le_of_ble_eq_true rfl)⟩) ⟨fun a U g mk q => by obtain ⟨q0, q1, qK, qE⟩ := q; exact ⟨q0, q1, va_K.moved (u := U) (U := U.calling g mk a) (Vm.Alike.refl U.vm) qK, EVC.blind g mk a qE⟩, gH_rc hK hT hg69 shc_9 rfl, fun U hU hW => ⟨rfl, hU, va_K.moved hW.alike hK, hE.call hS hFc hU hW⟩⟩ rfl rfl hl.1 rfl (lv_room (Nat.le_of_ble_eq_true rfl)) dX11_hours_45 ⟨(Nat.le_of_ble_eq_true rfl), (Nat.le_of_ble_eq_true rfl)⟩) hS (fun q _ h => hFc q h) hFc (fun u t H locs ht hvm hw71 hB _ _ hS => ?_)
              obtain ⟨hT, hF1⟩ := hB
              rw [ht] at hT hF1
              have m72 := (hF1.fld hr_o0 skc_14 (k := 1) (by decide) (by decide)).trans m63
              have m73 := (hF1.fld hr_lk skc_6 (k := 4) (by decide) (by decide)).trans m62
              have hF := hF.more hF1 (by decide)
              try dsimp only at hw71
              refine lv_iinc (v := nI (i21 + 1)) (lv' := [(2, .int (nI (i21 + 1))), (0, .ref o0), (1, .int p0)]) hx hb dX11_hours_48 hl (k := 0) rfl (nI_add i21 1) (by decide) rfl (fun ls hl => ?_)
              refine lv_goto (tgt := 13) hx hb dX11_hours_51 (by decide) ?_
              exact ih49 (i21 + 1) (by omega) (by omega) u61 ⟨(by have q8 := ti_all u61; omega), (by have := (show u61.toInt = u61.toInt from rfl); omega)⟩ _ _ hT hF hS m72 m73 ls (lv_sub hl [0, 1, 2] rfl)
      exact key49 (240 - 0) 0 (by omega) (Nat.le_refl _) ho ⟨(by have q8 := ti_all ho; omega), (by have := (show ho.toInt = ho.toInt from rfl); omega)⟩ _ _ hT hF hS m19 m20 ls (lv_sub hl [0, 1, 2] rfl)
def w_l_hoursE : List Cond := .codeWith yL_hours cL_hours 4 (some .int) [(0, 9, 12, 15)] :: (HAppend.hAppend (α := List Cond) (β := List Cond) (γ := List Cond) [.code yX11_hours cX11_hours 3 (some .int), .code yX11_within cX11_within 3 (some .boolean), .methodLink RX11 58 yX11_within, .static yX11_within, .initialized RX11, .code yX11_needNumbers cX11_needNumbers 1 none, .classLink RX11 547 "java/lang/IllegalArgumentException", .initialized "java/lang/IllegalArgumentException", .methodLink RX11 62 yX11_needNumbers, .static yX11_needNumbers, .fieldLink RX11 16 "SeaLand" "lake" "LSeaLand$Lake;", .constant RX11 110 40000, .code yX3_passHour cX3_passHour 3 none, .fieldLink RX3 32 "SeaLand$Lake" "hour" "I", .fieldLink RX3 12 "SeaLand$Lake" "sky" "LSeaLand$Sky;", .code yX8_outsideAt cX8_outsideAt 4 (some .int), .fieldLink RX8 9 "SeaLand$Sky" "tides" "[I", .code yJ9_floorMod_7cf53 cJ9_floorMod_7cf53 3 (some .int), .methodLink RX8 38 yJ9_floorMod_7cf53, .static yJ9_floorMod_7cf53, .initialized RJ9, .fieldLink RX8 34 "SeaLand$Sky" "storms" "I", .fieldLink RX8 15 "SeaLand$Sky" "stormFrom" "[I", .fieldLink RX8 18 "SeaLand$Sky" "stormTo" "[I", .fieldLink RX8 21 "SeaLand$Sky" "stormMore" "[I", .methodLink RX3 44 yX8_outsideAt, .instanceMethod yX8_outsideAt, .selects RX8 yX8_outsideAt yX8_outsideAt, .initialized RX8, .fieldLink RX3 21 "SeaLand$Lake" "ground" "LSeaLand$Ground;", .code yX8_rainAt cX8_rainAt 3 (some .int), .fieldLink RX8 31 "SeaLand$Sky" "rain" "LSeaLand$Tellings;", .code yX9_standingAt cX9_standingAt 5 (some .int), .fieldLink RX9 18 "SeaLand$Tellings" "told" "I", .fieldLink RX9 9 "SeaLand$Tellings" "hours" "[I", .methodLink RX8 44 yX9_standingAt, .instanceMethod yX9_standingAt, .selects RX9 yX9_standingAt yX9_standingAt, .initialized RX9, .methodLink RX3 103 yX8_rainAt, .instanceMethod yX8_rainAt, .selects RX8 yX8_rainAt yX8_rainAt, .code yX2_rainOnLand cX2_rainOnLand 3 none, .fieldLink RX2 9 "SeaLand$Ground" "isLand" "[Z", .fieldLink RX2 25 "SeaLand$Ground" "water" "[I", .fieldLink RX2 54 "SeaLand$Ground" "rained" "I", .methodLink RX3 106 yX2_rainOnLand, .instanceMethod yX2_rainOnLand, .selects RX2 yX2_rainOnLand yX2_rainOnLand, .initialized RX2, .fieldLink RX3 47 "SeaLand$Lake" "built" "I", .fieldLink RX3 27 "SeaLand$Lake" "works" "[LSeaLand$Work;", .code yX3_runSluice cX3_runSluice 5 none, .code yX2_levelOf cX2_levelOf 2 (some .int), .fieldLink RX2 15 "SeaLand$Ground" "height" "[I", .methodLink RX3 40 yX2_levelOf, .instanceMethod yX2_levelOf, .selects RX2 yX2_levelOf yX2_levelOf, .methodLink RX3 71 Lib.Math.min.name, .static Lib.Math.min.name, .initialized "java/lang/Math", .code Lib.Math.min.name Lib.Math.min.code 2 (some .int), .code yX2_giveToSea cX2_giveToSea 3 none, .fieldLink RX2 28 "SeaLand$Ground" "salt" "[I", .code yX2_saltGoingWith cX2_saltGoingWith 4 (some .int), .methodLink RX2 60 yX2_saltGoingWith, .instanceMethod yX2_saltGoingWith, .selects RX2 yX2_saltGoingWith yX2_saltGoingWith, .fieldLink RX2 64 "SeaLand$Ground" "wentOut" "I", .methodLink RX3 154 yX2_giveToSea, .instanceMethod yX2_giveToSea, .selects RX2 yX2_giveToSea yX2_giveToSea, .code yX10_moved cX10_moved 2 none, .fieldLink RX10 44 "SeaLand$Work" "latest" "I", .fieldLink RX10 47 "SeaLand$Work" "total" "I", .methodLink RX3 140 yX10_moved, .instanceMethod yX10_moved, .selects RX10 yX10_moved yX10_moved, .initialized RX10, .methodLink RX3 114 yX3_runSluice, .instanceMethod yX3_runSluice, .selects RX3 yX3_runSluice yX3_runSluice, .initialized RX3, .code yX2_runDitches cX2_runDitches 3 none, .fieldLink RX2 37 "SeaLand$Ground" "ditchTo" "[I", .fieldLink RX2 40 "SeaLand$Ground" "ditchWater" "[I", .fieldLink RX2 43 "SeaLand$Ground" "ditchSalt" "[I", .code yX2_reckonDitch cX2_reckonDitch 5 none, .fieldLink RX2 22 "SeaLand$Ground" "ditch" "[I", .code yX2_lowestDitchBeside cX2_lowestDitchBeside 4 (some .int), .code yX2_lowerDitch cX2_lowerDitch 4 (some .int), .methodLink RX2 79 yX2_levelOf, .methodLink RX2 87 yX2_lowerDitch, .instanceMethod yX2_lowerDitch, .selects RX2 yX2_lowerDitch yX2_lowerDitch, .methodLink RX2 75 yX2_lowestDitchBeside, .instanceMethod yX2_lowestDitchBeside, .selects RX2 yX2_lowestDitchBeside yX2_lowestDitchBeside, .methodLink RX2 82 Lib.Math.min.name, .methodLink RX2 71 yX2_reckonDitch, .instanceMethod yX2_reckonDitch, .selects RX2 yX2_reckonDitch yX2_reckonDitch, .methodLink RX3 117 yX2_runDitches, .instanceMethod yX2_runDitches, .selects RX2 yX2_runDitches yX2_runDitches, .code yX8_windAt cX8_windAt 4 (some .int), .fieldLink RX8 27 "SeaLand$Sky" "wind" "LSeaLand$Tellings;", .code yX9_nearestNumberBefore cX9_nearestNumberBefore 5 (some .int), .fieldLink RX9 15 "SeaLand$Tellings" "numbers" "[I", .methodLink RX8 54 yX9_nearestNumberBefore, .instanceMethod yX9_nearestNumberBefore, .selects RX9 yX9_nearestNumberBefore yX9_nearestNumberBefore, .code yX9_nearestNumberAfter cX9_nearestNumberAfter 5 (some .int), .constant RX9 22 40001, .methodLink RX8 57 yX9_nearestNumberAfter, .instanceMethod yX9_nearestNumberAfter, .selects RX9 yX9_nearestNumberAfter yX9_nearestNumberAfter, .methodLink RX8 60 Lib.Math.max.name, .static Lib.Math.max.name, .code Lib.Math.max.name Lib.Math.max.code 2 (some .int), .methodLink RX3 120 yX8_windAt, .instanceMethod yX8_windAt, .selects RX8 yX8_windAt yX8_windAt, .code yX3_runMills cX3_runMills 3 none, .code yX3_runEngine cX3_runEngine 3 none, .code yX3_liftBy cX3_liftBy 4 none, .code yX2_giveTo cX2_giveTo 5 none, .methodLink RX2 67 yX2_giveToSea, .methodLink RX3 171 yX2_giveTo, .instanceMethod yX2_giveTo, .selects RX2 yX2_giveTo yX2_giveTo, .methodLink RX3 161 yX3_liftBy, .instanceMethod yX3_liftBy, .selects RX3 yX3_liftBy yX3_liftBy, .methodLink RX3 164 yX3_runEngine, .instanceMethod yX3_runEngine, .selects RX3 yX3_runEngine yX3_runEngine, .methodLink RX3 123 yX3_runMills, .instanceMethod yX3_runMills, .selects RX3 yX3_runMills yX3_runMills, .code yX2_endDay cX2_endDay 2 none, .fieldLink RX2 31 "SeaLand$Ground" "dry" "[I", .code yX2_sinksNow cX2_sinksNow 2 (some .boolean), .fieldLink RX2 19 "SeaLand$Ground" "soil" "[I", .methodLink RX2 91 yX2_sinksNow, .instanceMethod yX2_sinksNow, .selects RX2 yX2_sinksNow yX2_sinksNow, .fieldLink RX2 34 "SeaLand$Ground" "wet" "[I", .methodLink RX3 126 yX2_endDay, .instanceMethod yX2_endDay, .selects RX2 yX2_endDay yX2_endDay, .code yX10_isBank cX10_isBank 1 (some .boolean), .fieldLink RX10 18 "SeaLand$Work" "kind" "I", .methodLink RX3 67 yX10_isBank, .instanceMethod yX10_isBank, .selects RX10 yX10_isBank yX10_isBank, .code yX3_runBank cX3_runBank 4 none, .code yX3_seepOf cX3_seepOf 5 (some .int), .methodLink RX3 97 Lib.Math.max.name, .code yX10_leakBelow cX10_leakBelow 6 (some .int), .fieldLink RX10 34 "SeaLand$Work" "layers" "I", .fieldLink RX10 9 "SeaLand$Work" "thick" "[I", .fieldLink RX10 15 "SeaLand$Work" "clay" "[I", .methodLink RX3 100 yX10_leakBelow, .instanceMethod yX10_leakBelow, .selects RX10 yX10_leakBelow yX10_leakBelow, .methodLink RX3 132 yX3_seepOf, .instanceMethod yX3_seepOf, .selects RX3 yX3_seepOf yX3_seepOf, .code yX10_breakOpen cX10_breakOpen 1 none, .fieldLink RX10 31 "SeaLand$Work" "width" "I", .methodLink RX3 143 yX10_breakOpen, .instanceMethod yX10_breakOpen, .selects RX10 yX10_breakOpen yX10_breakOpen, .code yX3_runBreach cX3_runBreach 4 none, .constantLong RX3 149 120, .code yX2_takeFromSea cX2_takeFromSea 3 none, .fieldLink RX2 57 "SeaLand$Ground" "cameIn" "I", .methodLink RX3 136 yX2_takeFromSea, .instanceMethod yX2_takeFromSea, .selects RX2 yX2_takeFromSea yX2_takeFromSea, .methodLink RX3 146 yX3_runBreach, .instanceMethod yX3_runBreach, .selects RX3 yX3_runBreach yX3_runBreach, .code yX3_crestOf cX3_crestOf 2 (some .int), .code yX10_thickness cX10_thickness 3 (some .int), .methodLink RX3 80 yX10_thickness, .instanceMethod yX10_thickness, .selects RX10 yX10_thickness yX10_thickness, .methodLink RX3 84 yX3_crestOf, .instanceMethod yX3_crestOf, .selects RX3 yX3_crestOf yX3_crestOf, .code yX10_widen cX10_widen 1 none, .code yX10_wider cX10_wider 1 (some .int), .methodLink RX10 54 Lib.Math.min.name, .methodLink RX10 50 yX10_wider, .static yX10_wider, .methodLink RX3 129 yX10_widen, .instanceMethod yX10_widen, .selects RX10 yX10_widen yX10_widen, .methodLink RX3 110 yX3_runBank, .instanceMethod yX3_runBank, .selects RX3 yX3_runBank yX3_runBank, .methodLink RX11 223 yX3_passHour, .instanceMethod yX3_passHour, .selects RX3 yX3_passHour yX3_passHour, .fieldLink RX11 23 "SeaLand" "rows" "LSeaLand$Rows;", .code yX6_write cX6_write 5 none, .fieldLink RX6 18 "SeaLand$Rows" "kept" "I", .fieldLink RX6 22 "SeaLand$Rows" "oldest" "I", .methodLink RX6 34 yX8_outsideAt, .code yX6_placeOf cX6_placeOf 3 (some .int), .methodLink RX6 40 yX6_placeOf, .instanceMethod yX6_placeOf, .selects RX6 yX6_placeOf yX6_placeOf, .initialized RX6, .fieldLink RX6 15 "SeaLand$Rows" "proof" "[I", .methodLink RX6 54 yX2_levelOf, .fieldLink RX6 9 "SeaLand$Rows" "shown" "[I", .methodLink RX11 226 yX6_write, .instanceMethod yX6_write, .selects RX6 yX6_write yX6_write, .methodLink RL 76 yX11_hours, .instanceMethod yX11_hours, .selects RX11 yX11_hours yX11_hours, .classLink RL 15 "java/lang/IllegalArgumentException"] bs2)
set_option maxHeartbeats 4000000 in
set_option maxRecDepth 100000 in
theorem l_hoursE (l : Launch) (hlt : l.stackTraces = false) (dC : Nat → ClassId) (dI : Nat → Nat → Nat) (kA : Nat → ClassId) (adK adV : Nat → Nat) (G : gT) (H0 : Heap) (nC nS : Int) (o0 : Nat) (p1 : Int32) (ou : Nat) (lk : Nat) (ho : Int32) (hT : gH (dC, dI) kA (SHc nC nS) G H0) (hr_o0 : G o0 = some 14) (hr_ou : G ou = some 98) (hm_lk : el H0 o0 (dI 14 1) = some (.ref lk)) (hr_lk : G lk = some 6) (hm_ho : el H0 lk (dI 6 4) = some (.int ho)) (hq0 : 0 ≤ ho.toInt ∧ ho.toInt ≤ 40000) (hgC : 0 ≤ nC ∧ nC ≤ 40) (hgS : 0 ≤ nS ∧ nS ≤ 60) : Met l yL_hours w_l_hoursE ({ frames := 8, cells := 1, slots := 6, locals := 180 }) (va_Pc [.ref o0, .int p1, .ref ou] (fun U => U.heap = H0 ∧ va_K (dC, dI) vwCl (tyl kA) U ∧ EVC adK adV (gA G H0.size) U U.heap ∧ NC U)) (va_Qi (fun (r : Int32) (u : Int32) => (0 ≤ r.toInt ∧ r.toInt ≤ 1) ∧ ((r.toInt = 0 ∧ (0 ≤ p1.toInt ∧ p1.toInt ≤ 240) ∧ ((u.toInt = ho.toInt + p1.toInt ∧ ho.toInt + p1.toInt ≤ 40000) ∨ (u.toInt = 40000 ∧ 40000 ≤ ho.toInt + p1.toInt))) ∨ (r.toInt = 1 ∧ ¬ (0 ≤ p1.toInt ∧ p1.toInt ≤ 240) ∧ u.toInt = ho.toInt))) (fun (h1 : Int32) (t : State) => gH (dC, dI) kA (SHc nC nS) G t.heap ∧ gF (dC, dI) SKc G ([(5, 11), (5, 12), (5, 13), (6, 4), (9, 2), (9, 3), (13, 2), (13, 6), (13, 8), (13, 10), (13, 11), (26, 0), (29, 0), (30, 0), (31, 0), (32, 0), (33, 0), (34, 0), (35, 0), (38, 0), (39, 0), (98, 0)] : List (Nat × Nat)) H0 t.heap ∧ el t.heap lk (dI 6 4) = some (.int h1)) (gA G H0.size)) 1 6 (gA G H0.size) := by
  refine va_MetW (cc := cL_hours) (maxL := 4) (ret := (some .int)) (by decide) rfl ?_
  intro p e s m args below meth c s₁ B hml hv
  obtain ⟨rfl, hH0, hK, hE, hN⟩ := hv
  have hx := B.exec
  have hb := B.bytes
  have hr := B.returns
  have hts := atoms_spec (ws := w_l_hoursE) B.pre
  have hown : s.vm.findClass RL = some m.cls := findClass_of_methodNamed B.named
  have hlocks := B.notSynchronized
  have htab := vx_table (x := yL_hours) B (hts _ List.mem_cons_self)
  subst hH0
  generalize hAe : gA G s.heap.size = A at hE ⊢
  have hA : ∀ q : Nat, s.heap.size ≤ q → A q := fun q h => by rw [← hAe]; exact Or.inr h
  have hG := gA_of hAe
  have hS : va_S A s.heap s.heap [] := va_S.rf
  have hF : gF (dC, dI) SKc G ([(5, 11), (5, 12), (5, 13), (6, 4), (9, 2), (9, 3), (13, 2), (13, 6), (13, 8), (13, 10), (13, 11), (26, 0), (29, 0), (30, 0), (31, 0), (32, 0), (33, 0), (34, 0), (35, 0), (38, 0), (39, 0), (98, 0)] : List (Nat × Nat)) s.heap s.heap := gF.rf
  have hl := lv_entry ([.ref o0, .int p1, .ref ou]) (n := 4) (Nat.le_of_ble_eq_true rfl)
  rw [lg_entry_eq]
  generalize (lg_sl ([.ref o0, .int p1, .ref ou]) ++ List.replicate (4 - (lg_sl ([.ref o0, .int p1, .ref ou])).length) Slot.unset).toArray = ls at hl ⊢
  have hl : lv_has ls 4 [(0, .ref o0), (1, .int p1), (2, .ref ou)] := hl
  refine lv_aload_n hx hb dL_hours_0 rfl (lv_at hl 2 rfl) ?_
  refine lv_iconst (v := 0) hx hb dL_hours_1 (by decide) ?_
  refine lv_aload_n hx hb dL_hours_2 rfl (lv_at hl 0 rfl) ?_
  refine lv_iload_n hx hb dL_hours_3 rfl (lv_at hl 1 rfl) ?_
  have hFc := gA_free hG hA hS
  refine vx_calli (vx_runV (As := [.int p1]) (rest := [.int 0, .ref ou]) ⟨hx, hb, hml, hown, hts⟩ (c_hoursE l hlt dC dI kA adK adV G s.heap nC nS o0 p1 lk ho hT hr_o0 hm_lk hr_lk hm_ho (by have q8 := ti_all ho; omega) (by omega) (by omega)) (cwV 1 hts (goodIn_app (goodIn_r _ [223, 224, 225, 5] rfl (by decide +kernel)) (goodIn_ca (goodIn_r _ [1, 2, 3, 4, 5, 6, 7, 8, 9, 10, 11, 12, 13, 14, 15, 16, 17, 18, 19, 20, 21, 22, 23, 24, 25, 26, 27, 28, 29, 30, 31, 32, 33, 34, 35, 36, 37, 38, 39, 40, 41, 42, 43, 44, 45, 46, 47, 48, 49, 50, 51, 52, 53, 54, 55, 56, 57, 58, 59, 60, 61, 62, 63, 64, 65, 66, 67, 68, 69, 70, 71, 72, 73, 74, 75, 76, 77, 78, 79, 80, 81, 82, 83, 84, 85, 86, 87, 88, 89, 90, 91, 92, 93, 94, 95, 96, 97, 98, 99, 100, 101, 102, 103, 104, 105, 106, 107, 108, 109, 110, 111, 112, 113, 114, 115, 116, 117, 118, 119, 120, 121, 122, 123, 124, 125, 126, 127, 128, 129, 130, 131, 132, 133, 134, 135, 136, 137, 138, 139, 140, 141, 142, 143, 144, 145, 146, 147, 148, 149, 150, 151, 152, 153, 154, 155, 156, 157, 158, 159, 160, 161, 162, 163, 164, 165, 166, 167, 168, 169, 170, 171, 172, 173, 174, 175, 176, 177, 178, 179, 180, 181, 182, 183, 184, 185, 186, 187, 188, 189, 190, 191, 192, 193, 194, 195, 196, 197, 198, 199, 200, 201, 202, 203, 204, 205, 206, 207, 208, 209, 210, 211, 212, 213, 214, 215, 216, 217, 218, 219, 220, 221, 222] rfl (by decide +kernel)) (bs2_in _ _))) rfl rfl rfl (by decide +kernel) ⟨(Nat.le_of_ble_eq_true rfl), (Nat.le_of_ble_eq_true rfl)⟩) ⟨fun a U g mk q => by obtain ⟨q0, q1, qK, qE⟩ := q; exact ⟨q0, q1, va_K.moved (u := U) (U := U.calling g mk a) (Vm.Alike.refl U.vm) qK, EVC.blind g mk a qE⟩, gH_rc hK hT hr_o0 shc_14 rfl, fun U hU hW => ⟨rfl, hU, va_K.moved hW.alike hK, hE.call hS hFc hU hW⟩⟩ rfl rfl hl.1 rfl (lv_room (Nat.le_of_ble_eq_true rfl)) dL_hours_4 ⟨(Nat.le_of_ble_eq_true rfl), (Nat.le_of_ble_eq_true rfl)⟩) hS (fun q _ h => hFc q h) hFc (fun q _ h => hFc q h) (fun E ce q9 u t H locs ht hvm _ hw2 _ _ hS hce hcv hcl => ?_) (fun r1 u t H locs ht hvm hw2 hB _ _ hS => ?_)
  · obtain ⟨hw2, hxf, hTx, hFx, hxm0⟩ := hw2; rw [ht] at hTx hFx hxm0
    have hT := hTx; have hF := hF.more hFx (by decide)
    subst hw2
    refine vx_catch (E := "java/lang/IllegalArgumentException") hown [] ⟨0, 9, 12, 15⟩ [] (by rw [htab]; rfl) (fun z h => absurd h List.not_mem_nil) (by decide) (by decide) (ht_at2 hts 225 rfl) (va_Nw.use rfl (hE.1.1.2.1.2.1 _ (List.mem_of_getElem? (i := 1) rfl))) hce hcv hcl ?_
    refine lv_astore_n (lv' := [(3, .ref q9), (0, .ref o0), (1, .int p1), (2, .ref ou)]) hx hb dL_hours_12 rfl hl (by decide) rfl (fun ls hl => ?_)
    refine lv_iconst (v := 1) hx hb dL_hours_13 (by decide) ?_
    exact W.iret (v := 1) hx hb hr (fun t ht hW => ⟨⟨1, ho, rfl, (by exact ⟨(rg_t (a := 1) (by decide) (by first | decide | omega) (by first | decide | omega)), (by have : (1 : Int32).toInt = 1 := (by decide); omega)⟩), by (try dsimp only); rw [ht]; exact ⟨hT, hF, hxm0⟩⟩, hS.F ht⟩) hS.2.2 dL_hours_14
  · obtain ⟨u3, rfl⟩ : ∃ z, z = u := ⟨_, rfl⟩
    obtain ⟨hT, hF1, m4⟩ := hB
    rw [ht] at hT hF1 m4
    have hF := hF.more hF1 (by decide)
    try dsimp only at hw2
    obtain ⟨h7, hf8⟩ := hw2
    refine lv_i2l (v := r1.toInt64) hx hb dL_hours_7 rfl ?_
    refine tw_last (i := 0)  hx hb hK hT hG hS hr_ou shc_98 rfl (by unfold vp_in; decide) ⟨_, rfl⟩ dL_hours_8 (fun H locs hT oq m9 oi hS => ?_)
    have hF := hF.ast hr_ou skc_98 oq (by decide)
    have m11 := (el_kept (oq _ (gne hr_lk hr_ou (by decide)))).trans m4
    refine lv_goto (tgt := 15) hx hb dL_hours_9 (by decide) ?_
    refine lv_iconst (v := 0) hx hb dL_hours_15 (by decide) ?_
    exact W.iret (v := 0) hx hb hr (fun t ht hW => ⟨⟨0, u3, rfl, (by exact ⟨(rg_t (a := 0) (by decide) (by first | decide | omega) (by first | decide | omega)), (by have : (0 : Int32).toInt = 0 := (by decide); omega)⟩), by (try dsimp only); rw [ht]; exact ⟨hT, hF, m11⟩⟩, hS.F ht⟩) hS.2.2 dL_hours_16
def w_c_isBetweenE : List Cond := .code yX11_isBetween cX11_isBetween 3 (some .boolean) :: (HAppend.hAppend (α := List Cond) (β := List Cond) (γ := List Cond) [.methodLink RX11 588 Lib.Math.min.name, .static Lib.Math.min.name, .initialized "java/lang/Math", .code Lib.Math.min.name Lib.Math.min.code 2 (some .int), .methodLink RX11 591 Lib.Math.max.name, .static Lib.Math.max.name, .code Lib.Math.max.name Lib.Math.max.code 2 (some .int)] bs2)
set_option maxHeartbeats 4000000 in
set_option maxRecDepth 100000 in
theorem c_isBetweenE (l : Launch) (dC : Nat → ClassId) (dI : Nat → Nat → Nat) (kA : Nat → ClassId) (adK adV : Nat → Nat) (G : gT) (H0 : Heap) (nC nS : Int) (p0 : Int32) (p1 : Int32) (p2 : Int32)  (hT : gH (dC, dI) kA (SHc nC nS) G H0) (hgC : 0 ≤ nC ∧ nC ≤ 40) (hgS : 0 ≤ nS ∧ nS ≤ 60) : Met l yX11_isBetween w_c_isBetweenE ({ frames := 1, cells := 0, slots := 0, locals := 40 }) (va_Pc [.int p0, .int p1, .int p2] (fun U => U.heap = H0 ∧ va_K (dC, dI) vwCl (tyl kA) U ∧ EVC adK adV (gA G H0.size) U U.heap)) (va_Qi (fun (r : Int32) (u : Unit) => (0 ≤ r.toInt ∧ r.toInt ≤ 1) ∧ ((r.toInt = 1 ∧ ((p1.toInt ≤ p0.toInt ∨ p2.toInt ≤ p0.toInt) ∧ (p0.toInt ≤ p1.toInt ∨ p0.toInt ≤ p2.toInt))) ∨ (r.toInt = 0 ∧ ¬ ((p1.toInt ≤ p0.toInt ∨ p2.toInt ≤ p0.toInt) ∧ (p0.toInt ≤ p1.toInt ∨ p0.toInt ≤ p2.toInt))))) (fun (_ : Unit) (t : State) => gH (dC, dI) kA (SHc nC nS) G t.heap ∧ gF (dC, dI) SKc G ([] : List (Nat × Nat)) H0 t.heap) (gA G H0.size)) 0 0 (gA G H0.size) := by
  refine Met.ofW (cc := cX11_isBetween) (maxL := 3) (ret := (some .boolean)) (by decide) rfl ?_
  intro p e s m args below meth c s₁ B hml hv
  obtain ⟨rfl, hH0, hK, hE⟩ := hv
  have hx := B.exec
  have hb := B.bytes
  have hr := B.returns
  have hts := atoms_spec (ws := w_c_isBetweenE) B.pre
  have hown : s.vm.findClass RX11 = some m.cls := findClass_of_methodNamed B.named
  have hlocks := B.notSynchronized
  subst hH0
  generalize hAe : gA G s.heap.size = A at hE ⊢
  have hA : ∀ q : Nat, s.heap.size ≤ q → A q := fun q h => by rw [← hAe]; exact Or.inr h
  have hG := gA_of hAe
  have hS : va_S A s.heap s.heap [] := va_S.rf
  have hF : gF (dC, dI) SKc G ([] : List (Nat × Nat)) s.heap s.heap := gF.rf
  have hl := lv_entry ([.int p0, .int p1, .int p2]) (n := 3) (Nat.le_of_ble_eq_true rfl)
  rw [lg_entry_eq]
  generalize (lg_sl ([.int p0, .int p1, .int p2]) ++ List.replicate (3 - (lg_sl ([.int p0, .int p1, .int p2])).length) Slot.unset).toArray = ls at hl ⊢
  have hl : lv_has ls 3 [(0, .int p0), (1, .int p1), (2, .int p2)] := hl
  refine lv_iload_n hx hb dX11_isBetween_0 rfl (lv_at hl 1 rfl) ?_
  refine lv_iload_n hx hb dX11_isBetween_1 rfl (lv_at hl 2 rfl) ?_
  refine va_mmin hx hb (hml.trans hl.1.symm) hown (ht_at2 hts 0 rfl) (ht_at2 hts 1 rfl) (ht_at2 hts 2 rfl) (ht_at2 hts 3 rfl) (Nat.le_of_ble_eq_true rfl) (Nat.le_of_ble_eq_true rfl) (Nat.le_of_ble_eq_true rfl) (Nat.le_of_ble_eq_true rfl) dX11_isBetween_2 ?_
  refine lv_topi (fun x1 ex1 => ?_)
  have t2 : x1.toInt ≤ p1.toInt ∧ x1.toInt ≤ p2.toInt ∧ (x1.toInt = p1.toInt ∨ x1.toInt = p2.toInt) := mn_f ex1 rfl rfl
  refine lv_iload_n hx hb dX11_isBetween_5 rfl (lv_at hl 0 rfl) ?_
  have t3 : -2147483648 ≤ x1.toInt ∧ x1.toInt ≤ 2147483647 := ti_all x1
  have t4 : -2147483648 ≤ p0.toInt ∧ p0.toInt ≤ 2147483647 := ti_all p0
  refine lv_icmp_gt (tgt := 22) hx hb dX11_isBetween_6 (by decide) (fun c5 => ?_) (fun c5 => ?_)
  · have t6 : p0.toInt < x1.toInt := ti_lt c5 rfl rfl
    refine lv_iconst (v := 0) hx hb dX11_isBetween_22 (by decide) ?_
    exact W.zret (v := 0) hx hb hr (by decide) (fun t ht hW => ⟨⟨0, (), rfl, (by exact ⟨(rg_t (a := 0) (by decide) (by first | decide | omega) (by first | decide | omega)), (by have : (0 : Int32).toInt = 0 := (by decide); omega)⟩), by (try dsimp only); rw [ht]; exact ⟨hT, hF⟩⟩, hS.F ht⟩) hS.2.2 dX11_isBetween_23
  · have t7 : x1.toInt ≤ p0.toInt := ti_nlt c5 rfl rfl
    refine lv_iload_n hx hb dX11_isBetween_9 rfl (lv_at hl 0 rfl) ?_
    refine lv_iload_n hx hb dX11_isBetween_10 rfl (lv_at hl 1 rfl) ?_
    refine lv_iload_n hx hb dX11_isBetween_11 rfl (lv_at hl 2 rfl) ?_
    refine va_mmax hx hb (hml.trans hl.1.symm) hown (ht_at2 hts 4 rfl) (ht_at2 hts 5 rfl) (ht_at2 hts 2 rfl) (ht_at2 hts 6 rfl) (Nat.le_of_ble_eq_true rfl) (Nat.le_of_ble_eq_true rfl) (Nat.le_of_ble_eq_true rfl) (Nat.le_of_ble_eq_true rfl) dX11_isBetween_12 ?_
    refine lv_topi (fun x8 ex8 => ?_)
    have t9 : p1.toInt ≤ x8.toInt ∧ p2.toInt ≤ x8.toInt ∧ (x8.toInt = p1.toInt ∨ x8.toInt = p2.toInt) := mx_f ex8 rfl rfl
    have t10 : -2147483648 ≤ x8.toInt ∧ x8.toInt ≤ 2147483647 := ti_all x8
    refine lv_icmp_gt (tgt := 22) hx hb dX11_isBetween_15 (by decide) (fun c11 => ?_) (fun c11 => ?_)
    · have t12 : x8.toInt < p0.toInt := ti_lt c11 rfl rfl
      refine lv_iconst (v := 0) hx hb dX11_isBetween_22 (by decide) ?_
      exact W.zret (v := 0) hx hb hr (by decide) (fun t ht hW => ⟨⟨0, (), rfl, (by exact ⟨(rg_t (a := 0) (by decide) (by first | decide | omega) (by first | decide | omega)), (by have : (0 : Int32).toInt = 0 := (by decide); omega)⟩), by (try dsimp only); rw [ht]; exact ⟨hT, hF⟩⟩, hS.F ht⟩) hS.2.2 dX11_isBetween_23
    · have t13 : p0.toInt ≤ x8.toInt := ti_nlt c11 rfl rfl
      refine lv_iconst (v := 1) hx hb dX11_isBetween_18 (by decide) ?_
      refine lv_goto (tgt := 23) hx hb dX11_isBetween_19 (by decide) ?_
      exact W.zret (v := 1) hx hb hr (by decide) (fun t ht hW => ⟨⟨1, (), rfl, (by exact ⟨(rg_t (a := 1) (by decide) (by first | decide | omega) (by first | decide | omega)), (by have : (1 : Int32).toInt = 1 := (by decide); omega)⟩), by (try dsimp only); rw [ht]; exact ⟨hT, hF⟩⟩, hS.F ht⟩) hS.2.2 dX11_isBetween_23
def w_c_inRectangleE : List Cond := .code yX11_inRectangle cX11_inRectangle 3 (some .boolean) :: (HAppend.hAppend (α := List Cond) (β := List Cond) (γ := List Cond) [.code yX11_isBetween cX11_isBetween 3 (some .boolean), .methodLink RX11 588 Lib.Math.min.name, .static Lib.Math.min.name, .initialized "java/lang/Math", .code Lib.Math.min.name Lib.Math.min.code 2 (some .int), .methodLink RX11 591 Lib.Math.max.name, .static Lib.Math.max.name, .code Lib.Math.max.name Lib.Math.max.code 2 (some .int), .methodLink RX11 585 yX11_isBetween, .static yX11_isBetween, .initialized RX11] bs2)
set_option maxHeartbeats 4000000 in
set_option maxRecDepth 100000 in
theorem c_inRectangleE (l : Launch) (dC : Nat → ClassId) (dI : Nat → Nat → Nat) (kA : Nat → ClassId) (adK adV : Nat → Nat) (G : gT) (H0 : Heap) (nC nS : Int) (p0 : Int32) (p1 : Int32) (p2 : Int32)  (hT : gH (dC, dI) kA (SHc nC nS) G H0) (hq0 : 0 ≤ p0.toInt ∧ p0.toInt ≤ 95) (hq1 : 0 ≤ p1.toInt ∧ p1.toInt ≤ 95) (hq2 : 0 ≤ p2.toInt ∧ p2.toInt ≤ 95) (hgC : 0 ≤ nC ∧ nC ≤ 40) (hgS : 0 ≤ nS ∧ nS ≤ 60) : Met l yX11_inRectangle w_c_inRectangleE ({ frames := 2, cells := 0, slots := 0, locals := 62 }) (va_Pc [.int p0, .int p1, .int p2] (fun U => U.heap = H0 ∧ va_K (dC, dI) vwCl (tyl kA) U ∧ EVC adK adV (gA G H0.size) U U.heap)) (va_Qi (fun (r : Int32) (u : Unit) => (0 ≤ r.toInt ∧ r.toInt ≤ 1) ∧ ((r.toInt = 1 ∧ (((p1.toInt % 12 ≤ p0.toInt % 12 ∨ p2.toInt % 12 ≤ p0.toInt % 12) ∧ (p0.toInt % 12 ≤ p1.toInt % 12 ∨ p0.toInt % 12 ≤ p2.toInt % 12)) ∧ ((p1.toInt / 12 ≤ p0.toInt / 12 ∨ p2.toInt / 12 ≤ p0.toInt / 12) ∧ (p0.toInt / 12 ≤ p1.toInt / 12 ∨ p0.toInt / 12 ≤ p2.toInt / 12)))) ∨ (r.toInt = 0 ∧ ¬ (((p1.toInt % 12 ≤ p0.toInt % 12 ∨ p2.toInt % 12 ≤ p0.toInt % 12) ∧ (p0.toInt % 12 ≤ p1.toInt % 12 ∨ p0.toInt % 12 ≤ p2.toInt % 12)) ∧ ((p1.toInt / 12 ≤ p0.toInt / 12 ∨ p2.toInt / 12 ≤ p0.toInt / 12) ∧ (p0.toInt / 12 ≤ p1.toInt / 12 ∨ p0.toInt / 12 ≤ p2.toInt / 12)))))) (fun (_ : Unit) (t : State) => gH (dC, dI) kA (SHc nC nS) G t.heap ∧ gF (dC, dI) SKc G ([] : List (Nat × Nat)) H0 t.heap) (gA G H0.size)) 0 0 (gA G H0.size) := by
  refine Met.ofW (cc := cX11_inRectangle) (maxL := 3) (ret := (some .boolean)) (by decide) rfl ?_
  intro p e s m args below meth c s₁ B hml hv
  obtain ⟨rfl, hH0, hK, hE⟩ := hv
  have hx := B.exec
  have hb := B.bytes
  have hr := B.returns
  have hts := atoms_spec (ws := w_c_inRectangleE) B.pre
  have hown : s.vm.findClass RX11 = some m.cls := findClass_of_methodNamed B.named
  have hlocks := B.notSynchronized
  subst hH0
  generalize hAe : gA G s.heap.size = A at hE ⊢
  have hA : ∀ q : Nat, s.heap.size ≤ q → A q := fun q h => by rw [← hAe]; exact Or.inr h
  have hG := gA_of hAe
  have hS : va_S A s.heap s.heap [] := va_S.rf
  have hF : gF (dC, dI) SKc G ([] : List (Nat × Nat)) s.heap s.heap := gF.rf
  have hl := lv_entry ([.int p0, .int p1, .int p2]) (n := 3) (Nat.le_of_ble_eq_true rfl)
  rw [lg_entry_eq]
  generalize (lg_sl ([.int p0, .int p1, .int p2]) ++ List.replicate (3 - (lg_sl ([.int p0, .int p1, .int p2])).length) Slot.unset).toArray = ls at hl ⊢
  have hl : lv_has ls 3 [(0, .int p0), (1, .int p1), (2, .int p2)] := hl
  refine lv_iload_n hx hb dX11_inRectangle_0 rfl (lv_at hl 0 rfl) ?_
  refine lv_bipush (v := 12) hx hb dX11_inRectangle_1 (by decide) ?_
  refine lv_irem hx hb dX11_inRectangle_3 (by decide) ?_
  refine lv_topi (fun x1 ex1 => ?_)
  have t2 : x1.toInt = p0.toInt % 12 := ti_rem ex1 rfl (by decide) (by omega) (by omega)
  refine lv_iload_n hx hb dX11_inRectangle_4 rfl (lv_at hl 1 rfl) ?_
  refine lv_bipush (v := 12) hx hb dX11_inRectangle_5 (by decide) ?_
  refine lv_irem hx hb dX11_inRectangle_7 (by decide) ?_
  refine lv_topi (fun x3 ex3 => ?_)
  have t4 : x3.toInt = p1.toInt % 12 := ti_rem ex3 rfl (by decide) (by omega) (by omega)
  refine lv_iload_n hx hb dX11_inRectangle_8 rfl (lv_at hl 2 rfl) ?_
  refine lv_bipush (v := 12) hx hb dX11_inRectangle_9 (by decide) ?_
  refine lv_irem hx hb dX11_inRectangle_11 (by decide) ?_
  refine lv_topi (fun x5 ex5 => ?_)
  have t6 : x5.toInt = p2.toInt % 12 := ti_rem ex5 rfl (by decide) (by omega) (by omega)
  have hFc := gA_free hG hA hS
  refine va_calli (va_runS (As := [.int x1, .int x3, .int x5]) (rest := []) ⟨hx, hb, hml, hown, hts⟩ (c_isBetweenE l dC dI kA adK adV G s.heap nC nS x1 x3 x5 hT (by omega) (by omega)) (va_cwS 3 hts (goodIn_app (goodIn_r _ [9, 10, 11] rfl (by decide +kernel)) (goodIn_ca (goodIn_r _ [1, 2, 3, 4, 5, 6, 7, 8] rfl (by decide +kernel)) (bs2_in _ _))) rfl rfl rfl (by decide +kernel) ⟨(Nat.le_of_ble_eq_true rfl), (Nat.le_of_ble_eq_true rfl)⟩) ⟨fun a U g mk q => by obtain ⟨q0, q1, qK, qE⟩ := q; exact ⟨q0, q1, va_K.moved (u := U) (U := U.calling g mk a) (Vm.Alike.refl U.vm) qK, EVC.blind g mk a qE⟩, fun U hU hW => ⟨rfl, hU, va_K.moved hW.alike hK, hE.call hS hFc hU hW⟩⟩ rfl rfl hl.1 rfl (lv_room (Nat.le_of_ble_eq_true rfl)) dX11_inRectangle_12 ⟨(Nat.le_of_ble_eq_true rfl), (Nat.le_of_ble_eq_true rfl)⟩) hS (fun q _ h => hFc q h) hFc (fun r7 u t H locs ht hvm hw8 hB _ _ hS => ?_)
  obtain ⟨hT, hF1⟩ := hB
  rw [ht] at hT hF1
  have hF := hF.more hF1 (by decide)
  try dsimp only at hw8
  obtain ⟨h9, hf10⟩ := hw8
  refine lv_if_eq (tgt := 40) hx hb dX11_inRectangle_15 (by decide) (fun c11 => ?_) (fun c11 => ?_)
  · have t12 : r7.toInt = 0 := ti_eq c11 rfl (by decide)
    refine lv_iconst (v := 0) hx hb dX11_inRectangle_40 (by decide) ?_
    exact W.zret (v := 0) hx hb hr (by decide) (fun t ht hW => ⟨⟨0, (), rfl, (by exact ⟨(rg_t (a := 0) (by decide) (by first | decide | omega) (by first | decide | omega)), (by have : (0 : Int32).toInt = 0 := (by decide); omega)⟩), by (try dsimp only); rw [ht]; exact ⟨hT, hF⟩⟩, hS.F ht⟩) hS.2.2 dX11_inRectangle_41
  · have t13 : r7.toInt ≠ 0 := ti_ne c11 rfl (by decide)
    refine lv_iload_n hx hb dX11_inRectangle_18 rfl (lv_at hl 0 rfl) ?_
    refine lv_bipush (v := 12) hx hb dX11_inRectangle_19 (by decide) ?_
    refine lv_idiv hx hb dX11_inRectangle_21 (by decide) ?_
    refine lv_topi (fun x14 ex14 => ?_)
    have t15 : x14.toInt = p0.toInt / 12 := ti_div ex14 rfl (by decide) (by omega) (by omega)
    refine lv_iload_n hx hb dX11_inRectangle_22 rfl (lv_at hl 1 rfl) ?_
    refine lv_bipush (v := 12) hx hb dX11_inRectangle_23 (by decide) ?_
    refine lv_idiv hx hb dX11_inRectangle_25 (by decide) ?_
    refine lv_topi (fun x16 ex16 => ?_)
    have t17 : x16.toInt = p1.toInt / 12 := ti_div ex16 rfl (by decide) (by omega) (by omega)
    refine lv_iload_n hx hb dX11_inRectangle_26 rfl (lv_at hl 2 rfl) ?_
    refine lv_bipush (v := 12) hx hb dX11_inRectangle_27 (by decide) ?_
    refine lv_idiv hx hb dX11_inRectangle_29 (by decide) ?_
    refine lv_topi (fun x18 ex18 => ?_)
    have t19 : x18.toInt = p2.toInt / 12 := ti_div ex18 rfl (by decide) (by omega) (by omega)
    have hFc := gA_free hG hA hS
    refine va_calli (va_runS (As := [.int x14, .int x16, .int x18]) (rest := []) ⟨hx, hb, hml, hown, hts⟩ (c_isBetweenE l dC dI kA adK adV G H nC nS x14 x16 x18 hT (by omega) (by omega)) (va_cwS 3 hts (goodIn_app (goodIn_r _ [9, 10, 11] rfl (by decide +kernel)) (goodIn_ca (goodIn_r _ [1, 2, 3, 4, 5, 6, 7, 8] rfl (by decide +kernel)) (bs2_in _ _))) rfl rfl rfl (by decide +kernel) ⟨(Nat.le_of_ble_eq_true rfl), (Nat.le_of_ble_eq_true rfl)⟩) ⟨fun a U g mk q => by obtain ⟨q0, q1, qK, qE⟩ := q; exact ⟨q0, q1, va_K.moved (u := U) (U := U.calling g mk a) (Vm.Alike.refl U.vm) qK, EVC.blind g mk a qE⟩, fun U hU hW => ⟨rfl, hU, va_K.moved hW.alike hK, hE.call hS hFc hU hW⟩⟩ rfl rfl hl.1 rfl (lv_room (Nat.le_of_ble_eq_true rfl)) dX11_inRectangle_30 ⟨(Nat.le_of_ble_eq_true rfl), (Nat.le_of_ble_eq_true rfl)⟩) hS (fun q _ h => hFc q h) hFc (fun r20 u t H locs ht hvm hw21 hB _ _ hS => ?_)
    obtain ⟨hT, hF1⟩ := hB
    rw [ht] at hT hF1
    have hF := hF.more hF1 (by decide)
    try dsimp only at hw21
    obtain ⟨h22, hf23⟩ := hw21
    refine lv_if_eq (tgt := 40) hx hb dX11_inRectangle_33 (by decide) (fun c24 => ?_) (fun c24 => ?_)
    · have t25 : r20.toInt = 0 := ti_eq c24 rfl (by decide)
      refine lv_iconst (v := 0) hx hb dX11_inRectangle_40 (by decide) ?_
      exact W.zret (v := 0) hx hb hr (by decide) (fun t ht hW => ⟨⟨0, (), rfl, (by exact ⟨(rg_t (a := 0) (by decide) (by first | decide | omega) (by first | decide | omega)), (by have : (0 : Int32).toInt = 0 := (by decide); omega)⟩), by (try dsimp only); rw [ht]; exact ⟨hT, hF⟩⟩, hS.F ht⟩) hS.2.2 dX11_inRectangle_41
    · have t26 : r20.toInt ≠ 0 := ti_ne c24 rfl (by decide)
      refine lv_iconst (v := 1) hx hb dX11_inRectangle_36 (by decide) ?_
      refine lv_goto (tgt := 41) hx hb dX11_inRectangle_37 (by decide) ?_
      exact W.zret (v := 1) hx hb hr (by decide) (fun t ht hW => ⟨⟨1, (), rfl, (by exact ⟨(rg_t (a := 1) (by decide) (by first | decide | omega) (by first | decide | omega)), (by have : (1 : Int32).toInt = 1 := (by decide); omega)⟩), by (try dsimp only); rw [ht]; exact ⟨hT, hF⟩⟩, hS.F ht⟩) hS.2.2 dX11_inRectangle_41
def w_c_needSquareE : List Cond := .code yX11_needSquare cX11_needSquare 1 none :: (HAppend.hAppend (α := List Cond) (β := List Cond) (γ := List Cond) [.code yX11_within cX11_within 3 (some .boolean), .methodLink RX11 58 yX11_within, .static yX11_within, .initialized RX11, .classLink RX11 557 "java/lang/IndexOutOfBoundsException", .initialized "java/lang/IndexOutOfBoundsException"] bs2)
set_option maxHeartbeats 4000000 in
set_option maxRecDepth 100000 in
theorem c_needSquareE (l : Launch) (hlt : l.stackTraces = false) (dC : Nat → ClassId) (dI : Nat → Nat → Nat) (kA : Nat → ClassId) (adK adV : Nat → Nat) (G : gT) (H0 : Heap) (nC nS : Int) (p0 : Int32)  (hT : gH (dC, dI) kA (SHc nC nS) G H0) (hgC : 0 ≤ nC ∧ nC ≤ 40) (hgS : 0 ≤ nS ∧ nS ≤ 60) : vx_Met l yX11_needSquare w_c_needSquareE ({ frames := 6, cells := 1, slots := 6, locals := 100 }) (va_Pc [.int p0] (fun U => U.heap = H0 ∧ va_K (dC, dI) vwCl (tyl kA) U ∧ EVC adK adV (gA G H0.size) U U.heap)) (va_Qv (fun (u : Unit) => (0 ≤ p0.toInt ∧ p0.toInt ≤ 95)) (fun (_ : Unit) (t : State) => gH (dC, dI) kA (SHc nC nS) G t.heap ∧ gF (dC, dI) SKc G ([] : List (Nat × Nat)) H0 t.heap) (gA G H0.size)) (vx_X (fun _ : Unit => True) (fun E _ t => (E = "java/lang/IndexOutOfBoundsException") ∧ (¬ (0 ≤ p0.toInt ∧ p0.toInt ≤ 95)) ∧ gH (dC, dI) kA (SHc nC nS) G t.heap ∧ gF (dC, dI) SKc G ([] : List (Nat × Nat)) H0 t.heap) (gA G H0.size)) 1 6 (gA G H0.size) := by
  refine vx_ofW (cc := cX11_needSquare) (maxL := 1) (ret := none) (by decide) rfl ?_
  intro p e s m args below meth c s₁ B hml hnt hv
  obtain ⟨rfl, hH0, hK, hE⟩ := hv
  have hx := B.exec
  have hb := B.bytes
  have hr := B.returns
  have hts := atoms_spec (ws := w_c_needSquareE) B.pre
  have hown : s.vm.findClass RX11 = some m.cls := findClass_of_methodNamed B.named
  have hlocks := B.notSynchronized
  subst hH0
  generalize hAe : gA G s.heap.size = A at hE ⊢
  have hA : ∀ q : Nat, s.heap.size ≤ q → A q := fun q h => by rw [← hAe]; exact Or.inr h
  have hG := gA_of hAe
  have hS : va_S A s.heap s.heap [] := va_S.rf
  have hF : gF (dC, dI) SKc G ([] : List (Nat × Nat)) s.heap s.heap := gF.rf
  have hl := lv_entry ([.int p0]) (n := 1) (Nat.le_of_ble_eq_true rfl)
  rw [lg_entry_eq]
  generalize (lg_sl ([.int p0]) ++ List.replicate (1 - (lg_sl ([.int p0])).length) Slot.unset).toArray = ls at hl ⊢
  have hl : lv_has ls 1 [(0, .int p0)] := hl
  refine lv_iload_n hx hb dX11_needSquare_0 rfl (lv_at hl 0 rfl) ?_
  refine lv_iconst (v := 0) hx hb dX11_needSquare_1 (by decide) ?_
  refine lv_bipush (v := 95) hx hb dX11_needSquare_2 (by decide) ?_
  have hFc := gA_free hG hA hS
  refine va_calli (va_runS (As := [.int p0, .int 0, .int 95]) (rest := []) ⟨hx, hb, hml, hown, hts⟩ (c_within l dC dI kA adK adV G s.heap nC nS p0 0 95 hT (by omega) (by omega)) (va_cwS 3 hts (goodIn_app (goodIn_r _ [2, 3, 4] rfl (by decide +kernel)) (goodIn_ca (goodIn_r _ [1] rfl (by decide +kernel)) (bs2_in _ _))) rfl rfl rfl (by decide +kernel) ⟨(Nat.le_of_ble_eq_true rfl), (Nat.le_of_ble_eq_true rfl)⟩) ⟨fun a U g mk q => by obtain ⟨q0, q1, qK, qE⟩ := q; exact ⟨q0, q1, va_K.moved (u := U) (U := U.calling g mk a) (Vm.Alike.refl U.vm) qK, EVC.blind g mk a qE⟩, fun U hU hW => ⟨rfl, hU, va_K.moved hW.alike hK, hE.call hS hFc hU hW⟩⟩ rfl rfl hl.1 rfl (lv_room (Nat.le_of_ble_eq_true rfl)) dX11_needSquare_4 ⟨(Nat.le_of_ble_eq_true rfl), (Nat.le_of_ble_eq_true rfl)⟩) hS (fun q _ h => hFc q h) hFc (fun r1 u t H locs ht hvm hw2 hB _ _ hS => ?_)
  obtain ⟨hT, hF1⟩ := hB
  rw [ht] at hT hF1
  have hF := hF.more hF1 (by decide)
  try dsimp only at hw2
  obtain ⟨h3, hi4, hi5⟩ := hw2
  refine lv_if_ne (tgt := 21) hx hb dX11_needSquare_7 (by decide) (fun c6 => ?_) (fun c6 => ?_)
  · have t7 : r1.toInt ≠ 0 := ti_ne c6 rfl (by decide)
    have t8 : (0 : Int32).toInt = 0 := by decide
    have t9 : (95 : Int32).toInt = 95 := by decide
    have t10 : (0 : Int32).toInt ≤ p0.toInt ∧ p0.toInt ≤ (95 : Int32).toInt := hi4 ((bit_of ⟨by omega, by omega⟩).resolve_left c6)
    refine W.widen (k := 1) (n := 6) (by decide) (by decide) ?_
    exact vx_ret (W.vret hx hb hr (fun t ht hW => ⟨⟨(), rfl, (by exact (by omega)), by (try dsimp only); rw [ht]; exact ⟨hT, hF⟩⟩, hS.F ht⟩) hS.2.2 dX11_needSquare_21)
  · have t11 : r1.toInt = 0 := ti_eq c6 rfl (by decide)
    have t12 : (0 : Int32).toInt = 0 := by decide
    have t13 : (95 : Int32).toInt = 95 := by decide
    have t14 : p0.toInt < (0 : Int32).toInt ∨ (95 : Int32).toInt < p0.toInt := hi5 c6
    obtain ⟨sa15, hsa15⟩ := hE.str 13 rfl
    exact vx_throwSW (names := ["java/lang/RuntimeException", "java/lang/Exception"]) hx hb hlt hown (by decide +kernel) (by decide +kernel) (ht_at2 hts 4 rfl) (ht_at2 hts 5 rfl) hsa15 (bX2_at0 hts hE) bX_ok0_557 hE.1.1.2.2.1 hE.1.1.2.2.2 hS (by rw [hml]; exact hl.1) dX11_needSquare_10 dX11_needSquare_13 dX11_needSquare_14 dX11_needSquare_17 dX11_needSquare_20 (fun x h => (hnt x h).elim) (by decide) (Nat.le_of_ble_eq_true rfl) (Nat.le_of_ble_eq_true rfl) (Nat.le_of_ble_eq_true rfl) hlocks (fun t hW hz hq => ⟨(), trivial, ⟨rfl, (by omega), hT.ext hq, hF.ext hT hq⟩, Nat.le_trans hS.1 hz, fun q h1 h2 => (hq q (Nat.lt_of_lt_of_le h1 hS.1)).trans (hS.2.1 q h1 h2)⟩) hS.2.2 (by decide) (by decide)
def w_c_tellLandC : List Cond := .code yX2_tellLand cX2_tellLand 5 none :: (HAppend.hAppend (α := List Cond) (β := List Cond) (γ := List Cond) [.fieldLink RX2 9 "SeaLand$Ground" "isLand" "[Z", .fieldLink RX2 15 "SeaLand$Ground" "height" "[I", .fieldLink RX2 19 "SeaLand$Ground" "soil" "[I", .fieldLink RX2 22 "SeaLand$Ground" "ditch" "[I", .code yX2_tellWater cX2_tellWater 4 none, .fieldLink RX2 50 "SeaLand$Ground" "toldMore" "I", .fieldLink RX2 25 "SeaLand$Ground" "water" "[I", .fieldLink RX2 28 "SeaLand$Ground" "salt" "[I", .methodLink RX2 46 yX2_tellWater, .instanceMethod yX2_tellWater, .selects RX2 yX2_tellWater yX2_tellWater, .initialized RX2] bs2)
set_option maxHeartbeats 4000000 in
set_option maxRecDepth 100000 in
theorem c_tellLandC (l : Launch) (dC : Nat → ClassId) (dI : Nat → Nat → Nat) (kA : Nat → ClassId) (adK adV : Nat → Nat) (G : gT) (H0 : Heap) (nC nS : Int) (o0 : Nat) (p0 : Int32) (p1 : Int32) (p2 : Int32) (p3 : Int32) (la : Nat) (VL : Nat → Int32)  (hT : gH (dC, dI) kA (SHc nC nS) G H0) (hr_o0 : G o0 = some 5) (hm_la : el H0 o0 (dI 5 0) = some (.ref la)) (hr_la : G la = some 25) (hq0 : 0 ≤ p0.toInt ∧ p0.toInt ≤ 95) (hc_VL : ct H0 la 96 VL) (hgC : 0 ≤ nC ∧ nC ≤ 40) (hgS : 0 ≤ nS ∧ nS ≤ 60) : Met l yX2_tellLand w_c_tellLandC ({ frames := 1, cells := 0, slots := 0, locals := 23 }) (va_Pc [.ref o0, .int p0, .int p1, .int p2, .int p3] (fun U => U.heap = H0 ∧ va_K (dC, dI) vwCl (tyl kA) U ∧ EVC adK adV (gA G H0.size) U U.heap)) (va_Qv (fun (u : Unit) => True) (fun (_ : Unit) (t : State) => gH (dC, dI) kA (SHc nC nS) G t.heap ∧ gF (dC, dI) SKc G ([(5, 14), (25, 0), (26, 0), (27, 0), (28, 0), (29, 0), (30, 0)] : List (Nat × Nat)) H0 t.heap ∧ ct t.heap la 96 (cu VL p0.toNatClampNeg 1)) (gA G H0.size)) 0 0 (gA G H0.size) := by
  refine Met.ofW (cc := cX2_tellLand) (maxL := 5) (ret := none) (by decide) rfl ?_
  intro p e s m args below meth c s₁ B hml hv
  obtain ⟨rfl, hH0, hK, hE⟩ := hv
  have hx := B.exec
  have hb := B.bytes
  have hr := B.returns
  have hts := atoms_spec (ws := w_c_tellLandC) B.pre
  have hown : s.vm.findClass RX2 = some m.cls := findClass_of_methodNamed B.named
  have hlocks := B.notSynchronized
  subst hH0
  generalize hAe : gA G s.heap.size = A at hE ⊢
  have hA : ∀ q : Nat, s.heap.size ≤ q → A q := fun q h => by rw [← hAe]; exact Or.inr h
  have hG := gA_of hAe
  have hS : va_S A s.heap s.heap [] := va_S.rf
  have hF : gF (dC, dI) SKc G ([(5, 14), (25, 0), (26, 0), (27, 0), (28, 0), (29, 0), (30, 0)] : List (Nat × Nat)) s.heap s.heap := gF.rf
  have hl := lv_entry ([.ref o0, .int p0, .int p1, .int p2, .int p3]) (n := 5) (Nat.le_of_ble_eq_true rfl)
  rw [lg_entry_eq]
  generalize (lg_sl ([.ref o0, .int p0, .int p1, .int p2, .int p3]) ++ List.replicate (5 - (lg_sl ([.ref o0, .int p0, .int p1, .int p2, .int p3])).length) Slot.unset).toArray = ls at hl ⊢
  have hl : lv_has ls 5 [(0, .ref o0), (1, .int p0), (2, .int p1), (3, .int p2), (4, .int p3)] := hl
  refine lv_aload_n hx hb dX2_tellLand_0 rfl (lv_at hl 0 rfl) ?_
  refine tw_getM (v := .ref la) hx hb hts bF2_X2 hown hK hT hr_o0 shc_5 rfl 0 (by decide) (ht_at2 hts 0 rfl) (fun _ h9 => h9) hm_la dX2_tellLand_1 ?_
  refine lv_iload_n hx hb dX2_tellLand_4 rfl (lv_at hl 1 rfl) ?_
  refine lv_iconst (v := 1) hx hb dX2_tellLand_5 (by decide) ?_
  refine tw_zast (i := p0) (x := 1) hx hb hK hT hG hS hr_la shc_25 rfl (vin_t (a := p0.toInt) rfl (by omega) (by omega)) (gi_z (rg_t (a := 1) (by decide) (by first | decide | omega) (by first | decide | omega)) (by decide) (by decide)) dX2_tellLand_6 (fun H locs hT oq m1 oi hS => ?_)
  have hF := hF.ast hr_la skc_25 oq (by decide)
  have m3 := hc_VL.put (show el H la _ = some (.int 1) from m1) oi
  refine lv_aload_n hx hb dX2_tellLand_7 rfl (lv_at hl 0 rfl) ?_
  refine tw_get hx hb hts bF2_X2 hown hK hT hr_o0 shc_5 rfl 1 (by decide) (ht_at2 hts 1 rfl) (fun _ h9 => h9) dX2_tellLand_8 (fun v9 m4 h9 => ?_)
  obtain ⟨b5, rfl, hg6⟩ := h9 _ rfl
  refine lv_iload_n hx hb dX2_tellLand_11 rfl (lv_at hl 1 rfl) ?_
  refine lv_iload_n hx hb dX2_tellLand_12 rfl (lv_at hl 2 rfl) ?_
  refine tw_iast (i := p0) (x := p1) hx hb hK hT hG hS hg6 shc_26 rfl (vin_t (a := p0.toInt) rfl (by omega) (by omega)) (gi_all _) dX2_tellLand_13 (fun H locs hT oq m7 oi hS => ?_)
  have hF := hF.ast hg6 skc_26 oq (by decide)
  have m9 := m3.kept (oq _ (gne hr_la hg6 (by decide)))
  refine lv_aload_n hx hb dX2_tellLand_14 rfl (lv_at hl 0 rfl) ?_
  refine tw_get hx hb hts bF2_X2 hown hK hT hr_o0 shc_5 rfl 2 (by decide) (ht_at2 hts 2 rfl) (fun _ h9 => h9) dX2_tellLand_15 (fun v9 m11 h9 => ?_)
  obtain ⟨b12, rfl, hg13⟩ := h9 _ rfl
  refine lv_iload_n hx hb dX2_tellLand_18 rfl (lv_at hl 1 rfl) ?_
  refine lv_iload_n hx hb dX2_tellLand_19 rfl (lv_at hl 3 rfl) ?_
  refine tw_iast (i := p0) (x := p2) hx hb hK hT hG hS hg13 shc_27 rfl (vin_t (a := p0.toInt) rfl (by omega) (by omega)) (gi_all _) dX2_tellLand_20 (fun H locs hT oq m14 oi hS => ?_)
  have hF := hF.ast hg13 skc_27 oq (by decide)
  have m16 := m9.kept (oq _ (gne hr_la hg13 (by decide)))
  refine lv_aload_n hx hb dX2_tellLand_21 rfl (lv_at hl 0 rfl) ?_
  refine tw_get hx hb hts bF2_X2 hown hK hT hr_o0 shc_5 rfl 3 (by decide) (ht_at2 hts 3 rfl) (fun _ h9 => h9) dX2_tellLand_22 (fun v9 m20 h9 => ?_)
  obtain ⟨b21, rfl, hg22⟩ := h9 _ rfl
  refine lv_iload_n hx hb dX2_tellLand_25 rfl (lv_at hl 1 rfl) ?_
  refine lv_iload hx hb dX2_tellLand_26 (lv_at hl 4 rfl) ?_
  refine tw_iast (i := p0) (x := p3) hx hb hK hT hG hS hg22 shc_28 rfl (vin_t (a := p0.toInt) rfl (by omega) (by omega)) (gi_all _) dX2_tellLand_28 (fun H locs hT oq m23 oi hS => ?_)
  have hF := hF.ast hg22 skc_28 oq (by decide)
  have m25 := m16.kept (oq _ (gne hr_la hg22 (by decide)))
  refine lv_aload_n hx hb dX2_tellLand_29 rfl (lv_at hl 0 rfl) ?_
  refine lv_iload_n hx hb dX2_tellLand_30 rfl (lv_at hl 1 rfl) ?_
  refine lv_iconst (v := 0) hx hb dX2_tellLand_31 (by decide) ?_
  refine lv_iconst (v := 0) hx hb dX2_tellLand_32 (by decide) ?_
  have hFc := gA_free hG hA hS
  refine va_callv (va_runV (As := [.int p0, .int 0, .int 0]) (rest := []) ⟨hx, hb, hml, hown, hts⟩ (c_tellWater l dC dI kA adK adV G H nC nS o0 p0 0 0 hT hr_o0 (by have q8 := ti_all p0; omega) (by omega) (by omega)) (cwV 3 hts (goodIn_app (goodIn_r _ [9, 10, 11, 12] rfl (by decide +kernel)) (goodIn_ca (goodIn_r _ [5, 6, 7, 8] rfl (by decide +kernel)) (bs2_in _ _))) rfl rfl rfl (by decide +kernel) ⟨(Nat.le_of_ble_eq_true rfl), (Nat.le_of_ble_eq_true rfl)⟩) ⟨fun a U g mk q => by obtain ⟨q0, q1, qK, qE⟩ := q; exact ⟨q0, q1, va_K.moved (u := U) (U := U.calling g mk a) (Vm.Alike.refl U.vm) qK, EVC.blind g mk a qE⟩, gH_rc hK hT hr_o0 shc_5 rfl, fun U hU hW => ⟨rfl, hU, va_K.moved hW.alike hK, hE.call hS hFc hU hW⟩⟩ rfl rfl hl.1 rfl (lv_room (Nat.le_of_ble_eq_true rfl)) dX2_tellLand_33 ⟨(Nat.le_of_ble_eq_true rfl), (Nat.le_of_ble_eq_true rfl)⟩) hS (fun q _ h => hFc q h) hFc (fun u t H locs ht hvm hw32 hB _ _ hS => ?_)
  obtain ⟨hT, hF1⟩ := hB
  rw [ht] at hT hF1
  have m34 := m25.kept (hF1.arr hr_la skc_25 (by decide))
  have hF := hF.more hF1 (by decide)
  try dsimp only at hw32
  exact W.vret hx hb hr (fun t ht hW => ⟨⟨(), rfl, (by exact trivial), by (try dsimp only); rw [ht]; exact ⟨hT, hF, (m34.ext (fun _ _ => rfl))⟩⟩, hS.F ht⟩) hS.2.2 dX2_tellLand_36
def w_c_landC : List Cond := .code yX11_land cX11_land 8 (some .int) :: (HAppend.hAppend (α := List Cond) (β := List Cond) (γ := List Cond) [.code yX11_needSquare cX11_needSquare 1 none, .code yX11_within cX11_within 3 (some .boolean), .methodLink RX11 58 yX11_within, .static yX11_within, .initialized RX11, .classLink RX11 557 "java/lang/IndexOutOfBoundsException", .initialized "java/lang/IndexOutOfBoundsException", .methodLink RX11 55 yX11_needSquare, .static yX11_needSquare, .code yX11_needNumbers cX11_needNumbers 1 none, .classLink RX11 547 "java/lang/IllegalArgumentException", .initialized "java/lang/IllegalArgumentException", .methodLink RX11 62 yX11_needNumbers, .static yX11_needNumbers, .fieldLink RX11 16 "SeaLand" "lake" "LSeaLand$Lake;", .fieldLink RX11 23 "SeaLand" "rows" "LSeaLand$Rows;", .code yX6_forget cX6_forget 1 none, .fieldLink RX6 18 "SeaLand$Rows" "kept" "I", .fieldLink RX6 22 "SeaLand$Rows" "oldest" "I", .methodLink RX11 76 yX6_forget, .instanceMethod yX6_forget, .selects RX6 yX6_forget yX6_forget, .initialized RX6, .code yX11_inRectangle cX11_inRectangle 3 (some .boolean), .code yX11_isBetween cX11_isBetween 3 (some .boolean), .methodLink RX11 588 Lib.Math.min.name, .static Lib.Math.min.name, .initialized "java/lang/Math", .code Lib.Math.min.name Lib.Math.min.code 2 (some .int), .methodLink RX11 591 Lib.Math.max.name, .static Lib.Math.max.name, .code Lib.Math.max.name Lib.Math.max.code 2 (some .int), .methodLink RX11 585 yX11_isBetween, .static yX11_isBetween, .methodLink RX11 79 yX11_inRectangle, .static yX11_inRectangle, .code yX2_tellLand cX2_tellLand 5 none, .fieldLink RX2 9 "SeaLand$Ground" "isLand" "[Z", .fieldLink RX2 15 "SeaLand$Ground" "height" "[I", .fieldLink RX2 19 "SeaLand$Ground" "soil" "[I", .fieldLink RX2 22 "SeaLand$Ground" "ditch" "[I", .code yX2_tellWater cX2_tellWater 4 none, .fieldLink RX2 50 "SeaLand$Ground" "toldMore" "I", .fieldLink RX2 25 "SeaLand$Ground" "water" "[I", .fieldLink RX2 28 "SeaLand$Ground" "salt" "[I", .methodLink RX2 46 yX2_tellWater, .instanceMethod yX2_tellWater, .selects RX2 yX2_tellWater yX2_tellWater, .initialized RX2, .methodLink RX11 92 yX2_tellLand, .instanceMethod yX2_tellLand, .selects RX2 yX2_tellLand yX2_tellLand, .classLink RX11 69 "java/lang/IllegalStateException", .initialized "java/lang/IllegalStateException"] bs2)
set_option maxHeartbeats 4000000 in
set_option maxRecDepth 100000 in
theorem c_landC (l : Launch) (hlt : l.stackTraces = false) (dC : Nat → ClassId) (dI : Nat → Nat → Nat) (kA : Nat → ClassId) (adK adV : Nat → Nat) (G : gT) (H0 : Heap) (nC nS : Int) (o0 : Nat) (p0 : Int32) (p1 : Int32) (p2 : Int32) (p3 : Int32) (p4 : Int32) (lk : Nat) (ho : Int32) (gr : Nat) (la : Nat) (VL : Nat → Int32)  (hT : gH (dC, dI) kA (SHc nC nS) G H0) (hr_o0 : G o0 = some 14) (hm_lk : el H0 o0 (dI 14 1) = some (.ref lk)) (hr_lk : G lk = some 6) (hm_ho : el H0 lk (dI 6 4) = some (.int ho)) (hm_gr : el H0 lk (dI 6 1) = some (.ref gr)) (hr_gr : G gr = some 5) (hm_la : el H0 gr (dI 5 0) = some (.ref la)) (hr_la : G la = some 25) (hq0 : 0 ≤ ho.toInt ∧ ho.toInt ≤ 40000) (hc_VL : ct H0 la 96 VL) (hgC : 0 ≤ nC ∧ nC ≤ 40) (hgS : 0 ≤ nS ∧ nS ≤ 60) : vx_Met l yX11_land w_c_landC ({ frames := 7, cells := 3, slots := 18, locals := 120 }) (va_Pc [.ref o0, .int p0, .int p1, .int p2, .int p3, .int p4] (fun U => U.heap = H0 ∧ va_K (dC, dI) vwCl (tyl kA) U ∧ EVC adK adV (gA G H0.size) U U.heap)) (va_Qi (fun (r : Int32) (u : Unit) => (0 ≤ r.toInt ∧ r.toInt ≤ 96) ∧ (laC ho.toInt p0.toInt p1.toInt p2.toInt p3.toInt p4.toInt = 0) ∧ (r.toInt = ldN (fun j => (VL j).toInt) p0.toInt p1.toInt 96)) (fun (_ : Unit) (t : State) => gH (dC, dI) kA (SHc nC nS) G t.heap ∧ gF (dC, dI) SKc G ([(5, 14), (9, 2), (9, 3), (25, 0), (26, 0), (27, 0), (28, 0), (29, 0), (30, 0)] : List (Nat × Nat)) H0 t.heap ∧ ct t.heap la 96 (lyV VL 1 p0.toInt p1.toInt 96)) (gA G H0.size)) (vx_X (fun _ : Unit => True) (fun E _ t => (E = "java/lang/IllegalArgumentException" ∨ E = "java/lang/IllegalStateException" ∨ E = "java/lang/IndexOutOfBoundsException") ∧ ((E = "java/lang/IllegalArgumentException" ∧ laC ho.toInt p0.toInt p1.toInt p2.toInt p3.toInt p4.toInt = 2) ∨ (E = "java/lang/IllegalStateException" ∧ laC ho.toInt p0.toInt p1.toInt p2.toInt p3.toInt p4.toInt = 3) ∨ (E = "java/lang/IndexOutOfBoundsException" ∧ laC ho.toInt p0.toInt p1.toInt p2.toInt p3.toInt p4.toInt = 1)) ∧ gH (dC, dI) kA (SHc nC nS) G t.heap ∧ gF (dC, dI) SKc G ([(5, 14), (9, 2), (9, 3), (25, 0), (26, 0), (27, 0), (28, 0), (29, 0), (30, 0)] : List (Nat × Nat)) H0 t.heap ∧ ct t.heap la 96 VL) (gA G H0.size)) 3 18 (gA G H0.size) := by
  refine vx_ofW (cc := cX11_land) (maxL := 8) (ret := (some .int)) (by decide) rfl ?_
  intro p e s m args below meth c s₁ B hml hnt hv
  obtain ⟨rfl, hH0, hK, hE⟩ := hv
  have hx := B.exec
  have hb := B.bytes
  have hr := B.returns
  have hts := atoms_spec (ws := w_c_landC) B.pre
  have hown : s.vm.findClass RX11 = some m.cls := findClass_of_methodNamed B.named
  have hlocks := B.notSynchronized
  subst hH0
  generalize hAe : gA G s.heap.size = A at hE ⊢
  have hA : ∀ q : Nat, s.heap.size ≤ q → A q := fun q h => by rw [← hAe]; exact Or.inr h
  have hG := gA_of hAe
  have hS : va_S A s.heap s.heap [] := va_S.rf
  have hF : gF (dC, dI) SKc G ([(5, 14), (9, 2), (9, 3), (25, 0), (26, 0), (27, 0), (28, 0), (29, 0), (30, 0)] : List (Nat × Nat)) s.heap s.heap := gF.rf
  have hl := lv_entry ([.ref o0, .int p0, .int p1, .int p2, .int p3, .int p4]) (n := 8) (Nat.le_of_ble_eq_true rfl)
  rw [lg_entry_eq]
  generalize (lg_sl ([.ref o0, .int p0, .int p1, .int p2, .int p3, .int p4]) ++ List.replicate (8 - (lg_sl ([.ref o0, .int p0, .int p1, .int p2, .int p3, .int p4])).length) Slot.unset).toArray = ls at hl ⊢
  have hl : lv_has ls 8 [(0, .ref o0), (1, .int p0), (2, .int p1), (3, .int p2), (4, .int p3), (5, .int p4)] := hl
  refine lv_iload_n hx hb dX11_land_0 rfl (lv_at hl 1 rfl) ?_
  have hFc := gA_free hG hA hS
  refine vx_callv (vx_runS (As := [.int p0]) (rest := []) ⟨hx, hb, hml, hown, hts⟩ (c_needSquareE l hlt dC dI kA adK adV G s.heap nC nS p0 hT (by omega) (by omega)) (va_cwS 1 hts (goodIn_app (goodIn_r _ [8, 9, 5] rfl (by decide +kernel)) (goodIn_ca (goodIn_r _ [1, 2, 3, 4, 5, 6, 7] rfl (by decide +kernel)) (bs2_in _ _))) rfl rfl rfl (by decide +kernel) ⟨(Nat.le_of_ble_eq_true rfl), (Nat.le_of_ble_eq_true rfl)⟩) ⟨fun a U g mk q => by obtain ⟨q0, q1, qK, qE⟩ := q; exact ⟨q0, q1, va_K.moved (u := U) (U := U.calling g mk a) (Vm.Alike.refl U.vm) qK, EVC.blind g mk a qE⟩, fun U hU hW => ⟨rfl, hU, va_K.moved hW.alike hK, hE.call hS hFc hU hW⟩⟩ rfl rfl hl.1 rfl (lv_room (Nat.le_of_ble_eq_true rfl)) dX11_land_1 ⟨(Nat.le_of_ble_eq_true rfl), (Nat.le_of_ble_eq_true rfl)⟩) hS (fun q _ h => hFc q h) hFc (fun q _ h => hFc q h) (fun E ce q9 u t H locs ht hvm _ hw2 _ _ hS hce hcv hcl => ?_) (fun u t H locs ht hvm hw2 hB _ _ hS => ?_)
  · obtain ⟨hw2, hxf, hTx, hFx⟩ := hw2; rw [ht] at hTx hFx
    exact vx_out (fun x h => (hnt x h).elim) hlocks hce hcv hcl (fun t2 h2 hW => ⟨(), trivial, ⟨((fun h9 => (Or.inr (Or.inr h9))) hw2), (Or.inr (Or.inr (⟨hw2, (by have := laC_s ho.toInt p0.toInt p1.toInt p2.toInt p3.toInt p4.toInt; first | omega | exact hxf.elim)⟩))), by rw [h2]; exact hTx, by rw [h2]; exact hF.more hFx (by decide), by rw [h2]; exact hc_VL.kept (hFx.arr hr_la skc_25 (by decide))⟩, hS.F h2⟩) hS.2.2 (by decide) (by decide)
  · obtain ⟨hT, hF1⟩ := hB
    rw [ht] at hT hF1
    have m3 := (hF1.fld hr_o0 skc_14 (k := 1) (by decide) (by decide)).trans hm_lk
    have m4 := (hF1.fld hr_lk skc_6 (k := 4) (by decide) (by decide)).trans hm_ho
    have m5 := (hF1.fld hr_lk skc_6 (k := 1) (by decide) (by decide)).trans hm_gr
    have m6 := (hF1.fld hr_gr skc_5 (k := 0) (by decide) (by decide)).trans hm_la
    have m7 := hc_VL.kept (hF1.arr hr_la skc_25 (by decide))
    have hF := hF.more hF1 (by decide)
    try dsimp only at hw2
    have hf8 := hw2
    refine lv_iload_n hx hb dX11_land_4 rfl (lv_at hl 2 rfl) ?_
    have hFc := gA_free hG hA hS
    refine vx_callv (vx_runS (As := [.int p1]) (rest := []) ⟨hx, hb, hml, hown, hts⟩ (c_needSquareE l hlt dC dI kA adK adV G H nC nS p1 hT (by omega) (by omega)) (va_cwS 1 hts (goodIn_app (goodIn_r _ [8, 9, 5] rfl (by decide +kernel)) (goodIn_ca (goodIn_r _ [1, 2, 3, 4, 5, 6, 7] rfl (by decide +kernel)) (bs2_in _ _))) rfl rfl rfl (by decide +kernel) ⟨(Nat.le_of_ble_eq_true rfl), (Nat.le_of_ble_eq_true rfl)⟩) ⟨fun a U g mk q => by obtain ⟨q0, q1, qK, qE⟩ := q; exact ⟨q0, q1, va_K.moved (u := U) (U := U.calling g mk a) (Vm.Alike.refl U.vm) qK, EVC.blind g mk a qE⟩, fun U hU hW => ⟨rfl, hU, va_K.moved hW.alike hK, hE.call hS hFc hU hW⟩⟩ rfl rfl hl.1 rfl (lv_room (Nat.le_of_ble_eq_true rfl)) dX11_land_5 ⟨(Nat.le_of_ble_eq_true rfl), (Nat.le_of_ble_eq_true rfl)⟩) hS (fun q _ h => hFc q h) hFc (fun q _ h => hFc q h) (fun E ce q9 u t H locs ht hvm _ hw10 _ _ hS hce hcv hcl => ?_) (fun u t H locs ht hvm hw10 hB _ _ hS => ?_)
    · obtain ⟨hw10, hxf, hTx, hFx⟩ := hw10; rw [ht] at hTx hFx
      exact vx_out (fun x h => (hnt x h).elim) hlocks hce hcv hcl (fun t2 h2 hW => ⟨(), trivial, ⟨((fun h9 => (Or.inr (Or.inr h9))) hw10), (Or.inr (Or.inr (⟨hw10, (by have := laC_s ho.toInt p0.toInt p1.toInt p2.toInt p3.toInt p4.toInt; first | omega | exact hxf.elim)⟩))), by rw [h2]; exact hTx, by rw [h2]; exact hF.more hFx (by decide), by rw [h2]; exact m7.kept (hFx.arr hr_la skc_25 (by decide))⟩, hS.F h2⟩) hS.2.2 (by decide) (by decide)
    · obtain ⟨hT, hF1⟩ := hB
      rw [ht] at hT hF1
      have m11 := (hF1.fld hr_o0 skc_14 (k := 1) (by decide) (by decide)).trans m3
      have m12 := (hF1.fld hr_lk skc_6 (k := 4) (by decide) (by decide)).trans m4
      have m13 := (hF1.fld hr_lk skc_6 (k := 1) (by decide) (by decide)).trans m5
      have m14 := (hF1.fld hr_gr skc_5 (k := 0) (by decide) (by decide)).trans m6
      have m15 := m7.kept (hF1.arr hr_la skc_25 (by decide))
      have hF := hF.more hF1 (by decide)
      try dsimp only at hw10
      have hf16 := hw10
      refine lv_iload_n hx hb dX11_land_8 rfl (lv_at hl 3 rfl) ?_
      refine lv_sipush (v := (-900)) hx hb dX11_land_9 (by decide) ?_
      refine lv_sipush (v := 300) hx hb dX11_land_12 (by decide) ?_
      have hFc := gA_free hG hA hS
      refine va_calli (va_runS (As := [.int p2, .int (-900), .int 300]) (rest := []) ⟨hx, hb, hml, hown, hts⟩ (c_within l dC dI kA adK adV G H nC nS p2 (-900) 300 hT (by omega) (by omega)) (va_cwS 3 hts (goodIn_app (goodIn_r _ [3, 4, 5] rfl (by decide +kernel)) (goodIn_ca (goodIn_r _ [2] rfl (by decide +kernel)) (bs2_in _ _))) rfl rfl rfl (by decide +kernel) ⟨(Nat.le_of_ble_eq_true rfl), (Nat.le_of_ble_eq_true rfl)⟩) ⟨fun a U g mk q => by obtain ⟨q0, q1, qK, qE⟩ := q; exact ⟨q0, q1, va_K.moved (u := U) (U := U.calling g mk a) (Vm.Alike.refl U.vm) qK, EVC.blind g mk a qE⟩, fun U hU hW => ⟨rfl, hU, va_K.moved hW.alike hK, hE.call hS hFc hU hW⟩⟩ rfl rfl hl.1 rfl (lv_room (Nat.le_of_ble_eq_true rfl)) dX11_land_15 ⟨(Nat.le_of_ble_eq_true rfl), (Nat.le_of_ble_eq_true rfl)⟩) hS (fun q _ h => hFc q h) hFc (fun r17 u t H locs ht hvm hw18 hB _ _ hS => ?_)
      obtain ⟨hT, hF1⟩ := hB
      rw [ht] at hT hF1
      have m19 := (hF1.fld hr_o0 skc_14 (k := 1) (by decide) (by decide)).trans m11
      have m20 := (hF1.fld hr_lk skc_6 (k := 4) (by decide) (by decide)).trans m12
      have m21 := (hF1.fld hr_lk skc_6 (k := 1) (by decide) (by decide)).trans m13
      have m22 := (hF1.fld hr_gr skc_5 (k := 0) (by decide) (by decide)).trans m14
      have m23 := m15.kept (hF1.arr hr_la skc_25 (by decide))
      have hF := hF.more hF1 (by decide)
      try dsimp only at hw18
      obtain ⟨h24, hi25, hi26⟩ := hw18
      refine lv_if_eq (tgt := 46) hx hb dX11_land_18 (by decide) (fun c27 => ?_) (fun c27 => ?_)
      · have t28 : r17.toInt = 0 := ti_eq c27 rfl (by decide)
        have t29 : (-900 : Int32).toInt = (-900) := by decide
        have t30 : (300 : Int32).toInt = 300 := by decide
        have t31 : p2.toInt < (-900 : Int32).toInt ∨ (300 : Int32).toInt < p2.toInt := hi26 c27
        refine lv_iconst (v := 0) hx hb dX11_land_46 (by decide) ?_
        have hFc := gA_free hG hA hS
        refine vx_callN (vx_runS (As := [.int 0]) (rest := []) ⟨hx, hb, hml, hown, hts⟩ (c_needNumbers0 l hlt dC dI kA adK adV G H nC nS hT (by omega) (by omega)) (va_cwS 1 hts (goodIn_app (goodIn_r _ [13, 14, 5] rfl (by decide +kernel)) (goodIn_ca (goodIn_r _ [10, 11, 12] rfl (by decide +kernel)) (bs2_in _ _))) rfl rfl rfl (by decide +kernel) ⟨(Nat.le_of_ble_eq_true rfl), (Nat.le_of_ble_eq_true rfl)⟩) ⟨fun a U g mk q => by obtain ⟨q0, q1, qK, qE⟩ := q; exact ⟨q0, q1, va_K.moved (u := U) (U := U.calling g mk a) (Vm.Alike.refl U.vm) qK, EVC.blind g mk a qE⟩, fun U hU hW => ⟨rfl, hU, va_K.moved hW.alike hK, hE.call hS hFc hU hW⟩⟩ rfl rfl hl.1 rfl (lv_room (Nat.le_of_ble_eq_true rfl)) dX11_land_47 ⟨(Nat.le_of_ble_eq_true rfl), (Nat.le_of_ble_eq_true rfl)⟩) hS hFc (fun q _ h => hFc q h) (fun E ce q9 u t H locs ht hvm _ hw33 _ _ hS hce hcv hcl => ?_)
        obtain ⟨hw33, hTx, hFx⟩ := hw33; rw [ht] at hTx hFx
        exact vx_out (fun x h => (hnt x h).elim) hlocks hce hcv hcl (fun t2 h2 hW => ⟨(), trivial, ⟨((fun h9 => (Or.inl h9)) hw33), (Or.inl ⟨hw33, (by have := laC_s ho.toInt p0.toInt p1.toInt p2.toInt p3.toInt p4.toInt; first | omega | exact hxf.elim)⟩), by rw [h2]; exact hTx, by rw [h2]; exact hF.more hFx (by decide), by rw [h2]; exact m23.kept (hFx.arr hr_la skc_25 (by decide))⟩, hS.F h2⟩) hS.2.2 (by decide) (by decide)
      · have t34 : r17.toInt ≠ 0 := ti_ne c27 rfl (by decide)
        have t35 : (-900 : Int32).toInt = (-900) := by decide
        have t36 : (300 : Int32).toInt = 300 := by decide
        have t37 : (-900 : Int32).toInt ≤ p2.toInt ∧ p2.toInt ≤ (300 : Int32).toInt := hi25 ((bit_of ⟨by omega, by omega⟩).resolve_left c27)
        refine lv_iload hx hb dX11_land_21 (lv_at hl 4 rfl) ?_
        refine lv_iconst (v := 0) hx hb dX11_land_23 (by decide) ?_
        refine lv_iconst (v := 2) hx hb dX11_land_24 (by decide) ?_
        have hFc := gA_free hG hA hS
        refine va_calli (va_runS (As := [.int p3, .int 0, .int 2]) (rest := []) ⟨hx, hb, hml, hown, hts⟩ (c_within l dC dI kA adK adV G H nC nS p3 0 2 hT (by omega) (by omega)) (va_cwS 3 hts (goodIn_app (goodIn_r _ [3, 4, 5] rfl (by decide +kernel)) (goodIn_ca (goodIn_r _ [2] rfl (by decide +kernel)) (bs2_in _ _))) rfl rfl rfl (by decide +kernel) ⟨(Nat.le_of_ble_eq_true rfl), (Nat.le_of_ble_eq_true rfl)⟩) ⟨fun a U g mk q => by obtain ⟨q0, q1, qK, qE⟩ := q; exact ⟨q0, q1, va_K.moved (u := U) (U := U.calling g mk a) (Vm.Alike.refl U.vm) qK, EVC.blind g mk a qE⟩, fun U hU hW => ⟨rfl, hU, va_K.moved hW.alike hK, hE.call hS hFc hU hW⟩⟩ rfl rfl hl.1 rfl (lv_room (Nat.le_of_ble_eq_true rfl)) dX11_land_25 ⟨(Nat.le_of_ble_eq_true rfl), (Nat.le_of_ble_eq_true rfl)⟩) hS (fun q _ h => hFc q h) hFc (fun r38 u t H locs ht hvm hw39 hB _ _ hS => ?_)
        obtain ⟨hT, hF1⟩ := hB
        rw [ht] at hT hF1
        have m40 := (hF1.fld hr_o0 skc_14 (k := 1) (by decide) (by decide)).trans m19
        have m41 := (hF1.fld hr_lk skc_6 (k := 4) (by decide) (by decide)).trans m20
        have m42 := (hF1.fld hr_lk skc_6 (k := 1) (by decide) (by decide)).trans m21
        have m43 := (hF1.fld hr_gr skc_5 (k := 0) (by decide) (by decide)).trans m22
        have m44 := m23.kept (hF1.arr hr_la skc_25 (by decide))
        have hF := hF.more hF1 (by decide)
        try dsimp only at hw39
        obtain ⟨h45, hi46, hi47⟩ := hw39
        refine lv_if_eq (tgt := 46) hx hb dX11_land_28 (by decide) (fun c48 => ?_) (fun c48 => ?_)
        · have t49 : r38.toInt = 0 := ti_eq c48 rfl (by decide)
          have t50 : (0 : Int32).toInt = 0 := by decide
          have t51 : (2 : Int32).toInt = 2 := by decide
          have t52 : p3.toInt < (0 : Int32).toInt ∨ (2 : Int32).toInt < p3.toInt := hi47 c48
          refine lv_iconst (v := 0) hx hb dX11_land_46 (by decide) ?_
          have hFc := gA_free hG hA hS
          refine vx_callN (vx_runS (As := [.int 0]) (rest := []) ⟨hx, hb, hml, hown, hts⟩ (c_needNumbers0 l hlt dC dI kA adK adV G H nC nS hT (by omega) (by omega)) (va_cwS 1 hts (goodIn_app (goodIn_r _ [13, 14, 5] rfl (by decide +kernel)) (goodIn_ca (goodIn_r _ [10, 11, 12] rfl (by decide +kernel)) (bs2_in _ _))) rfl rfl rfl (by decide +kernel) ⟨(Nat.le_of_ble_eq_true rfl), (Nat.le_of_ble_eq_true rfl)⟩) ⟨fun a U g mk q => by obtain ⟨q0, q1, qK, qE⟩ := q; exact ⟨q0, q1, va_K.moved (u := U) (U := U.calling g mk a) (Vm.Alike.refl U.vm) qK, EVC.blind g mk a qE⟩, fun U hU hW => ⟨rfl, hU, va_K.moved hW.alike hK, hE.call hS hFc hU hW⟩⟩ rfl rfl hl.1 rfl (lv_room (Nat.le_of_ble_eq_true rfl)) dX11_land_47 ⟨(Nat.le_of_ble_eq_true rfl), (Nat.le_of_ble_eq_true rfl)⟩) hS hFc (fun q _ h => hFc q h) (fun E ce q9 u t H locs ht hvm _ hw54 _ _ hS hce hcv hcl => ?_)
          obtain ⟨hw54, hTx, hFx⟩ := hw54; rw [ht] at hTx hFx
          exact vx_out (fun x h => (hnt x h).elim) hlocks hce hcv hcl (fun t2 h2 hW => ⟨(), trivial, ⟨((fun h9 => (Or.inl h9)) hw54), (Or.inl ⟨hw54, (by have := laC_s ho.toInt p0.toInt p1.toInt p2.toInt p3.toInt p4.toInt; first | omega | exact hxf.elim)⟩), by rw [h2]; exact hTx, by rw [h2]; exact hF.more hFx (by decide), by rw [h2]; exact m44.kept (hFx.arr hr_la skc_25 (by decide))⟩, hS.F h2⟩) hS.2.2 (by decide) (by decide)
        · have t55 : r38.toInt ≠ 0 := ti_ne c48 rfl (by decide)
          have t56 : (0 : Int32).toInt = 0 := by decide
          have t57 : (2 : Int32).toInt = 2 := by decide
          have t58 : (0 : Int32).toInt ≤ p3.toInt ∧ p3.toInt ≤ (2 : Int32).toInt := hi46 ((bit_of ⟨by omega, by omega⟩).resolve_left c48)
          refine lv_iload hx hb dX11_land_31 (lv_at hl 5 rfl) ?_
          refine lv_iconst (v := 0) hx hb dX11_land_33 (by decide) ?_
          refine lv_bipush (v := 20) hx hb dX11_land_34 (by decide) ?_
          have hFc := gA_free hG hA hS
          refine va_calli (va_runS (As := [.int p4, .int 0, .int 20]) (rest := []) ⟨hx, hb, hml, hown, hts⟩ (c_within l dC dI kA adK adV G H nC nS p4 0 20 hT (by omega) (by omega)) (va_cwS 3 hts (goodIn_app (goodIn_r _ [3, 4, 5] rfl (by decide +kernel)) (goodIn_ca (goodIn_r _ [2] rfl (by decide +kernel)) (bs2_in _ _))) rfl rfl rfl (by decide +kernel) ⟨(Nat.le_of_ble_eq_true rfl), (Nat.le_of_ble_eq_true rfl)⟩) ⟨fun a U g mk q => by obtain ⟨q0, q1, qK, qE⟩ := q; exact ⟨q0, q1, va_K.moved (u := U) (U := U.calling g mk a) (Vm.Alike.refl U.vm) qK, EVC.blind g mk a qE⟩, fun U hU hW => ⟨rfl, hU, va_K.moved hW.alike hK, hE.call hS hFc hU hW⟩⟩ rfl rfl hl.1 rfl (lv_room (Nat.le_of_ble_eq_true rfl)) dX11_land_36 ⟨(Nat.le_of_ble_eq_true rfl), (Nat.le_of_ble_eq_true rfl)⟩) hS (fun q _ h => hFc q h) hFc (fun r59 u t H locs ht hvm hw60 hB _ _ hS => ?_)
          obtain ⟨hT, hF1⟩ := hB
          rw [ht] at hT hF1
          have m61 := (hF1.fld hr_o0 skc_14 (k := 1) (by decide) (by decide)).trans m40
          have m62 := (hF1.fld hr_lk skc_6 (k := 4) (by decide) (by decide)).trans m41
          have m63 := (hF1.fld hr_lk skc_6 (k := 1) (by decide) (by decide)).trans m42
          have m64 := (hF1.fld hr_gr skc_5 (k := 0) (by decide) (by decide)).trans m43
          have m65 := m44.kept (hF1.arr hr_la skc_25 (by decide))
          have hF := hF.more hF1 (by decide)
          try dsimp only at hw60
          obtain ⟨h66, hi67, hi68⟩ := hw60
          refine lv_if_eq (tgt := 46) hx hb dX11_land_39 (by decide) (fun c69 => ?_) (fun c69 => ?_)
          · have t70 : r59.toInt = 0 := ti_eq c69 rfl (by decide)
            have t71 : (0 : Int32).toInt = 0 := by decide
            have t72 : (20 : Int32).toInt = 20 := by decide
            have t73 : p4.toInt < (0 : Int32).toInt ∨ (20 : Int32).toInt < p4.toInt := hi68 c69
            refine lv_iconst (v := 0) hx hb dX11_land_46 (by decide) ?_
            have hFc := gA_free hG hA hS
            refine vx_callN (vx_runS (As := [.int 0]) (rest := []) ⟨hx, hb, hml, hown, hts⟩ (c_needNumbers0 l hlt dC dI kA adK adV G H nC nS hT (by omega) (by omega)) (va_cwS 1 hts (goodIn_app (goodIn_r _ [13, 14, 5] rfl (by decide +kernel)) (goodIn_ca (goodIn_r _ [10, 11, 12] rfl (by decide +kernel)) (bs2_in _ _))) rfl rfl rfl (by decide +kernel) ⟨(Nat.le_of_ble_eq_true rfl), (Nat.le_of_ble_eq_true rfl)⟩) ⟨fun a U g mk q => by obtain ⟨q0, q1, qK, qE⟩ := q; exact ⟨q0, q1, va_K.moved (u := U) (U := U.calling g mk a) (Vm.Alike.refl U.vm) qK, EVC.blind g mk a qE⟩, fun U hU hW => ⟨rfl, hU, va_K.moved hW.alike hK, hE.call hS hFc hU hW⟩⟩ rfl rfl hl.1 rfl (lv_room (Nat.le_of_ble_eq_true rfl)) dX11_land_47 ⟨(Nat.le_of_ble_eq_true rfl), (Nat.le_of_ble_eq_true rfl)⟩) hS hFc (fun q _ h => hFc q h) (fun E ce q9 u t H locs ht hvm _ hw75 _ _ hS hce hcv hcl => ?_)
            obtain ⟨hw75, hTx, hFx⟩ := hw75; rw [ht] at hTx hFx
            exact vx_out (fun x h => (hnt x h).elim) hlocks hce hcv hcl (fun t2 h2 hW => ⟨(), trivial, ⟨((fun h9 => (Or.inl h9)) hw75), (Or.inl ⟨hw75, (by have := laC_s ho.toInt p0.toInt p1.toInt p2.toInt p3.toInt p4.toInt; first | omega | exact hxf.elim)⟩), by rw [h2]; exact hTx, by rw [h2]; exact hF.more hFx (by decide), by rw [h2]; exact m65.kept (hFx.arr hr_la skc_25 (by decide))⟩, hS.F h2⟩) hS.2.2 (by decide) (by decide)
          · have t76 : r59.toInt ≠ 0 := ti_ne c69 rfl (by decide)
            have t77 : (0 : Int32).toInt = 0 := by decide
            have t78 : (20 : Int32).toInt = 20 := by decide
            have t79 : (0 : Int32).toInt ≤ p4.toInt ∧ p4.toInt ≤ (20 : Int32).toInt := hi67 ((bit_of ⟨by omega, by omega⟩).resolve_left c69)
            refine lv_iconst (v := 1) hx hb dX11_land_42 (by decide) ?_
            refine lv_goto (tgt := 47) hx hb dX11_land_43 (by decide) ?_
            have hFc := gA_free hG hA hS
            refine vx_callv (vx_runS (As := [.int 1]) (rest := []) ⟨hx, hb, hml, hown, hts⟩ (c_needNumbers1X l hlt dC dI kA adK adV G H nC nS hT (by omega) (by omega)) (va_cwS 1 hts (goodIn_app (goodIn_r _ [13, 14, 5] rfl (by decide +kernel)) (goodIn_ca (goodIn_r _ [10] rfl (by decide +kernel)) (bs2_in _ _))) rfl rfl rfl (by decide +kernel) ⟨(Nat.le_of_ble_eq_true rfl), (Nat.le_of_ble_eq_true rfl)⟩) ⟨fun a U g mk q => by obtain ⟨q0, q1, qK, qE⟩ := q; exact ⟨q0, q1, va_K.moved (u := U) (U := U.calling g mk a) (Vm.Alike.refl U.vm) qK, EVC.blind g mk a qE⟩, fun U hU hW => ⟨rfl, hU, va_K.moved hW.alike hK, hE.call hS hFc hU hW⟩⟩ rfl rfl hl.1 rfl (lv_room (Nat.le_of_ble_eq_true rfl)) dX11_land_47 ⟨(Nat.le_of_ble_eq_true rfl), (Nat.le_of_ble_eq_true rfl)⟩) hS (fun q _ h => hFc q h) hFc (fun q _ h => hFc q h) (fun E ce q9 u t H locs ht hvm _ hw81 _ _ hS hce hcv hcl => ?_) (fun u t H locs ht hvm hw81 hB _ _ hS => ?_)
            · obtain ⟨hw81, hxf, hTx, hFx⟩ := hw81; rw [ht] at hTx hFx
              exact vx_out (fun x h => (hnt x h).elim) hlocks hce hcv hcl (fun t2 h2 hW => ⟨(), trivial, ⟨((fun h9 => (Or.inl h9)) hw81), (Or.inl ⟨hw81, (by have := laC_s ho.toInt p0.toInt p1.toInt p2.toInt p3.toInt p4.toInt; first | omega | exact hxf.elim)⟩), by rw [h2]; exact hTx, by rw [h2]; exact hF.more hFx (by decide), by rw [h2]; exact m65.kept (hFx.arr hr_la skc_25 (by decide))⟩, hS.F h2⟩) hS.2.2 (by decide) (by decide)
            · obtain ⟨hT, hF1⟩ := hB
              rw [ht] at hT hF1
              have m82 := (hF1.fld hr_o0 skc_14 (k := 1) (by decide) (by decide)).trans m61
              have m83 := (hF1.fld hr_lk skc_6 (k := 4) (by decide) (by decide)).trans m62
              have m84 := (hF1.fld hr_lk skc_6 (k := 1) (by decide) (by decide)).trans m63
              have m85 := (hF1.fld hr_gr skc_5 (k := 0) (by decide) (by decide)).trans m64
              have m86 := m65.kept (hF1.arr hr_la skc_25 (by decide))
              have hF := hF.more hF1 (by decide)
              try dsimp only at hw81
              refine lv_aload_n hx hb dX11_land_50 rfl (lv_at hl 0 rfl) ?_
              refine tw_getM (v := .ref lk) hx hb hts bF2_X11 hown hK hT hr_o0 shc_14 rfl 1 (by decide) (ht_at2 hts 14 rfl) (fun _ h9 => h9) m82 dX11_land_51 ?_
              refine tw_getNM (v := .int ho) hx hb hts bF2_X3 hown hK hT hr_lk shc_6 rfl 4 (by decide) (hE.nw 0 rfl) (fun _ h9 => h9) m83 dX11_land_54 ?_
              refine lv_if_le (tgt := 70) hx hb dX11_land_57 (by decide) (fun c87 => ?_) (fun c87 => ?_)
              · have t88 : ho.toInt ≤ 0 := ti_le c87 rfl (by decide)
                refine lv_aload_n hx hb dX11_land_70 rfl (lv_at hl 0 rfl) ?_
                refine tw_get hx hb hts bF2_X11 hown hK hT hr_o0 shc_14 rfl 2 (by decide) (ht_at2 hts 15 rfl) (fun _ h9 => h9) dX11_land_71 (fun v9 m89 h9 => ?_)
                obtain ⟨b90, rfl, hg91⟩ := h9 _ rfl
                have hFc := gA_free hG hA hS
                refine va_callv (va_runV (As := []) (rest := []) ⟨hx, hb, hml, hown, hts⟩ (c_forget l dC dI kA adK adV G H nC nS b90 hT hg91 (by omega) (by omega)) (cwV 0 hts (goodIn_app (goodIn_r _ [20, 21, 22, 23] rfl (by decide +kernel)) (goodIn_ca (goodIn_r _ [17, 18, 19] rfl (by decide +kernel)) (bs2_in _ _))) rfl rfl rfl (by decide +kernel) ⟨(Nat.le_of_ble_eq_true rfl), (Nat.le_of_ble_eq_true rfl)⟩) ⟨fun a U g mk q => by obtain ⟨q0, q1, qK, qE⟩ := q; exact ⟨q0, q1, va_K.moved (u := U) (U := U.calling g mk a) (Vm.Alike.refl U.vm) qK, EVC.blind g mk a qE⟩, gH_rc hK hT hg91 shc_9 rfl, fun U hU hW => ⟨rfl, hU, va_K.moved hW.alike hK, hE.call hS hFc hU hW⟩⟩ rfl rfl hl.1 rfl (lv_room (Nat.le_of_ble_eq_true rfl)) dX11_land_74 ⟨(Nat.le_of_ble_eq_true rfl), (Nat.le_of_ble_eq_true rfl)⟩) hS (fun q _ h => hFc q h) hFc (fun u t H locs ht hvm hw93 hB _ _ hS => ?_)
                obtain ⟨hT, hF1⟩ := hB
                rw [ht] at hT hF1
                have m94 := (hF1.fld hr_o0 skc_14 (k := 1) (by decide) (by decide)).trans m82
                have m95 := (hF1.fld hr_lk skc_6 (k := 4) (by decide) (by decide)).trans m83
                have m96 := (hF1.fld hr_lk skc_6 (k := 1) (by decide) (by decide)).trans m84
                have m97 := (hF1.fld hr_gr skc_5 (k := 0) (by decide) (by decide)).trans m85
                have m98 := m86.kept (hF1.arr hr_la skc_25 (by decide))
                have m99 := (hF1.fld hr_o0 skc_14 (k := 2) (by decide) (by decide)).trans m89
                have hF := hF.more hF1 (by decide)
                try dsimp only at hw93
                refine lv_iconst (v := 0) hx hb dX11_land_77 (by decide) ?_
                refine lv_istore (lv' := [(6, .int 0), (0, .ref o0), (1, .int p0), (2, .int p1), (3, .int p2), (4, .int p3), (5, .int p4)]) hx hb dX11_land_78 hl (by decide) rfl (fun ls hl => ?_)
                refine lv_iconst (v := 0) hx hb dX11_land_80 (by decide) ?_
                refine lv_istore (lv' := [(7, .int 0), (6, .int 0), (0, .ref o0), (1, .int p0), (2, .int p1), (3, .int p2), (4, .int p3), (5, .int p4)]) hx hb dX11_land_81 hl (by decide) rfl (fun ls hl => ?_)
                have key155 : ∀ (n155 i100 : Nat), i100 + n155 = 96 → 0 ≤ i100 → ∀ (z101 : Int32), ((0 + 0 * (i100 : Int) ≤ z101.toInt ∧ z101.toInt ≤ 0 + 1 * (i100 : Int)) ∧ (z101.toInt = ldN (fun j => (VL j).toInt) p0.toInt p1.toInt i100)) → ∀ (H : Heap) (locs : List Loc), gH (dC, dI) kA (SHc nC nS) G H → gF (dC, dI) SKc G ([(5, 14), (9, 2), (9, 3), (25, 0), (26, 0), (27, 0), (28, 0), (29, 0), (30, 0)] : List (Nat × Nat)) s.heap H → va_S A s.heap H locs → ct H la 96 (lyV VL 1 p0.toInt p1.toInt i100) → el H o0 (dI 14 1) = some (.ref lk) → el H lk (dI 6 4) = some (.int ho) → el H lk (dI 6 1) = some (.ref gr) → el H gr (dI 5 0) = some (.ref la) → el H o0 (dI 14 2) = some (.ref b90) → ∀ ls : Array Slot, lv_has ls 8 [(7, .int (nI i100)), (6, .int z101), (0, .ref o0), (1, .int p0), (2, .int p1), (3, .int p2), (4, .int p3), (5, .int p4)] → W p l e (headSpec w_c_landC ({ frames := 7, cells := 3, slots := 18, locals := 120 })).room s m #[.ref o0, .int p0, .int p1, .int p2, .int p3, .int p4] below meth c H locs 2 12 (vx_MQ below (va_Qi (fun (r : Int32) (u : Unit) => (0 ≤ r.toInt ∧ r.toInt ≤ 96) ∧ (laC ho.toInt p0.toInt p1.toInt p2.toInt p3.toInt p4.toInt = 0) ∧ (r.toInt = ldN (fun j => (VL j).toInt) p0.toInt p1.toInt 96)) (fun (_ : Unit) (t : State) => gH (dC, dI) kA (SHc nC nS) G t.heap ∧ gF (dC, dI) SKc G ([(5, 14), (9, 2), (9, 3), (25, 0), (26, 0), (27, 0), (28, 0), (29, 0), (30, 0)] : List (Nat × Nat)) s.heap t.heap ∧ ct t.heap la 96 (lyV VL 1 p0.toInt p1.toInt 96)) A) (vx_X (fun _ : Unit => True) (fun E _ t => (E = "java/lang/IllegalArgumentException" ∨ E = "java/lang/IllegalStateException" ∨ E = "java/lang/IndexOutOfBoundsException") ∧ ((E = "java/lang/IllegalArgumentException" ∧ laC ho.toInt p0.toInt p1.toInt p2.toInt p3.toInt p4.toInt = 2) ∨ (E = "java/lang/IllegalStateException" ∧ laC ho.toInt p0.toInt p1.toInt p2.toInt p3.toInt p4.toInt = 3) ∨ (E = "java/lang/IndexOutOfBoundsException" ∧ laC ho.toInt p0.toInt p1.toInt p2.toInt p3.toInt p4.toInt = 1)) ∧ gH (dC, dI) kA (SHc nC nS) G t.heap ∧ gF (dC, dI) SKc G ([(5, 14), (9, 2), (9, 3), (25, 0), (26, 0), (27, 0), (28, 0), (29, 0), (30, 0)] : List (Nat × Nat)) s.heap t.heap ∧ ct t.heap la 96 VL) A) #[.ref o0, .int p0, .int p1, .int p2, .int p3, .int p4] s 3 18 A) (F0 m 83 ls []) := by
                  intro n155
                  induction n155 with
                  | zero =>
                    intro i100 hn155 hlo156 z101 ⟨h102, hj109⟩ H locs hT hF hS m103 m104 m105 m106 m107 m108 ls hl
                    obtain rfl : 96 = i100 := by omega
                    refine lv_iload hx hb dX11_land_83 (lv_at hl 0 rfl) ?_
                    refine lv_bipush (v := 96) hx hb dX11_land_85 (by decide) ?_
                    refine lv_icmp_ge (tgt := 149) hx hb dX11_land_87 (by decide) (fun c157 => ?_) (fun c157 => (by exfalso; have q9 : ((96 : Nat) : Int) < 96 := ti_nle c157 (by decide) (nI_toInt (by omega)); omega))
                    have t158 : 96 ≤ ((96 : Nat) : Int) := ti_le c157 (by decide) (nI_toInt (by omega))
                    refine lv_iload hx hb dX11_land_149 (lv_at hl 1 rfl) ?_
                    refine W.widen (k := 3) (n := 18) (by decide) (by decide) ?_
                    exact vx_ret (W.iret (v := z101) hx hb hr (fun t ht hW => ⟨⟨z101, (), rfl, (by exact ⟨(by have q8 := ti_all z101; omega), (by have := laC_s ho.toInt p0.toInt p1.toInt p2.toInt p3.toInt p4.toInt; omega), hj109⟩), by (try dsimp only); rw [ht]; exact ⟨hT, hF, m103⟩⟩, hS.F ht⟩) hS.2.2 dX11_land_151)
                  | succ n155 ih155 =>
                    intro i100 hn155 hlo156 z101 ⟨h102, hj109⟩ H locs hT hF hS m103 m104 m105 m106 m107 m108 ls hl
                    have hlt158 : i100 < 96 := by omega
                    refine lv_iload hx hb dX11_land_83 (lv_at hl 0 rfl) ?_
                    refine lv_bipush (v := 96) hx hb dX11_land_85 (by decide) ?_
                    refine lv_icmp_ge (tgt := 149) hx hb dX11_land_87 (by decide) (fun c159 => (by exfalso; have q9 : 96 ≤ ((i100 : Nat) : Int) := ti_le c159 (by decide) (nI_toInt (by omega)); omega)) (fun c159 => ?_)
                    have t160 : ((i100 : Nat) : Int) < 96 := ti_nle c159 (by decide) (nI_toInt (by omega))
                    refine lv_iload hx hb dX11_land_90 (lv_at hl 0 rfl) ?_
                    refine lv_iload_n hx hb dX11_land_92 rfl (lv_at hl 3 rfl) ?_
                    refine lv_iload_n hx hb dX11_land_93 rfl (lv_at hl 4 rfl) ?_
                    have hFc := gA_free hG hA hS
                    refine va_calli (va_runS (As := [.int (nI i100), .int p0, .int p1]) (rest := []) ⟨hx, hb, hml, hown, hts⟩ (c_inRectangleE l dC dI kA adK adV G H nC nS (nI i100) p0 p1 hT (rg_t (a := ((i100 : Nat) : Int)) (nI_toInt (by omega)) (by omega) (by omega)) (by have q8 := ti_all p0; omega) (by have q8 := ti_all p1; omega) (by omega) (by omega)) (va_cwS 3 hts (goodIn_app (goodIn_r _ [35, 36, 5] rfl (by decide +kernel)) (goodIn_ca (goodIn_r _ [24, 25, 26, 27, 28, 29, 30, 31, 32, 33, 34, 5] rfl (by decide +kernel)) (bs2_in _ _))) rfl rfl rfl (by decide +kernel) ⟨(Nat.le_of_ble_eq_true rfl), (Nat.le_of_ble_eq_true rfl)⟩) ⟨fun a U g mk q => by obtain ⟨q0, q1, qK, qE⟩ := q; exact ⟨q0, q1, va_K.moved (u := U) (U := U.calling g mk a) (Vm.Alike.refl U.vm) qK, EVC.blind g mk a qE⟩, fun U hU hW => ⟨rfl, hU, va_K.moved hW.alike hK, hE.call hS hFc hU hW⟩⟩ rfl rfl hl.1 rfl (lv_room (Nat.le_of_ble_eq_true rfl)) dX11_land_94 ⟨(Nat.le_of_ble_eq_true rfl), (Nat.le_of_ble_eq_true rfl)⟩) hS (fun q _ h => hFc q h) hFc (fun r161 u t H locs ht hvm hw162 hB _ _ hS => ?_)
                    obtain ⟨hT, hF1⟩ := hB
                    rw [ht] at hT hF1
                    have m163 := m103.kept (hF1.arr hr_la skc_25 (by decide))
                    have m164 := (hF1.fld hr_o0 skc_14 (k := 1) (by decide) (by decide)).trans m104
                    have m165 := (hF1.fld hr_lk skc_6 (k := 4) (by decide) (by decide)).trans m105
                    have m166 := (hF1.fld hr_lk skc_6 (k := 1) (by decide) (by decide)).trans m106
                    have m167 := (hF1.fld hr_gr skc_5 (k := 0) (by decide) (by decide)).trans m107
                    have m168 := (hF1.fld hr_o0 skc_14 (k := 2) (by decide) (by decide)).trans m108
                    have hF := hF.more hF1 (by decide)
                    try dsimp only at hw162
                    obtain ⟨h169, hf170⟩ := hw162
                    have t171 : (nI i100).toInt = ((i100 : Nat) : Int) := nI_toInt (by omega)
                    refine lv_if_eq (tgt := 143) hx hb dX11_land_97 (by decide) (fun c172 => ?_) (fun c172 => ?_)
                    · have t173 : r161.toInt = 0 := ti_eq c172 rfl (by decide)
                      refine lv_iinc (v := nI (i100 + 1)) (lv' := [(7, .int (nI (i100 + 1))), (6, .int z101), (0, .ref o0), (1, .int p0), (2, .int p1), (3, .int p2), (4, .int p3), (5, .int p4)]) hx hb dX11_land_143 hl (k := 0) rfl (nI_add i100 1) (by decide) rfl (fun ls hl => ?_)
                      refine lv_goto (tgt := 83) hx hb dX11_land_146 (by decide) ?_
                      exact ih155 (i100 + 1) (by omega) (by omega) z101 ⟨(by have q8 := ti_all z101; omega), (ldN_out (inR_0 (s := ((i100 : Nat) : Int)) (a := p0.toInt) (b := p1.toInt) (by have q9 : (nI i100).toInt = ((i100 : Nat) : Int) := nI_toInt (by omega); omega)) hj109)⟩ _ _ hT hF hS (m163.ext (fun _ _ => ly_out (inR_0 (s := ((i100 : Nat) : Int)) (a := p0.toInt) (b := p1.toInt) (by have q9 : (nI i100).toInt = ((i100 : Nat) : Int) := nI_toInt (by omega); omega)))) m164 m165 m166 m167 m168 ls (lv_sub hl [0, 1, 2, 3, 4, 5, 6, 7] rfl)
                    · have t174 : r161.toInt ≠ 0 := ti_ne c172 rfl (by decide)
                      refine lv_iload hx hb dX11_land_100 (lv_at hl 1 rfl) ?_
                      refine lv_aload_n hx hb dX11_land_102 rfl (lv_at hl 2 rfl) ?_
                      refine tw_getM (v := .ref lk) hx hb hts bF2_X11 hown hK hT hr_o0 shc_14 rfl 1 (by decide) (ht_at2 hts 14 rfl) (fun _ h9 => h9) m164 dX11_land_103 ?_
                      refine tw_getNM (v := .ref gr) hx hb hts bF2_X3 hown hK hT hr_lk shc_6 rfl 1 (by decide) (hE.nw 1 rfl) (fun _ h9 => h9) m166 dX11_land_106 ?_
                      refine tw_getNM (v := .ref la) hx hb hts bF2_X2 hown hK hT hr_gr shc_5 rfl 0 (by decide) (hE.nw 2 rfl) (fun _ h9 => h9) m167 dX11_land_109 ?_
                      refine lv_iload hx hb dX11_land_112 (lv_at hl 0 rfl) ?_
                      refine tw_zald (i := (nI i100)) hx hb hK hT hr_la shc_25 rfl (vp_in_nI (by omega) (by decide)) dX11_land_114 (fun v9 m175 h9 => ?_)
                      obtain ⟨x176, rfl, gx176, kx176⟩ := h9
                      have cx176 := m163.at m175 (by have q9 := tn_of (show (nI i100).toInt = ((i100 : Nat) : Int) from (nI_toInt (by omega))) (by omega); omega)
                      refine lv_if_eq (tgt := 122) hx hb dX11_land_115 (by decide) (fun c177 => ?_) (fun c177 => ?_)
                      · have t178 : x176.toInt = 0 := ti_eq c177 rfl (by decide)
                        refine lv_iconst (v := 1) hx hb dX11_land_122 (by decide) ?_
                        refine lv_iadd hx hb dX11_land_123 ?_
                        refine lv_topi (fun x179 ex179 => ?_)
                        have t180 : x179.toInt = z101.toInt + 1 := ti_add ex179 rfl (by decide) (by omega) (by omega)
                        refine lv_istore (lv' := [(6, .int x179), (7, .int (nI i100)), (0, .ref o0), (1, .int p0), (2, .int p1), (3, .int p2), (4, .int p3), (5, .int p4)]) hx hb dX11_land_124 hl (by decide) rfl (fun ls hl => ?_)
                        refine lv_aload_n hx hb dX11_land_126 rfl (lv_at hl 2 rfl) ?_
                        refine tw_getM (v := .ref lk) hx hb hts bF2_X11 hown hK hT hr_o0 shc_14 rfl 1 (by decide) (ht_at2 hts 14 rfl) (fun _ h9 => h9) m164 dX11_land_127 ?_
                        refine tw_getNM (v := .ref gr) hx hb hts bF2_X3 hown hK hT hr_lk shc_6 rfl 1 (by decide) (hE.nw 1 rfl) (fun _ h9 => h9) m166 dX11_land_130 ?_
                        refine lv_iload hx hb dX11_land_133 (lv_at hl 1 rfl) ?_
                        refine lv_iload_n hx hb dX11_land_135 rfl (lv_at hl 5 rfl) ?_
                        refine lv_iload hx hb dX11_land_136 (lv_at hl 6 rfl) ?_
                        refine lv_iload hx hb dX11_land_138 (lv_at hl 7 rfl) ?_
                        have hFc := gA_free hG hA hS
                        refine va_callv (va_runV (As := [.int (nI i100), .int p2, .int p3, .int p4]) (rest := []) ⟨hx, hb, hml, hown, hts⟩ (c_tellLandC l dC dI kA adK adV G H nC nS gr (nI i100) p2 p3 p4 la (lyV VL 1 p0.toInt p1.toInt i100) hT hr_gr m167 hr_la (rg_t (a := ((i100 : Nat) : Int)) (nI_toInt (by omega)) (by omega) (by omega)) m163 (by omega) (by omega)) (cwV 4 hts (goodIn_app (goodIn_r _ [50, 51, 52, 49] rfl (by decide +kernel)) (goodIn_ca (goodIn_r _ [37, 38, 39, 40, 41, 42, 43, 44, 45, 46, 47, 48, 49] rfl (by decide +kernel)) (bs2_in _ _))) rfl rfl rfl (by decide +kernel) ⟨(Nat.le_of_ble_eq_true rfl), (Nat.le_of_ble_eq_true rfl)⟩) ⟨fun a U g mk q => by obtain ⟨q0, q1, qK, qE⟩ := q; exact ⟨q0, q1, va_K.moved (u := U) (U := U.calling g mk a) (Vm.Alike.refl U.vm) qK, EVC.blind g mk a qE⟩, gH_rc hK hT hr_gr shc_5 rfl, fun U hU hW => ⟨rfl, hU, va_K.moved hW.alike hK, hE.call hS hFc hU hW⟩⟩ rfl rfl hl.1 rfl (lv_room (Nat.le_of_ble_eq_true rfl)) dX11_land_140 ⟨(Nat.le_of_ble_eq_true rfl), (Nat.le_of_ble_eq_true rfl)⟩) hS (fun q _ h => hFc q h) hFc (fun u t H locs ht hvm hw182 hB _ _ hS => ?_)
                        obtain ⟨hT, hF1, m183⟩ := hB
                        rw [ht] at hT hF1 m183
                        have m185 := (hF1.fld hr_o0 skc_14 (k := 1) (by decide) (by decide)).trans m164
                        have m186 := (hF1.fld hr_lk skc_6 (k := 4) (by decide) (by decide)).trans m165
                        have m187 := (hF1.fld hr_lk skc_6 (k := 1) (by decide) (by decide)).trans m166
                        have m188 := (hF1.fld hr_gr skc_5 (k := 0) (by decide) (by decide)).trans m167
                        have m189 := (hF1.fld hr_o0 skc_14 (k := 2) (by decide) (by decide)).trans m168
                        have hF := hF.more hF1 (by decide)
                        try dsimp only at hw182
                        refine lv_iinc (v := nI (i100 + 1)) (lv' := [(7, .int (nI (i100 + 1))), (6, .int x179), (0, .ref o0), (1, .int p0), (2, .int p1), (3, .int p2), (4, .int p3), (5, .int p4)]) hx hb dX11_land_143 hl (k := 1) rfl (nI_add i100 1) (by decide) rfl (fun ls hl => ?_)
                        refine lv_goto (tgt := 83) hx hb dX11_land_146 (by decide) ?_
                        exact ih155 (i100 + 1) (by omega) (by omega) x179 ⟨(by have q8 := ti_all x179; omega), (by have c9 := (show (VL i100).toInt = x176.toInt from congrArg Int32.toInt ((cx176.trans (by rw [tn_nI (by omega)]; exact ly_at)).symm)); have := (show x179.toInt = x179.toInt from rfl); first | exact ldN_no (inR_1 (s := ((i100 : Nat) : Int)) (a := p0.toInt) (b := p1.toInt) (by have q9 : (nI i100).toInt = ((i100 : Nat) : Int) := nI_toInt (by omega); omega)) (by show (VL i100).toInt ≠ 0; omega) (by rw [← hj109]; omega) | exact ldN_one (inR_1 (s := ((i100 : Nat) : Int)) (a := p0.toInt) (b := p1.toInt) (by have q9 : (nI i100).toInt = ((i100 : Nat) : Int) := nI_toInt (by omega); omega)) (by show (VL i100).toInt = 0; omega) hj109 (by omega))⟩ _ _ hT hF hS (m183.ext (fun _ _ => by rw [tn_nI (by omega)]; exact ly_in (inR_1 (s := ((i100 : Nat) : Int)) (a := p0.toInt) (b := p1.toInt) (by have q9 : (nI i100).toInt = ((i100 : Nat) : Int) := nI_toInt (by omega); omega)))) m185 m186 m187 m188 m189 ls (lv_sub hl [0, 1, 2, 3, 4, 5, 6, 7] rfl)
                      · have t191 : x176.toInt ≠ 0 := ti_ne c177 rfl (by decide)
                        refine lv_iconst (v := 0) hx hb dX11_land_118 (by decide) ?_
                        refine lv_goto (tgt := 123) hx hb dX11_land_119 (by decide) ?_
                        refine lv_iadd hx hb dX11_land_123 ?_
                        refine lv_topi (fun x192 ex192 => ?_)
                        have t193 : x192.toInt = z101.toInt + 0 := ti_add ex192 rfl (by decide) (by omega) (by omega)
                        refine lv_istore (lv' := [(6, .int x192), (7, .int (nI i100)), (0, .ref o0), (1, .int p0), (2, .int p1), (3, .int p2), (4, .int p3), (5, .int p4)]) hx hb dX11_land_124 hl (by decide) rfl (fun ls hl => ?_)
                        refine lv_aload_n hx hb dX11_land_126 rfl (lv_at hl 2 rfl) ?_
                        refine tw_getM (v := .ref lk) hx hb hts bF2_X11 hown hK hT hr_o0 shc_14 rfl 1 (by decide) (ht_at2 hts 14 rfl) (fun _ h9 => h9) m164 dX11_land_127 ?_
                        refine tw_getNM (v := .ref gr) hx hb hts bF2_X3 hown hK hT hr_lk shc_6 rfl 1 (by decide) (hE.nw 1 rfl) (fun _ h9 => h9) m166 dX11_land_130 ?_
                        refine lv_iload hx hb dX11_land_133 (lv_at hl 1 rfl) ?_
                        refine lv_iload_n hx hb dX11_land_135 rfl (lv_at hl 5 rfl) ?_
                        refine lv_iload hx hb dX11_land_136 (lv_at hl 6 rfl) ?_
                        refine lv_iload hx hb dX11_land_138 (lv_at hl 7 rfl) ?_
                        have hFc := gA_free hG hA hS
                        refine va_callv (va_runV (As := [.int (nI i100), .int p2, .int p3, .int p4]) (rest := []) ⟨hx, hb, hml, hown, hts⟩ (c_tellLandC l dC dI kA adK adV G H nC nS gr (nI i100) p2 p3 p4 la (lyV VL 1 p0.toInt p1.toInt i100) hT hr_gr m167 hr_la (rg_t (a := ((i100 : Nat) : Int)) (nI_toInt (by omega)) (by omega) (by omega)) m163 (by omega) (by omega)) (cwV 4 hts (goodIn_app (goodIn_r _ [50, 51, 52, 49] rfl (by decide +kernel)) (goodIn_ca (goodIn_r _ [37, 38, 39, 40, 41, 42, 43, 44, 45, 46, 47, 48, 49] rfl (by decide +kernel)) (bs2_in _ _))) rfl rfl rfl (by decide +kernel) ⟨(Nat.le_of_ble_eq_true rfl), (Nat.le_of_ble_eq_true rfl)⟩) ⟨fun a U g mk q => by obtain ⟨q0, q1, qK, qE⟩ := q; exact ⟨q0, q1, va_K.moved (u := U) (U := U.calling g mk a) (Vm.Alike.refl U.vm) qK, EVC.blind g mk a qE⟩, gH_rc hK hT hr_gr shc_5 rfl, fun U hU hW => ⟨rfl, hU, va_K.moved hW.alike hK, hE.call hS hFc hU hW⟩⟩ rfl rfl hl.1 rfl (lv_room (Nat.le_of_ble_eq_true rfl)) dX11_land_140 ⟨(Nat.le_of_ble_eq_true rfl), (Nat.le_of_ble_eq_true rfl)⟩) hS (fun q _ h => hFc q h) hFc (fun u t H locs ht hvm hw195 hB _ _ hS => ?_)
                        obtain ⟨hT, hF1, m196⟩ := hB
                        rw [ht] at hT hF1 m196
                        have m198 := (hF1.fld hr_o0 skc_14 (k := 1) (by decide) (by decide)).trans m164
                        have m199 := (hF1.fld hr_lk skc_6 (k := 4) (by decide) (by decide)).trans m165
                        have m200 := (hF1.fld hr_lk skc_6 (k := 1) (by decide) (by decide)).trans m166
                        have m201 := (hF1.fld hr_gr skc_5 (k := 0) (by decide) (by decide)).trans m167
                        have m202 := (hF1.fld hr_o0 skc_14 (k := 2) (by decide) (by decide)).trans m168
                        have hF := hF.more hF1 (by decide)
                        try dsimp only at hw195
                        refine lv_iinc (v := nI (i100 + 1)) (lv' := [(7, .int (nI (i100 + 1))), (6, .int x192), (0, .ref o0), (1, .int p0), (2, .int p1), (3, .int p2), (4, .int p3), (5, .int p4)]) hx hb dX11_land_143 hl (k := 1) rfl (nI_add i100 1) (by decide) rfl (fun ls hl => ?_)
                        refine lv_goto (tgt := 83) hx hb dX11_land_146 (by decide) ?_
                        exact ih155 (i100 + 1) (by omega) (by omega) x192 ⟨(by have q8 := ti_all x192; omega), (by have c9 := (show (VL i100).toInt = x176.toInt from congrArg Int32.toInt ((cx176.trans (by rw [tn_nI (by omega)]; exact ly_at)).symm)); have := (show x192.toInt = x192.toInt from rfl); first | exact ldN_no (inR_1 (s := ((i100 : Nat) : Int)) (a := p0.toInt) (b := p1.toInt) (by have q9 : (nI i100).toInt = ((i100 : Nat) : Int) := nI_toInt (by omega); omega)) (by show (VL i100).toInt ≠ 0; omega) (by rw [← hj109]; omega) | exact ldN_one (inR_1 (s := ((i100 : Nat) : Int)) (a := p0.toInt) (b := p1.toInt) (by have q9 : (nI i100).toInt = ((i100 : Nat) : Int) := nI_toInt (by omega); omega)) (by show (VL i100).toInt = 0; omega) hj109 (by omega))⟩ _ _ hT hF hS (m196.ext (fun _ _ => by rw [tn_nI (by omega)]; exact ly_in (inR_1 (s := ((i100 : Nat) : Int)) (a := p0.toInt) (b := p1.toInt) (by have q9 : (nI i100).toInt = ((i100 : Nat) : Int) := nI_toInt (by omega); omega)))) m198 m199 m200 m201 m202 ls (lv_sub hl [0, 1, 2, 3, 4, 5, 6, 7] rfl)
                exact key155 (96 - 0) 0 (by omega) (Nat.le_refl _) 0 ⟨(rg_t (a := 0) (by decide) (by first | decide | omega) (by first | decide | omega)), (show (0 : Int32).toInt = 0 from by decide)⟩ _ _ hT hF hS (m98.ext (fun _ _ => ly_0)) m94 m95 m96 m97 m99 ls (lv_sub hl [0, 1, 2, 3, 4, 5, 6, 7] rfl)
              · have t204 : 0 < ho.toInt := ti_nle c87 rfl (by decide)
                obtain ⟨sa205, hsa205⟩ := hE.str 0 rfl
                exact vx_throwS (names := ["java/lang/RuntimeException", "java/lang/Exception"]) hx hb hlt hown (by decide +kernel) (by decide +kernel) (ht_at2 hts 52 rfl) (ht_at2 hts 53 rfl) hsa205 (bX2_at3 hts hE) bX_ok3_69 hE.1.1.2.2.1 hE.1.1.2.2.2 hS (by rw [hml]; exact hl.1) dX11_land_60 dX11_land_63 dX11_land_64 dX11_land_66 dX11_land_69 (fun x h => (hnt x h).elim) (by decide) (Nat.le_of_ble_eq_true rfl) (Nat.le_of_ble_eq_true rfl) (Nat.le_of_ble_eq_true rfl) hlocks (fun t hW hz hq => ⟨(), trivial, ⟨(Or.inr (Or.inl rfl)), (Or.inr (Or.inl ⟨rfl, (by have := laC_s ho.toInt p0.toInt p1.toInt p2.toInt p3.toInt p4.toInt; first | omega | exact hxf.elim)⟩)), hT.ext hq, hF.ext hT hq, m86.kept (hq _ (hT.lt hr_la))⟩, Nat.le_trans hS.1 hz, fun q h1 h2 => (hq q (Nat.lt_of_lt_of_le h1 hS.1)).trans (hS.2.1 q h1 h2)⟩) hS.2.2 (by decide) (by decide)
def w_c_fillC : List Cond := .code yX11_fill cX11_fill 4 (some .boolean) :: (HAppend.hAppend (α := List Cond) (β := List Cond) (γ := List Cond) [.code yX11_needSquare cX11_needSquare 1 none, .code yX11_within cX11_within 3 (some .boolean), .methodLink RX11 58 yX11_within, .static yX11_within, .initialized RX11, .classLink RX11 557 "java/lang/IndexOutOfBoundsException", .initialized "java/lang/IndexOutOfBoundsException", .methodLink RX11 55 yX11_needSquare, .static yX11_needSquare, .code yX11_needNumbers cX11_needNumbers 1 none, .classLink RX11 547 "java/lang/IllegalArgumentException", .initialized "java/lang/IllegalArgumentException", .methodLink RX11 62 yX11_needNumbers, .static yX11_needNumbers, .constant RX11 96 100000, .fieldLink RX11 16 "SeaLand" "lake" "LSeaLand$Lake;", .fieldLink RX11 23 "SeaLand" "rows" "LSeaLand$Rows;", .code yX6_forget cX6_forget 1 none, .fieldLink RX6 18 "SeaLand$Rows" "kept" "I", .fieldLink RX6 22 "SeaLand$Rows" "oldest" "I", .methodLink RX11 76 yX6_forget, .instanceMethod yX6_forget, .selects RX6 yX6_forget yX6_forget, .initialized RX6, .code yX2_tellWater cX2_tellWater 4 none, .fieldLink RX2 50 "SeaLand$Ground" "toldMore" "I", .fieldLink RX2 25 "SeaLand$Ground" "water" "[I", .fieldLink RX2 28 "SeaLand$Ground" "salt" "[I", .methodLink RX11 97 yX2_tellWater, .instanceMethod yX2_tellWater, .selects RX2 yX2_tellWater yX2_tellWater, .initialized RX2] bs2)
set_option maxHeartbeats 4000000 in
set_option maxRecDepth 100000 in
theorem c_fillC (l : Launch) (hlt : l.stackTraces = false) (dC : Nat → ClassId) (dI : Nat → Nat → Nat) (kA : Nat → ClassId) (adK adV : Nat → Nat) (G : gT) (H0 : Heap) (nC nS : Int) (o0 : Nat) (p0 : Int32) (p1 : Int32) (p2 : Int32) (lk : Nat) (gr : Nat) (la : Nat) (VL : Nat → Int32)  (hT : gH (dC, dI) kA (SHc nC nS) G H0) (hr_o0 : G o0 = some 14) (hm_lk : el H0 o0 (dI 14 1) = some (.ref lk)) (hr_lk : G lk = some 6) (hm_gr : el H0 lk (dI 6 1) = some (.ref gr)) (hr_gr : G gr = some 5) (hm_la : el H0 gr (dI 5 0) = some (.ref la)) (hr_la : G la = some 25) (hc_VL : ct H0 la 96 VL) (hgC : 0 ≤ nC ∧ nC ≤ 40) (hgS : 0 ≤ nS ∧ nS ≤ 60) : vx_Met l yX11_fill w_c_fillC ({ frames := 7, cells := 2, slots := 12, locals := 120 }) (va_Pc [.ref o0, .int p0, .int p1, .int p2] (fun U => U.heap = H0 ∧ va_K (dC, dI) vwCl (tyl kA) U ∧ EVC adK adV (gA G H0.size) U U.heap)) (va_Qi (fun (r : Int32) (u : Unit) => (0 ≤ r.toInt ∧ r.toInt ≤ 1) ∧ (fiC p0.toInt p1.toInt p2.toInt = 0) ∧ (r.toInt = (VL p0.toNatClampNeg).toInt)) (fun (_ : Unit) (t : State) => gH (dC, dI) kA (SHc nC nS) G t.heap ∧ gF (dC, dI) SKc G ([(5, 14), (9, 2), (9, 3), (29, 0), (30, 0)] : List (Nat × Nat)) H0 t.heap) (gA G H0.size)) (vx_X (fun _ : Unit => True) (fun E _ t => (E = "java/lang/IllegalArgumentException" ∨ E = "java/lang/IndexOutOfBoundsException") ∧ ((E = "java/lang/IllegalArgumentException" ∧ fiC p0.toInt p1.toInt p2.toInt = 2) ∨ (E = "java/lang/IndexOutOfBoundsException" ∧ fiC p0.toInt p1.toInt p2.toInt = 1)) ∧ gH (dC, dI) kA (SHc nC nS) G t.heap ∧ gF (dC, dI) SKc G ([(5, 14), (9, 2), (9, 3), (29, 0), (30, 0)] : List (Nat × Nat)) H0 t.heap) (gA G H0.size)) 2 12 (gA G H0.size) := by
  refine vx_ofW (cc := cX11_fill) (maxL := 4) (ret := (some .boolean)) (by decide) rfl ?_
  intro p e s m args below meth c s₁ B hml hnt hv
  obtain ⟨rfl, hH0, hK, hE⟩ := hv
  have hx := B.exec
  have hb := B.bytes
  have hr := B.returns
  have hts := atoms_spec (ws := w_c_fillC) B.pre
  have hown : s.vm.findClass RX11 = some m.cls := findClass_of_methodNamed B.named
  have hlocks := B.notSynchronized
  subst hH0
  generalize hAe : gA G s.heap.size = A at hE ⊢
  have hA : ∀ q : Nat, s.heap.size ≤ q → A q := fun q h => by rw [← hAe]; exact Or.inr h
  have hG := gA_of hAe
  have hS : va_S A s.heap s.heap [] := va_S.rf
  have hF : gF (dC, dI) SKc G ([(5, 14), (9, 2), (9, 3), (29, 0), (30, 0)] : List (Nat × Nat)) s.heap s.heap := gF.rf
  have hl := lv_entry ([.ref o0, .int p0, .int p1, .int p2]) (n := 4) (Nat.le_of_ble_eq_true rfl)
  rw [lg_entry_eq]
  generalize (lg_sl ([.ref o0, .int p0, .int p1, .int p2]) ++ List.replicate (4 - (lg_sl ([.ref o0, .int p0, .int p1, .int p2])).length) Slot.unset).toArray = ls at hl ⊢
  have hl : lv_has ls 4 [(0, .ref o0), (1, .int p0), (2, .int p1), (3, .int p2)] := hl
  refine lv_iload_n hx hb dX11_fill_0 rfl (lv_at hl 1 rfl) ?_
  have hFc := gA_free hG hA hS
  refine vx_callv (vx_runS (As := [.int p0]) (rest := []) ⟨hx, hb, hml, hown, hts⟩ (c_needSquareE l hlt dC dI kA adK adV G s.heap nC nS p0 hT (by omega) (by omega)) (va_cwS 1 hts (goodIn_app (goodIn_r _ [8, 9, 5] rfl (by decide +kernel)) (goodIn_ca (goodIn_r _ [1, 2, 3, 4, 5, 6, 7] rfl (by decide +kernel)) (bs2_in _ _))) rfl rfl rfl (by decide +kernel) ⟨(Nat.le_of_ble_eq_true rfl), (Nat.le_of_ble_eq_true rfl)⟩) ⟨fun a U g mk q => by obtain ⟨q0, q1, qK, qE⟩ := q; exact ⟨q0, q1, va_K.moved (u := U) (U := U.calling g mk a) (Vm.Alike.refl U.vm) qK, EVC.blind g mk a qE⟩, fun U hU hW => ⟨rfl, hU, va_K.moved hW.alike hK, hE.call hS hFc hU hW⟩⟩ rfl rfl hl.1 rfl (lv_room (Nat.le_of_ble_eq_true rfl)) dX11_fill_1 ⟨(Nat.le_of_ble_eq_true rfl), (Nat.le_of_ble_eq_true rfl)⟩) hS (fun q _ h => hFc q h) hFc (fun q _ h => hFc q h) (fun E ce q9 u t H locs ht hvm _ hw2 _ _ hS hce hcv hcl => ?_) (fun u t H locs ht hvm hw2 hB _ _ hS => ?_)
  · obtain ⟨hw2, hxf, hTx, hFx⟩ := hw2; rw [ht] at hTx hFx
    exact vx_out (fun x h => (hnt x h).elim) hlocks hce hcv hcl (fun t2 h2 hW => ⟨(), trivial, ⟨((fun h9 => (Or.inr h9)) hw2), (Or.inr (⟨hw2, (by have := fiC_s p0.toInt p1.toInt p2.toInt; first | omega | exact hxf.elim)⟩)), by rw [h2]; exact hTx, by rw [h2]; exact hF.more hFx (by decide)⟩, hS.F h2⟩) hS.2.2 (by decide) (by decide)
  · obtain ⟨hT, hF1⟩ := hB
    rw [ht] at hT hF1
    have m3 := (hF1.fld hr_o0 skc_14 (k := 1) (by decide) (by decide)).trans hm_lk
    have m4 := (hF1.fld hr_lk skc_6 (k := 1) (by decide) (by decide)).trans hm_gr
    have m5 := (hF1.fld hr_gr skc_5 (k := 0) (by decide) (by decide)).trans hm_la
    have m6 := hc_VL.kept (hF1.arr hr_la skc_25 (by decide))
    have hF := hF.more hF1 (by decide)
    try dsimp only at hw2
    have hf7 := hw2
    refine lv_iload_n hx hb dX11_fill_4 rfl (lv_at hl 2 rfl) ?_
    refine lv_iconst (v := 0) hx hb dX11_fill_5 (by decide) ?_
    refine lv_sipush (v := 900) hx hb dX11_fill_6 (by decide) ?_
    have hFc := gA_free hG hA hS
    refine va_calli (va_runS (As := [.int p1, .int 0, .int 900]) (rest := []) ⟨hx, hb, hml, hown, hts⟩ (c_within l dC dI kA adK adV G H nC nS p1 0 900 hT (by omega) (by omega)) (va_cwS 3 hts (goodIn_app (goodIn_r _ [3, 4, 5] rfl (by decide +kernel)) (goodIn_ca (goodIn_r _ [2] rfl (by decide +kernel)) (bs2_in _ _))) rfl rfl rfl (by decide +kernel) ⟨(Nat.le_of_ble_eq_true rfl), (Nat.le_of_ble_eq_true rfl)⟩) ⟨fun a U g mk q => by obtain ⟨q0, q1, qK, qE⟩ := q; exact ⟨q0, q1, va_K.moved (u := U) (U := U.calling g mk a) (Vm.Alike.refl U.vm) qK, EVC.blind g mk a qE⟩, fun U hU hW => ⟨rfl, hU, va_K.moved hW.alike hK, hE.call hS hFc hU hW⟩⟩ rfl rfl hl.1 rfl (lv_room (Nat.le_of_ble_eq_true rfl)) dX11_fill_9 ⟨(Nat.le_of_ble_eq_true rfl), (Nat.le_of_ble_eq_true rfl)⟩) hS (fun q _ h => hFc q h) hFc (fun r8 u t H locs ht hvm hw9 hB _ _ hS => ?_)
    obtain ⟨hT, hF1⟩ := hB
    rw [ht] at hT hF1
    have m10 := (hF1.fld hr_o0 skc_14 (k := 1) (by decide) (by decide)).trans m3
    have m11 := (hF1.fld hr_lk skc_6 (k := 1) (by decide) (by decide)).trans m4
    have m12 := (hF1.fld hr_gr skc_5 (k := 0) (by decide) (by decide)).trans m5
    have m13 := m6.kept (hF1.arr hr_la skc_25 (by decide))
    have hF := hF.more hF1 (by decide)
    try dsimp only at hw9
    obtain ⟨h14, hi15, hi16⟩ := hw9
    refine lv_if_eq (tgt := 29) hx hb dX11_fill_12 (by decide) (fun c17 => ?_) (fun c17 => ?_)
    · have t18 : r8.toInt = 0 := ti_eq c17 rfl (by decide)
      have t19 : (0 : Int32).toInt = 0 := by decide
      have t20 : (900 : Int32).toInt = 900 := by decide
      have t21 : p1.toInt < (0 : Int32).toInt ∨ (900 : Int32).toInt < p1.toInt := hi16 c17
      refine lv_iconst (v := 0) hx hb dX11_fill_29 (by decide) ?_
      have hFc := gA_free hG hA hS
      refine vx_callN (vx_runS (As := [.int 0]) (rest := []) ⟨hx, hb, hml, hown, hts⟩ (c_needNumbers0 l hlt dC dI kA adK adV G H nC nS hT (by omega) (by omega)) (va_cwS 1 hts (goodIn_app (goodIn_r _ [13, 14, 5] rfl (by decide +kernel)) (goodIn_ca (goodIn_r _ [10, 11, 12] rfl (by decide +kernel)) (bs2_in _ _))) rfl rfl rfl (by decide +kernel) ⟨(Nat.le_of_ble_eq_true rfl), (Nat.le_of_ble_eq_true rfl)⟩) ⟨fun a U g mk q => by obtain ⟨q0, q1, qK, qE⟩ := q; exact ⟨q0, q1, va_K.moved (u := U) (U := U.calling g mk a) (Vm.Alike.refl U.vm) qK, EVC.blind g mk a qE⟩, fun U hU hW => ⟨rfl, hU, va_K.moved hW.alike hK, hE.call hS hFc hU hW⟩⟩ rfl rfl hl.1 rfl (lv_room (Nat.le_of_ble_eq_true rfl)) dX11_fill_30 ⟨(Nat.le_of_ble_eq_true rfl), (Nat.le_of_ble_eq_true rfl)⟩) hS hFc (fun q _ h => hFc q h) (fun E ce q9 u t H locs ht hvm _ hw23 _ _ hS hce hcv hcl => ?_)
      obtain ⟨hw23, hTx, hFx⟩ := hw23; rw [ht] at hTx hFx
      exact vx_out (fun x h => (hnt x h).elim) hlocks hce hcv hcl (fun t2 h2 hW => ⟨(), trivial, ⟨((fun h9 => (Or.inl h9)) hw23), (Or.inl ⟨hw23, (by have := fiC_s p0.toInt p1.toInt p2.toInt; first | omega | exact hxf.elim)⟩), by rw [h2]; exact hTx, by rw [h2]; exact hF.more hFx (by decide)⟩, hS.F h2⟩) hS.2.2 (by decide) (by decide)
    · have t24 : r8.toInt ≠ 0 := ti_ne c17 rfl (by decide)
      have t25 : (0 : Int32).toInt = 0 := by decide
      have t26 : (900 : Int32).toInt = 900 := by decide
      have t27 : (0 : Int32).toInt ≤ p1.toInt ∧ p1.toInt ≤ (900 : Int32).toInt := hi15 ((bit_of ⟨by omega, by omega⟩).resolve_left c17)
      refine lv_iload_n hx hb dX11_fill_15 rfl (lv_at hl 3 rfl) ?_
      refine lv_iconst (v := 0) hx hb dX11_fill_16 (by decide) ?_
      refine lv_ldc (v := 100000) hx hb hown (ht_at2 hts 14 rfl) dX11_fill_17 ?_
      have hFc := gA_free hG hA hS
      refine va_calli (va_runS (As := [.int p2, .int 0, .int 100000]) (rest := []) ⟨hx, hb, hml, hown, hts⟩ (c_within l dC dI kA adK adV G H nC nS p2 0 100000 hT (by omega) (by omega)) (va_cwS 3 hts (goodIn_app (goodIn_r _ [3, 4, 5] rfl (by decide +kernel)) (goodIn_ca (goodIn_r _ [2] rfl (by decide +kernel)) (bs2_in _ _))) rfl rfl rfl (by decide +kernel) ⟨(Nat.le_of_ble_eq_true rfl), (Nat.le_of_ble_eq_true rfl)⟩) ⟨fun a U g mk q => by obtain ⟨q0, q1, qK, qE⟩ := q; exact ⟨q0, q1, va_K.moved (u := U) (U := U.calling g mk a) (Vm.Alike.refl U.vm) qK, EVC.blind g mk a qE⟩, fun U hU hW => ⟨rfl, hU, va_K.moved hW.alike hK, hE.call hS hFc hU hW⟩⟩ rfl rfl hl.1 rfl (lv_room (Nat.le_of_ble_eq_true rfl)) dX11_fill_19 ⟨(Nat.le_of_ble_eq_true rfl), (Nat.le_of_ble_eq_true rfl)⟩) hS (fun q _ h => hFc q h) hFc (fun r28 u t H locs ht hvm hw29 hB _ _ hS => ?_)
      obtain ⟨hT, hF1⟩ := hB
      rw [ht] at hT hF1
      have m30 := (hF1.fld hr_o0 skc_14 (k := 1) (by decide) (by decide)).trans m10
      have m31 := (hF1.fld hr_lk skc_6 (k := 1) (by decide) (by decide)).trans m11
      have m32 := (hF1.fld hr_gr skc_5 (k := 0) (by decide) (by decide)).trans m12
      have m33 := m13.kept (hF1.arr hr_la skc_25 (by decide))
      have hF := hF.more hF1 (by decide)
      try dsimp only at hw29
      obtain ⟨h34, hi35, hi36⟩ := hw29
      refine lv_if_eq (tgt := 29) hx hb dX11_fill_22 (by decide) (fun c37 => ?_) (fun c37 => ?_)
      · have t38 : r28.toInt = 0 := ti_eq c37 rfl (by decide)
        have t39 : (0 : Int32).toInt = 0 := by decide
        have t40 : (100000 : Int32).toInt = 100000 := by decide
        have t41 : p2.toInt < (0 : Int32).toInt ∨ (100000 : Int32).toInt < p2.toInt := hi36 c37
        refine lv_iconst (v := 0) hx hb dX11_fill_29 (by decide) ?_
        have hFc := gA_free hG hA hS
        refine vx_callN (vx_runS (As := [.int 0]) (rest := []) ⟨hx, hb, hml, hown, hts⟩ (c_needNumbers0 l hlt dC dI kA adK adV G H nC nS hT (by omega) (by omega)) (va_cwS 1 hts (goodIn_app (goodIn_r _ [13, 14, 5] rfl (by decide +kernel)) (goodIn_ca (goodIn_r _ [10, 11, 12] rfl (by decide +kernel)) (bs2_in _ _))) rfl rfl rfl (by decide +kernel) ⟨(Nat.le_of_ble_eq_true rfl), (Nat.le_of_ble_eq_true rfl)⟩) ⟨fun a U g mk q => by obtain ⟨q0, q1, qK, qE⟩ := q; exact ⟨q0, q1, va_K.moved (u := U) (U := U.calling g mk a) (Vm.Alike.refl U.vm) qK, EVC.blind g mk a qE⟩, fun U hU hW => ⟨rfl, hU, va_K.moved hW.alike hK, hE.call hS hFc hU hW⟩⟩ rfl rfl hl.1 rfl (lv_room (Nat.le_of_ble_eq_true rfl)) dX11_fill_30 ⟨(Nat.le_of_ble_eq_true rfl), (Nat.le_of_ble_eq_true rfl)⟩) hS hFc (fun q _ h => hFc q h) (fun E ce q9 u t H locs ht hvm _ hw43 _ _ hS hce hcv hcl => ?_)
        obtain ⟨hw43, hTx, hFx⟩ := hw43; rw [ht] at hTx hFx
        exact vx_out (fun x h => (hnt x h).elim) hlocks hce hcv hcl (fun t2 h2 hW => ⟨(), trivial, ⟨((fun h9 => (Or.inl h9)) hw43), (Or.inl ⟨hw43, (by have := fiC_s p0.toInt p1.toInt p2.toInt; first | omega | exact hxf.elim)⟩), by rw [h2]; exact hTx, by rw [h2]; exact hF.more hFx (by decide)⟩, hS.F h2⟩) hS.2.2 (by decide) (by decide)
      · have t44 : r28.toInt ≠ 0 := ti_ne c37 rfl (by decide)
        have t45 : (0 : Int32).toInt = 0 := by decide
        have t46 : (100000 : Int32).toInt = 100000 := by decide
        have t47 : (0 : Int32).toInt ≤ p2.toInt ∧ p2.toInt ≤ (100000 : Int32).toInt := hi35 ((bit_of ⟨by omega, by omega⟩).resolve_left c37)
        refine lv_iconst (v := 1) hx hb dX11_fill_25 (by decide) ?_
        refine lv_goto (tgt := 30) hx hb dX11_fill_26 (by decide) ?_
        have hFc := gA_free hG hA hS
        refine vx_callv (vx_runS (As := [.int 1]) (rest := []) ⟨hx, hb, hml, hown, hts⟩ (c_needNumbers1X l hlt dC dI kA adK adV G H nC nS hT (by omega) (by omega)) (va_cwS 1 hts (goodIn_app (goodIn_r _ [13, 14, 5] rfl (by decide +kernel)) (goodIn_ca (goodIn_r _ [10] rfl (by decide +kernel)) (bs2_in _ _))) rfl rfl rfl (by decide +kernel) ⟨(Nat.le_of_ble_eq_true rfl), (Nat.le_of_ble_eq_true rfl)⟩) ⟨fun a U g mk q => by obtain ⟨q0, q1, qK, qE⟩ := q; exact ⟨q0, q1, va_K.moved (u := U) (U := U.calling g mk a) (Vm.Alike.refl U.vm) qK, EVC.blind g mk a qE⟩, fun U hU hW => ⟨rfl, hU, va_K.moved hW.alike hK, hE.call hS hFc hU hW⟩⟩ rfl rfl hl.1 rfl (lv_room (Nat.le_of_ble_eq_true rfl)) dX11_fill_30 ⟨(Nat.le_of_ble_eq_true rfl), (Nat.le_of_ble_eq_true rfl)⟩) hS (fun q _ h => hFc q h) hFc (fun q _ h => hFc q h) (fun E ce q9 u t H locs ht hvm _ hw49 _ _ hS hce hcv hcl => ?_) (fun u t H locs ht hvm hw49 hB _ _ hS => ?_)
        · obtain ⟨hw49, hxf, hTx, hFx⟩ := hw49; rw [ht] at hTx hFx
          exact vx_out (fun x h => (hnt x h).elim) hlocks hce hcv hcl (fun t2 h2 hW => ⟨(), trivial, ⟨((fun h9 => (Or.inl h9)) hw49), (Or.inl ⟨hw49, (by have := fiC_s p0.toInt p1.toInt p2.toInt; first | omega | exact hxf.elim)⟩), by rw [h2]; exact hTx, by rw [h2]; exact hF.more hFx (by decide)⟩, hS.F h2⟩) hS.2.2 (by decide) (by decide)
        · obtain ⟨hT, hF1⟩ := hB
          rw [ht] at hT hF1
          have m50 := (hF1.fld hr_o0 skc_14 (k := 1) (by decide) (by decide)).trans m30
          have m51 := (hF1.fld hr_lk skc_6 (k := 1) (by decide) (by decide)).trans m31
          have m52 := (hF1.fld hr_gr skc_5 (k := 0) (by decide) (by decide)).trans m32
          have m53 := m33.kept (hF1.arr hr_la skc_25 (by decide))
          have hF := hF.more hF1 (by decide)
          try dsimp only at hw49
          refine lv_aload_n hx hb dX11_fill_33 rfl (lv_at hl 0 rfl) ?_
          refine tw_getM (v := .ref lk) hx hb hts bF2_X11 hown hK hT hr_o0 shc_14 rfl 1 (by decide) (ht_at2 hts 15 rfl) (fun _ h9 => h9) m50 dX11_fill_34 ?_
          refine tw_getNM (v := .ref gr) hx hb hts bF2_X3 hown hK hT hr_lk shc_6 rfl 1 (by decide) (hE.nw 1 rfl) (fun _ h9 => h9) m51 dX11_fill_37 ?_
          refine tw_getNM (v := .ref la) hx hb hts bF2_X2 hown hK hT hr_gr shc_5 rfl 0 (by decide) (hE.nw 2 rfl) (fun _ h9 => h9) m52 dX11_fill_40 ?_
          refine lv_iload_n hx hb dX11_fill_43 rfl (lv_at hl 1 rfl) ?_
          refine tw_zald (i := p0) hx hb hK hT hr_la shc_25 rfl (vin_t (a := p0.toInt) rfl (by omega) (by omega)) dX11_fill_44 (fun v9 m54 h9 => ?_)
          obtain ⟨x55, rfl, gx55, kx55⟩ := h9
          have cx55 := m53.at m54 (by have q9 := tn_of (show p0.toInt = p0.toInt from rfl) (by omega); omega)
          refine lv_if_ne (tgt := 50) hx hb dX11_fill_45 (by decide) (fun c56 => ?_) (fun c56 => ?_)
          · have t57 : x55.toInt ≠ 0 := ti_ne c56 rfl (by decide)
            refine lv_aload_n hx hb dX11_fill_50 rfl (lv_at hl 0 rfl) ?_
            refine tw_get hx hb hts bF2_X11 hown hK hT hr_o0 shc_14 rfl 2 (by decide) (ht_at2 hts 16 rfl) (fun _ h9 => h9) dX11_fill_51 (fun v9 m58 h9 => ?_)
            obtain ⟨b59, rfl, hg60⟩ := h9 _ rfl
            have hFc := gA_free hG hA hS
            refine va_callv (va_runV (As := []) (rest := []) ⟨hx, hb, hml, hown, hts⟩ (c_forget l dC dI kA adK adV G H nC nS b59 hT hg60 (by omega) (by omega)) (cwV 0 hts (goodIn_app (goodIn_r _ [21, 22, 23, 24] rfl (by decide +kernel)) (goodIn_ca (goodIn_r _ [18, 19, 20] rfl (by decide +kernel)) (bs2_in _ _))) rfl rfl rfl (by decide +kernel) ⟨(Nat.le_of_ble_eq_true rfl), (Nat.le_of_ble_eq_true rfl)⟩) ⟨fun a U g mk q => by obtain ⟨q0, q1, qK, qE⟩ := q; exact ⟨q0, q1, va_K.moved (u := U) (U := U.calling g mk a) (Vm.Alike.refl U.vm) qK, EVC.blind g mk a qE⟩, gH_rc hK hT hg60 shc_9 rfl, fun U hU hW => ⟨rfl, hU, va_K.moved hW.alike hK, hE.call hS hFc hU hW⟩⟩ rfl rfl hl.1 rfl (lv_room (Nat.le_of_ble_eq_true rfl)) dX11_fill_54 ⟨(Nat.le_of_ble_eq_true rfl), (Nat.le_of_ble_eq_true rfl)⟩) hS (fun q _ h => hFc q h) hFc (fun u t H locs ht hvm hw62 hB _ _ hS => ?_)
            obtain ⟨hT, hF1⟩ := hB
            rw [ht] at hT hF1
            have m63 := (hF1.fld hr_o0 skc_14 (k := 1) (by decide) (by decide)).trans m50
            have m64 := (hF1.fld hr_lk skc_6 (k := 1) (by decide) (by decide)).trans m51
            have hF := hF.more hF1 (by decide)
            try dsimp only at hw62
            refine lv_aload_n hx hb dX11_fill_57 rfl (lv_at hl 0 rfl) ?_
            refine tw_getM (v := .ref lk) hx hb hts bF2_X11 hown hK hT hr_o0 shc_14 rfl 1 (by decide) (ht_at2 hts 15 rfl) (fun _ h9 => h9) m63 dX11_fill_58 ?_
            refine tw_getNM (v := .ref gr) hx hb hts bF2_X3 hown hK hT hr_lk shc_6 rfl 1 (by decide) (hE.nw 1 rfl) (fun _ h9 => h9) m64 dX11_fill_61 ?_
            refine lv_iload_n hx hb dX11_fill_64 rfl (lv_at hl 1 rfl) ?_
            refine lv_iload_n hx hb dX11_fill_65 rfl (lv_at hl 2 rfl) ?_
            refine lv_iload_n hx hb dX11_fill_66 rfl (lv_at hl 3 rfl) ?_
            have hFc := gA_free hG hA hS
            refine va_callv (va_runV (As := [.int p0, .int p1, .int p2]) (rest := []) ⟨hx, hb, hml, hown, hts⟩ (c_tellWater l dC dI kA adK adV G H nC nS gr p0 p1 p2 hT hr_gr (by have q8 := ti_all p0; omega) (by omega) (by omega)) (cwV 3 hts (goodIn_app (goodIn_r _ [29, 30, 31, 32] rfl (by decide +kernel)) (goodIn_ca (goodIn_r _ [25, 26, 27, 28] rfl (by decide +kernel)) (bs2_in _ _))) rfl rfl rfl (by decide +kernel) ⟨(Nat.le_of_ble_eq_true rfl), (Nat.le_of_ble_eq_true rfl)⟩) ⟨fun a U g mk q => by obtain ⟨q0, q1, qK, qE⟩ := q; exact ⟨q0, q1, va_K.moved (u := U) (U := U.calling g mk a) (Vm.Alike.refl U.vm) qK, EVC.blind g mk a qE⟩, gH_rc hK hT hr_gr shc_5 rfl, fun U hU hW => ⟨rfl, hU, va_K.moved hW.alike hK, hE.call hS hFc hU hW⟩⟩ rfl rfl hl.1 rfl (lv_room (Nat.le_of_ble_eq_true rfl)) dX11_fill_67 ⟨(Nat.le_of_ble_eq_true rfl), (Nat.le_of_ble_eq_true rfl)⟩) hS (fun q _ h => hFc q h) hFc (fun u t H locs ht hvm hw70 hB _ _ hS => ?_)
            obtain ⟨hT, hF1⟩ := hB
            rw [ht] at hT hF1
            have hF := hF.more hF1 (by decide)
            try dsimp only at hw70
            refine lv_iconst (v := 1) hx hb dX11_fill_70 (by decide) ?_
            refine W.widen (k := 2) (n := 12) (by decide) (by decide) ?_
            exact vx_ret (W.zret (v := 1) hx hb hr (by decide) (fun t ht hW => ⟨⟨1, (), rfl, (by exact ⟨(rg_t (a := 1) (by decide) (by first | decide | omega) (by first | decide | omega)), (by have := fiC_s p0.toInt p1.toInt p2.toInt; omega), (congrArg Int32.toInt (show _ = VL p0.toNatClampNeg from (show (1 : Int32) = x55 from Int32.toInt_inj.mp (by have q9 : (1 : Int32).toInt = 1 := (by decide); omega)).trans cx55))⟩), by (try dsimp only); rw [ht]; exact ⟨hT, hF⟩⟩, hS.F ht⟩) hS.2.2 dX11_fill_71)
          · have t77 : x55.toInt = 0 := ti_eq c56 rfl (by decide)
            refine lv_iconst (v := 0) hx hb dX11_fill_48 (by decide) ?_
            refine W.widen (k := 2) (n := 12) (by decide) (by decide) ?_
            exact vx_ret (W.zret (v := 0) hx hb hr (by decide) (fun t ht hW => ⟨⟨0, (), rfl, (by exact ⟨(rg_t (a := 0) (by decide) (by first | decide | omega) (by first | decide | omega)), (by have := fiC_s p0.toInt p1.toInt p2.toInt; omega), (congrArg Int32.toInt (show _ = VL p0.toNatClampNeg from (show (0 : Int32) = x55 from Int32.toInt_inj.mp (by have q9 : (0 : Int32).toInt = 0 := (by decide); omega)).trans cx55))⟩), by (try dsimp only); rw [ht]; exact ⟨hT, hF⟩⟩, hS.F ht⟩) hS.2.2 dX11_fill_49)
def w_c_copyG_iC : List Cond := .code yX2_copyFrom cX2_copyFrom 2 none :: (HAppend.hAppend (α := List Cond) (β := List Cond) (γ := List Cond) [.fieldLink RX2 9 "SeaLand$Ground" "isLand" "[Z", .methodLink RX2 95 arraycopyName, .native arraycopyName, .static arraycopyName, .initialized "java/lang/System", .fieldLink RX2 15 "SeaLand$Ground" "height" "[I", .fieldLink RX2 19 "SeaLand$Ground" "soil" "[I", .fieldLink RX2 22 "SeaLand$Ground" "ditch" "[I", .fieldLink RX2 25 "SeaLand$Ground" "water" "[I", .fieldLink RX2 28 "SeaLand$Ground" "salt" "[I", .fieldLink RX2 31 "SeaLand$Ground" "dry" "[I", .fieldLink RX2 34 "SeaLand$Ground" "wet" "[I", .fieldLink RX2 54 "SeaLand$Ground" "rained" "I", .fieldLink RX2 57 "SeaLand$Ground" "cameIn" "I", .fieldLink RX2 64 "SeaLand$Ground" "wentOut" "I", .fieldLink RX2 50 "SeaLand$Ground" "toldMore" "I"] bs2)
set_option maxHeartbeats 4000000 in
set_option maxRecDepth 100000 in
theorem c_copyG_iC (l : Launch) (dC : Nat → ClassId) (dI : Nat → Nat → Nat) (kA : Nat → ClassId) (adK adV : Nat → Nat) (G : gT) (H0 : Heap) (nC nS : Int) (o0 : Nat) (p0 : Nat) (la : Nat) (lb : Nat) (VB : Nat → Int32)  (hT : gH (dC, dI) kA (SHc nC nS) G H0) (hr_o0 : G o0 = some 93) (hr_p0 : G p0 = some 5) (hm_la : el H0 o0 (dI 5 0) = some (.ref la)) (hr_la : G la = some 77) (hm_lb : el H0 p0 (dI 5 0) = some (.ref lb)) (hr_lb : G lb = some 25) (hc_VB : ct H0 lb 96 VB) (hgC : 0 ≤ nC ∧ nC ≤ 40) (hgS : 0 ≤ nS ∧ nS ≤ 60) : Met l yX2_copyFrom w_c_copyG_iC ({ frames := 2, cells := 0, slots := 0, locals := 60 }) (va_Pc [.ref o0, .ref p0] (fun U => U.heap = H0 ∧ va_K (dC, dI) vwCl (tyl kA) U ∧ EVC adK adV (gA G H0.size) U U.heap)) (va_Qv (fun (u : Unit) => True) (fun (_ : Unit) (t : State) => gH (dC, dI) kA (SHc nC nS) G t.heap ∧ gF (dC, dI) SKc G ([(77, 0), (78, 0), (79, 0), (80, 0), (81, 0), (82, 0), (83, 0), (84, 0), (93, 11), (93, 12), (93, 13), (93, 14)] : List (Nat × Nat)) H0 t.heap ∧ ct t.heap la 96 VB) (gA G H0.size)) 0 0 (gA G H0.size) := by
  refine Met.ofW (cc := cX2_copyFrom) (maxL := 2) (ret := none) (by decide) rfl ?_
  intro p e s m args below meth c s₁ B hml hv
  obtain ⟨rfl, hH0, hK, hE⟩ := hv
  have hx := B.exec
  have hb := B.bytes
  have hr := B.returns
  have hts := atoms_spec (ws := w_c_copyG_iC) B.pre
  have hown : s.vm.findClass RX2 = some m.cls := findClass_of_methodNamed B.named
  have hlocks := B.notSynchronized
  subst hH0
  generalize hAe : gA G s.heap.size = A at hE ⊢
  have hA : ∀ q : Nat, s.heap.size ≤ q → A q := fun q h => by rw [← hAe]; exact Or.inr h
  have hG := gA_of hAe
  have hS : va_S A s.heap s.heap [] := va_S.rf
  have hF : gF (dC, dI) SKc G ([(77, 0), (78, 0), (79, 0), (80, 0), (81, 0), (82, 0), (83, 0), (84, 0), (93, 11), (93, 12), (93, 13), (93, 14)] : List (Nat × Nat)) s.heap s.heap := gF.rf
  have hl := lv_entry ([.ref o0, .ref p0]) (n := 2) (Nat.le_of_ble_eq_true rfl)
  rw [lg_entry_eq]
  generalize (lg_sl ([.ref o0, .ref p0]) ++ List.replicate (2 - (lg_sl ([.ref o0, .ref p0])).length) Slot.unset).toArray = ls at hl ⊢
  have hl : lv_has ls 2 [(0, .ref o0), (1, .ref p0)] := hl
  refine lv_aload_n hx hb dX2_copyFrom_0 rfl (lv_at hl 1 rfl) ?_
  refine tw_getM (v := .ref lb) hx hb hts bF2_X2 hown hK hT hr_p0 shc_5 rfl 0 (by decide) (ht_at2 hts 0 rfl) (fun _ h9 => h9) hm_lb dX2_copyFrom_1 ?_
  refine lv_iconst (v := 0) hx hb dX2_copyFrom_4 (by decide) ?_
  refine lv_aload_n hx hb dX2_copyFrom_5 rfl (lv_at hl 0 rfl) ?_
  refine tw_getM (v := .ref la) hx hb hts bF2_X2 hown hK hT hr_o0 shc_93 rfl 0 (by decide) (ht_at2 hts 0 rfl) (fun _ h9 => h9) hm_la dX2_copyFrom_6 ?_
  refine lv_iconst (v := 0) hx hb dX2_copyFrom_9 (by decide) ?_
  refine lv_bipush (v := 96) hx hb dX2_copyFrom_10 (by decide) ?_
  refine tw_copyE (ty := .boolean) hx hb (hml.trans hl.1.symm) hown (ht_at2 hts 1 rfl) (ht_at2 hts 2 rfl) (ht_at2 hts 3 rfl) (ht_at2 hts 4 rfl) hK hT hG hS hr_lb hr_la shc_25 shc_77 rfl rfl (by decide) (by decide) (by decide) (by decide) (by decide) (by decide) (by decide) (fun _ _ h9 => by obtain ⟨x9, e9, a9, b9⟩ := h9; exact ⟨x9, e9, fit_b ⟨a9, b9⟩⟩) (fun _ _ _ h9 => h9) (Nat.le_of_ble_eq_true rfl) (Nat.le_of_ble_eq_true rfl) dX2_copyFrom_12 (fun H locs hT oq ce1 hS => ?_)
  have hF := hF.ast hr_la skc_77 oq (by decide)
  have m2 : ct H la 96 VB := fun i9 hi9 => (ce1 i9 (by have q8 : (96 : Int32).toNatClampNeg = 96 := (by decide); omega)).trans (hc_VB i9 hi9)
  refine lv_aload_n hx hb dX2_copyFrom_15 rfl (lv_at hl 1 rfl) ?_
  refine tw_get hx hb hts bF2_X2 hown hK hT hr_p0 shc_5 rfl 1 (by decide) (ht_at2 hts 5 rfl) (fun _ h9 => h9) dX2_copyFrom_16 (fun v9 m6 h9 => ?_)
  obtain ⟨b7, rfl, hg8⟩ := h9 _ rfl
  refine lv_iconst (v := 0) hx hb dX2_copyFrom_19 (by decide) ?_
  refine lv_aload_n hx hb dX2_copyFrom_20 rfl (lv_at hl 0 rfl) ?_
  refine tw_get hx hb hts bF2_X2 hown hK hT hr_o0 shc_93 rfl 1 (by decide) (ht_at2 hts 5 rfl) (fun _ h9 => h9) dX2_copyFrom_21 (fun v9 m9 h9 => ?_)
  obtain ⟨b10, rfl, hg11⟩ := h9 _ rfl
  refine lv_iconst (v := 0) hx hb dX2_copyFrom_24 (by decide) ?_
  refine lv_bipush (v := 96) hx hb dX2_copyFrom_25 (by decide) ?_
  refine tw_copy (ty := .int) hx hb (hml.trans hl.1.symm) hown (ht_at2 hts 1 rfl) (ht_at2 hts 2 rfl) (ht_at2 hts 3 rfl) (ht_at2 hts 4 rfl) hK hT hG hS hg8 hg11 shc_26 shc_78 rfl rfl (by decide) (by decide) (by decide) (by decide) (by decide) (fun _ _ h9 => by obtain ⟨x9, e9, _⟩ := h9; exact ⟨x9, e9, rfl⟩) (fun _ _ _ h9 => h9) (Nat.le_of_ble_eq_true rfl) (Nat.le_of_ble_eq_true rfl) dX2_copyFrom_27 (fun H locs hT oq hS => ?_)
  have hF := hF.ast hg11 skc_78 oq (by decide)
  have m15 := m2.kept (oq _ (gne hr_la hg11 (by decide)))
  refine lv_aload_n hx hb dX2_copyFrom_30 rfl (lv_at hl 1 rfl) ?_
  refine tw_get hx hb hts bF2_X2 hown hK hT hr_p0 shc_5 rfl 2 (by decide) (ht_at2 hts 6 rfl) (fun _ h9 => h9) dX2_copyFrom_31 (fun v9 m18 h9 => ?_)
  obtain ⟨b19, rfl, hg20⟩ := h9 _ rfl
  refine lv_iconst (v := 0) hx hb dX2_copyFrom_34 (by decide) ?_
  refine lv_aload_n hx hb dX2_copyFrom_35 rfl (lv_at hl 0 rfl) ?_
  refine tw_get hx hb hts bF2_X2 hown hK hT hr_o0 shc_93 rfl 2 (by decide) (ht_at2 hts 6 rfl) (fun _ h9 => h9) dX2_copyFrom_36 (fun v9 m21 h9 => ?_)
  obtain ⟨b22, rfl, hg23⟩ := h9 _ rfl
  refine lv_iconst (v := 0) hx hb dX2_copyFrom_39 (by decide) ?_
  refine lv_bipush (v := 96) hx hb dX2_copyFrom_40 (by decide) ?_
  refine tw_copy (ty := .int) hx hb (hml.trans hl.1.symm) hown (ht_at2 hts 1 rfl) (ht_at2 hts 2 rfl) (ht_at2 hts 3 rfl) (ht_at2 hts 4 rfl) hK hT hG hS hg20 hg23 shc_27 shc_79 rfl rfl (by decide) (by decide) (by decide) (by decide) (by decide) (fun _ _ h9 => by obtain ⟨x9, e9, _⟩ := h9; exact ⟨x9, e9, rfl⟩) (fun _ _ _ h9 => h9) (Nat.le_of_ble_eq_true rfl) (Nat.le_of_ble_eq_true rfl) dX2_copyFrom_42 (fun H locs hT oq hS => ?_)
  have hF := hF.ast hg23 skc_79 oq (by decide)
  have m27 := m15.kept (oq _ (gne hr_la hg23 (by decide)))
  refine lv_aload_n hx hb dX2_copyFrom_45 rfl (lv_at hl 1 rfl) ?_
  refine tw_get hx hb hts bF2_X2 hown hK hT hr_p0 shc_5 rfl 3 (by decide) (ht_at2 hts 7 rfl) (fun _ h9 => h9) dX2_copyFrom_46 (fun v9 m32 h9 => ?_)
  obtain ⟨b33, rfl, hg34⟩ := h9 _ rfl
  refine lv_iconst (v := 0) hx hb dX2_copyFrom_49 (by decide) ?_
  refine lv_aload_n hx hb dX2_copyFrom_50 rfl (lv_at hl 0 rfl) ?_
  refine tw_get hx hb hts bF2_X2 hown hK hT hr_o0 shc_93 rfl 3 (by decide) (ht_at2 hts 7 rfl) (fun _ h9 => h9) dX2_copyFrom_51 (fun v9 m35 h9 => ?_)
  obtain ⟨b36, rfl, hg37⟩ := h9 _ rfl
  refine lv_iconst (v := 0) hx hb dX2_copyFrom_54 (by decide) ?_
  refine lv_bipush (v := 96) hx hb dX2_copyFrom_55 (by decide) ?_
  refine tw_copy (ty := .int) hx hb (hml.trans hl.1.symm) hown (ht_at2 hts 1 rfl) (ht_at2 hts 2 rfl) (ht_at2 hts 3 rfl) (ht_at2 hts 4 rfl) hK hT hG hS hg34 hg37 shc_28 shc_80 rfl rfl (by decide) (by decide) (by decide) (by decide) (by decide) (fun _ _ h9 => by obtain ⟨x9, e9, _⟩ := h9; exact ⟨x9, e9, rfl⟩) (fun _ _ _ h9 => h9) (Nat.le_of_ble_eq_true rfl) (Nat.le_of_ble_eq_true rfl) dX2_copyFrom_57 (fun H locs hT oq hS => ?_)
  have hF := hF.ast hg37 skc_80 oq (by decide)
  have m41 := m27.kept (oq _ (gne hr_la hg37 (by decide)))
  refine lv_aload_n hx hb dX2_copyFrom_60 rfl (lv_at hl 1 rfl) ?_
  refine tw_get hx hb hts bF2_X2 hown hK hT hr_p0 shc_5 rfl 4 (by decide) (ht_at2 hts 8 rfl) (fun _ h9 => h9) dX2_copyFrom_61 (fun v9 m48 h9 => ?_)
  obtain ⟨b49, rfl, hg50⟩ := h9 _ rfl
  refine lv_iconst (v := 0) hx hb dX2_copyFrom_64 (by decide) ?_
  refine lv_aload_n hx hb dX2_copyFrom_65 rfl (lv_at hl 0 rfl) ?_
  refine tw_get hx hb hts bF2_X2 hown hK hT hr_o0 shc_93 rfl 4 (by decide) (ht_at2 hts 8 rfl) (fun _ h9 => h9) dX2_copyFrom_66 (fun v9 m51 h9 => ?_)
  obtain ⟨b52, rfl, hg53⟩ := h9 _ rfl
  refine lv_iconst (v := 0) hx hb dX2_copyFrom_69 (by decide) ?_
  refine lv_bipush (v := 96) hx hb dX2_copyFrom_70 (by decide) ?_
  refine tw_copy (ty := .int) hx hb (hml.trans hl.1.symm) hown (ht_at2 hts 1 rfl) (ht_at2 hts 2 rfl) (ht_at2 hts 3 rfl) (ht_at2 hts 4 rfl) hK hT hG hS hg50 hg53 shc_29 shc_81 rfl rfl (by decide) (by decide) (by decide) (by decide) (by decide) (fun _ _ h9 => by obtain ⟨x9, e9, _⟩ := h9; exact ⟨x9, e9, rfl⟩) (fun _ _ _ h9 => h9) (Nat.le_of_ble_eq_true rfl) (Nat.le_of_ble_eq_true rfl) dX2_copyFrom_72 (fun H locs hT oq hS => ?_)
  have hF := hF.ast hg53 skc_81 oq (by decide)
  have m57 := m41.kept (oq _ (gne hr_la hg53 (by decide)))
  refine lv_aload_n hx hb dX2_copyFrom_75 rfl (lv_at hl 1 rfl) ?_
  refine tw_get hx hb hts bF2_X2 hown hK hT hr_p0 shc_5 rfl 5 (by decide) (ht_at2 hts 9 rfl) (fun _ h9 => h9) dX2_copyFrom_76 (fun v9 m66 h9 => ?_)
  obtain ⟨b67, rfl, hg68⟩ := h9 _ rfl
  refine lv_iconst (v := 0) hx hb dX2_copyFrom_79 (by decide) ?_
  refine lv_aload_n hx hb dX2_copyFrom_80 rfl (lv_at hl 0 rfl) ?_
  refine tw_get hx hb hts bF2_X2 hown hK hT hr_o0 shc_93 rfl 5 (by decide) (ht_at2 hts 9 rfl) (fun _ h9 => h9) dX2_copyFrom_81 (fun v9 m69 h9 => ?_)
  obtain ⟨b70, rfl, hg71⟩ := h9 _ rfl
  refine lv_iconst (v := 0) hx hb dX2_copyFrom_84 (by decide) ?_
  refine lv_bipush (v := 96) hx hb dX2_copyFrom_85 (by decide) ?_
  refine tw_copy (ty := .int) hx hb (hml.trans hl.1.symm) hown (ht_at2 hts 1 rfl) (ht_at2 hts 2 rfl) (ht_at2 hts 3 rfl) (ht_at2 hts 4 rfl) hK hT hG hS hg68 hg71 shc_30 shc_82 rfl rfl (by decide) (by decide) (by decide) (by decide) (by decide) (fun _ _ h9 => by obtain ⟨x9, e9, _⟩ := h9; exact ⟨x9, e9, rfl⟩) (fun _ _ _ h9 => h9) (Nat.le_of_ble_eq_true rfl) (Nat.le_of_ble_eq_true rfl) dX2_copyFrom_87 (fun H locs hT oq hS => ?_)
  have hF := hF.ast hg71 skc_82 oq (by decide)
  have m75 := m57.kept (oq _ (gne hr_la hg71 (by decide)))
  refine lv_aload_n hx hb dX2_copyFrom_90 rfl (lv_at hl 1 rfl) ?_
  refine tw_get hx hb hts bF2_X2 hown hK hT hr_p0 shc_5 rfl 6 (by decide) (ht_at2 hts 10 rfl) (fun _ h9 => h9) dX2_copyFrom_91 (fun v9 m86 h9 => ?_)
  obtain ⟨b87, rfl, hg88⟩ := h9 _ rfl
  refine lv_iconst (v := 0) hx hb dX2_copyFrom_94 (by decide) ?_
  refine lv_aload_n hx hb dX2_copyFrom_95 rfl (lv_at hl 0 rfl) ?_
  refine tw_get hx hb hts bF2_X2 hown hK hT hr_o0 shc_93 rfl 6 (by decide) (ht_at2 hts 10 rfl) (fun _ h9 => h9) dX2_copyFrom_96 (fun v9 m89 h9 => ?_)
  obtain ⟨b90, rfl, hg91⟩ := h9 _ rfl
  refine lv_iconst (v := 0) hx hb dX2_copyFrom_99 (by decide) ?_
  refine lv_bipush (v := 96) hx hb dX2_copyFrom_100 (by decide) ?_
  refine tw_copy (ty := .int) hx hb (hml.trans hl.1.symm) hown (ht_at2 hts 1 rfl) (ht_at2 hts 2 rfl) (ht_at2 hts 3 rfl) (ht_at2 hts 4 rfl) hK hT hG hS hg88 hg91 shc_31 shc_83 rfl rfl (by decide) (by decide) (by decide) (by decide) (by decide) (fun _ _ h9 => by obtain ⟨x9, e9, _⟩ := h9; exact ⟨x9, e9, rfl⟩) (fun _ _ _ h9 => h9) (Nat.le_of_ble_eq_true rfl) (Nat.le_of_ble_eq_true rfl) dX2_copyFrom_102 (fun H locs hT oq hS => ?_)
  have hF := hF.ast hg91 skc_83 oq (by decide)
  have m95 := m75.kept (oq _ (gne hr_la hg91 (by decide)))
  refine lv_aload_n hx hb dX2_copyFrom_105 rfl (lv_at hl 1 rfl) ?_
  refine tw_get hx hb hts bF2_X2 hown hK hT hr_p0 shc_5 rfl 7 (by decide) (ht_at2 hts 11 rfl) (fun _ h9 => h9) dX2_copyFrom_106 (fun v9 m108 h9 => ?_)
  obtain ⟨b109, rfl, hg110⟩ := h9 _ rfl
  refine lv_iconst (v := 0) hx hb dX2_copyFrom_109 (by decide) ?_
  refine lv_aload_n hx hb dX2_copyFrom_110 rfl (lv_at hl 0 rfl) ?_
  refine tw_get hx hb hts bF2_X2 hown hK hT hr_o0 shc_93 rfl 7 (by decide) (ht_at2 hts 11 rfl) (fun _ h9 => h9) dX2_copyFrom_111 (fun v9 m111 h9 => ?_)
  obtain ⟨b112, rfl, hg113⟩ := h9 _ rfl
  refine lv_iconst (v := 0) hx hb dX2_copyFrom_114 (by decide) ?_
  refine lv_bipush (v := 96) hx hb dX2_copyFrom_115 (by decide) ?_
  refine tw_copy (ty := .int) hx hb (hml.trans hl.1.symm) hown (ht_at2 hts 1 rfl) (ht_at2 hts 2 rfl) (ht_at2 hts 3 rfl) (ht_at2 hts 4 rfl) hK hT hG hS hg110 hg113 shc_32 shc_84 rfl rfl (by decide) (by decide) (by decide) (by decide) (by decide) (fun _ _ h9 => by obtain ⟨x9, e9, _⟩ := h9; exact ⟨x9, e9, rfl⟩) (fun _ _ _ h9 => h9) (Nat.le_of_ble_eq_true rfl) (Nat.le_of_ble_eq_true rfl) dX2_copyFrom_117 (fun H locs hT oq hS => ?_)
  have hF := hF.ast hg113 skc_84 oq (by decide)
  have m117 := m95.kept (oq _ (gne hr_la hg113 (by decide)))
  refine lv_aload_n hx hb dX2_copyFrom_120 rfl (lv_at hl 0 rfl) ?_
  refine lv_aload_n hx hb dX2_copyFrom_121 rfl (lv_at hl 1 rfl) ?_
  refine tw_get hx hb hts bF2_X2 hown hK hT hr_p0 shc_5 rfl 11 (by decide) (ht_at2 hts 12 rfl) (fun _ h9 => h9) dX2_copyFrom_122 (fun v9 m132 h9 => ?_)
  obtain ⟨x133, rfl, gx133, kx133⟩ := h9 _ rfl
  refine tw_put (v := .int x133) (ty := .int) hx hb hts bF2_X2 tyX2 tyX2_ok nmX2 hown hK hT hG hS hr_o0 shc_93 rfl 11 (by decide) (ht_at2 hts 12 rfl) (fun _ h9 => h9) rfl (by decide +kernel) rfl rfl (gl_at rfl (gi_all _)) dX2_copyFrom_125 (fun H locs hT oq m134 oj hS => ?_)
  have hF := hF.put hr_o0 skc_93 oq oj (by decide)
  have m138 := m117.kept (oq _ (gne hr_la hr_o0 (by decide)))
  refine lv_aload_n hx hb dX2_copyFrom_128 rfl (lv_at hl 0 rfl) ?_
  refine lv_aload_n hx hb dX2_copyFrom_129 rfl (lv_at hl 1 rfl) ?_
  refine tw_get hx hb hts bF2_X2 hown hK hT hr_p0 shc_5 rfl 12 (by decide) (ht_at2 hts 13 rfl) (fun _ h9 => h9) dX2_copyFrom_130 (fun v9 m154 h9 => ?_)
  obtain ⟨x155, rfl, gx155, kx155⟩ := h9 _ rfl
  refine tw_put (v := .int x155) (ty := .int) hx hb hts bF2_X2 tyX2 tyX2_ok nmX2 hown hK hT hG hS hr_o0 shc_93 rfl 12 (by decide) (ht_at2 hts 13 rfl) (fun _ h9 => h9) rfl (by decide +kernel) rfl rfl (gl_at rfl (gi_all _)) dX2_copyFrom_133 (fun H locs hT oq m156 oj hS => ?_)
  have hF := hF.put hr_o0 skc_93 oq oj (by decide)
  have m160 := m138.kept (oq _ (gne hr_la hr_o0 (by decide)))
  refine lv_aload_n hx hb dX2_copyFrom_136 rfl (lv_at hl 0 rfl) ?_
  refine lv_aload_n hx hb dX2_copyFrom_137 rfl (lv_at hl 1 rfl) ?_
  refine tw_get hx hb hts bF2_X2 hown hK hT hr_p0 shc_5 rfl 13 (by decide) (ht_at2 hts 14 rfl) (fun _ h9 => h9) dX2_copyFrom_138 (fun v9 m178 h9 => ?_)
  obtain ⟨x179, rfl, gx179, kx179⟩ := h9 _ rfl
  refine tw_put (v := .int x179) (ty := .int) hx hb hts bF2_X2 tyX2 tyX2_ok nmX2 hown hK hT hG hS hr_o0 shc_93 rfl 13 (by decide) (ht_at2 hts 14 rfl) (fun _ h9 => h9) rfl (by decide +kernel) rfl rfl (gl_at rfl (gi_all _)) dX2_copyFrom_141 (fun H locs hT oq m180 oj hS => ?_)
  have hF := hF.put hr_o0 skc_93 oq oj (by decide)
  have m184 := m160.kept (oq _ (gne hr_la hr_o0 (by decide)))
  refine lv_aload_n hx hb dX2_copyFrom_144 rfl (lv_at hl 0 rfl) ?_
  refine lv_aload_n hx hb dX2_copyFrom_145 rfl (lv_at hl 1 rfl) ?_
  refine tw_get hx hb hts bF2_X2 hown hK hT hr_p0 shc_5 rfl 14 (by decide) (ht_at2 hts 15 rfl) (fun _ h9 => h9) dX2_copyFrom_146 (fun v9 m204 h9 => ?_)
  obtain ⟨x205, rfl, gx205, kx205⟩ := h9 _ rfl
  refine tw_put (v := .int x205) (ty := .int) hx hb hts bF2_X2 tyX2 tyX2_ok nmX2 hown hK hT hG hS hr_o0 shc_93 rfl 14 (by decide) (ht_at2 hts 15 rfl) (fun _ h9 => h9) rfl (by decide +kernel) rfl rfl (gl_at rfl (gi_all _)) dX2_copyFrom_149 (fun H locs hT oq m206 oj hS => ?_)
  have hF := hF.put hr_o0 skc_93 oq oj (by decide)
  have m210 := m184.kept (oq _ (gne hr_la hr_o0 (by decide)))
  exact W.vret hx hb hr (fun t ht hW => ⟨⟨(), rfl, (by exact trivial), by (try dsimp only); rw [ht]; exact ⟨hT, hF, m210⟩⟩, hS.F ht⟩) hS.2.2 dX2_copyFrom_152
def w_c_copyL_iC : List Cond := .code yX3_copyFrom cX3_copyFrom 3 none :: (HAppend.hAppend (α := List Cond) (β := List Cond) (γ := List Cond) [.fieldLink RX3 12 "SeaLand$Lake" "sky" "LSeaLand$Sky;", .code yX8_copyFrom cX8_copyFrom 2 none, .fieldLink RX8 9 "SeaLand$Sky" "tides" "[I", .methodLink RX8 63 arraycopyName, .native arraycopyName, .static arraycopyName, .initialized "java/lang/System", .fieldLink RX8 15 "SeaLand$Sky" "stormFrom" "[I", .fieldLink RX8 18 "SeaLand$Sky" "stormTo" "[I", .fieldLink RX8 21 "SeaLand$Sky" "stormMore" "[I", .fieldLink RX8 27 "SeaLand$Sky" "wind" "LSeaLand$Tellings;", .code yX9_copyFrom cX9_copyFrom 2 none, .fieldLink RX9 9 "SeaLand$Tellings" "hours" "[I", .methodLink RX9 23 arraycopyName, .fieldLink RX9 15 "SeaLand$Tellings" "numbers" "[I", .fieldLink RX9 18 "SeaLand$Tellings" "told" "I", .methodLink RX8 69 yX9_copyFrom, .instanceMethod yX9_copyFrom, .selects RX9 yX9_copyFrom yX9_copyFrom, .initialized RX9, .fieldLink RX8 31 "SeaLand$Sky" "rain" "LSeaLand$Tellings;", .fieldLink RX8 34 "SeaLand$Sky" "storms" "I", .methodLink RX3 175 yX8_copyFrom, .instanceMethod yX8_copyFrom, .selects RX8 yX8_copyFrom yX8_copyFrom, .initialized RX8, .fieldLink RX3 21 "SeaLand$Lake" "ground" "LSeaLand$Ground;", .code yX2_copyFrom cX2_copyFrom 2 none, .fieldLink RX2 9 "SeaLand$Ground" "isLand" "[Z", .methodLink RX2 95 arraycopyName, .fieldLink RX2 15 "SeaLand$Ground" "height" "[I", .fieldLink RX2 19 "SeaLand$Ground" "soil" "[I", .fieldLink RX2 22 "SeaLand$Ground" "ditch" "[I", .fieldLink RX2 25 "SeaLand$Ground" "water" "[I", .fieldLink RX2 28 "SeaLand$Ground" "salt" "[I", .fieldLink RX2 31 "SeaLand$Ground" "dry" "[I", .fieldLink RX2 34 "SeaLand$Ground" "wet" "[I", .fieldLink RX2 54 "SeaLand$Ground" "rained" "I", .fieldLink RX2 57 "SeaLand$Ground" "cameIn" "I", .fieldLink RX2 64 "SeaLand$Ground" "wentOut" "I", .fieldLink RX2 50 "SeaLand$Ground" "toldMore" "I", .methodLink RX3 179 yX2_copyFrom, .instanceMethod yX2_copyFrom, .selects RX2 yX2_copyFrom yX2_copyFrom, .initialized RX2, .fieldLink RX3 47 "SeaLand$Lake" "built" "I", .fieldLink RX3 32 "SeaLand$Lake" "hour" "I", .fieldLink RX3 27 "SeaLand$Lake" "works" "[LSeaLand$Work;", .code yX10_copyFrom cX10_copyFrom 2 none, .fieldLink RX10 9 "SeaLand$Work" "thick" "[I", .methodLink RX10 60 arraycopyName, .fieldLink RX10 15 "SeaLand$Work" "clay" "[I", .fieldLink RX10 18 "SeaLand$Work" "kind" "I", .fieldLink RX10 22 "SeaLand$Work" "square" "I", .fieldLink RX10 25 "SeaLand$Work" "to" "I", .fieldLink RX10 28 "SeaLand$Work" "size" "I", .fieldLink RX10 31 "SeaLand$Work" "width" "I", .fieldLink RX10 34 "SeaLand$Work" "layers" "I", .fieldLink RX10 37 "SeaLand$Work" "coal" "I", .fieldLink RX10 40 "SeaLand$Work" "on" "Z", .fieldLink RX10 44 "SeaLand$Work" "latest" "I", .fieldLink RX10 47 "SeaLand$Work" "total" "I", .methodLink RX3 182 yX10_copyFrom, .instanceMethod yX10_copyFrom, .selects RX10 yX10_copyFrom yX10_copyFrom, .initialized RX10] bs2)
set_option maxHeartbeats 4000000 in
set_option maxRecDepth 100000 in
theorem c_copyL_iC (l : Launch) (dC : Nat → ClassId) (dI : Nat → Nat → Nat) (kA : Nat → ClassId) (adK adV : Nat → Nat) (G : gT) (H0 : Heap) (nC nS : Int) (o0 : Nat) (p0 : Nat) (oh : Int32) (gr : Nat) (go : Nat) (la : Nat) (lb : Nat) (VB : Nat → Int32)  (hT : gH (dC, dI) kA (SHc nC nS) G H0) (hr_o0 : G o0 = some 90) (hr_p0 : G p0 = some 6) (hm_oh : el H0 p0 (dI 6 4) = some (.int oh)) (hm_gr : el H0 o0 (dI 6 1) = some (.ref gr)) (hr_gr : G gr = some 93) (hm_go : el H0 p0 (dI 6 1) = some (.ref go)) (hr_go : G go = some 5) (hm_la : el H0 gr (dI 5 0) = some (.ref la)) (hr_la : G la = some 77) (hm_lb : el H0 go (dI 5 0) = some (.ref lb)) (hr_lb : G lb = some 25) (hq0 : 0 ≤ oh.toInt ∧ oh.toInt ≤ 40000) (hc_VB : ct H0 lb 96 VB) (hgC : 0 ≤ nC ∧ nC ≤ 40) (hgS : 0 ≤ nS ∧ nS ≤ 60) : Met l yX3_copyFrom w_c_copyL_iC ({ frames := 4, cells := 0, slots := 0, locals := 102 }) (va_Pc [.ref o0, .ref p0] (fun U => U.heap = H0 ∧ va_K (dC, dI) vwCl (tyl kA) U ∧ EVC adK adV (gA G H0.size) U U.heap)) (va_Qv (fun (u : Int32) => (u.toInt = oh.toInt)) (fun (h1 : Int32) (t : State) => gH (dC, dI) kA (SHc nC nS) G t.heap ∧ gF (dC, dI) SKc G ([(71, 0), (72, 0), (73, 0), (74, 0), (75, 0), (76, 0), (77, 0), (78, 0), (79, 0), (80, 0), (81, 0), (82, 0), (83, 0), (84, 0), (88, 0), (89, 0), (90, 3), (90, 4), (91, 6), (92, 2), (93, 11), (93, 12), (93, 13), (93, 14), (94, 2), (94, 3), (94, 4), (94, 5), (94, 6), (94, 7), (94, 8), (94, 9), (94, 10), (94, 11)] : List (Nat × Nat)) H0 t.heap ∧ el t.heap o0 (dI 6 4) = some (.int h1) ∧ ct t.heap la 96 VB) (gA G H0.size)) 0 0 (gA G H0.size) := by
  refine Met.ofW (cc := cX3_copyFrom) (maxL := 3) (ret := none) (by decide) rfl ?_
  intro p e s m args below meth c s₁ B hml hv
  obtain ⟨rfl, hH0, hK, hE⟩ := hv
  have hx := B.exec
  have hb := B.bytes
  have hr := B.returns
  have hts := atoms_spec (ws := w_c_copyL_iC) B.pre
  have hown : s.vm.findClass RX3 = some m.cls := findClass_of_methodNamed B.named
  have hlocks := B.notSynchronized
  subst hH0
  generalize hAe : gA G s.heap.size = A at hE ⊢
  have hA : ∀ q : Nat, s.heap.size ≤ q → A q := fun q h => by rw [← hAe]; exact Or.inr h
  have hG := gA_of hAe
  have hS : va_S A s.heap s.heap [] := va_S.rf
  have hF : gF (dC, dI) SKc G ([(71, 0), (72, 0), (73, 0), (74, 0), (75, 0), (76, 0), (77, 0), (78, 0), (79, 0), (80, 0), (81, 0), (82, 0), (83, 0), (84, 0), (88, 0), (89, 0), (90, 3), (90, 4), (91, 6), (92, 2), (93, 11), (93, 12), (93, 13), (93, 14), (94, 2), (94, 3), (94, 4), (94, 5), (94, 6), (94, 7), (94, 8), (94, 9), (94, 10), (94, 11)] : List (Nat × Nat)) s.heap s.heap := gF.rf
  have hl := lv_entry ([.ref o0, .ref p0]) (n := 3) (Nat.le_of_ble_eq_true rfl)
  rw [lg_entry_eq]
  generalize (lg_sl ([.ref o0, .ref p0]) ++ List.replicate (3 - (lg_sl ([.ref o0, .ref p0])).length) Slot.unset).toArray = ls at hl ⊢
  have hl : lv_has ls 3 [(0, .ref o0), (1, .ref p0)] := hl
  refine lv_aload_n hx hb dX3_copyFrom_0 rfl (lv_at hl 0 rfl) ?_
  refine tw_get hx hb hts bF2_X3 hown hK hT hr_o0 shc_90 rfl 0 (by decide) (ht_at2 hts 0 rfl) (fun _ h9 => h9) dX3_copyFrom_1 (fun v9 m1 h9 => ?_)
  obtain ⟨b2, rfl, hg3⟩ := h9 _ rfl
  refine lv_aload_n hx hb dX3_copyFrom_4 rfl (lv_at hl 1 rfl) ?_
  refine tw_get hx hb hts bF2_X3 hown hK hT hr_p0 shc_6 rfl 0 (by decide) (ht_at2 hts 0 rfl) (fun _ h9 => h9) dX3_copyFrom_5 (fun v9 m4 h9 => ?_)
  obtain ⟨b5, rfl, hg6⟩ := h9 _ rfl
  have hFc := gA_free hG hA hS
  refine va_callv (va_runV (As := [.ref b5]) (rest := []) ⟨hx, hb, hml, hown, hts⟩ (c_copyS_i l dC dI kA adK adV G s.heap nC nS b2 b5 hT hg3 hg6 (by omega) (by omega)) (cwV 1 hts (goodIn_app (goodIn_r _ [23, 24, 25, 26] rfl (by decide +kernel)) (goodIn_ca (goodIn_r _ [2, 3, 4, 5, 6, 7, 8, 9, 10, 11, 12, 13, 14, 15, 16, 17, 18, 19, 20, 21, 22] rfl (by decide +kernel)) (bs2_in _ _))) rfl rfl rfl (by decide +kernel) ⟨(Nat.le_of_ble_eq_true rfl), (Nat.le_of_ble_eq_true rfl)⟩) ⟨fun a U g mk q => by obtain ⟨q0, q1, qK, qE⟩ := q; exact ⟨q0, q1, va_K.moved (u := U) (U := U.calling g mk a) (Vm.Alike.refl U.vm) qK, EVC.blind g mk a qE⟩, gH_rc hK hT hg3 shc_91 rfl, fun U hU hW => ⟨rfl, hU, va_K.moved hW.alike hK, hE.call hS hFc hU hW⟩⟩ rfl rfl hl.1 rfl (lv_room (Nat.le_of_ble_eq_true rfl)) dX3_copyFrom_8 ⟨(Nat.le_of_ble_eq_true rfl), (Nat.le_of_ble_eq_true rfl)⟩) hS (fun q _ h => hFc q h) hFc (fun u t H locs ht hvm hw8 hB _ _ hS => ?_)
  obtain ⟨hT, hF1⟩ := hB
  rw [ht] at hT hF1
  have m9 := (hF1.fld hr_p0 skc_6 (k := 4) (by decide) (by decide)).trans hm_oh
  have m10 := (hF1.fld hr_o0 skc_90 (k := 1) (by decide) (by decide)).trans hm_gr
  have m11 := (hF1.fld hr_p0 skc_6 (k := 1) (by decide) (by decide)).trans hm_go
  have m12 := (hF1.fld hr_gr skc_93 (k := 0) (by decide) (by decide)).trans hm_la
  have m13 := (hF1.fld hr_go skc_5 (k := 0) (by decide) (by decide)).trans hm_lb
  have m14 := hc_VB.kept (hF1.arr hr_lb skc_25 (by decide))
  have m15 := (hF1.fld hr_o0 skc_90 (k := 0) (by decide) (by decide)).trans m1
  have m16 := (hF1.fld hr_p0 skc_6 (k := 0) (by decide) (by decide)).trans m4
  have hF := hF.more hF1 (by decide)
  try dsimp only at hw8
  refine lv_aload_n hx hb dX3_copyFrom_11 rfl (lv_at hl 0 rfl) ?_
  refine tw_getM (v := .ref gr) hx hb hts bF2_X3 hown hK hT hr_o0 shc_90 rfl 1 (by decide) (ht_at2 hts 26 rfl) (fun _ h9 => h9) m10 dX3_copyFrom_12 ?_
  refine lv_aload_n hx hb dX3_copyFrom_15 rfl (lv_at hl 1 rfl) ?_
  refine tw_getM (v := .ref go) hx hb hts bF2_X3 hown hK hT hr_p0 shc_6 rfl 1 (by decide) (ht_at2 hts 26 rfl) (fun _ h9 => h9) m11 dX3_copyFrom_16 ?_
  have hFc := gA_free hG hA hS
  refine va_callv (va_runV (As := [.ref go]) (rest := []) ⟨hx, hb, hml, hown, hts⟩ (c_copyG_iC l dC dI kA adK adV G H nC nS gr go la lb VB hT hr_gr hr_go m12 hr_la m13 hr_lb m14 (by omega) (by omega)) (cwV 1 hts (goodIn_app (goodIn_r _ [42, 43, 44, 45] rfl (by decide +kernel)) (goodIn_ca (goodIn_r _ [28, 29, 30, 5, 6, 7, 31, 32, 33, 34, 35, 36, 37, 38, 39, 40, 41] rfl (by decide +kernel)) (bs2_in _ _))) rfl rfl rfl (by decide +kernel) ⟨(Nat.le_of_ble_eq_true rfl), (Nat.le_of_ble_eq_true rfl)⟩) ⟨fun a U g mk q => by obtain ⟨q0, q1, qK, qE⟩ := q; exact ⟨q0, q1, va_K.moved (u := U) (U := U.calling g mk a) (Vm.Alike.refl U.vm) qK, EVC.blind g mk a qE⟩, gH_rc hK hT hr_gr shc_93 rfl, fun U hU hW => ⟨rfl, hU, va_K.moved hW.alike hK, hE.call hS hFc hU hW⟩⟩ rfl rfl hl.1 rfl (lv_room (Nat.le_of_ble_eq_true rfl)) dX3_copyFrom_19 ⟨(Nat.le_of_ble_eq_true rfl), (Nat.le_of_ble_eq_true rfl)⟩) hS (fun q _ h => hFc q h) hFc (fun u t H locs ht hvm hw18 hB _ _ hS => ?_)
  obtain ⟨hT, hF1, m19⟩ := hB
  rw [ht] at hT hF1 m19
  have m20 := (hF1.fld hr_p0 skc_6 (k := 4) (by decide) (by decide)).trans m9
  have m21 := (hF1.fld hr_o0 skc_90 (k := 1) (by decide) (by decide)).trans m10
  have m22 := (hF1.fld hr_p0 skc_6 (k := 1) (by decide) (by decide)).trans m11
  have m23 := (hF1.fld hr_gr skc_93 (k := 0) (by decide) (by decide)).trans m12
  have m24 := (hF1.fld hr_go skc_5 (k := 0) (by decide) (by decide)).trans m13
  have m25 := m14.kept (hF1.arr hr_lb skc_25 (by decide))
  have m26 := (hF1.fld hr_o0 skc_90 (k := 0) (by decide) (by decide)).trans m15
  have m27 := (hF1.fld hr_p0 skc_6 (k := 0) (by decide) (by decide)).trans m16
  have hF := hF.more hF1 (by decide)
  try dsimp only at hw18
  refine lv_iconst (v := 0) hx hb dX3_copyFrom_22 (by decide) ?_
  refine lv_istore_n (lv' := [(2, .int 0), (0, .ref o0), (1, .ref p0)]) hx hb dX3_copyFrom_23 rfl hl (by decide) rfl (fun ls hl => ?_)
  have jn145 : ∀ (z131 : Int32), ∀ (z142 : Int32), ((0 ≤ z131.toInt ∧ z131.toInt ≤ 30) ∧ (0 ≤ z142.toInt ∧ z142.toInt ≤ 30)) → ∀ (H : Heap) (locs : List Loc), gH (dC, dI) kA (SHc nC nS) G H → gF (dC, dI) SKc G ([(71, 0), (72, 0), (73, 0), (74, 0), (75, 0), (76, 0), (77, 0), (78, 0), (79, 0), (80, 0), (81, 0), (82, 0), (83, 0), (84, 0), (88, 0), (89, 0), (90, 3), (90, 4), (91, 6), (92, 2), (93, 11), (93, 12), (93, 13), (93, 14), (94, 2), (94, 3), (94, 4), (94, 5), (94, 6), (94, 7), (94, 8), (94, 9), (94, 10), (94, 11)] : List (Nat × Nat)) s.heap H → va_S A s.heap H locs → ct H lb 96 VB → ct H la 96 VB → el H p0 (dI 6 4) = some (.int oh) → el H o0 (dI 6 1) = some (.ref gr) → el H p0 (dI 6 1) = some (.ref go) → el H gr (dI 5 0) = some (.ref la) → el H go (dI 5 0) = some (.ref lb) → el H o0 (dI 6 0) = some (.ref b2) → el H p0 (dI 6 0) = some (.ref b5) → el H p0 (dI 6 3) = some (.int z142) → ∀ ls : Array Slot, lv_has ls 3 [(2, .int z131), (0, .ref o0), (1, .ref p0)] → W p l e (headSpec w_c_copyL_iC ({ frames := 4, cells := 0, slots := 0, locals := 102 })).room s m #[.ref o0, .ref p0] below meth c H locs 0 0 (MQ below (va_Qv (fun (u : Int32) => (u.toInt = oh.toInt)) (fun (h1 : Int32) (t : State) => gH (dC, dI) kA (SHc nC nS) G t.heap ∧ gF (dC, dI) SKc G ([(71, 0), (72, 0), (73, 0), (74, 0), (75, 0), (76, 0), (77, 0), (78, 0), (79, 0), (80, 0), (81, 0), (82, 0), (83, 0), (84, 0), (88, 0), (89, 0), (90, 3), (90, 4), (91, 6), (92, 2), (93, 11), (93, 12), (93, 13), (93, 14), (94, 2), (94, 3), (94, 4), (94, 5), (94, 6), (94, 7), (94, 8), (94, 9), (94, 10), (94, 11)] : List (Nat × Nat)) s.heap t.heap ∧ el t.heap o0 (dI 6 4) = some (.int h1) ∧ ct t.heap la 96 VB) A) #[.ref o0, .ref p0] s 0 0 A) (F0 m 53 ls []) := by
    intro z131 z142 ⟨h132, h143⟩ H locs hT hF hS m133 m134 m135 m136 m137 m138 m139 m140 m141 m144 ls hl
    refine lv_aload_n hx hb dX3_copyFrom_53 rfl (lv_at hl 1 rfl) ?_
    refine lv_aload_n hx hb dX3_copyFrom_54 rfl (lv_at hl 2 rfl) ?_
    refine tw_getM (v := .int z142) hx hb hts bF2_X3 hown hK hT hr_p0 shc_6 rfl 3 (by decide) (ht_at2 hts 45 rfl) (fun _ h9 => h9) m144 dX3_copyFrom_55 ?_
    refine tw_put (v := .int z142) (ty := .int) hx hb hts bF2_X3 tyX3 tyX3_ok nmX3 hown hK hT hG hS hr_o0 shc_90 rfl 3 (by decide) (ht_at2 hts 45 rfl) (fun _ h9 => h9) rfl (by decide +kernel) rfl rfl (gl_at rfl (gi_of (show z142.toInt = z142.toInt from rfl) (by omega) (by omega))) dX3_copyFrom_58 (fun H locs hT oq m146 oj hS => ?_)
    have hF := hF.put hr_o0 skc_90 oq oj (by decide)
    have m148 := m134.kept (oq _ (gne hr_la hr_o0 (by decide)))
    have m149 := (el_kept (oq _ (gne hr_p0 hr_o0 (by decide)))).trans m135
    refine lv_aload_n hx hb dX3_copyFrom_61 rfl (lv_at hl 1 rfl) ?_
    refine lv_aload_n hx hb dX3_copyFrom_62 rfl (lv_at hl 2 rfl) ?_
    refine tw_getM (v := .int oh) hx hb hts bF2_X3 hown hK hT hr_p0 shc_6 rfl 4 (by decide) (ht_at2 hts 46 rfl) (fun _ h9 => h9) m149 dX3_copyFrom_63 ?_
    refine tw_put (v := .int oh) (ty := .int) hx hb hts bF2_X3 tyX3 tyX3_ok nmX3 hown hK hT hG hS hr_o0 shc_90 rfl 4 (by decide) (ht_at2 hts 46 rfl) (fun _ h9 => h9) rfl (by decide +kernel) rfl rfl (gl_at rfl (gi_of (show oh.toInt = oh.toInt from rfl) (by omega) (by omega))) dX3_copyFrom_66 (fun H locs hT oq m157 oj hS => ?_)
    have hF := hF.put hr_o0 skc_90 oq oj (by decide)
    have m159 := m148.kept (oq _ (gne hr_la hr_o0 (by decide)))
    exact W.vret hx hb hr (fun t ht hW => ⟨⟨oh, rfl, (by exact (by omega)), by (try dsimp only); rw [ht]; exact ⟨hT, hF, m157, m159⟩⟩, hS.F ht⟩) hS.2.2 dX3_copyFrom_69
  have key169 : ∀ (n169 i28 : Nat), i28 + n169 = 30 → 0 ≤ i28 → ∀ (H : Heap) (locs : List Loc), gH (dC, dI) kA (SHc nC nS) G H → gF (dC, dI) SKc G ([(71, 0), (72, 0), (73, 0), (74, 0), (75, 0), (76, 0), (77, 0), (78, 0), (79, 0), (80, 0), (81, 0), (82, 0), (83, 0), (84, 0), (88, 0), (89, 0), (90, 3), (90, 4), (91, 6), (92, 2), (93, 11), (93, 12), (93, 13), (93, 14), (94, 2), (94, 3), (94, 4), (94, 5), (94, 6), (94, 7), (94, 8), (94, 9), (94, 10), (94, 11)] : List (Nat × Nat)) s.heap H → va_S A s.heap H locs → ct H lb 96 VB → ct H la 96 VB → el H p0 (dI 6 4) = some (.int oh) → el H o0 (dI 6 1) = some (.ref gr) → el H p0 (dI 6 1) = some (.ref go) → el H gr (dI 5 0) = some (.ref la) → el H go (dI 5 0) = some (.ref lb) → el H o0 (dI 6 0) = some (.ref b2) → el H p0 (dI 6 0) = some (.ref b5) → ∀ ls : Array Slot, lv_has ls 3 [(2, .int (nI i28)), (0, .ref o0), (1, .ref p0)] → W p l e (headSpec w_c_copyL_iC ({ frames := 4, cells := 0, slots := 0, locals := 102 })).room s m #[.ref o0, .ref p0] below meth c H locs 0 0 (MQ below (va_Qv (fun (u : Int32) => (u.toInt = oh.toInt)) (fun (h1 : Int32) (t : State) => gH (dC, dI) kA (SHc nC nS) G t.heap ∧ gF (dC, dI) SKc G ([(71, 0), (72, 0), (73, 0), (74, 0), (75, 0), (76, 0), (77, 0), (78, 0), (79, 0), (80, 0), (81, 0), (82, 0), (83, 0), (84, 0), (88, 0), (89, 0), (90, 3), (90, 4), (91, 6), (92, 2), (93, 11), (93, 12), (93, 13), (93, 14), (94, 2), (94, 3), (94, 4), (94, 5), (94, 6), (94, 7), (94, 8), (94, 9), (94, 10), (94, 11)] : List (Nat × Nat)) s.heap t.heap ∧ el t.heap o0 (dI 6 4) = some (.int h1) ∧ ct t.heap la 96 VB) A) #[.ref o0, .ref p0] s 0 0 A) (F0 m 24 ls []) := by
    intro n169
    induction n169 with
    | zero =>
      intro i28 hn169 hlo170  H locs hT hF hS m29 m30 m31 m32 m33 m34 m35 m36 m37 ls hl
      obtain rfl : 30 = i28 := by omega
      refine lv_iload_n hx hb dX3_copyFrom_24 rfl (lv_at hl 0 rfl) ?_
      refine lv_aload_n hx hb dX3_copyFrom_25 rfl (lv_at hl 2 rfl) ?_
      refine tw_get hx hb hts bF2_X3 hown hK hT hr_p0 shc_6 rfl 3 (by decide) (ht_at2 hts 45 rfl) (fun _ h9 => h9) dX3_copyFrom_26 (fun v9 m171 h9 => ?_)
      obtain ⟨x172, rfl, gx172, kx172⟩ := h9 _ rfl
      refine lv_icmp_ge (tgt := 53) hx hb dX3_copyFrom_29 (by decide) (fun c173 => ?_) (fun c173 => (by exfalso; have q9 : ((30 : Nat) : Int) < x172.toInt := ti_nle c173 rfl (nI_toInt (by omega)); omega))
      have t174 : x172.toInt ≤ ((30 : Nat) : Int) := ti_le c173 rfl (nI_toInt (by omega))
      exact jn145 (nI 30) x172 ⟨(rg_t (a := ((30 : Nat) : Int)) (nI_toInt (by omega)) (by omega) (by omega)), (by have q8 := ti_all x172; omega)⟩ _ _ hT hF hS m29 m30 m31 m32 m33 m34 m35 m36 m37 m171 ls (lv_sub hl [0, 1, 2] rfl)
    | succ n169 ih169 =>
      intro i28 hn169 hlo170  H locs hT hF hS m29 m30 m31 m32 m33 m34 m35 m36 m37 ls hl
      have hlt174 : i28 < 30 := by omega
      refine lv_iload_n hx hb dX3_copyFrom_24 rfl (lv_at hl 0 rfl) ?_
      refine lv_aload_n hx hb dX3_copyFrom_25 rfl (lv_at hl 2 rfl) ?_
      refine tw_get hx hb hts bF2_X3 hown hK hT hr_p0 shc_6 rfl 3 (by decide) (ht_at2 hts 45 rfl) (fun _ h9 => h9) dX3_copyFrom_26 (fun v9 m175 h9 => ?_)
      obtain ⟨x176, rfl, gx176, kx176⟩ := h9 _ rfl
      refine lv_icmp_ge (tgt := 53) hx hb dX3_copyFrom_29 (by decide) (fun c177 => ?_) (fun c177 => ?_)
      · have t178 : x176.toInt ≤ ((i28 : Nat) : Int) := ti_le c177 rfl (nI_toInt (by omega))
        exact jn145 (nI i28) x176 ⟨(rg_t (a := ((i28 : Nat) : Int)) (nI_toInt (by omega)) (by omega) (by omega)), (by have q8 := ti_all x176; omega)⟩ _ _ hT hF hS m29 m30 m31 m32 m33 m34 m35 m36 m37 m175 ls (lv_sub hl [0, 1, 2] rfl)
      · have t179 : ((i28 : Nat) : Int) < x176.toInt := ti_nle c177 rfl (nI_toInt (by omega))
        refine lv_aload_n hx hb dX3_copyFrom_32 rfl (lv_at hl 1 rfl) ?_
        refine tw_get hx hb hts bF2_X3 hown hK hT hr_o0 shc_90 rfl 2 (by decide) (ht_at2 hts 47 rfl) (fun _ h9 => h9) dX3_copyFrom_33 (fun v9 m180 h9 => ?_)
        obtain ⟨b181, rfl, hg182⟩ := h9 _ rfl
        refine lv_iload_n hx hb dX3_copyFrom_36 rfl (lv_at hl 0 rfl) ?_
        refine tw_aald (i := (nI i28)) hx hb hK hT hg182 shc_70 rfl (vp_in_nI (by omega) (by decide)) dX3_copyFrom_37 (fun v9 m183 h9 => ?_)
        obtain ⟨b184, rfl, hg185⟩ := h9
        refine lv_aload_n hx hb dX3_copyFrom_38 rfl (lv_at hl 2 rfl) ?_
        refine tw_get hx hb hts bF2_X3 hown hK hT hr_p0 shc_6 rfl 2 (by decide) (ht_at2 hts 47 rfl) (fun _ h9 => h9) dX3_copyFrom_39 (fun v9 m186 h9 => ?_)
        obtain ⟨b187, rfl, hg188⟩ := h9 _ rfl
        refine lv_iload_n hx hb dX3_copyFrom_42 rfl (lv_at hl 0 rfl) ?_
        refine tw_aald (i := (nI i28)) hx hb hK hT hg188 shc_18 rfl (vp_in_nI (by omega) (by decide)) dX3_copyFrom_43 (fun v9 m189 h9 => ?_)
        obtain ⟨b190, rfl, hg191⟩ := h9
        have hFc := gA_free hG hA hS
        refine va_callv (va_runV (As := [.ref b190]) (rest := []) ⟨hx, hb, hml, hown, hts⟩ (c_copyW_i l dC dI kA adK adV G H nC nS b184 b190 hT hg185 hg191 (by omega) (by omega)) (cwV 1 hts (goodIn_app (goodIn_r _ [63, 64, 65, 66] rfl (by decide +kernel)) (goodIn_ca (goodIn_r _ [49, 50, 51, 5, 6, 7, 52, 53, 54, 55, 56, 57, 58, 59, 60, 61, 62] rfl (by decide +kernel)) (bs2_in _ _))) rfl rfl rfl (by decide +kernel) ⟨(Nat.le_of_ble_eq_true rfl), (Nat.le_of_ble_eq_true rfl)⟩) ⟨fun a U g mk q => by obtain ⟨q0, q1, qK, qE⟩ := q; exact ⟨q0, q1, va_K.moved (u := U) (U := U.calling g mk a) (Vm.Alike.refl U.vm) qK, EVC.blind g mk a qE⟩, gH_rc hK hT hg185 shc_94 rfl, fun U hU hW => ⟨rfl, hU, va_K.moved hW.alike hK, hE.call hS hFc hU hW⟩⟩ rfl rfl hl.1 rfl (lv_room (Nat.le_of_ble_eq_true rfl)) dX3_copyFrom_44 ⟨(Nat.le_of_ble_eq_true rfl), (Nat.le_of_ble_eq_true rfl)⟩) hS (fun q _ h => hFc q h) hFc (fun u t H locs ht hvm hw193 hB _ _ hS => ?_)
        obtain ⟨hT, hF1⟩ := hB
        rw [ht] at hT hF1
        have m194 := m29.kept (hF1.arr hr_lb skc_25 (by decide))
        have m195 := m30.kept (hF1.arr hr_la skc_77 (by decide))
        have m196 := (hF1.fld hr_p0 skc_6 (k := 4) (by decide) (by decide)).trans m31
        have m197 := (hF1.fld hr_o0 skc_90 (k := 1) (by decide) (by decide)).trans m32
        have m198 := (hF1.fld hr_p0 skc_6 (k := 1) (by decide) (by decide)).trans m33
        have m199 := (hF1.fld hr_gr skc_93 (k := 0) (by decide) (by decide)).trans m34
        have m200 := (hF1.fld hr_go skc_5 (k := 0) (by decide) (by decide)).trans m35
        have m201 := (hF1.fld hr_o0 skc_90 (k := 0) (by decide) (by decide)).trans m36
        have m202 := (hF1.fld hr_p0 skc_6 (k := 0) (by decide) (by decide)).trans m37
        have hF := hF.more hF1 (by decide)
        try dsimp only at hw193
        refine lv_iinc (v := nI (i28 + 1)) (lv' := [(2, .int (nI (i28 + 1))), (0, .ref o0), (1, .ref p0)]) hx hb dX3_copyFrom_47 hl (k := 0) rfl (nI_add i28 1) (by decide) rfl (fun ls hl => ?_)
        refine lv_goto (tgt := 24) hx hb dX3_copyFrom_50 (by decide) ?_
        exact ih169 (i28 + 1) (by omega) (by omega) _ _ hT hF hS m194 m195 m196 m197 m198 m199 m200 m201 m202 ls (lv_sub hl [0, 1, 2] rfl)
  exact key169 (30 - 0) 0 (by omega) (Nat.le_refl _) _ _ hT hF hS m25 m19 m20 m21 m22 m23 m24 m26 m27 ls (lv_sub hl [0, 1, 2] rfl)
def w_c_copyG_lC : List Cond := .code yX2_copyFrom cX2_copyFrom 2 none :: (HAppend.hAppend (α := List Cond) (β := List Cond) (γ := List Cond) [.fieldLink RX2 9 "SeaLand$Ground" "isLand" "[Z", .methodLink RX2 95 arraycopyName, .native arraycopyName, .static arraycopyName, .initialized "java/lang/System", .fieldLink RX2 15 "SeaLand$Ground" "height" "[I", .fieldLink RX2 19 "SeaLand$Ground" "soil" "[I", .fieldLink RX2 22 "SeaLand$Ground" "ditch" "[I", .fieldLink RX2 25 "SeaLand$Ground" "water" "[I", .fieldLink RX2 28 "SeaLand$Ground" "salt" "[I", .fieldLink RX2 31 "SeaLand$Ground" "dry" "[I", .fieldLink RX2 34 "SeaLand$Ground" "wet" "[I", .fieldLink RX2 54 "SeaLand$Ground" "rained" "I", .fieldLink RX2 57 "SeaLand$Ground" "cameIn" "I", .fieldLink RX2 64 "SeaLand$Ground" "wentOut" "I", .fieldLink RX2 50 "SeaLand$Ground" "toldMore" "I"] bs2)
set_option maxHeartbeats 4000000 in
set_option maxRecDepth 100000 in
theorem c_copyG_lC (l : Launch) (dC : Nat → ClassId) (dI : Nat → Nat → Nat) (kA : Nat → ClassId) (adK adV : Nat → Nat) (G : gT) (H0 : Heap) (nC nS : Int) (o0 : Nat) (p0 : Nat) (la : Nat) (lb : Nat) (VB : Nat → Int32)  (hT : gH (dC, dI) kA (SHc nC nS) G H0) (hr_o0 : G o0 = some 5) (hr_p0 : G p0 = some 93) (hm_la : el H0 o0 (dI 5 0) = some (.ref la)) (hr_la : G la = some 25) (hm_lb : el H0 p0 (dI 5 0) = some (.ref lb)) (hr_lb : G lb = some 77) (hc_VB : ct H0 lb 96 VB) (hgC : 0 ≤ nC ∧ nC ≤ 40) (hgS : 0 ≤ nS ∧ nS ≤ 60) : Met l yX2_copyFrom w_c_copyG_lC ({ frames := 2, cells := 0, slots := 0, locals := 60 }) (va_Pc [.ref o0, .ref p0] (fun U => U.heap = H0 ∧ va_K (dC, dI) vwCl (tyl kA) U ∧ EVC adK adV (gA G H0.size) U U.heap)) (va_Qv (fun (u : Unit) => True) (fun (_ : Unit) (t : State) => gH (dC, dI) kA (SHc nC nS) G t.heap ∧ gF (dC, dI) SKc G ([(5, 11), (5, 12), (5, 13), (5, 14), (25, 0), (26, 0), (27, 0), (28, 0), (29, 0), (30, 0), (31, 0), (32, 0)] : List (Nat × Nat)) H0 t.heap ∧ ct t.heap la 96 VB) (gA G H0.size)) 0 0 (gA G H0.size) := by
  refine Met.ofW (cc := cX2_copyFrom) (maxL := 2) (ret := none) (by decide) rfl ?_
  intro p e s m args below meth c s₁ B hml hv
  obtain ⟨rfl, hH0, hK, hE⟩ := hv
  have hx := B.exec
  have hb := B.bytes
  have hr := B.returns
  have hts := atoms_spec (ws := w_c_copyG_lC) B.pre
  have hown : s.vm.findClass RX2 = some m.cls := findClass_of_methodNamed B.named
  have hlocks := B.notSynchronized
  subst hH0
  generalize hAe : gA G s.heap.size = A at hE ⊢
  have hA : ∀ q : Nat, s.heap.size ≤ q → A q := fun q h => by rw [← hAe]; exact Or.inr h
  have hG := gA_of hAe
  have hS : va_S A s.heap s.heap [] := va_S.rf
  have hF : gF (dC, dI) SKc G ([(5, 11), (5, 12), (5, 13), (5, 14), (25, 0), (26, 0), (27, 0), (28, 0), (29, 0), (30, 0), (31, 0), (32, 0)] : List (Nat × Nat)) s.heap s.heap := gF.rf
  have hl := lv_entry ([.ref o0, .ref p0]) (n := 2) (Nat.le_of_ble_eq_true rfl)
  rw [lg_entry_eq]
  generalize (lg_sl ([.ref o0, .ref p0]) ++ List.replicate (2 - (lg_sl ([.ref o0, .ref p0])).length) Slot.unset).toArray = ls at hl ⊢
  have hl : lv_has ls 2 [(0, .ref o0), (1, .ref p0)] := hl
  refine lv_aload_n hx hb dX2_copyFrom_0 rfl (lv_at hl 1 rfl) ?_
  refine tw_getM (v := .ref lb) hx hb hts bF2_X2 hown hK hT hr_p0 shc_93 rfl 0 (by decide) (ht_at2 hts 0 rfl) (fun _ h9 => h9) hm_lb dX2_copyFrom_1 ?_
  refine lv_iconst (v := 0) hx hb dX2_copyFrom_4 (by decide) ?_
  refine lv_aload_n hx hb dX2_copyFrom_5 rfl (lv_at hl 0 rfl) ?_
  refine tw_getM (v := .ref la) hx hb hts bF2_X2 hown hK hT hr_o0 shc_5 rfl 0 (by decide) (ht_at2 hts 0 rfl) (fun _ h9 => h9) hm_la dX2_copyFrom_6 ?_
  refine lv_iconst (v := 0) hx hb dX2_copyFrom_9 (by decide) ?_
  refine lv_bipush (v := 96) hx hb dX2_copyFrom_10 (by decide) ?_
  refine tw_copyE (ty := .boolean) hx hb (hml.trans hl.1.symm) hown (ht_at2 hts 1 rfl) (ht_at2 hts 2 rfl) (ht_at2 hts 3 rfl) (ht_at2 hts 4 rfl) hK hT hG hS hr_lb hr_la shc_77 shc_25 rfl rfl (by decide) (by decide) (by decide) (by decide) (by decide) (by decide) (by decide) (fun _ _ h9 => by obtain ⟨x9, e9, a9, b9⟩ := h9; exact ⟨x9, e9, fit_b ⟨a9, b9⟩⟩) (fun _ _ _ h9 => h9) (Nat.le_of_ble_eq_true rfl) (Nat.le_of_ble_eq_true rfl) dX2_copyFrom_12 (fun H locs hT oq ce1 hS => ?_)
  have hF := hF.ast hr_la skc_25 oq (by decide)
  have m2 : ct H la 96 VB := fun i9 hi9 => (ce1 i9 (by have q8 : (96 : Int32).toNatClampNeg = 96 := (by decide); omega)).trans (hc_VB i9 hi9)
  refine lv_aload_n hx hb dX2_copyFrom_15 rfl (lv_at hl 1 rfl) ?_
  refine tw_get hx hb hts bF2_X2 hown hK hT hr_p0 shc_93 rfl 1 (by decide) (ht_at2 hts 5 rfl) (fun _ h9 => h9) dX2_copyFrom_16 (fun v9 m6 h9 => ?_)
  obtain ⟨b7, rfl, hg8⟩ := h9 _ rfl
  refine lv_iconst (v := 0) hx hb dX2_copyFrom_19 (by decide) ?_
  refine lv_aload_n hx hb dX2_copyFrom_20 rfl (lv_at hl 0 rfl) ?_
  refine tw_get hx hb hts bF2_X2 hown hK hT hr_o0 shc_5 rfl 1 (by decide) (ht_at2 hts 5 rfl) (fun _ h9 => h9) dX2_copyFrom_21 (fun v9 m9 h9 => ?_)
  obtain ⟨b10, rfl, hg11⟩ := h9 _ rfl
  refine lv_iconst (v := 0) hx hb dX2_copyFrom_24 (by decide) ?_
  refine lv_bipush (v := 96) hx hb dX2_copyFrom_25 (by decide) ?_
  refine tw_copy (ty := .int) hx hb (hml.trans hl.1.symm) hown (ht_at2 hts 1 rfl) (ht_at2 hts 2 rfl) (ht_at2 hts 3 rfl) (ht_at2 hts 4 rfl) hK hT hG hS hg8 hg11 shc_78 shc_26 rfl rfl (by decide) (by decide) (by decide) (by decide) (by decide) (fun _ _ h9 => by obtain ⟨x9, e9, _⟩ := h9; exact ⟨x9, e9, rfl⟩) (fun _ _ _ h9 => h9) (Nat.le_of_ble_eq_true rfl) (Nat.le_of_ble_eq_true rfl) dX2_copyFrom_27 (fun H locs hT oq hS => ?_)
  have hF := hF.ast hg11 skc_26 oq (by decide)
  have m15 := m2.kept (oq _ (gne hr_la hg11 (by decide)))
  refine lv_aload_n hx hb dX2_copyFrom_30 rfl (lv_at hl 1 rfl) ?_
  refine tw_get hx hb hts bF2_X2 hown hK hT hr_p0 shc_93 rfl 2 (by decide) (ht_at2 hts 6 rfl) (fun _ h9 => h9) dX2_copyFrom_31 (fun v9 m18 h9 => ?_)
  obtain ⟨b19, rfl, hg20⟩ := h9 _ rfl
  refine lv_iconst (v := 0) hx hb dX2_copyFrom_34 (by decide) ?_
  refine lv_aload_n hx hb dX2_copyFrom_35 rfl (lv_at hl 0 rfl) ?_
  refine tw_get hx hb hts bF2_X2 hown hK hT hr_o0 shc_5 rfl 2 (by decide) (ht_at2 hts 6 rfl) (fun _ h9 => h9) dX2_copyFrom_36 (fun v9 m21 h9 => ?_)
  obtain ⟨b22, rfl, hg23⟩ := h9 _ rfl
  refine lv_iconst (v := 0) hx hb dX2_copyFrom_39 (by decide) ?_
  refine lv_bipush (v := 96) hx hb dX2_copyFrom_40 (by decide) ?_
  refine tw_copy (ty := .int) hx hb (hml.trans hl.1.symm) hown (ht_at2 hts 1 rfl) (ht_at2 hts 2 rfl) (ht_at2 hts 3 rfl) (ht_at2 hts 4 rfl) hK hT hG hS hg20 hg23 shc_79 shc_27 rfl rfl (by decide) (by decide) (by decide) (by decide) (by decide) (fun _ _ h9 => by obtain ⟨x9, e9, _⟩ := h9; exact ⟨x9, e9, rfl⟩) (fun _ _ _ h9 => h9) (Nat.le_of_ble_eq_true rfl) (Nat.le_of_ble_eq_true rfl) dX2_copyFrom_42 (fun H locs hT oq hS => ?_)
  have hF := hF.ast hg23 skc_27 oq (by decide)
  have m27 := m15.kept (oq _ (gne hr_la hg23 (by decide)))
  refine lv_aload_n hx hb dX2_copyFrom_45 rfl (lv_at hl 1 rfl) ?_
  refine tw_get hx hb hts bF2_X2 hown hK hT hr_p0 shc_93 rfl 3 (by decide) (ht_at2 hts 7 rfl) (fun _ h9 => h9) dX2_copyFrom_46 (fun v9 m32 h9 => ?_)
  obtain ⟨b33, rfl, hg34⟩ := h9 _ rfl
  refine lv_iconst (v := 0) hx hb dX2_copyFrom_49 (by decide) ?_
  refine lv_aload_n hx hb dX2_copyFrom_50 rfl (lv_at hl 0 rfl) ?_
  refine tw_get hx hb hts bF2_X2 hown hK hT hr_o0 shc_5 rfl 3 (by decide) (ht_at2 hts 7 rfl) (fun _ h9 => h9) dX2_copyFrom_51 (fun v9 m35 h9 => ?_)
  obtain ⟨b36, rfl, hg37⟩ := h9 _ rfl
  refine lv_iconst (v := 0) hx hb dX2_copyFrom_54 (by decide) ?_
  refine lv_bipush (v := 96) hx hb dX2_copyFrom_55 (by decide) ?_
  refine tw_copy (ty := .int) hx hb (hml.trans hl.1.symm) hown (ht_at2 hts 1 rfl) (ht_at2 hts 2 rfl) (ht_at2 hts 3 rfl) (ht_at2 hts 4 rfl) hK hT hG hS hg34 hg37 shc_80 shc_28 rfl rfl (by decide) (by decide) (by decide) (by decide) (by decide) (fun _ _ h9 => by obtain ⟨x9, e9, _⟩ := h9; exact ⟨x9, e9, rfl⟩) (fun _ _ _ h9 => h9) (Nat.le_of_ble_eq_true rfl) (Nat.le_of_ble_eq_true rfl) dX2_copyFrom_57 (fun H locs hT oq hS => ?_)
  have hF := hF.ast hg37 skc_28 oq (by decide)
  have m41 := m27.kept (oq _ (gne hr_la hg37 (by decide)))
  refine lv_aload_n hx hb dX2_copyFrom_60 rfl (lv_at hl 1 rfl) ?_
  refine tw_get hx hb hts bF2_X2 hown hK hT hr_p0 shc_93 rfl 4 (by decide) (ht_at2 hts 8 rfl) (fun _ h9 => h9) dX2_copyFrom_61 (fun v9 m48 h9 => ?_)
  obtain ⟨b49, rfl, hg50⟩ := h9 _ rfl
  refine lv_iconst (v := 0) hx hb dX2_copyFrom_64 (by decide) ?_
  refine lv_aload_n hx hb dX2_copyFrom_65 rfl (lv_at hl 0 rfl) ?_
  refine tw_get hx hb hts bF2_X2 hown hK hT hr_o0 shc_5 rfl 4 (by decide) (ht_at2 hts 8 rfl) (fun _ h9 => h9) dX2_copyFrom_66 (fun v9 m51 h9 => ?_)
  obtain ⟨b52, rfl, hg53⟩ := h9 _ rfl
  refine lv_iconst (v := 0) hx hb dX2_copyFrom_69 (by decide) ?_
  refine lv_bipush (v := 96) hx hb dX2_copyFrom_70 (by decide) ?_
  refine tw_copy (ty := .int) hx hb (hml.trans hl.1.symm) hown (ht_at2 hts 1 rfl) (ht_at2 hts 2 rfl) (ht_at2 hts 3 rfl) (ht_at2 hts 4 rfl) hK hT hG hS hg50 hg53 shc_81 shc_29 rfl rfl (by decide) (by decide) (by decide) (by decide) (by decide) (fun _ _ h9 => by obtain ⟨x9, e9, _⟩ := h9; exact ⟨x9, e9, rfl⟩) (fun _ _ _ h9 => h9) (Nat.le_of_ble_eq_true rfl) (Nat.le_of_ble_eq_true rfl) dX2_copyFrom_72 (fun H locs hT oq hS => ?_)
  have hF := hF.ast hg53 skc_29 oq (by decide)
  have m57 := m41.kept (oq _ (gne hr_la hg53 (by decide)))
  refine lv_aload_n hx hb dX2_copyFrom_75 rfl (lv_at hl 1 rfl) ?_
  refine tw_get hx hb hts bF2_X2 hown hK hT hr_p0 shc_93 rfl 5 (by decide) (ht_at2 hts 9 rfl) (fun _ h9 => h9) dX2_copyFrom_76 (fun v9 m66 h9 => ?_)
  obtain ⟨b67, rfl, hg68⟩ := h9 _ rfl
  refine lv_iconst (v := 0) hx hb dX2_copyFrom_79 (by decide) ?_
  refine lv_aload_n hx hb dX2_copyFrom_80 rfl (lv_at hl 0 rfl) ?_
  refine tw_get hx hb hts bF2_X2 hown hK hT hr_o0 shc_5 rfl 5 (by decide) (ht_at2 hts 9 rfl) (fun _ h9 => h9) dX2_copyFrom_81 (fun v9 m69 h9 => ?_)
  obtain ⟨b70, rfl, hg71⟩ := h9 _ rfl
  refine lv_iconst (v := 0) hx hb dX2_copyFrom_84 (by decide) ?_
  refine lv_bipush (v := 96) hx hb dX2_copyFrom_85 (by decide) ?_
  refine tw_copy (ty := .int) hx hb (hml.trans hl.1.symm) hown (ht_at2 hts 1 rfl) (ht_at2 hts 2 rfl) (ht_at2 hts 3 rfl) (ht_at2 hts 4 rfl) hK hT hG hS hg68 hg71 shc_82 shc_30 rfl rfl (by decide) (by decide) (by decide) (by decide) (by decide) (fun _ _ h9 => by obtain ⟨x9, e9, _⟩ := h9; exact ⟨x9, e9, rfl⟩) (fun _ _ _ h9 => h9) (Nat.le_of_ble_eq_true rfl) (Nat.le_of_ble_eq_true rfl) dX2_copyFrom_87 (fun H locs hT oq hS => ?_)
  have hF := hF.ast hg71 skc_30 oq (by decide)
  have m75 := m57.kept (oq _ (gne hr_la hg71 (by decide)))
  refine lv_aload_n hx hb dX2_copyFrom_90 rfl (lv_at hl 1 rfl) ?_
  refine tw_get hx hb hts bF2_X2 hown hK hT hr_p0 shc_93 rfl 6 (by decide) (ht_at2 hts 10 rfl) (fun _ h9 => h9) dX2_copyFrom_91 (fun v9 m86 h9 => ?_)
  obtain ⟨b87, rfl, hg88⟩ := h9 _ rfl
  refine lv_iconst (v := 0) hx hb dX2_copyFrom_94 (by decide) ?_
  refine lv_aload_n hx hb dX2_copyFrom_95 rfl (lv_at hl 0 rfl) ?_
  refine tw_get hx hb hts bF2_X2 hown hK hT hr_o0 shc_5 rfl 6 (by decide) (ht_at2 hts 10 rfl) (fun _ h9 => h9) dX2_copyFrom_96 (fun v9 m89 h9 => ?_)
  obtain ⟨b90, rfl, hg91⟩ := h9 _ rfl
  refine lv_iconst (v := 0) hx hb dX2_copyFrom_99 (by decide) ?_
  refine lv_bipush (v := 96) hx hb dX2_copyFrom_100 (by decide) ?_
  refine tw_copy (ty := .int) hx hb (hml.trans hl.1.symm) hown (ht_at2 hts 1 rfl) (ht_at2 hts 2 rfl) (ht_at2 hts 3 rfl) (ht_at2 hts 4 rfl) hK hT hG hS hg88 hg91 shc_83 shc_31 rfl rfl (by decide) (by decide) (by decide) (by decide) (by decide) (fun _ _ h9 => by obtain ⟨x9, e9, _⟩ := h9; exact ⟨x9, e9, rfl⟩) (fun _ _ _ h9 => h9) (Nat.le_of_ble_eq_true rfl) (Nat.le_of_ble_eq_true rfl) dX2_copyFrom_102 (fun H locs hT oq hS => ?_)
  have hF := hF.ast hg91 skc_31 oq (by decide)
  have m95 := m75.kept (oq _ (gne hr_la hg91 (by decide)))
  refine lv_aload_n hx hb dX2_copyFrom_105 rfl (lv_at hl 1 rfl) ?_
  refine tw_get hx hb hts bF2_X2 hown hK hT hr_p0 shc_93 rfl 7 (by decide) (ht_at2 hts 11 rfl) (fun _ h9 => h9) dX2_copyFrom_106 (fun v9 m108 h9 => ?_)
  obtain ⟨b109, rfl, hg110⟩ := h9 _ rfl
  refine lv_iconst (v := 0) hx hb dX2_copyFrom_109 (by decide) ?_
  refine lv_aload_n hx hb dX2_copyFrom_110 rfl (lv_at hl 0 rfl) ?_
  refine tw_get hx hb hts bF2_X2 hown hK hT hr_o0 shc_5 rfl 7 (by decide) (ht_at2 hts 11 rfl) (fun _ h9 => h9) dX2_copyFrom_111 (fun v9 m111 h9 => ?_)
  obtain ⟨b112, rfl, hg113⟩ := h9 _ rfl
  refine lv_iconst (v := 0) hx hb dX2_copyFrom_114 (by decide) ?_
  refine lv_bipush (v := 96) hx hb dX2_copyFrom_115 (by decide) ?_
  refine tw_copy (ty := .int) hx hb (hml.trans hl.1.symm) hown (ht_at2 hts 1 rfl) (ht_at2 hts 2 rfl) (ht_at2 hts 3 rfl) (ht_at2 hts 4 rfl) hK hT hG hS hg110 hg113 shc_84 shc_32 rfl rfl (by decide) (by decide) (by decide) (by decide) (by decide) (fun _ _ h9 => by obtain ⟨x9, e9, _⟩ := h9; exact ⟨x9, e9, rfl⟩) (fun _ _ _ h9 => h9) (Nat.le_of_ble_eq_true rfl) (Nat.le_of_ble_eq_true rfl) dX2_copyFrom_117 (fun H locs hT oq hS => ?_)
  have hF := hF.ast hg113 skc_32 oq (by decide)
  have m117 := m95.kept (oq _ (gne hr_la hg113 (by decide)))
  refine lv_aload_n hx hb dX2_copyFrom_120 rfl (lv_at hl 0 rfl) ?_
  refine lv_aload_n hx hb dX2_copyFrom_121 rfl (lv_at hl 1 rfl) ?_
  refine tw_get hx hb hts bF2_X2 hown hK hT hr_p0 shc_93 rfl 11 (by decide) (ht_at2 hts 12 rfl) (fun _ h9 => h9) dX2_copyFrom_122 (fun v9 m132 h9 => ?_)
  obtain ⟨x133, rfl, gx133, kx133⟩ := h9 _ rfl
  refine tw_put (v := .int x133) (ty := .int) hx hb hts bF2_X2 tyX2 tyX2_ok nmX2 hown hK hT hG hS hr_o0 shc_5 rfl 11 (by decide) (ht_at2 hts 12 rfl) (fun _ h9 => h9) rfl (by decide +kernel) rfl rfl (gl_at rfl (gi_all _)) dX2_copyFrom_125 (fun H locs hT oq m134 oj hS => ?_)
  have hF := hF.put hr_o0 skc_5 oq oj (by decide)
  have m138 := m117.kept (oq _ (gne hr_la hr_o0 (by decide)))
  refine lv_aload_n hx hb dX2_copyFrom_128 rfl (lv_at hl 0 rfl) ?_
  refine lv_aload_n hx hb dX2_copyFrom_129 rfl (lv_at hl 1 rfl) ?_
  refine tw_get hx hb hts bF2_X2 hown hK hT hr_p0 shc_93 rfl 12 (by decide) (ht_at2 hts 13 rfl) (fun _ h9 => h9) dX2_copyFrom_130 (fun v9 m154 h9 => ?_)
  obtain ⟨x155, rfl, gx155, kx155⟩ := h9 _ rfl
  refine tw_put (v := .int x155) (ty := .int) hx hb hts bF2_X2 tyX2 tyX2_ok nmX2 hown hK hT hG hS hr_o0 shc_5 rfl 12 (by decide) (ht_at2 hts 13 rfl) (fun _ h9 => h9) rfl (by decide +kernel) rfl rfl (gl_at rfl (gi_all _)) dX2_copyFrom_133 (fun H locs hT oq m156 oj hS => ?_)
  have hF := hF.put hr_o0 skc_5 oq oj (by decide)
  have m160 := m138.kept (oq _ (gne hr_la hr_o0 (by decide)))
  refine lv_aload_n hx hb dX2_copyFrom_136 rfl (lv_at hl 0 rfl) ?_
  refine lv_aload_n hx hb dX2_copyFrom_137 rfl (lv_at hl 1 rfl) ?_
  refine tw_get hx hb hts bF2_X2 hown hK hT hr_p0 shc_93 rfl 13 (by decide) (ht_at2 hts 14 rfl) (fun _ h9 => h9) dX2_copyFrom_138 (fun v9 m178 h9 => ?_)
  obtain ⟨x179, rfl, gx179, kx179⟩ := h9 _ rfl
  refine tw_put (v := .int x179) (ty := .int) hx hb hts bF2_X2 tyX2 tyX2_ok nmX2 hown hK hT hG hS hr_o0 shc_5 rfl 13 (by decide) (ht_at2 hts 14 rfl) (fun _ h9 => h9) rfl (by decide +kernel) rfl rfl (gl_at rfl (gi_all _)) dX2_copyFrom_141 (fun H locs hT oq m180 oj hS => ?_)
  have hF := hF.put hr_o0 skc_5 oq oj (by decide)
  have m184 := m160.kept (oq _ (gne hr_la hr_o0 (by decide)))
  refine lv_aload_n hx hb dX2_copyFrom_144 rfl (lv_at hl 0 rfl) ?_
  refine lv_aload_n hx hb dX2_copyFrom_145 rfl (lv_at hl 1 rfl) ?_
  refine tw_get hx hb hts bF2_X2 hown hK hT hr_p0 shc_93 rfl 14 (by decide) (ht_at2 hts 15 rfl) (fun _ h9 => h9) dX2_copyFrom_146 (fun v9 m204 h9 => ?_)
  obtain ⟨x205, rfl, gx205, kx205⟩ := h9 _ rfl
  refine tw_put (v := .int x205) (ty := .int) hx hb hts bF2_X2 tyX2 tyX2_ok nmX2 hown hK hT hG hS hr_o0 shc_5 rfl 14 (by decide) (ht_at2 hts 15 rfl) (fun _ h9 => h9) rfl (by decide +kernel) rfl rfl (gl_at rfl (gi_all _)) dX2_copyFrom_149 (fun H locs hT oq m206 oj hS => ?_)
  have hF := hF.put hr_o0 skc_5 oq oj (by decide)
  have m210 := m184.kept (oq _ (gne hr_la hr_o0 (by decide)))
  exact W.vret hx hb hr (fun t ht hW => ⟨⟨(), rfl, (by exact trivial), by (try dsimp only); rw [ht]; exact ⟨hT, hF, m210⟩⟩, hS.F ht⟩) hS.2.2 dX2_copyFrom_152
def w_c_copyL_lC : List Cond := .code yX3_copyFrom cX3_copyFrom 3 none :: (HAppend.hAppend (α := List Cond) (β := List Cond) (γ := List Cond) [.fieldLink RX3 12 "SeaLand$Lake" "sky" "LSeaLand$Sky;", .code yX8_copyFrom cX8_copyFrom 2 none, .fieldLink RX8 9 "SeaLand$Sky" "tides" "[I", .methodLink RX8 63 arraycopyName, .native arraycopyName, .static arraycopyName, .initialized "java/lang/System", .fieldLink RX8 15 "SeaLand$Sky" "stormFrom" "[I", .fieldLink RX8 18 "SeaLand$Sky" "stormTo" "[I", .fieldLink RX8 21 "SeaLand$Sky" "stormMore" "[I", .fieldLink RX8 27 "SeaLand$Sky" "wind" "LSeaLand$Tellings;", .code yX9_copyFrom cX9_copyFrom 2 none, .fieldLink RX9 9 "SeaLand$Tellings" "hours" "[I", .methodLink RX9 23 arraycopyName, .fieldLink RX9 15 "SeaLand$Tellings" "numbers" "[I", .fieldLink RX9 18 "SeaLand$Tellings" "told" "I", .methodLink RX8 69 yX9_copyFrom, .instanceMethod yX9_copyFrom, .selects RX9 yX9_copyFrom yX9_copyFrom, .initialized RX9, .fieldLink RX8 31 "SeaLand$Sky" "rain" "LSeaLand$Tellings;", .fieldLink RX8 34 "SeaLand$Sky" "storms" "I", .methodLink RX3 175 yX8_copyFrom, .instanceMethod yX8_copyFrom, .selects RX8 yX8_copyFrom yX8_copyFrom, .initialized RX8, .fieldLink RX3 21 "SeaLand$Lake" "ground" "LSeaLand$Ground;", .code yX2_copyFrom cX2_copyFrom 2 none, .fieldLink RX2 9 "SeaLand$Ground" "isLand" "[Z", .methodLink RX2 95 arraycopyName, .fieldLink RX2 15 "SeaLand$Ground" "height" "[I", .fieldLink RX2 19 "SeaLand$Ground" "soil" "[I", .fieldLink RX2 22 "SeaLand$Ground" "ditch" "[I", .fieldLink RX2 25 "SeaLand$Ground" "water" "[I", .fieldLink RX2 28 "SeaLand$Ground" "salt" "[I", .fieldLink RX2 31 "SeaLand$Ground" "dry" "[I", .fieldLink RX2 34 "SeaLand$Ground" "wet" "[I", .fieldLink RX2 54 "SeaLand$Ground" "rained" "I", .fieldLink RX2 57 "SeaLand$Ground" "cameIn" "I", .fieldLink RX2 64 "SeaLand$Ground" "wentOut" "I", .fieldLink RX2 50 "SeaLand$Ground" "toldMore" "I", .methodLink RX3 179 yX2_copyFrom, .instanceMethod yX2_copyFrom, .selects RX2 yX2_copyFrom yX2_copyFrom, .initialized RX2, .fieldLink RX3 47 "SeaLand$Lake" "built" "I", .fieldLink RX3 32 "SeaLand$Lake" "hour" "I", .fieldLink RX3 27 "SeaLand$Lake" "works" "[LSeaLand$Work;", .code yX10_copyFrom cX10_copyFrom 2 none, .fieldLink RX10 9 "SeaLand$Work" "thick" "[I", .methodLink RX10 60 arraycopyName, .fieldLink RX10 15 "SeaLand$Work" "clay" "[I", .fieldLink RX10 18 "SeaLand$Work" "kind" "I", .fieldLink RX10 22 "SeaLand$Work" "square" "I", .fieldLink RX10 25 "SeaLand$Work" "to" "I", .fieldLink RX10 28 "SeaLand$Work" "size" "I", .fieldLink RX10 31 "SeaLand$Work" "width" "I", .fieldLink RX10 34 "SeaLand$Work" "layers" "I", .fieldLink RX10 37 "SeaLand$Work" "coal" "I", .fieldLink RX10 40 "SeaLand$Work" "on" "Z", .fieldLink RX10 44 "SeaLand$Work" "latest" "I", .fieldLink RX10 47 "SeaLand$Work" "total" "I", .methodLink RX3 182 yX10_copyFrom, .instanceMethod yX10_copyFrom, .selects RX10 yX10_copyFrom yX10_copyFrom, .initialized RX10] bs2)
set_option maxHeartbeats 4000000 in
set_option maxRecDepth 100000 in
theorem c_copyL_lC (l : Launch) (dC : Nat → ClassId) (dI : Nat → Nat → Nat) (kA : Nat → ClassId) (adK adV : Nat → Nat) (G : gT) (H0 : Heap) (nC nS : Int) (o0 : Nat) (p0 : Nat) (oh : Int32) (gr : Nat) (go : Nat) (la : Nat) (lb : Nat) (VB : Nat → Int32)  (hT : gH (dC, dI) kA (SHc nC nS) G H0) (hr_o0 : G o0 = some 6) (hr_p0 : G p0 = some 90) (hm_oh : el H0 p0 (dI 6 4) = some (.int oh)) (hm_gr : el H0 o0 (dI 6 1) = some (.ref gr)) (hr_gr : G gr = some 5) (hm_go : el H0 p0 (dI 6 1) = some (.ref go)) (hr_go : G go = some 93) (hm_la : el H0 gr (dI 5 0) = some (.ref la)) (hr_la : G la = some 25) (hm_lb : el H0 go (dI 5 0) = some (.ref lb)) (hr_lb : G lb = some 77) (hq0 : 0 ≤ oh.toInt ∧ oh.toInt ≤ 40000) (hc_VB : ct H0 lb 96 VB) (hgC : 0 ≤ nC ∧ nC ≤ 40) (hgS : 0 ≤ nS ∧ nS ≤ 60) : Met l yX3_copyFrom w_c_copyL_lC ({ frames := 4, cells := 0, slots := 0, locals := 102 }) (va_Pc [.ref o0, .ref p0] (fun U => U.heap = H0 ∧ va_K (dC, dI) vwCl (tyl kA) U ∧ EVC adK adV (gA G H0.size) U U.heap)) (va_Qv (fun (u : Int32) => (u.toInt = oh.toInt)) (fun (h1 : Int32) (t : State) => gH (dC, dI) kA (SHc nC nS) G t.heap ∧ gF (dC, dI) SKc G ([(5, 11), (5, 12), (5, 13), (5, 14), (6, 3), (6, 4), (11, 6), (12, 2), (13, 2), (13, 3), (13, 4), (13, 5), (13, 6), (13, 7), (13, 8), (13, 9), (13, 10), (13, 11), (19, 0), (20, 0), (21, 0), (22, 0), (23, 0), (24, 0), (25, 0), (26, 0), (27, 0), (28, 0), (29, 0), (30, 0), (31, 0), (32, 0), (36, 0), (37, 0)] : List (Nat × Nat)) H0 t.heap ∧ el t.heap o0 (dI 6 4) = some (.int h1) ∧ ct t.heap la 96 VB) (gA G H0.size)) 0 0 (gA G H0.size) := by
  refine Met.ofW (cc := cX3_copyFrom) (maxL := 3) (ret := none) (by decide) rfl ?_
  intro p e s m args below meth c s₁ B hml hv
  obtain ⟨rfl, hH0, hK, hE⟩ := hv
  have hx := B.exec
  have hb := B.bytes
  have hr := B.returns
  have hts := atoms_spec (ws := w_c_copyL_lC) B.pre
  have hown : s.vm.findClass RX3 = some m.cls := findClass_of_methodNamed B.named
  have hlocks := B.notSynchronized
  subst hH0
  generalize hAe : gA G s.heap.size = A at hE ⊢
  have hA : ∀ q : Nat, s.heap.size ≤ q → A q := fun q h => by rw [← hAe]; exact Or.inr h
  have hG := gA_of hAe
  have hS : va_S A s.heap s.heap [] := va_S.rf
  have hF : gF (dC, dI) SKc G ([(5, 11), (5, 12), (5, 13), (5, 14), (6, 3), (6, 4), (11, 6), (12, 2), (13, 2), (13, 3), (13, 4), (13, 5), (13, 6), (13, 7), (13, 8), (13, 9), (13, 10), (13, 11), (19, 0), (20, 0), (21, 0), (22, 0), (23, 0), (24, 0), (25, 0), (26, 0), (27, 0), (28, 0), (29, 0), (30, 0), (31, 0), (32, 0), (36, 0), (37, 0)] : List (Nat × Nat)) s.heap s.heap := gF.rf
  have hl := lv_entry ([.ref o0, .ref p0]) (n := 3) (Nat.le_of_ble_eq_true rfl)
  rw [lg_entry_eq]
  generalize (lg_sl ([.ref o0, .ref p0]) ++ List.replicate (3 - (lg_sl ([.ref o0, .ref p0])).length) Slot.unset).toArray = ls at hl ⊢
  have hl : lv_has ls 3 [(0, .ref o0), (1, .ref p0)] := hl
  refine lv_aload_n hx hb dX3_copyFrom_0 rfl (lv_at hl 0 rfl) ?_
  refine tw_get hx hb hts bF2_X3 hown hK hT hr_o0 shc_6 rfl 0 (by decide) (ht_at2 hts 0 rfl) (fun _ h9 => h9) dX3_copyFrom_1 (fun v9 m1 h9 => ?_)
  obtain ⟨b2, rfl, hg3⟩ := h9 _ rfl
  refine lv_aload_n hx hb dX3_copyFrom_4 rfl (lv_at hl 1 rfl) ?_
  refine tw_get hx hb hts bF2_X3 hown hK hT hr_p0 shc_90 rfl 0 (by decide) (ht_at2 hts 0 rfl) (fun _ h9 => h9) dX3_copyFrom_5 (fun v9 m4 h9 => ?_)
  obtain ⟨b5, rfl, hg6⟩ := h9 _ rfl
  have hFc := gA_free hG hA hS
  refine va_callv (va_runV (As := [.ref b5]) (rest := []) ⟨hx, hb, hml, hown, hts⟩ (c_copyS_l l dC dI kA adK adV G s.heap nC nS b2 b5 hT hg3 hg6 (by omega) (by omega)) (cwV 1 hts (goodIn_app (goodIn_r _ [23, 24, 25, 26] rfl (by decide +kernel)) (goodIn_ca (goodIn_r _ [2, 3, 4, 5, 6, 7, 8, 9, 10, 11, 12, 13, 14, 15, 16, 17, 18, 19, 20, 21, 22] rfl (by decide +kernel)) (bs2_in _ _))) rfl rfl rfl (by decide +kernel) ⟨(Nat.le_of_ble_eq_true rfl), (Nat.le_of_ble_eq_true rfl)⟩) ⟨fun a U g mk q => by obtain ⟨q0, q1, qK, qE⟩ := q; exact ⟨q0, q1, va_K.moved (u := U) (U := U.calling g mk a) (Vm.Alike.refl U.vm) qK, EVC.blind g mk a qE⟩, gH_rc hK hT hg3 shc_11 rfl, fun U hU hW => ⟨rfl, hU, va_K.moved hW.alike hK, hE.call hS hFc hU hW⟩⟩ rfl rfl hl.1 rfl (lv_room (Nat.le_of_ble_eq_true rfl)) dX3_copyFrom_8 ⟨(Nat.le_of_ble_eq_true rfl), (Nat.le_of_ble_eq_true rfl)⟩) hS (fun q _ h => hFc q h) hFc (fun u t H locs ht hvm hw8 hB _ _ hS => ?_)
  obtain ⟨hT, hF1⟩ := hB
  rw [ht] at hT hF1
  have m9 := (hF1.fld hr_p0 skc_90 (k := 4) (by decide) (by decide)).trans hm_oh
  have m10 := (hF1.fld hr_o0 skc_6 (k := 1) (by decide) (by decide)).trans hm_gr
  have m11 := (hF1.fld hr_p0 skc_90 (k := 1) (by decide) (by decide)).trans hm_go
  have m12 := (hF1.fld hr_gr skc_5 (k := 0) (by decide) (by decide)).trans hm_la
  have m13 := (hF1.fld hr_go skc_93 (k := 0) (by decide) (by decide)).trans hm_lb
  have m14 := hc_VB.kept (hF1.arr hr_lb skc_77 (by decide))
  have m15 := (hF1.fld hr_o0 skc_6 (k := 0) (by decide) (by decide)).trans m1
  have m16 := (hF1.fld hr_p0 skc_90 (k := 0) (by decide) (by decide)).trans m4
  have hF := hF.more hF1 (by decide)
  try dsimp only at hw8
  refine lv_aload_n hx hb dX3_copyFrom_11 rfl (lv_at hl 0 rfl) ?_
  refine tw_getM (v := .ref gr) hx hb hts bF2_X3 hown hK hT hr_o0 shc_6 rfl 1 (by decide) (ht_at2 hts 26 rfl) (fun _ h9 => h9) m10 dX3_copyFrom_12 ?_
  refine lv_aload_n hx hb dX3_copyFrom_15 rfl (lv_at hl 1 rfl) ?_
  refine tw_getM (v := .ref go) hx hb hts bF2_X3 hown hK hT hr_p0 shc_90 rfl 1 (by decide) (ht_at2 hts 26 rfl) (fun _ h9 => h9) m11 dX3_copyFrom_16 ?_
  have hFc := gA_free hG hA hS
  refine va_callv (va_runV (As := [.ref go]) (rest := []) ⟨hx, hb, hml, hown, hts⟩ (c_copyG_lC l dC dI kA adK adV G H nC nS gr go la lb VB hT hr_gr hr_go m12 hr_la m13 hr_lb m14 (by omega) (by omega)) (cwV 1 hts (goodIn_app (goodIn_r _ [42, 43, 44, 45] rfl (by decide +kernel)) (goodIn_ca (goodIn_r _ [28, 29, 30, 5, 6, 7, 31, 32, 33, 34, 35, 36, 37, 38, 39, 40, 41] rfl (by decide +kernel)) (bs2_in _ _))) rfl rfl rfl (by decide +kernel) ⟨(Nat.le_of_ble_eq_true rfl), (Nat.le_of_ble_eq_true rfl)⟩) ⟨fun a U g mk q => by obtain ⟨q0, q1, qK, qE⟩ := q; exact ⟨q0, q1, va_K.moved (u := U) (U := U.calling g mk a) (Vm.Alike.refl U.vm) qK, EVC.blind g mk a qE⟩, gH_rc hK hT hr_gr shc_5 rfl, fun U hU hW => ⟨rfl, hU, va_K.moved hW.alike hK, hE.call hS hFc hU hW⟩⟩ rfl rfl hl.1 rfl (lv_room (Nat.le_of_ble_eq_true rfl)) dX3_copyFrom_19 ⟨(Nat.le_of_ble_eq_true rfl), (Nat.le_of_ble_eq_true rfl)⟩) hS (fun q _ h => hFc q h) hFc (fun u t H locs ht hvm hw18 hB _ _ hS => ?_)
  obtain ⟨hT, hF1, m19⟩ := hB
  rw [ht] at hT hF1 m19
  have m20 := (hF1.fld hr_p0 skc_90 (k := 4) (by decide) (by decide)).trans m9
  have m21 := (hF1.fld hr_o0 skc_6 (k := 1) (by decide) (by decide)).trans m10
  have m22 := (hF1.fld hr_p0 skc_90 (k := 1) (by decide) (by decide)).trans m11
  have m23 := (hF1.fld hr_gr skc_5 (k := 0) (by decide) (by decide)).trans m12
  have m24 := (hF1.fld hr_go skc_93 (k := 0) (by decide) (by decide)).trans m13
  have m25 := m14.kept (hF1.arr hr_lb skc_77 (by decide))
  have m26 := (hF1.fld hr_o0 skc_6 (k := 0) (by decide) (by decide)).trans m15
  have m27 := (hF1.fld hr_p0 skc_90 (k := 0) (by decide) (by decide)).trans m16
  have hF := hF.more hF1 (by decide)
  try dsimp only at hw18
  refine lv_iconst (v := 0) hx hb dX3_copyFrom_22 (by decide) ?_
  refine lv_istore_n (lv' := [(2, .int 0), (0, .ref o0), (1, .ref p0)]) hx hb dX3_copyFrom_23 rfl hl (by decide) rfl (fun ls hl => ?_)
  have jn145 : ∀ (z131 : Int32), ∀ (z142 : Int32), ((0 ≤ z131.toInt ∧ z131.toInt ≤ 30) ∧ (0 ≤ z142.toInt ∧ z142.toInt ≤ 30)) → ∀ (H : Heap) (locs : List Loc), gH (dC, dI) kA (SHc nC nS) G H → gF (dC, dI) SKc G ([(5, 11), (5, 12), (5, 13), (5, 14), (6, 3), (6, 4), (11, 6), (12, 2), (13, 2), (13, 3), (13, 4), (13, 5), (13, 6), (13, 7), (13, 8), (13, 9), (13, 10), (13, 11), (19, 0), (20, 0), (21, 0), (22, 0), (23, 0), (24, 0), (25, 0), (26, 0), (27, 0), (28, 0), (29, 0), (30, 0), (31, 0), (32, 0), (36, 0), (37, 0)] : List (Nat × Nat)) s.heap H → va_S A s.heap H locs → ct H lb 96 VB → ct H la 96 VB → el H p0 (dI 6 4) = some (.int oh) → el H o0 (dI 6 1) = some (.ref gr) → el H p0 (dI 6 1) = some (.ref go) → el H gr (dI 5 0) = some (.ref la) → el H go (dI 5 0) = some (.ref lb) → el H o0 (dI 6 0) = some (.ref b2) → el H p0 (dI 6 0) = some (.ref b5) → el H p0 (dI 6 3) = some (.int z142) → ∀ ls : Array Slot, lv_has ls 3 [(2, .int z131), (0, .ref o0), (1, .ref p0)] → W p l e (headSpec w_c_copyL_lC ({ frames := 4, cells := 0, slots := 0, locals := 102 })).room s m #[.ref o0, .ref p0] below meth c H locs 0 0 (MQ below (va_Qv (fun (u : Int32) => (u.toInt = oh.toInt)) (fun (h1 : Int32) (t : State) => gH (dC, dI) kA (SHc nC nS) G t.heap ∧ gF (dC, dI) SKc G ([(5, 11), (5, 12), (5, 13), (5, 14), (6, 3), (6, 4), (11, 6), (12, 2), (13, 2), (13, 3), (13, 4), (13, 5), (13, 6), (13, 7), (13, 8), (13, 9), (13, 10), (13, 11), (19, 0), (20, 0), (21, 0), (22, 0), (23, 0), (24, 0), (25, 0), (26, 0), (27, 0), (28, 0), (29, 0), (30, 0), (31, 0), (32, 0), (36, 0), (37, 0)] : List (Nat × Nat)) s.heap t.heap ∧ el t.heap o0 (dI 6 4) = some (.int h1) ∧ ct t.heap la 96 VB) A) #[.ref o0, .ref p0] s 0 0 A) (F0 m 53 ls []) := by
    intro z131 z142 ⟨h132, h143⟩ H locs hT hF hS m133 m134 m135 m136 m137 m138 m139 m140 m141 m144 ls hl
    refine lv_aload_n hx hb dX3_copyFrom_53 rfl (lv_at hl 1 rfl) ?_
    refine lv_aload_n hx hb dX3_copyFrom_54 rfl (lv_at hl 2 rfl) ?_
    refine tw_getM (v := .int z142) hx hb hts bF2_X3 hown hK hT hr_p0 shc_90 rfl 3 (by decide) (ht_at2 hts 45 rfl) (fun _ h9 => h9) m144 dX3_copyFrom_55 ?_
    refine tw_put (v := .int z142) (ty := .int) hx hb hts bF2_X3 tyX3 tyX3_ok nmX3 hown hK hT hG hS hr_o0 shc_6 rfl 3 (by decide) (ht_at2 hts 45 rfl) (fun _ h9 => h9) rfl (by decide +kernel) rfl rfl (gl_at rfl (gi_of (show z142.toInt = z142.toInt from rfl) (by omega) (by omega))) dX3_copyFrom_58 (fun H locs hT oq m146 oj hS => ?_)
    have hF := hF.put hr_o0 skc_6 oq oj (by decide)
    have m148 := m134.kept (oq _ (gne hr_la hr_o0 (by decide)))
    have m149 := (el_kept (oq _ (gne hr_p0 hr_o0 (by decide)))).trans m135
    refine lv_aload_n hx hb dX3_copyFrom_61 rfl (lv_at hl 1 rfl) ?_
    refine lv_aload_n hx hb dX3_copyFrom_62 rfl (lv_at hl 2 rfl) ?_
    refine tw_getM (v := .int oh) hx hb hts bF2_X3 hown hK hT hr_p0 shc_90 rfl 4 (by decide) (ht_at2 hts 46 rfl) (fun _ h9 => h9) m149 dX3_copyFrom_63 ?_
    refine tw_put (v := .int oh) (ty := .int) hx hb hts bF2_X3 tyX3 tyX3_ok nmX3 hown hK hT hG hS hr_o0 shc_6 rfl 4 (by decide) (ht_at2 hts 46 rfl) (fun _ h9 => h9) rfl (by decide +kernel) rfl rfl (gl_at rfl (gi_of (show oh.toInt = oh.toInt from rfl) (by omega) (by omega))) dX3_copyFrom_66 (fun H locs hT oq m157 oj hS => ?_)
    have hF := hF.put hr_o0 skc_6 oq oj (by decide)
    have m159 := m148.kept (oq _ (gne hr_la hr_o0 (by decide)))
    exact W.vret hx hb hr (fun t ht hW => ⟨⟨oh, rfl, (by exact (by omega)), by (try dsimp only); rw [ht]; exact ⟨hT, hF, m157, m159⟩⟩, hS.F ht⟩) hS.2.2 dX3_copyFrom_69
  have key169 : ∀ (n169 i28 : Nat), i28 + n169 = 30 → 0 ≤ i28 → ∀ (H : Heap) (locs : List Loc), gH (dC, dI) kA (SHc nC nS) G H → gF (dC, dI) SKc G ([(5, 11), (5, 12), (5, 13), (5, 14), (6, 3), (6, 4), (11, 6), (12, 2), (13, 2), (13, 3), (13, 4), (13, 5), (13, 6), (13, 7), (13, 8), (13, 9), (13, 10), (13, 11), (19, 0), (20, 0), (21, 0), (22, 0), (23, 0), (24, 0), (25, 0), (26, 0), (27, 0), (28, 0), (29, 0), (30, 0), (31, 0), (32, 0), (36, 0), (37, 0)] : List (Nat × Nat)) s.heap H → va_S A s.heap H locs → ct H lb 96 VB → ct H la 96 VB → el H p0 (dI 6 4) = some (.int oh) → el H o0 (dI 6 1) = some (.ref gr) → el H p0 (dI 6 1) = some (.ref go) → el H gr (dI 5 0) = some (.ref la) → el H go (dI 5 0) = some (.ref lb) → el H o0 (dI 6 0) = some (.ref b2) → el H p0 (dI 6 0) = some (.ref b5) → ∀ ls : Array Slot, lv_has ls 3 [(2, .int (nI i28)), (0, .ref o0), (1, .ref p0)] → W p l e (headSpec w_c_copyL_lC ({ frames := 4, cells := 0, slots := 0, locals := 102 })).room s m #[.ref o0, .ref p0] below meth c H locs 0 0 (MQ below (va_Qv (fun (u : Int32) => (u.toInt = oh.toInt)) (fun (h1 : Int32) (t : State) => gH (dC, dI) kA (SHc nC nS) G t.heap ∧ gF (dC, dI) SKc G ([(5, 11), (5, 12), (5, 13), (5, 14), (6, 3), (6, 4), (11, 6), (12, 2), (13, 2), (13, 3), (13, 4), (13, 5), (13, 6), (13, 7), (13, 8), (13, 9), (13, 10), (13, 11), (19, 0), (20, 0), (21, 0), (22, 0), (23, 0), (24, 0), (25, 0), (26, 0), (27, 0), (28, 0), (29, 0), (30, 0), (31, 0), (32, 0), (36, 0), (37, 0)] : List (Nat × Nat)) s.heap t.heap ∧ el t.heap o0 (dI 6 4) = some (.int h1) ∧ ct t.heap la 96 VB) A) #[.ref o0, .ref p0] s 0 0 A) (F0 m 24 ls []) := by
    intro n169
    induction n169 with
    | zero =>
      intro i28 hn169 hlo170  H locs hT hF hS m29 m30 m31 m32 m33 m34 m35 m36 m37 ls hl
      obtain rfl : 30 = i28 := by omega
      refine lv_iload_n hx hb dX3_copyFrom_24 rfl (lv_at hl 0 rfl) ?_
      refine lv_aload_n hx hb dX3_copyFrom_25 rfl (lv_at hl 2 rfl) ?_
      refine tw_get hx hb hts bF2_X3 hown hK hT hr_p0 shc_90 rfl 3 (by decide) (ht_at2 hts 45 rfl) (fun _ h9 => h9) dX3_copyFrom_26 (fun v9 m171 h9 => ?_)
      obtain ⟨x172, rfl, gx172, kx172⟩ := h9 _ rfl
      refine lv_icmp_ge (tgt := 53) hx hb dX3_copyFrom_29 (by decide) (fun c173 => ?_) (fun c173 => (by exfalso; have q9 : ((30 : Nat) : Int) < x172.toInt := ti_nle c173 rfl (nI_toInt (by omega)); omega))
      have t174 : x172.toInt ≤ ((30 : Nat) : Int) := ti_le c173 rfl (nI_toInt (by omega))
      exact jn145 (nI 30) x172 ⟨(rg_t (a := ((30 : Nat) : Int)) (nI_toInt (by omega)) (by omega) (by omega)), (by have q8 := ti_all x172; omega)⟩ _ _ hT hF hS m29 m30 m31 m32 m33 m34 m35 m36 m37 m171 ls (lv_sub hl [0, 1, 2] rfl)
    | succ n169 ih169 =>
      intro i28 hn169 hlo170  H locs hT hF hS m29 m30 m31 m32 m33 m34 m35 m36 m37 ls hl
      have hlt174 : i28 < 30 := by omega
      refine lv_iload_n hx hb dX3_copyFrom_24 rfl (lv_at hl 0 rfl) ?_
      refine lv_aload_n hx hb dX3_copyFrom_25 rfl (lv_at hl 2 rfl) ?_
      refine tw_get hx hb hts bF2_X3 hown hK hT hr_p0 shc_90 rfl 3 (by decide) (ht_at2 hts 45 rfl) (fun _ h9 => h9) dX3_copyFrom_26 (fun v9 m175 h9 => ?_)
      obtain ⟨x176, rfl, gx176, kx176⟩ := h9 _ rfl
      refine lv_icmp_ge (tgt := 53) hx hb dX3_copyFrom_29 (by decide) (fun c177 => ?_) (fun c177 => ?_)
      · have t178 : x176.toInt ≤ ((i28 : Nat) : Int) := ti_le c177 rfl (nI_toInt (by omega))
        exact jn145 (nI i28) x176 ⟨(rg_t (a := ((i28 : Nat) : Int)) (nI_toInt (by omega)) (by omega) (by omega)), (by have q8 := ti_all x176; omega)⟩ _ _ hT hF hS m29 m30 m31 m32 m33 m34 m35 m36 m37 m175 ls (lv_sub hl [0, 1, 2] rfl)
      · have t179 : ((i28 : Nat) : Int) < x176.toInt := ti_nle c177 rfl (nI_toInt (by omega))
        refine lv_aload_n hx hb dX3_copyFrom_32 rfl (lv_at hl 1 rfl) ?_
        refine tw_get hx hb hts bF2_X3 hown hK hT hr_o0 shc_6 rfl 2 (by decide) (ht_at2 hts 47 rfl) (fun _ h9 => h9) dX3_copyFrom_33 (fun v9 m180 h9 => ?_)
        obtain ⟨b181, rfl, hg182⟩ := h9 _ rfl
        refine lv_iload_n hx hb dX3_copyFrom_36 rfl (lv_at hl 0 rfl) ?_
        refine tw_aald (i := (nI i28)) hx hb hK hT hg182 shc_18 rfl (vp_in_nI (by omega) (by decide)) dX3_copyFrom_37 (fun v9 m183 h9 => ?_)
        obtain ⟨b184, rfl, hg185⟩ := h9
        refine lv_aload_n hx hb dX3_copyFrom_38 rfl (lv_at hl 2 rfl) ?_
        refine tw_get hx hb hts bF2_X3 hown hK hT hr_p0 shc_90 rfl 2 (by decide) (ht_at2 hts 47 rfl) (fun _ h9 => h9) dX3_copyFrom_39 (fun v9 m186 h9 => ?_)
        obtain ⟨b187, rfl, hg188⟩ := h9 _ rfl
        refine lv_iload_n hx hb dX3_copyFrom_42 rfl (lv_at hl 0 rfl) ?_
        refine tw_aald (i := (nI i28)) hx hb hK hT hg188 shc_70 rfl (vp_in_nI (by omega) (by decide)) dX3_copyFrom_43 (fun v9 m189 h9 => ?_)
        obtain ⟨b190, rfl, hg191⟩ := h9
        have hFc := gA_free hG hA hS
        refine va_callv (va_runV (As := [.ref b190]) (rest := []) ⟨hx, hb, hml, hown, hts⟩ (c_copyW_l l dC dI kA adK adV G H nC nS b184 b190 hT hg185 hg191 (by omega) (by omega)) (cwV 1 hts (goodIn_app (goodIn_r _ [63, 64, 65, 66] rfl (by decide +kernel)) (goodIn_ca (goodIn_r _ [49, 50, 51, 5, 6, 7, 52, 53, 54, 55, 56, 57, 58, 59, 60, 61, 62] rfl (by decide +kernel)) (bs2_in _ _))) rfl rfl rfl (by decide +kernel) ⟨(Nat.le_of_ble_eq_true rfl), (Nat.le_of_ble_eq_true rfl)⟩) ⟨fun a U g mk q => by obtain ⟨q0, q1, qK, qE⟩ := q; exact ⟨q0, q1, va_K.moved (u := U) (U := U.calling g mk a) (Vm.Alike.refl U.vm) qK, EVC.blind g mk a qE⟩, gH_rc hK hT hg185 shc_13 rfl, fun U hU hW => ⟨rfl, hU, va_K.moved hW.alike hK, hE.call hS hFc hU hW⟩⟩ rfl rfl hl.1 rfl (lv_room (Nat.le_of_ble_eq_true rfl)) dX3_copyFrom_44 ⟨(Nat.le_of_ble_eq_true rfl), (Nat.le_of_ble_eq_true rfl)⟩) hS (fun q _ h => hFc q h) hFc (fun u t H locs ht hvm hw193 hB _ _ hS => ?_)
        obtain ⟨hT, hF1⟩ := hB
        rw [ht] at hT hF1
        have m194 := m29.kept (hF1.arr hr_lb skc_77 (by decide))
        have m195 := m30.kept (hF1.arr hr_la skc_25 (by decide))
        have m196 := (hF1.fld hr_p0 skc_90 (k := 4) (by decide) (by decide)).trans m31
        have m197 := (hF1.fld hr_o0 skc_6 (k := 1) (by decide) (by decide)).trans m32
        have m198 := (hF1.fld hr_p0 skc_90 (k := 1) (by decide) (by decide)).trans m33
        have m199 := (hF1.fld hr_gr skc_5 (k := 0) (by decide) (by decide)).trans m34
        have m200 := (hF1.fld hr_go skc_93 (k := 0) (by decide) (by decide)).trans m35
        have m201 := (hF1.fld hr_o0 skc_6 (k := 0) (by decide) (by decide)).trans m36
        have m202 := (hF1.fld hr_p0 skc_90 (k := 0) (by decide) (by decide)).trans m37
        have hF := hF.more hF1 (by decide)
        try dsimp only at hw193
        refine lv_iinc (v := nI (i28 + 1)) (lv' := [(2, .int (nI (i28 + 1))), (0, .ref o0), (1, .ref p0)]) hx hb dX3_copyFrom_47 hl (k := 0) rfl (nI_add i28 1) (by decide) rfl (fun ls hl => ?_)
        refine lv_goto (tgt := 24) hx hb dX3_copyFrom_50 (by decide) ?_
        exact ih169 (i28 + 1) (by omega) (by omega) _ _ hT hF hS m194 m195 m196 m197 m198 m199 m200 m201 m202 ls (lv_sub hl [0, 1, 2] rfl)
  exact key169 (30 - 0) 0 (by omega) (Nat.le_refl _) _ _ hT hF hS m25 m19 m20 m21 m22 m23 m24 m26 m27 ls (lv_sub hl [0, 1, 2] rfl)
def w_c_backC : List Cond := .code yX11_back cX11_back 1 (some .boolean) :: (HAppend.hAppend (α := List Cond) (β := List Cond) (γ := List Cond) [.fieldLink RX11 505 "SeaLand" "image" "LSeaLand$Lake;", .fieldLink RX11 16 "SeaLand" "lake" "LSeaLand$Lake;", .code yX3_copyFrom cX3_copyFrom 3 none, .fieldLink RX3 12 "SeaLand$Lake" "sky" "LSeaLand$Sky;", .code yX8_copyFrom cX8_copyFrom 2 none, .fieldLink RX8 9 "SeaLand$Sky" "tides" "[I", .methodLink RX8 63 arraycopyName, .native arraycopyName, .static arraycopyName, .initialized "java/lang/System", .fieldLink RX8 15 "SeaLand$Sky" "stormFrom" "[I", .fieldLink RX8 18 "SeaLand$Sky" "stormTo" "[I", .fieldLink RX8 21 "SeaLand$Sky" "stormMore" "[I", .fieldLink RX8 27 "SeaLand$Sky" "wind" "LSeaLand$Tellings;", .code yX9_copyFrom cX9_copyFrom 2 none, .fieldLink RX9 9 "SeaLand$Tellings" "hours" "[I", .methodLink RX9 23 arraycopyName, .fieldLink RX9 15 "SeaLand$Tellings" "numbers" "[I", .fieldLink RX9 18 "SeaLand$Tellings" "told" "I", .methodLink RX8 69 yX9_copyFrom, .instanceMethod yX9_copyFrom, .selects RX9 yX9_copyFrom yX9_copyFrom, .initialized RX9, .fieldLink RX8 31 "SeaLand$Sky" "rain" "LSeaLand$Tellings;", .fieldLink RX8 34 "SeaLand$Sky" "storms" "I", .methodLink RX3 175 yX8_copyFrom, .instanceMethod yX8_copyFrom, .selects RX8 yX8_copyFrom yX8_copyFrom, .initialized RX8, .fieldLink RX3 21 "SeaLand$Lake" "ground" "LSeaLand$Ground;", .code yX2_copyFrom cX2_copyFrom 2 none, .fieldLink RX2 9 "SeaLand$Ground" "isLand" "[Z", .methodLink RX2 95 arraycopyName, .fieldLink RX2 15 "SeaLand$Ground" "height" "[I", .fieldLink RX2 19 "SeaLand$Ground" "soil" "[I", .fieldLink RX2 22 "SeaLand$Ground" "ditch" "[I", .fieldLink RX2 25 "SeaLand$Ground" "water" "[I", .fieldLink RX2 28 "SeaLand$Ground" "salt" "[I", .fieldLink RX2 31 "SeaLand$Ground" "dry" "[I", .fieldLink RX2 34 "SeaLand$Ground" "wet" "[I", .fieldLink RX2 54 "SeaLand$Ground" "rained" "I", .fieldLink RX2 57 "SeaLand$Ground" "cameIn" "I", .fieldLink RX2 64 "SeaLand$Ground" "wentOut" "I", .fieldLink RX2 50 "SeaLand$Ground" "toldMore" "I", .methodLink RX3 179 yX2_copyFrom, .instanceMethod yX2_copyFrom, .selects RX2 yX2_copyFrom yX2_copyFrom, .initialized RX2, .fieldLink RX3 47 "SeaLand$Lake" "built" "I", .fieldLink RX3 32 "SeaLand$Lake" "hour" "I", .fieldLink RX3 27 "SeaLand$Lake" "works" "[LSeaLand$Work;", .code yX10_copyFrom cX10_copyFrom 2 none, .fieldLink RX10 9 "SeaLand$Work" "thick" "[I", .methodLink RX10 60 arraycopyName, .fieldLink RX10 15 "SeaLand$Work" "clay" "[I", .fieldLink RX10 18 "SeaLand$Work" "kind" "I", .fieldLink RX10 22 "SeaLand$Work" "square" "I", .fieldLink RX10 25 "SeaLand$Work" "to" "I", .fieldLink RX10 28 "SeaLand$Work" "size" "I", .fieldLink RX10 31 "SeaLand$Work" "width" "I", .fieldLink RX10 34 "SeaLand$Work" "layers" "I", .fieldLink RX10 37 "SeaLand$Work" "coal" "I", .fieldLink RX10 40 "SeaLand$Work" "on" "Z", .fieldLink RX10 44 "SeaLand$Work" "latest" "I", .fieldLink RX10 47 "SeaLand$Work" "total" "I", .methodLink RX3 182 yX10_copyFrom, .instanceMethod yX10_copyFrom, .selects RX10 yX10_copyFrom yX10_copyFrom, .initialized RX10, .methodLink RX11 508 yX3_copyFrom, .instanceMethod yX3_copyFrom, .selects RX3 yX3_copyFrom yX3_copyFrom, .initialized RX3, .fieldLink RX11 23 "SeaLand" "rows" "LSeaLand$Rows;", .code yX6_forget cX6_forget 1 none, .fieldLink RX6 18 "SeaLand$Rows" "kept" "I", .fieldLink RX6 22 "SeaLand$Rows" "oldest" "I", .methodLink RX11 76 yX6_forget, .instanceMethod yX6_forget, .selects RX6 yX6_forget yX6_forget, .initialized RX6] bs2)
set_option maxHeartbeats 4000000 in
set_option maxRecDepth 100000 in
theorem c_backC (l : Launch) (dC : Nat → ClassId) (dI : Nat → Nat → Nat) (kA : Nat → ClassId) (adK adV : Nat → Nat) (G : gT) (H0 : Heap) (nC nS : Int) (o0 : Nat) (lk : Nat) (ho : Int32) (gr : Nat) (la : Nat) (VL : Nat → Int32) (vh im : Int) (VI : Nat → Int32) (hT : gH (dC, dI) kA (SHc nC nS) G H0) (hr_o0 : G o0 = some 14) (hm_lk : el H0 o0 (dI 14 1) = some (.ref lk)) (hr_lk : G lk = some 6) (hm_ho : el H0 lk (dI 6 4) = some (.int ho)) (hm_gr : el H0 lk (dI 6 1) = some (.ref gr)) (hr_gr : G gr = some 5) (hm_la : el H0 gr (dI 5 0) = some (.ref la)) (hr_la : G la = some 25) (hq0 : 0 ≤ ho.toInt ∧ ho.toInt ≤ 40000) (hV : ∀ b, el H0 o0 (dI 14 6) = some (.ref b) → im = 1 ∧ ∃ (v : Int32) (gb lb : Nat), el H0 b (dI 6 4) = some (.int v) ∧ v.toInt = vh ∧ (0 ≤ v.toInt ∧ v.toInt ≤ 40000) ∧ el H0 b (dI 6 1) = some (.ref gb) ∧ G gb = some 93 ∧ el H0 gb (dI 5 0) = some (.ref lb) ∧ G lb = some 77 ∧ ct H0 lb 96 VI) (hN0 : el H0 o0 (dI 14 6) = some .null → im = 0) (hc_VL : ct H0 la 96 VL) (hgC : 0 ≤ nC ∧ nC ≤ 40) (hgS : 0 ≤ nS ∧ nS ≤ 60) : Met l yX11_back w_c_backC ({ frames := 5, cells := 0, slots := 0, locals := 124 }) (va_Pc [.ref o0] (fun U => U.heap = H0 ∧ va_K (dC, dI) vwCl (tyl kA) U ∧ EVC adK adV (gA G H0.size) U U.heap)) (va_Qi (fun (r : Int32) (u : Int32 × (Nat → Int32)) => match u with | (h1, V1) => (0 ≤ r.toInt ∧ r.toInt ≤ 1) ∧ ((im = 1 ∧ vh ≤ ho.toInt ∧ r.toInt = 1 ∧ h1.toInt = vh ∧ V1 = VI) ∨ ((im = 0 ∨ ho.toInt < vh) ∧ r.toInt = 0 ∧ h1.toInt = ho.toInt ∧ V1 = VL))) (fun (u : Int32 × (Nat → Int32)) (t : State) => match u with | (h1, V1) => gH (dC, dI) kA (SHc nC nS) G t.heap ∧ gF (dC, dI) SKc G ([(5, 11), (5, 12), (5, 13), (5, 14), (6, 3), (6, 4), (9, 2), (9, 3), (11, 6), (12, 2), (13, 2), (13, 3), (13, 4), (13, 5), (13, 6), (13, 7), (13, 8), (13, 9), (13, 10), (13, 11), (19, 0), (20, 0), (21, 0), (22, 0), (23, 0), (24, 0), (25, 0), (26, 0), (27, 0), (28, 0), (29, 0), (30, 0), (31, 0), (32, 0), (36, 0), (37, 0)] : List (Nat × Nat)) H0 t.heap ∧ el t.heap lk (dI 6 4) = some (.int h1) ∧ ct t.heap la 96 V1) (gA G H0.size)) 0 0 (gA G H0.size) := by
  refine Met.ofW (cc := cX11_back) (maxL := 1) (ret := (some .boolean)) (by decide) rfl ?_
  intro p e s m args below meth c s₁ B hml hv
  obtain ⟨rfl, hH0, hK, hE⟩ := hv
  have hx := B.exec
  have hb := B.bytes
  have hr := B.returns
  have hts := atoms_spec (ws := w_c_backC) B.pre
  have hown : s.vm.findClass RX11 = some m.cls := findClass_of_methodNamed B.named
  have hlocks := B.notSynchronized
  subst hH0
  generalize hAe : gA G s.heap.size = A at hE ⊢
  have hA : ∀ q : Nat, s.heap.size ≤ q → A q := fun q h => by rw [← hAe]; exact Or.inr h
  have hG := gA_of hAe
  have hS : va_S A s.heap s.heap [] := va_S.rf
  have hF : gF (dC, dI) SKc G ([(5, 11), (5, 12), (5, 13), (5, 14), (6, 3), (6, 4), (9, 2), (9, 3), (11, 6), (12, 2), (13, 2), (13, 3), (13, 4), (13, 5), (13, 6), (13, 7), (13, 8), (13, 9), (13, 10), (13, 11), (19, 0), (20, 0), (21, 0), (22, 0), (23, 0), (24, 0), (25, 0), (26, 0), (27, 0), (28, 0), (29, 0), (30, 0), (31, 0), (32, 0), (36, 0), (37, 0)] : List (Nat × Nat)) s.heap s.heap := gF.rf
  have hl := lv_entry ([.ref o0]) (n := 1) (Nat.le_of_ble_eq_true rfl)
  rw [lg_entry_eq]
  generalize (lg_sl ([.ref o0]) ++ List.replicate (1 - (lg_sl ([.ref o0])).length) Slot.unset).toArray = ls at hl ⊢
  have hl : lv_has ls 1 [(0, .ref o0)] := hl
  refine lv_aload_n hx hb dX11_back_0 rfl (lv_at hl 0 rfl) ?_
  refine tw_get hx hb hts bF2_X11 hown hK hT hr_o0 shc_14 rfl 6 (by decide) (ht_at2 hts 0 rfl) (fun _ h9 => h9) dX11_back_1 (fun v9 m1 h9 => ?_)
  obtain ⟨r9, rfl, hn9⟩ := h9 _ rfl
  rcases r9 with _ | b2
  · refine W.eq (g2 := F0 m 4 ls [.null]) rfl ?_
    have hi9 := hN0 m1
    refine lv_ifnullN (tgt := 24) hx hb dX11_back_4 (by decide) ?_
    refine lv_iconst (v := 0) hx hb dX11_back_24 (by decide) ?_
    exact W.zret (v := 0) hx hb hr (by decide) (fun t ht hW => ⟨⟨0, (ho, VL), rfl, (by exact ⟨(rg_t (a := 0) (by decide) (by first | decide | omega) (by first | decide | omega)), (Or.inr ⟨by omega, by decide, by omega, rfl⟩)⟩), by (try dsimp only); rw [ht]; exact ⟨hT, hF, hm_ho, hc_VL⟩⟩, hS.F ht⟩) hS.2.2 dX11_back_25
  · refine W.eq (g2 := F0 m 4 ls [.ref b2]) rfl ?_
    have hg3 := hn9 b2 rfl
    obtain ⟨hi9, v9, gb9, lb9, hm9, hv9, hr9, y19, y29, y39, y49, y59⟩ := hV _ m1
    refine lv_ifnull hx hb dX11_back_4 ?_
    refine lv_aload_n hx hb dX11_back_7 rfl (lv_at hl 0 rfl) ?_
    refine tw_getM (v := .ref b2) hx hb hts bF2_X11 hown hK hT hr_o0 shc_14 rfl 6 (by decide) (ht_at2 hts 0 rfl) (fun _ h9 => h9) m1 dX11_back_8 ?_
    refine tw_getNM (v := .int v9) hx hb hts bF2_X3 hown hK hT hg3 shc_90 rfl 4 (by decide) (hE.nw 0 rfl) (fun _ h9 => h9) hm9 dX11_back_11 ?_
    refine lv_aload_n hx hb dX11_back_14 rfl (lv_at hl 0 rfl) ?_
    refine tw_getM (v := .ref lk) hx hb hts bF2_X11 hown hK hT hr_o0 shc_14 rfl 1 (by decide) (ht_at2 hts 1 rfl) (fun _ h9 => h9) hm_lk dX11_back_15 ?_
    refine tw_getNM (v := .int ho) hx hb hts bF2_X3 hown hK hT hr_lk shc_6 rfl 4 (by decide) (hE.nw 0 rfl) (fun _ h9 => h9) hm_ho dX11_back_18 ?_
    refine lv_icmp_le (tgt := 26) hx hb dX11_back_21 (by decide) (fun c4 => ?_) (fun c4 => ?_)
    · have t5 : v9.toInt ≤ ho.toInt := ti_le c4 rfl rfl
      refine lv_aload_n hx hb dX11_back_26 rfl (lv_at hl 0 rfl) ?_
      refine tw_getM (v := .ref lk) hx hb hts bF2_X11 hown hK hT hr_o0 shc_14 rfl 1 (by decide) (ht_at2 hts 1 rfl) (fun _ h9 => h9) hm_lk dX11_back_27 ?_
      refine lv_aload_n hx hb dX11_back_30 rfl (lv_at hl 0 rfl) ?_
      refine tw_getM (v := .ref b2) hx hb hts bF2_X11 hown hK hT hr_o0 shc_14 rfl 6 (by decide) (ht_at2 hts 0 rfl) (fun _ h9 => h9) m1 dX11_back_31 ?_
      have hFc := gA_free hG hA hS
      refine va_callv (va_runV (As := [.ref b2]) (rest := []) ⟨hx, hb, hml, hown, hts⟩ (c_copyL_lC l dC dI kA adK adV G s.heap nC nS lk b2 v9 gr gb9 la lb9 VI hT hr_lk hg3 hm9 hm_gr hr_gr y19 y29 hm_la hr_la y39 y49 (by have q8 := ti_all v9; omega) y59 (by omega) (by omega)) (cwV 1 hts (goodIn_app (goodIn_r _ [70, 71, 72, 73] rfl (by decide +kernel)) (goodIn_ca (goodIn_r _ [3, 4, 5, 6, 7, 8, 9, 10, 11, 12, 13, 14, 15, 16, 17, 18, 19, 20, 21, 22, 23, 24, 25, 26, 27, 28, 29, 30, 31, 32, 33, 34, 35, 36, 37, 38, 39, 40, 41, 42, 43, 44, 45, 46, 47, 48, 49, 50, 51, 52, 53, 54, 55, 56, 57, 58, 59, 60, 61, 62, 63, 64, 65, 66, 67, 68, 69] rfl (by decide +kernel)) (bs2_in _ _))) rfl rfl rfl (by decide +kernel) ⟨(Nat.le_of_ble_eq_true rfl), (Nat.le_of_ble_eq_true rfl)⟩) ⟨fun a U g mk q => by obtain ⟨q0, q1, qK, qE⟩ := q; exact ⟨q0, q1, va_K.moved (u := U) (U := U.calling g mk a) (Vm.Alike.refl U.vm) qK, EVC.blind g mk a qE⟩, gH_rc hK hT hr_lk shc_6 rfl, fun U hU hW => ⟨rfl, hU, va_K.moved hW.alike hK, hE.call hS hFc hU hW⟩⟩ rfl rfl hl.1 rfl (lv_room (Nat.le_of_ble_eq_true rfl)) dX11_back_34 ⟨(Nat.le_of_ble_eq_true rfl), (Nat.le_of_ble_eq_true rfl)⟩) hS (fun q _ h => hFc q h) hFc (fun u t H locs ht hvm hw7 hB _ _ hS => ?_)
      obtain ⟨u8, rfl⟩ : ∃ z, z = u := ⟨_, rfl⟩
      obtain ⟨hT, hF1, m9, m10⟩ := hB
      rw [ht] at hT hF1 m9 m10
      have hF := hF.more hF1 (by decide)
      try dsimp only at hw7
      have hf21 := hw7
      refine lv_aload_n hx hb dX11_back_37 rfl (lv_at hl 0 rfl) ?_
      refine tw_get hx hb hts bF2_X11 hown hK hT hr_o0 shc_14 rfl 2 (by decide) (ht_at2 hts 73 rfl) (fun _ h9 => h9) dX11_back_38 (fun v9 m22 h9 => ?_)
      obtain ⟨b23, rfl, hg24⟩ := h9 _ rfl
      have hFc := gA_free hG hA hS
      refine va_callv (va_runV (As := []) (rest := []) ⟨hx, hb, hml, hown, hts⟩ (c_forget l dC dI kA adK adV G H nC nS b23 hT hg24 (by omega) (by omega)) (cwV 0 hts (goodIn_app (goodIn_r _ [78, 79, 80, 81] rfl (by decide +kernel)) (goodIn_ca (goodIn_r _ [75, 76, 77] rfl (by decide +kernel)) (bs2_in _ _))) rfl rfl rfl (by decide +kernel) ⟨(Nat.le_of_ble_eq_true rfl), (Nat.le_of_ble_eq_true rfl)⟩) ⟨fun a U g mk q => by obtain ⟨q0, q1, qK, qE⟩ := q; exact ⟨q0, q1, va_K.moved (u := U) (U := U.calling g mk a) (Vm.Alike.refl U.vm) qK, EVC.blind g mk a qE⟩, gH_rc hK hT hg24 shc_9 rfl, fun U hU hW => ⟨rfl, hU, va_K.moved hW.alike hK, hE.call hS hFc hU hW⟩⟩ rfl rfl hl.1 rfl (lv_room (Nat.le_of_ble_eq_true rfl)) dX11_back_41 ⟨(Nat.le_of_ble_eq_true rfl), (Nat.le_of_ble_eq_true rfl)⟩) hS (fun q _ h => hFc q h) hFc (fun u t H locs ht hvm hw26 hB _ _ hS => ?_)
      obtain ⟨hT, hF1⟩ := hB
      rw [ht] at hT hF1
      have m35 := (hF1.fld hr_lk skc_6 (k := 4) (by decide) (by decide)).trans m9
      have m36 := m10.kept (hF1.arr hr_la skc_25 (by decide))
      have hF := hF.more hF1 (by decide)
      try dsimp only at hw26
      refine lv_iconst (v := 1) hx hb dX11_back_44 (by decide) ?_
      exact W.zret (v := 1) hx hb hr (by decide) (fun t ht hW => ⟨⟨1, (u8, VI), rfl, (by exact ⟨(rg_t (a := 1) (by decide) (by first | decide | omega) (by first | decide | omega)), (Or.inl ⟨by omega, by omega, by decide, by omega, rfl⟩)⟩), by (try dsimp only); rw [ht]; exact ⟨hT, hF, m35, m36⟩⟩, hS.F ht⟩) hS.2.2 dX11_back_45
    · have t38 : ho.toInt < v9.toInt := ti_nle c4 rfl rfl
      refine lv_iconst (v := 0) hx hb dX11_back_24 (by decide) ?_
      exact W.zret (v := 0) hx hb hr (by decide) (fun t ht hW => ⟨⟨0, (ho, VL), rfl, (by exact ⟨(rg_t (a := 0) (by decide) (by first | decide | omega) (by first | decide | omega)), (Or.inr ⟨by omega, by decide, by omega, rfl⟩)⟩), by (try dsimp only); rw [ht]; exact ⟨hT, hF, hm_ho, hc_VL⟩⟩, hS.F ht⟩) hS.2.2 dX11_back_25
def w_c_keepC : List Cond := .code yX11_keep cX11_keep 1 (some .boolean) :: (HAppend.hAppend (α := List Cond) (β := List Cond) (γ := List Cond) [.fieldLink RX11 16 "SeaLand" "lake" "LSeaLand$Lake;", .fieldLink RX11 505 "SeaLand" "image" "LSeaLand$Lake;", .classLink RX11 13 RX3, .instantiable RX3 5, .initialized RX3, .code yX3_init cX3_init 2 none, .methodLink RX3 3 objectInit, .instanceMethod objectInit, .code objectInit ⟨#[0xb1]⟩ 1 none, .classLink RX3 9 RX8, .instantiable RX8 7, .initialized RX8, .code yX8_init cX8_init 1 none, .methodLink RX8 3 objectInit, .arrayClass .int, .fieldLink RX8 9 "SeaLand$Sky" "tides" "[I", .fieldLink RX8 15 "SeaLand$Sky" "stormFrom" "[I", .fieldLink RX8 18 "SeaLand$Sky" "stormTo" "[I", .fieldLink RX8 21 "SeaLand$Sky" "stormMore" "[I", .classLink RX8 24 RX9, .instantiable RX9 3, .initialized RX9, .code yX9_init cX9_init 1 none, .methodLink RX9 3 objectInit, .fieldLink RX9 9 "SeaLand$Tellings" "hours" "[I", .fieldLink RX9 15 "SeaLand$Tellings" "numbers" "[I", .instanceMethod yX9_init, .fieldLink RX8 27 "SeaLand$Sky" "wind" "LSeaLand$Tellings;", .fieldLink RX8 31 "SeaLand$Sky" "rain" "LSeaLand$Tellings;", .instanceMethod yX8_init, .fieldLink RX3 12 "SeaLand$Lake" "sky" "LSeaLand$Sky;", .classLink RX3 18 RX2, .instantiable RX2 15, .initialized RX2, .code yX2_init cX2_init 1 none, .methodLink RX2 3 objectInit, .arrayClass .boolean, .fieldLink RX2 9 "SeaLand$Ground" "isLand" "[Z", .fieldLink RX2 15 "SeaLand$Ground" "height" "[I", .fieldLink RX2 19 "SeaLand$Ground" "soil" "[I", .fieldLink RX2 22 "SeaLand$Ground" "ditch" "[I", .fieldLink RX2 25 "SeaLand$Ground" "water" "[I", .fieldLink RX2 28 "SeaLand$Ground" "salt" "[I", .fieldLink RX2 31 "SeaLand$Ground" "dry" "[I", .fieldLink RX2 34 "SeaLand$Ground" "wet" "[I", .fieldLink RX2 37 "SeaLand$Ground" "ditchTo" "[I", .fieldLink RX2 40 "SeaLand$Ground" "ditchWater" "[I", .fieldLink RX2 43 "SeaLand$Ground" "ditchSalt" "[I", .instanceMethod yX2_init, .fieldLink RX3 21 "SeaLand$Lake" "ground" "LSeaLand$Ground;", .classLink RX3 25 RX10, .fieldLink RX3 27 "SeaLand$Lake" "works" "[LSeaLand$Work;", .instantiable RX10 12, .initialized RX10, .code yX10_init cX10_init 1 none, .methodLink RX10 3 objectInit, .fieldLink RX10 9 "SeaLand$Work" "thick" "[I", .fieldLink RX10 15 "SeaLand$Work" "clay" "[I", .instanceMethod yX10_init, .methodLink RX11 15 yX3_init, .instanceMethod yX3_init, .code yX3_copyFrom cX3_copyFrom 3 none, .code yX8_copyFrom cX8_copyFrom 2 none, .methodLink RX8 63 arraycopyName, .native arraycopyName, .static arraycopyName, .initialized "java/lang/System", .code yX9_copyFrom cX9_copyFrom 2 none, .methodLink RX9 23 arraycopyName, .fieldLink RX9 18 "SeaLand$Tellings" "told" "I", .methodLink RX8 69 yX9_copyFrom, .instanceMethod yX9_copyFrom, .selects RX9 yX9_copyFrom yX9_copyFrom, .fieldLink RX8 34 "SeaLand$Sky" "storms" "I", .methodLink RX3 175 yX8_copyFrom, .instanceMethod yX8_copyFrom, .selects RX8 yX8_copyFrom yX8_copyFrom, .code yX2_copyFrom cX2_copyFrom 2 none, .methodLink RX2 95 arraycopyName, .fieldLink RX2 54 "SeaLand$Ground" "rained" "I", .fieldLink RX2 57 "SeaLand$Ground" "cameIn" "I", .fieldLink RX2 64 "SeaLand$Ground" "wentOut" "I", .fieldLink RX2 50 "SeaLand$Ground" "toldMore" "I", .methodLink RX3 179 yX2_copyFrom, .instanceMethod yX2_copyFrom, .selects RX2 yX2_copyFrom yX2_copyFrom, .fieldLink RX3 47 "SeaLand$Lake" "built" "I", .fieldLink RX3 32 "SeaLand$Lake" "hour" "I", .code yX10_copyFrom cX10_copyFrom 2 none, .methodLink RX10 60 arraycopyName, .fieldLink RX10 18 "SeaLand$Work" "kind" "I", .fieldLink RX10 22 "SeaLand$Work" "square" "I", .fieldLink RX10 25 "SeaLand$Work" "to" "I", .fieldLink RX10 28 "SeaLand$Work" "size" "I", .fieldLink RX10 31 "SeaLand$Work" "width" "I", .fieldLink RX10 34 "SeaLand$Work" "layers" "I", .fieldLink RX10 37 "SeaLand$Work" "coal" "I", .fieldLink RX10 40 "SeaLand$Work" "on" "Z", .fieldLink RX10 44 "SeaLand$Work" "latest" "I", .fieldLink RX10 47 "SeaLand$Work" "total" "I", .methodLink RX3 182 yX10_copyFrom, .instanceMethod yX10_copyFrom, .selects RX10 yX10_copyFrom yX10_copyFrom, .methodLink RX11 508 yX3_copyFrom, .instanceMethod yX3_copyFrom, .selects RX3 yX3_copyFrom yX3_copyFrom] bs2)
set_option maxHeartbeats 4000000 in
set_option maxRecDepth 100000 in
theorem c_keepC (l : Launch) (dC : Nat → ClassId) (dI : Nat → Nat → Nat) (kA : Nat → ClassId) (adK adV : Nat → Nat) (G : gT) (H0 : Heap) (nC nS : Int) (o0 : Nat) (lk : Nat) (ho : Int32) (gr : Nat) (la : Nat) (VL : Nat → Int32) (hT : gH (dC, dI) kA (SHc nC nS) G H0) (hr_o0 : G o0 = some 14) (hm_lk : el H0 o0 (dI 14 1) = some (.ref lk)) (hr_lk : G lk = some 6) (hm_ho : el H0 lk (dI 6 4) = some (.int ho)) (hq0 : 0 ≤ ho.toInt ∧ ho.toInt ≤ 40000) (hm_gr : el H0 lk (dI 6 1) = some (.ref gr)) (hr_gr : G gr = some 5) (hm_la : el H0 gr (dI 5 0) = some (.ref la)) (hr_la : G la = some 25) (hc_VL : ct H0 la 96 VL) (hgC : 0 ≤ nC ∧ nC ≤ 40) (hgS : 0 ≤ nS ∧ nS ≤ 60) : Met l yX11_keep w_c_keepC ({ frames := 5, cells := 115, slots := 2151, locals := 124 }) (va_Pc [.ref o0] (fun U => U.heap = H0 ∧ va_K (dC, dI) vwCl (tyl kA) U ∧ EVC adK adV (gA G H0.size) U U.heap ∧ AO U)) (va_Qi (fun (r : Int32) (u : gT × Int × Int) => (0 ≤ r.toInt ∧ r.toInt ≤ 1) ∧ ((r.toInt = 0 ∧ ho.toInt = 0) ∨ (r.toInt = 1 ∧ ho.toInt ≠ 0))) (fun (u : gT × Int × Int) (t : State) => match u with | (G1, n1, n2) => gH (dC, dI) kA (SHc n1 n2) G1 t.heap ∧ gF (dC, dI) SKc G ([(14, 6), (71, 0), (72, 0), (73, 0), (74, 0), (75, 0), (76, 0), (77, 0), (78, 0), (79, 0), (80, 0), (81, 0), (82, 0), (83, 0), (84, 0), (88, 0), (89, 0), (90, 3), (90, 4), (91, 6), (92, 2), (93, 11), (93, 12), (93, 13), (93, 14), (94, 2), (94, 3), (94, 4), (94, 5), (94, 6), (94, 7), (94, 8), (94, 9), (94, 10), (94, 11)] : List (Nat × Nat)) H0 t.heap ∧ gZ ([70, 71, 72, 73, 74, 75, 76, 77, 78, 79, 80, 81, 82, 83, 84, 85, 86, 87, 88, 89, 90, 91, 92, 93, 94, 120, 121, 122, 123, 124, 125] : List Nat) H0.size G G1 ∧ (0 ≤ n1 ∧ n1 ≤ 40) ∧ (0 ≤ n2 ∧ n2 ≤ 60) ∧ ((ho.toInt = 0 ∧ t.heap = H0) ∨ (ho.toInt ≠ 0 ∧ ∃ (ig : Nat) (v1 : Int32) (gb lb : Nat), el t.heap o0 (dI 14 6) = some (.ref ig) ∧ G1 ig = some 90 ∧ el t.heap ig (dI 6 4) = some (.int v1) ∧ v1.toInt = ho.toInt ∧ el t.heap ig (dI 6 1) = some (.ref gb) ∧ G1 gb = some 93 ∧ el t.heap gb (dI 5 0) = some (.ref lb) ∧ G1 lb = some 77 ∧ ct t.heap lb 96 VL))) (gA G H0.size)) 115 2151 (gA G H0.size) := by
  refine Met.ofW (cc := cX11_keep) (maxL := 1) (ret := (some .boolean)) (by decide) rfl ?_
  intro p e s m args below meth c s₁ B hml hv
  obtain ⟨rfl, hH0, hK, hE, hAO⟩ := hv
  have hx := B.exec
  have hb := B.bytes
  have hr := B.returns
  have hts := atoms_spec (ws := w_c_keepC) B.pre
  have hown : s.vm.findClass RX11 = some m.cls := findClass_of_methodNamed B.named
  have hlocks := B.notSynchronized
  subst hH0
  generalize hAe : gA G s.heap.size = A at hE ⊢
  have hA : ∀ q : Nat, s.heap.size ≤ q → A q := fun q h => by rw [← hAe]; exact Or.inr h
  have hG := gA_of hAe
  have hS : va_S A s.heap s.heap [] := va_S.rf
  have hF : gF (dC, dI) SKc G ([(14, 6), (71, 0), (72, 0), (73, 0), (74, 0), (75, 0), (76, 0), (77, 0), (78, 0), (79, 0), (80, 0), (81, 0), (82, 0), (83, 0), (84, 0), (88, 0), (89, 0), (90, 3), (90, 4), (91, 6), (92, 2), (93, 11), (93, 12), (93, 13), (93, 14), (94, 2), (94, 3), (94, 4), (94, 5), (94, 6), (94, 7), (94, 8), (94, 9), (94, 10), (94, 11)] : List (Nat × Nat)) s.heap s.heap := gF.rf
  have hl := lv_entry ([.ref o0]) (n := 1) (Nat.le_of_ble_eq_true rfl)
  rw [lg_entry_eq]
  generalize (lg_sl ([.ref o0]) ++ List.replicate (1 - (lg_sl ([.ref o0])).length) Slot.unset).toArray = ls at hl ⊢
  have hl : lv_has ls 1 [(0, .ref o0)] := hl
  have hG0 := hG
  have hZ : gZ ([70, 71, 72, 73, 74, 75, 76, 77, 78, 79, 80, 81, 82, 83, 84, 85, 86, 87, 88, 89, 90, 91, 92, 93, 94, 120, 121, 122, 123, 124, 125] : List Nat) s.heap.size G G := gZ.rf hT
  refine lv_aload_n hx hb dX11_keep_0 rfl (lv_at hl 0 rfl) ?_
  refine tw_getM (v := .ref lk) hx hb hts bF2_X11 hown hK hT hr_o0 shc_14 rfl 1 (by decide) (ht_at2 hts 0 rfl) (fun _ h9 => h9) hm_lk dX11_keep_1 ?_
  refine tw_getNM (v := .int ho) hx hb hts bF2_X3 hown hK hT hr_lk shc_6 rfl 4 (by decide) (hE.nw 0 rfl) (fun _ h9 => h9) hm_ho dX11_keep_4 ?_
  refine lv_if_ne (tgt := 12) hx hb dX11_keep_7 (by decide) (fun c1 => ?_) (fun c1 => ?_)
  · have t2 : ho.toInt ≠ 0 := ti_ne c1 rfl (by decide)
    refine lv_aload_n hx hb dX11_keep_12 rfl (lv_at hl 0 rfl) ?_
    refine tw_get hx hb hts bF2_X11 hown hK hT hr_o0 shc_14 rfl 6 (by decide) (ht_at2 hts 1 rfl) (fun _ h9 => h9) dX11_keep_13 (fun v9 m3 h9 => ?_)
    obtain ⟨r9, rfl, hn9⟩ := h9 _ rfl
    rcases r9 with _ | b4
    · refine W.eq (g2 := F0 m 16 ls [.null]) rfl ?_
      refine lv_ifnonnullN hx hb dX11_keep_16 ?_
      refine lv_aload_n hx hb dX11_keep_19 rfl (lv_at hl 0 rfl) ?_
      have hz9 := hS.1
      refine tw_new hx hb hts bF2_X3 tyX3 tyX3_ok hown (ht_at2 hts 2 rfl) (ht_at2 hts 3 rfl) (ht_at2 hts 4 rfl) hK mon_c hT hS hG hA (shc_120) rfl nd_120 (Nat.le_of_ble_eq_true rfl) (Nat.le_of_ble_eq_true rfl) dX11_keep_20 (fun q6 G1 H hq9 eG hz1 hz2 hT hx9 hG hm9 hS => ?_)
      have hn_q6 : s.heap.size ≤ q6 := Nat.le_trans hz9 (Nat.le_of_eq hz2)
      have hF := hF.same (fun a t h => (hx9 _ _ (hZ.1 a t h)).2)
      have hZ := hZ.new hn_q6 eG hx9 (by decide)
      have m7 := (el_kept (hx9 _ _ hr_o0).2).trans hm_lk
      have m8 := (el_kept (hx9 _ _ hr_lk).2).trans hm_ho
      have m9 := (el_kept (hx9 _ _ hr_lk).2).trans hm_gr
      have m10 := (el_kept (hx9 _ _ hr_gr).2).trans hm_la
      have m11 := hc_VL.kept (hx9 _ _ hr_la).2
      have hg13 := (hx9 _ _ hr_o0).1
      have hg14 := (hx9 _ _ hr_lk).1
      have hg15 := (hx9 _ _ hr_gr).1
      have hg16 := (hx9 _ _ hr_la).1
      have hg17 : G1 q6 = some 120 := by rw [eG]; exact gU_at
      refine lv_dup hx hb dX11_keep_23 rfl ?_
      have hFc := gA_free hG hA hS
      have hz9 := hS.1
      refine va_callv (va_runI (As := []) (rest := [.ref q6, .ref o0]) ⟨hx, hb, hml, hown, hts⟩ (n_I3 l dC dI kA adK adV G1 H nC nS q6 hT hg17 (by omega) (by omega)) (cwI 0 hts (goodIn_ca (goodIn_r _ [6, 7, 8, 9, 10, 11, 12, 13, 14, 15, 16, 17, 18, 19, 20, 21, 22, 23, 24, 25, 26, 27, 28, 29, 30, 31, 32, 33, 34, 35, 36, 37, 38, 39, 40, 41, 42, 43, 44, 45, 46, 47, 48, 49, 50, 51, 52, 53, 54, 55, 56, 57, 58, 59] rfl (by decide +kernel)) (bs2_in _ _)) rfl rfl rfl (ht_at2 hts 4 rfl) (ht_at2 hts 59 rfl) (ht_at2 hts 60 rfl) rfl (by decide +kernel) ⟨(Nat.le_of_ble_eq_true rfl), (Nat.le_of_ble_eq_true rfl)⟩) ⟨fun a U g mk q => by obtain ⟨q0, q1, qK, qE, qA⟩ := q; exact ⟨q0, q1, va_K.moved (u := U) (U := U.calling g mk a) (Vm.Alike.refl U.vm) qK, EVC.blind g mk a qE, AO.blind g mk a qA⟩, fun U hU hW => ⟨rfl, hU, va_K.moved hW.alike hK, hE.call hS hFc hU hW, hAO.call hW⟩⟩ rfl rfl hl.1 rfl (lv_room (Nat.le_of_ble_eq_true rfl)) dX11_keep_24 ⟨(Nat.le_of_ble_eq_true rfl), (Nat.le_of_ble_eq_true rfl)⟩) hS (fun q _ h => hFc q h) hFc (fun G2 t H locs ht hvm _ hB _ _ hS => ?_)
      (try dsimp only at hB); rw [ht] at hB; obtain ⟨hT, hg18, hY1⟩ := hB
      have hF := hF.same (hZ.kept hn_q6 hY1)
      have hZ := hZ.call hn_q6 hY1 hz9 (by decide)
      have hG := hZ.A hG0 hA
      have m19 := (el_kept (hY1.1 _ _ (gne hg13 hg17 (by decide)) hg13).2).trans m7
      have m20 := (el_kept (hY1.1 _ _ (gne hg14 hg17 (by decide)) hg14).2).trans m8
      have m21 := (el_kept (hY1.1 _ _ (gne hg14 hg17 (by decide)) hg14).2).trans m9
      have m22 := (el_kept (hY1.1 _ _ (gne hg15 hg17 (by decide)) hg15).2).trans m10
      have m23 := m11.kept (hY1.1 _ _ (gne hg16 hg17 (by decide)) hg16).2
      have hg25 := (hY1.1 _ _ (gne hg13 hg17 (by decide)) hg13).1
      have hg26 := (hY1.1 _ _ (gne hg14 hg17 (by decide)) hg14).1
      have hg27 := (hY1.1 _ _ (gne hg15 hg17 (by decide)) hg15).1
      have hg28 := (hY1.1 _ _ (gne hg16 hg17 (by decide)) hg16).1
      refine tw_put (v := .ref q6) (ty := (.object "SeaLand$Lake")) hx hb hts bF2_X11 tyX11 tyX11_ok nmX11 hown hK hT hG hS hg25 shc_14 rfl 6 (by decide) (ht_at2 hts 1 rfl) (fun _ h9 => h9) rfl (by decide +kernel) rfl rfl (gl_at rfl ⟨some _, rfl, fun _ h => by cases h; exact hg18⟩) dX11_keep_27 (fun H locs hT oq m29 oj hS => ?_)
      have hF := gF.putX hZ.1 hF hg25 skc_14 oq oj (by decide)
      have m30 := (oj 1 (by decide) (by decide)).trans m19
      have m31 := (el_kept (oq _ (gne hg26 hg25 (by decide)))).trans m20
      have m32 := (el_kept (oq _ (gne hg26 hg25 (by decide)))).trans m21
      have m33 := (el_kept (oq _ (gne hg27 hg25 (by decide)))).trans m22
      have m34 := m23.kept (oq _ (gne hg28 hg25 (by decide)))
      refine lv_aload_n hx hb dX11_keep_30 rfl (lv_at hl 0 rfl) ?_
      refine tw_getM (v := .ref q6) hx hb hts bF2_X11 hown hK hT hg25 shc_14 rfl 6 (by decide) (ht_at2 hts 1 rfl) (fun _ h9 => h9) m29 dX11_keep_31 ?_
      refine lv_aload_n hx hb dX11_keep_34 rfl (lv_at hl 0 rfl) ?_
      refine tw_getM (v := .ref lk) hx hb hts bF2_X11 hown hK hT hg25 shc_14 rfl 1 (by decide) (ht_at2 hts 0 rfl) (fun _ h9 => h9) m30 dX11_keep_35 ?_
      obtain ⟨v9, m35, h9⟩ := gH_fld hT hg18 shc_90 (k := 1) (by decide)
      obtain ⟨b36, rfl, hg37⟩ := h9 _ rfl
      obtain ⟨v9, m38, h9⟩ := gH_fld hT hg37 shc_93 (k := 0) (by decide)
      obtain ⟨b39, rfl, hg40⟩ := h9 _ rfl
      have hFc := gA_free hG hA hS
      refine va_callv (va_runV (As := [.ref lk]) (rest := []) ⟨hx, hb, hml, hown, hts⟩ (c_copyL_iC l dC dI kA adK adV G2 H nC nS q6 lk ho b36 gr b39 la VL hT hg18 hg26 m31 m35 hg37 m32 hg27 m38 hg40 m33 hg28 (by have q8 := ti_all ho; omega) m34 (by omega) (by omega)) (cwV 1 hts (goodIn_app (goodIn_r _ [104, 105, 106, 5] rfl (by decide +kernel)) (goodIn_ca (goodIn_r _ [62, 31, 63, 16, 64, 65, 66, 67, 17, 18, 19, 28, 68, 25, 69, 26, 70, 71, 72, 73, 22, 29, 74, 75, 76, 77, 12, 50, 78, 38, 79, 39, 40, 41, 42, 43, 44, 45, 80, 81, 82, 83, 84, 85, 86, 34, 87, 88, 52, 89, 57, 90, 58, 91, 92, 93, 94, 95, 96, 97, 98, 99, 100, 101, 102, 103, 54] rfl (by decide +kernel)) (bs2_in _ _))) rfl rfl rfl (by decide +kernel) ⟨(Nat.le_of_ble_eq_true rfl), (Nat.le_of_ble_eq_true rfl)⟩) ⟨fun a U g mk q => by obtain ⟨q0, q1, qK, qE⟩ := q; exact ⟨q0, q1, va_K.moved (u := U) (U := U.calling g mk a) (Vm.Alike.refl U.vm) qK, EVC.blind g mk a qE⟩, gH_rc hK hT hg18 shc_90 rfl, fun U hU hW => ⟨rfl, hU, va_K.moved hW.alike hK, hE.call hS hFc hU hW⟩⟩ rfl rfl hl.1 rfl (lv_room (Nat.le_of_ble_eq_true rfl)) dX11_keep_38 ⟨(Nat.le_of_ble_eq_true rfl), (Nat.le_of_ble_eq_true rfl)⟩) hS (fun q _ h => hFc q h) hFc (fun u t H locs ht hvm hw42 hB _ _ hS => ?_)
      obtain ⟨u43, rfl⟩ : ∃ z, z = u := ⟨_, rfl⟩
      obtain ⟨hT, hF1, m44, m45⟩ := hB
      rw [ht] at hT hF1 m44 m45
      have m51 := (hF1.fld hg25 skc_14 (k := 6) (by decide) (by decide)).trans m29
      have m52 := (hF1.fld hg18 skc_90 (k := 1) (by decide) (by decide)).trans m35
      have m53 := (hF1.fld hg37 skc_93 (k := 0) (by decide) (by decide)).trans m38
      have hF := hF.more (hF1.sub hZ.1) (by decide)
      try dsimp only at hw42
      have hf54 := hw42
      refine lv_iconst (v := 1) hx hb dX11_keep_41 (by decide) ?_
      exact W.zret (v := 1) hx hb hr (by decide) (fun t ht hW => ⟨⟨1, (G2, nC, nS), rfl, ⟨(rg_t (a := 1) (by decide) (by first | decide | omega) (by first | decide | omega)), by have : (1 : Int32).toInt = 1 := (by decide); omega⟩, by (try dsimp only); rw [ht]; exact ⟨hT, hF, hZ, (by omega), (by omega), Or.inr ⟨by omega, _, _, _, _, m51, hg18, m44, by omega, m52, hg37, m53, hg40, m45⟩⟩⟩, hS.F ht⟩) hS.2.2 dX11_keep_42
    · refine W.eq (g2 := F0 m 16 ls [.ref b4]) rfl ?_
      have hg5 := hn9 b4 rfl
      refine lv_ifnonnull (tgt := 30) hx hb dX11_keep_16 (by decide) ?_
      refine lv_aload_n hx hb dX11_keep_30 rfl (lv_at hl 0 rfl) ?_
      refine tw_getM (v := .ref b4) hx hb hts bF2_X11 hown hK hT hr_o0 shc_14 rfl 6 (by decide) (ht_at2 hts 1 rfl) (fun _ h9 => h9) m3 dX11_keep_31 ?_
      refine lv_aload_n hx hb dX11_keep_34 rfl (lv_at hl 0 rfl) ?_
      refine tw_getM (v := .ref lk) hx hb hts bF2_X11 hown hK hT hr_o0 shc_14 rfl 1 (by decide) (ht_at2 hts 0 rfl) (fun _ h9 => h9) hm_lk dX11_keep_35 ?_
      obtain ⟨v9, m55, h9⟩ := gH_fld hT hg5 shc_90 (k := 1) (by decide)
      obtain ⟨b56, rfl, hg57⟩ := h9 _ rfl
      obtain ⟨v9, m58, h9⟩ := gH_fld hT hg57 shc_93 (k := 0) (by decide)
      obtain ⟨b59, rfl, hg60⟩ := h9 _ rfl
      have hFc := gA_free hG hA hS
      refine va_callv (va_runV (As := [.ref lk]) (rest := []) ⟨hx, hb, hml, hown, hts⟩ (c_copyL_iC l dC dI kA adK adV G s.heap nC nS b4 lk ho b56 gr b59 la VL hT hg5 hr_lk hm_ho m55 hg57 hm_gr hr_gr m58 hg60 hm_la hr_la (by have q8 := ti_all ho; omega) hc_VL (by omega) (by omega)) (cwV 1 hts (goodIn_app (goodIn_r _ [104, 105, 106, 5] rfl (by decide +kernel)) (goodIn_ca (goodIn_r _ [62, 31, 63, 16, 64, 65, 66, 67, 17, 18, 19, 28, 68, 25, 69, 26, 70, 71, 72, 73, 22, 29, 74, 75, 76, 77, 12, 50, 78, 38, 79, 39, 40, 41, 42, 43, 44, 45, 80, 81, 82, 83, 84, 85, 86, 34, 87, 88, 52, 89, 57, 90, 58, 91, 92, 93, 94, 95, 96, 97, 98, 99, 100, 101, 102, 103, 54] rfl (by decide +kernel)) (bs2_in _ _))) rfl rfl rfl (by decide +kernel) ⟨(Nat.le_of_ble_eq_true rfl), (Nat.le_of_ble_eq_true rfl)⟩) ⟨fun a U g mk q => by obtain ⟨q0, q1, qK, qE⟩ := q; exact ⟨q0, q1, va_K.moved (u := U) (U := U.calling g mk a) (Vm.Alike.refl U.vm) qK, EVC.blind g mk a qE⟩, gH_rc hK hT hg5 shc_90 rfl, fun U hU hW => ⟨rfl, hU, va_K.moved hW.alike hK, hE.call hS hFc hU hW⟩⟩ rfl rfl hl.1 rfl (lv_room (Nat.le_of_ble_eq_true rfl)) dX11_keep_38 ⟨(Nat.le_of_ble_eq_true rfl), (Nat.le_of_ble_eq_true rfl)⟩) hS (fun q _ h => hFc q h) hFc (fun u t H locs ht hvm hw62 hB _ _ hS => ?_)
      obtain ⟨u63, rfl⟩ : ∃ z, z = u := ⟨_, rfl⟩
      obtain ⟨hT, hF1, m64, m65⟩ := hB
      rw [ht] at hT hF1 m64 m65
      have m71 := (hF1.fld hr_o0 skc_14 (k := 6) (by decide) (by decide)).trans m3
      have m72 := (hF1.fld hg5 skc_90 (k := 1) (by decide) (by decide)).trans m55
      have m73 := (hF1.fld hg57 skc_93 (k := 0) (by decide) (by decide)).trans m58
      have hF := hF.more (hF1.sub hZ.1) (by decide)
      try dsimp only at hw62
      have hf74 := hw62
      refine lv_iconst (v := 1) hx hb dX11_keep_41 (by decide) ?_
      refine W.widen (k := 115) (n := 2151) (by decide) (by decide) ?_
      exact W.zret (v := 1) hx hb hr (by decide) (fun t ht hW => ⟨⟨1, (G, nC, nS), rfl, ⟨(rg_t (a := 1) (by decide) (by first | decide | omega) (by first | decide | omega)), by have : (1 : Int32).toInt = 1 := (by decide); omega⟩, by (try dsimp only); rw [ht]; exact ⟨hT, hF, hZ, (by omega), (by omega), Or.inr ⟨by omega, _, _, _, _, m71, hg5, m64, by omega, m72, hg57, m73, hg60, m65⟩⟩⟩, hS.F ht⟩) hS.2.2 dX11_keep_42
  · have t75 : ho.toInt = 0 := ti_eq c1 rfl (by decide)
    refine lv_iconst (v := 0) hx hb dX11_keep_10 (by decide) ?_
    refine W.widen (k := 115) (n := 2151) (by decide) (by decide) ?_
    exact W.zret (v := 0) hx hb hr (by decide) (fun t ht hW => ⟨⟨0, (G, nC, nS), rfl, ⟨(rg_t (a := 0) (by decide) (by first | decide | omega) (by first | decide | omega)), by have : (0 : Int32).toInt = 0 := (by decide); omega⟩, by (try dsimp only); rw [ht]; exact ⟨hT, hF, hZ, (by omega), (by omega), Or.inl ⟨by omega, rfl⟩⟩⟩, hS.F ht⟩) hS.2.2 dX11_keep_11
def w_c_farmMayBeC : List Cond := .code yX0_farmMayBe cX0_farmMayBe 6 (some .boolean) :: (HAppend.hAppend (α := List Cond) (β := List Cond) (γ := List Cond) [.fieldLink RX0 143 "SeaLand$Board" "farms" "I", .code yX11_inRectangle cX11_inRectangle 3 (some .boolean), .code yX11_isBetween cX11_isBetween 3 (some .boolean), .methodLink RX11 588 Lib.Math.min.name, .static Lib.Math.min.name, .initialized "java/lang/Math", .code Lib.Math.min.name Lib.Math.min.code 2 (some .int), .methodLink RX11 591 Lib.Math.max.name, .static Lib.Math.max.name, .code Lib.Math.max.name Lib.Math.max.code 2 (some .int), .methodLink RX11 585 yX11_isBetween, .static yX11_isBetween, .initialized RX11, .static yX11_inRectangle, .fieldLink RX0 17 "SeaLand$Board" "farmOf" "[I"] bs2)
set_option maxHeartbeats 4000000 in
set_option maxRecDepth 100000 in
theorem c_farmMayBeC (l : Launch) (dC : Nat → ClassId) (dI : Nat → Nat → Nat) (kA : Nat → ClassId) (adK adV : Nat → Nat) (G : gT) (H0 : Heap) (nC nS : Int) (o0 : Nat) (p0 : Int32) (p1 : Int32) (p2 : Nat) (nf : Int32) (fo : Nat) (la : Nat) (VL : Nat → Int32) (VF : Nat → Int32)  (hT : gH (dC, dI) kA (SHc nC nS) G H0) (hr_p2 : G p2 = some 5) (hr_o0 : G o0 = some 3) (hm_nf : el H0 o0 (dI 3 16) = some (.int nf)) (hm_fo : el H0 o0 (dI 3 1) = some (.ref fo)) (hr_fo : G fo = some 52) (hm_la : el H0 p2 (dI 5 0) = some (.ref la)) (hr_la : G la = some 25) (hq0 : 0 ≤ nf.toInt ∧ nf.toInt ≤ 30) (hq1 : 0 ≤ p0.toInt ∧ p0.toInt ≤ 95) (hq2 : 0 ≤ p1.toInt ∧ p1.toInt ≤ 95) (hc_VL : ct H0 la 96 VL) (hc_VF : ct H0 fo 96 VF) (hgC : 0 ≤ nC ∧ nC ≤ 40) (hgS : 0 ≤ nS ∧ nS ≤ 60) : Met l yX0_farmMayBe w_c_farmMayBeC ({ frames := 3, cells := 0, slots := 0, locals := 84 }) (va_Pc [.ref o0, .int p0, .int p1, .ref p2] (fun U => U.heap = H0 ∧ va_K (dC, dI) vwCl (tyl kA) U ∧ EVC adK adV (gA G H0.size) U U.heap)) (va_Qi (fun (r : Int32) (u : Unit) => (0 ≤ r.toInt ∧ r.toInt ≤ 1) ∧ ((r.toInt = 1 ∧ (decide (nf.toInt < 30) && fmK (fun j => (VL j).toInt) (fun j => (VF j).toInt + 1) p0.toInt p1.toInt 96) = true) ∨ (r.toInt = 0 ∧ (decide (nf.toInt < 30) && fmK (fun j => (VL j).toInt) (fun j => (VF j).toInt + 1) p0.toInt p1.toInt 96) = false))) (fun (_ : Unit) (t : State) => gH (dC, dI) kA (SHc nC nS) G t.heap ∧ gF (dC, dI) SKc G ([] : List (Nat × Nat)) H0 t.heap) (gA G H0.size)) 0 0 (gA G H0.size) := by
  refine Met.ofW (cc := cX0_farmMayBe) (maxL := 6) (ret := (some .boolean)) (by decide) rfl ?_
  intro p e s m args below meth c s₁ B hml hv
  obtain ⟨rfl, hH0, hK, hE⟩ := hv
  have hx := B.exec
  have hb := B.bytes
  have hr := B.returns
  have hts := atoms_spec (ws := w_c_farmMayBeC) B.pre
  have hown : s.vm.findClass RX0 = some m.cls := findClass_of_methodNamed B.named
  have hlocks := B.notSynchronized
  subst hH0
  generalize hAe : gA G s.heap.size = A at hE ⊢
  have hA : ∀ q : Nat, s.heap.size ≤ q → A q := fun q h => by rw [← hAe]; exact Or.inr h
  have hG := gA_of hAe
  have hS : va_S A s.heap s.heap [] := va_S.rf
  have hF : gF (dC, dI) SKc G ([] : List (Nat × Nat)) s.heap s.heap := gF.rf
  have hl := lv_entry ([.ref o0, .int p0, .int p1, .ref p2]) (n := 6) (Nat.le_of_ble_eq_true rfl)
  rw [lg_entry_eq]
  generalize (lg_sl ([.ref o0, .int p0, .int p1, .ref p2]) ++ List.replicate (6 - (lg_sl ([.ref o0, .int p0, .int p1, .ref p2])).length) Slot.unset).toArray = ls at hl ⊢
  have hl : lv_has ls 6 [(0, .ref o0), (1, .int p0), (2, .int p1), (3, .ref p2)] := hl
  refine lv_aload_n hx hb dX0_farmMayBe_0 rfl (lv_at hl 0 rfl) ?_
  refine tw_getM (v := .int nf) hx hb hts bF2_X0 hown hK hT hr_o0 shc_3 rfl 16 (by decide) (ht_at2 hts 0 rfl) (fun _ h9 => h9) hm_nf dX0_farmMayBe_1 ?_
  refine lv_bipush (v := 30) hx hb dX0_farmMayBe_4 (by decide) ?_
  refine lv_icmp_ge (tgt := 13) hx hb dX0_farmMayBe_6 (by decide) (fun c1 => ?_) (fun c1 => ?_)
  · have t2 : 30 ≤ nf.toInt := ti_le c1 (by decide) rfl
    refine lv_iconst (v := 0) hx hb dX0_farmMayBe_13 (by decide) ?_
    refine lv_istore (lv' := [(4, .int 0), (0, .ref o0), (1, .int p0), (2, .int p1), (3, .ref p2)]) hx hb dX0_farmMayBe_14 hl (by decide) rfl (fun ls hl => ?_)
    refine lv_iconst (v := 0) hx hb dX0_farmMayBe_16 (by decide) ?_
    refine lv_istore (lv' := [(5, .int 0), (4, .int 0), (0, .ref o0), (1, .int p0), (2, .int p1), (3, .ref p2)]) hx hb dX0_farmMayBe_17 hl (by decide) rfl (fun ls hl => ?_)
    have key13 : ∀ (n13 i3 : Nat), i3 + n13 = 96 → 0 ≤ i3 → ((((0 : Int32).toInt = 1 ∧ (decide (nf.toInt < 30) && fmK (fun j => (VL j).toInt) (fun j => (VF j).toInt + 1) p0.toInt p1.toInt i3) = true) ∨ ((0 : Int32).toInt = 0 ∧ (decide (nf.toInt < 30) && fmK (fun j => (VL j).toInt) (fun j => (VF j).toInt + 1) p0.toInt p1.toInt i3) = false))) → ∀ (H : Heap) (locs : List Loc), gH (dC, dI) kA (SHc nC nS) G H → gF (dC, dI) SKc G ([] : List (Nat × Nat)) s.heap H → va_S A s.heap H locs → ct H la 96 VL → ct H fo 96 VF → el H o0 (dI 3 16) = some (.int nf) → el H o0 (dI 3 1) = some (.ref fo) → el H p2 (dI 5 0) = some (.ref la) → ∀ ls : Array Slot, lv_has ls 6 [(5, .int (nI i3)), (4, .int 0), (0, .ref o0), (1, .int p0), (2, .int p1), (3, .ref p2)] → W p l e (headSpec w_c_farmMayBeC ({ frames := 3, cells := 0, slots := 0, locals := 84 })).room s m #[.ref o0, .int p0, .int p1, .ref p2] below meth c H locs 0 0 (MQ below (va_Qi (fun (r : Int32) (u : Unit) => (0 ≤ r.toInt ∧ r.toInt ≤ 1) ∧ ((r.toInt = 1 ∧ (decide (nf.toInt < 30) && fmK (fun j => (VL j).toInt) (fun j => (VF j).toInt + 1) p0.toInt p1.toInt 96) = true) ∨ (r.toInt = 0 ∧ (decide (nf.toInt < 30) && fmK (fun j => (VL j).toInt) (fun j => (VF j).toInt + 1) p0.toInt p1.toInt 96) = false))) (fun (_ : Unit) (t : State) => gH (dC, dI) kA (SHc nC nS) G t.heap ∧ gF (dC, dI) SKc G ([] : List (Nat × Nat)) s.heap t.heap) A) #[.ref o0, .int p0, .int p1, .ref p2] s 0 0 A) (F0 m 19 ls []) := by
      intro n13
      induction n13 with
      | zero =>
        intro i3 hn13 hlo14 hj9 H locs hT hF hS m4 m5 m6 m7 m8 ls hl
        obtain rfl : 96 = i3 := by omega
        refine lv_iload hx hb dX0_farmMayBe_19 (lv_at hl 0 rfl) ?_
        refine lv_bipush (v := 96) hx hb dX0_farmMayBe_21 (by decide) ?_
        refine lv_icmp_ge (tgt := 75) hx hb dX0_farmMayBe_23 (by decide) (fun c15 => ?_) (fun c15 => (by exfalso; have q9 : ((96 : Nat) : Int) < 96 := ti_nle c15 (by decide) (nI_toInt (by omega)); omega))
        have t16 : 96 ≤ ((96 : Nat) : Int) := ti_le c15 (by decide) (nI_toInt (by omega))
        refine lv_iload hx hb dX0_farmMayBe_75 (lv_at hl 1 rfl) ?_
        exact W.zret (v := 0) hx hb hr (by decide) (fun t ht hW => ⟨⟨0, (), rfl, (by exact ⟨(rg_t (a := 0) (by decide) (by first | decide | omega) (by first | decide | omega)), (by have q0 : (0 : Int32).toInt = 0 := (by decide); have q1 : (1 : Int32).toInt = 1 := (by decide); rcases hj9 with h9 | h9; exact Or.inl ⟨h9.1, fm_f (by omega) h9.2⟩; exact Or.inr ⟨h9.1, fm_g h9.2 (by omega)⟩)⟩), by (try dsimp only); rw [ht]; exact ⟨hT, hF⟩⟩, hS.F ht⟩) hS.2.2 dX0_farmMayBe_77
      | succ n13 ih13 =>
        intro i3 hn13 hlo14 hj9 H locs hT hF hS m4 m5 m6 m7 m8 ls hl
        have hlt16 : i3 < 96 := by omega
        refine lv_iload hx hb dX0_farmMayBe_19 (lv_at hl 0 rfl) ?_
        refine lv_bipush (v := 96) hx hb dX0_farmMayBe_21 (by decide) ?_
        refine lv_icmp_ge (tgt := 75) hx hb dX0_farmMayBe_23 (by decide) (fun c17 => (by exfalso; have q9 : 96 ≤ ((i3 : Nat) : Int) := ti_le c17 (by decide) (nI_toInt (by omega)); omega)) (fun c17 => ?_)
        have t18 : ((i3 : Nat) : Int) < 96 := ti_nle c17 (by decide) (nI_toInt (by omega))
        refine lv_iload hx hb dX0_farmMayBe_26 (lv_at hl 1 rfl) ?_
        refine lv_if_eq (tgt := 75) hx hb dX0_farmMayBe_28 (by decide) (fun c19 => ?_) (fun c19 => absurd c19 (by decide))
        refine lv_iload hx hb dX0_farmMayBe_75 (lv_at hl 1 rfl) ?_
        exact W.zret (v := 0) hx hb hr (by decide) (fun t ht hW => ⟨⟨0, (), rfl, (by exact ⟨(rg_t (a := 0) (by decide) (by first | decide | omega) (by first | decide | omega)), (by have q0 : (0 : Int32).toInt = 0 := (by decide); have q1 : (1 : Int32).toInt = 1 := (by decide); rcases hj9 with h9 | h9; exact Or.inl ⟨h9.1, fm_f (by omega) h9.2⟩; exact Or.inr ⟨h9.1, fm_g h9.2 (by omega)⟩)⟩), by (try dsimp only); rw [ht]; exact ⟨hT, hF⟩⟩, hS.F ht⟩) hS.2.2 dX0_farmMayBe_77
    exact key13 (96 - 0) 0 (by omega) (Nat.le_refl _) (by have q0 : (0 : Int32).toInt = 0 := (by decide); have q1 : (1 : Int32).toInt = 1 := (by decide); first | exact Or.inl ⟨by omega, fm_a (by omega) rfl⟩ | exact Or.inr ⟨by omega, fm_b (by omega)⟩) _ _ hT hF hS hc_VL hc_VF hm_nf hm_fo hm_la ls (lv_sub hl [0, 1, 2, 3, 4, 5] rfl)
  · have t20 : nf.toInt < 30 := ti_nle c1 (by decide) rfl
    refine lv_iconst (v := 1) hx hb dX0_farmMayBe_9 (by decide) ?_
    refine lv_goto (tgt := 14) hx hb dX0_farmMayBe_10 (by decide) ?_
    refine lv_istore (lv' := [(4, .int 1), (0, .ref o0), (1, .int p0), (2, .int p1), (3, .ref p2)]) hx hb dX0_farmMayBe_14 hl (by decide) rfl (fun ls hl => ?_)
    refine lv_iconst (v := 0) hx hb dX0_farmMayBe_16 (by decide) ?_
    refine lv_istore (lv' := [(5, .int 0), (4, .int 1), (0, .ref o0), (1, .int p0), (2, .int p1), (3, .ref p2)]) hx hb dX0_farmMayBe_17 hl (by decide) rfl (fun ls hl => ?_)
    have key59 : ∀ (n59 i21 : Nat), i21 + n59 = 96 → 0 ≤ i21 → ∀ (z22 : Int32), ((0 ≤ z22.toInt ∧ z22.toInt ≤ 1) ∧ ((z22.toInt = 1 ∧ (decide (nf.toInt < 30) && fmK (fun j => (VL j).toInt) (fun j => (VF j).toInt + 1) p0.toInt p1.toInt i21) = true) ∨ (z22.toInt = 0 ∧ (decide (nf.toInt < 30) && fmK (fun j => (VL j).toInt) (fun j => (VF j).toInt + 1) p0.toInt p1.toInt i21) = false))) → ∀ (H : Heap) (locs : List Loc), gH (dC, dI) kA (SHc nC nS) G H → gF (dC, dI) SKc G ([] : List (Nat × Nat)) s.heap H → va_S A s.heap H locs → ct H la 96 VL → ct H fo 96 VF → el H o0 (dI 3 16) = some (.int nf) → el H o0 (dI 3 1) = some (.ref fo) → el H p2 (dI 5 0) = some (.ref la) → ∀ ls : Array Slot, lv_has ls 6 [(5, .int (nI i21)), (4, .int z22), (0, .ref o0), (1, .int p0), (2, .int p1), (3, .ref p2)] → W p l e (headSpec w_c_farmMayBeC ({ frames := 3, cells := 0, slots := 0, locals := 84 })).room s m #[.ref o0, .int p0, .int p1, .ref p2] below meth c H locs 0 0 (MQ below (va_Qi (fun (r : Int32) (u : Unit) => (0 ≤ r.toInt ∧ r.toInt ≤ 1) ∧ ((r.toInt = 1 ∧ (decide (nf.toInt < 30) && fmK (fun j => (VL j).toInt) (fun j => (VF j).toInt + 1) p0.toInt p1.toInt 96) = true) ∨ (r.toInt = 0 ∧ (decide (nf.toInt < 30) && fmK (fun j => (VL j).toInt) (fun j => (VF j).toInt + 1) p0.toInt p1.toInt 96) = false))) (fun (_ : Unit) (t : State) => gH (dC, dI) kA (SHc nC nS) G t.heap ∧ gF (dC, dI) SKc G ([] : List (Nat × Nat)) s.heap t.heap) A) #[.ref o0, .int p0, .int p1, .ref p2] s 0 0 A) (F0 m 19 ls []) := by
      intro n59
      induction n59 with
      | zero =>
        intro i21 hn59 hlo60 z22 ⟨h23, hj29⟩ H locs hT hF hS m24 m25 m26 m27 m28 ls hl
        obtain rfl : 96 = i21 := by omega
        refine lv_iload hx hb dX0_farmMayBe_19 (lv_at hl 0 rfl) ?_
        refine lv_bipush (v := 96) hx hb dX0_farmMayBe_21 (by decide) ?_
        refine lv_icmp_ge (tgt := 75) hx hb dX0_farmMayBe_23 (by decide) (fun c61 => ?_) (fun c61 => (by exfalso; have q9 : ((96 : Nat) : Int) < 96 := ti_nle c61 (by decide) (nI_toInt (by omega)); omega))
        have t62 : 96 ≤ ((96 : Nat) : Int) := ti_le c61 (by decide) (nI_toInt (by omega))
        refine lv_iload hx hb dX0_farmMayBe_75 (lv_at hl 1 rfl) ?_
        exact W.zret (v := z22) hx hb hr (nar_b (by have q8 := ti_all z22; omega)) (fun t ht hW => ⟨⟨z22, (), rfl, (by exact ⟨(by have q8 := ti_all z22; omega), (by have q0 : (0 : Int32).toInt = 0 := (by decide); have q1 : (1 : Int32).toInt = 1 := (by decide); rcases hj29 with h9 | h9; exact Or.inl ⟨h9.1, fm_f (by omega) h9.2⟩; exact Or.inr ⟨h9.1, fm_g h9.2 (by omega)⟩)⟩), by (try dsimp only); rw [ht]; exact ⟨hT, hF⟩⟩, hS.F ht⟩) hS.2.2 dX0_farmMayBe_77
      | succ n59 ih59 =>
        intro i21 hn59 hlo60 z22 ⟨h23, hj29⟩ H locs hT hF hS m24 m25 m26 m27 m28 ls hl
        have hlt62 : i21 < 96 := by omega
        refine lv_iload hx hb dX0_farmMayBe_19 (lv_at hl 0 rfl) ?_
        refine lv_bipush (v := 96) hx hb dX0_farmMayBe_21 (by decide) ?_
        refine lv_icmp_ge (tgt := 75) hx hb dX0_farmMayBe_23 (by decide) (fun c63 => (by exfalso; have q9 : 96 ≤ ((i21 : Nat) : Int) := ti_le c63 (by decide) (nI_toInt (by omega)); omega)) (fun c63 => ?_)
        have t64 : ((i21 : Nat) : Int) < 96 := ti_nle c63 (by decide) (nI_toInt (by omega))
        refine lv_iload hx hb dX0_farmMayBe_26 (lv_at hl 1 rfl) ?_
        refine lv_if_eq (tgt := 75) hx hb dX0_farmMayBe_28 (by decide) (fun c65 => ?_) (fun c65 => ?_)
        · have t66 : z22.toInt = 0 := ti_eq c65 rfl (by decide)
          refine lv_iload hx hb dX0_farmMayBe_75 (lv_at hl 1 rfl) ?_
          exact W.zret (v := z22) hx hb hr (nar_b (by have q8 := ti_all z22; omega)) (fun t ht hW => ⟨⟨z22, (), rfl, (by exact ⟨(by have q8 := ti_all z22; omega), (by have q0 : (0 : Int32).toInt = 0 := (by decide); have q1 : (1 : Int32).toInt = 1 := (by decide); rcases hj29 with h9 | h9; exact Or.inl ⟨h9.1, fm_f (by omega) h9.2⟩; exact Or.inr ⟨h9.1, fm_g h9.2 (by omega)⟩)⟩), by (try dsimp only); rw [ht]; exact ⟨hT, hF⟩⟩, hS.F ht⟩) hS.2.2 dX0_farmMayBe_77
        · have t67 : z22.toInt ≠ 0 := ti_ne c65 rfl (by decide)
          refine lv_iload hx hb dX0_farmMayBe_31 (lv_at hl 0 rfl) ?_
          refine lv_iload_n hx hb dX0_farmMayBe_33 rfl (lv_at hl 3 rfl) ?_
          refine lv_iload_n hx hb dX0_farmMayBe_34 rfl (lv_at hl 4 rfl) ?_
          have hFc := gA_free hG hA hS
          refine va_calli (va_runSN (As := [.int (nI i21), .int p0, .int p1]) (rest := []) ⟨hx, hb, hml, hown, hts⟩ (c_inRectangleE l dC dI kA adK adV G H nC nS (nI i21) p0 p1 hT (rg_t (a := ((i21 : Nat) : Int)) (nI_toInt (by omega)) (by omega) (by omega)) (by have q8 := ti_all p0; omega) (by have q8 := ti_all p1; omega) (by omega) (by omega)) ⟨va_cnB 3 hts (goodIn_ca (goodIn_r _ [2, 3, 4, 5, 6, 7, 8, 9, 10, 11, 12, 13] rfl (by decide +kernel)) (bs2_in _ _)) rfl rfl rfl (hE.nm 105 rfl) (ht_at2 hts 12 rfl) (by decide +kernel) ⟨(Nat.le_of_ble_eq_true rfl), (Nat.le_of_ble_eq_true rfl)⟩, (ht_at2 hts 13 rfl), trivial⟩ ⟨fun a U g mk q => by obtain ⟨q0, q1, qK, qE⟩ := q; exact ⟨q0, q1, va_K.moved (u := U) (U := U.calling g mk a) (Vm.Alike.refl U.vm) qK, EVC.blind g mk a qE⟩, fun U hU hW => ⟨rfl, hU, va_K.moved hW.alike hK, hE.call hS hFc hU hW⟩⟩ rfl rfl hl.1 rfl (lv_room (Nat.le_of_ble_eq_true rfl)) dX0_farmMayBe_35 ⟨(Nat.le_of_ble_eq_true rfl), (Nat.le_of_ble_eq_true rfl)⟩) hS (fun q _ h => hFc q h) hFc (fun r68 u t H locs ht hvm hw69 hB _ _ hS => ?_)
          obtain ⟨hT, hF1⟩ := hB
          rw [ht] at hT hF1
          have m70 := m24.kept (hF1.arr hr_la skc_25 (by decide))
          have m71 := m25.kept (hF1.arr hr_fo skc_52 (by decide))
          have m72 := (hF1.fld hr_o0 skc_3 (k := 16) (by decide) (by decide)).trans m26
          have m73 := (hF1.fld hr_o0 skc_3 (k := 1) (by decide) (by decide)).trans m27
          have m74 := (hF1.fld hr_p2 skc_5 (k := 0) (by decide) (by decide)).trans m28
          have hF := hF.more hF1 (by decide)
          try dsimp only at hw69
          obtain ⟨h75, hf76⟩ := hw69
          have t77 : (nI i21).toInt = ((i21 : Nat) : Int) := nI_toInt (by omega)
          refine lv_if_eq (tgt := 69) hx hb dX0_farmMayBe_38 (by decide) (fun c78 => ?_) (fun c78 => ?_)
          · have t79 : r68.toInt = 0 := ti_eq c78 rfl (by decide)
            refine lv_iinc (v := nI (i21 + 1)) (lv' := [(5, .int (nI (i21 + 1))), (4, .int z22), (0, .ref o0), (1, .int p0), (2, .int p1), (3, .ref p2)]) hx hb dX0_farmMayBe_69 hl (k := 0) rfl (nI_add i21 1) (by decide) rfl (fun ls hl => ?_)
            refine lv_goto (tgt := 19) hx hb dX0_farmMayBe_72 (by decide) ?_
            exact ih59 (i21 + 1) (by omega) (by omega) z22 ⟨(by have q8 := ti_all z22; omega), (by have := (show z22.toInt = z22.toInt from rfl); have h9 := (hj29.resolve_right (fun h8 => by have := h8.1; omega)).2; first | exact Or.inl ⟨by omega, fm_c (by omega) (fmK_out (inR_0 (s := ((i21 : Nat) : Int)) (a := p0.toInt) (b := p1.toInt) (by have q9 : (nI i21).toInt = ((i21 : Nat) : Int) := nI_toInt (by omega); omega)) (fm_d h9))⟩ | exact Or.inl ⟨by omega, fm_c (by omega) (fmK_ok (by show (VL i21).toInt = 1; rw [ela]; omega) (by show (VF i21).toInt + 1 = 0; rw [efo]; omega) (fm_d h9))⟩ | exact Or.inr ⟨by omega, fm_e (fmK_no (inR_1 (s := ((i21 : Nat) : Int)) (a := p0.toInt) (b := p1.toInt) (by have q9 : (nI i21).toInt = ((i21 : Nat) : Int) := nI_toInt (by omega); omega)) (Or.inl (by show (VL i21).toInt ≠ 1; rw [ela]; omega)))⟩ | exact Or.inr ⟨by omega, fm_e (fmK_no (inR_1 (s := ((i21 : Nat) : Int)) (a := p0.toInt) (b := p1.toInt) (by have q9 : (nI i21).toInt = ((i21 : Nat) : Int) := nI_toInt (by omega); omega)) (Or.inr (by show (VF i21).toInt + 1 ≠ 0; rw [efo]; omega)))⟩)⟩ _ _ hT hF hS m70 m71 m72 m73 m74 ls (lv_sub hl [0, 1, 2, 3, 4, 5] rfl)
          · have t80 : r68.toInt ≠ 0 := ti_ne c78 rfl (by decide)
            refine lv_aload_n hx hb dX0_farmMayBe_41 rfl (lv_at hl 5 rfl) ?_
            refine tw_getNM (v := .ref la) hx hb hts bF2_X2 hown hK hT hr_p2 shc_5 rfl 0 (by decide) (hE.nw 70 rfl) (fun _ h9 => h9) m74 dX0_farmMayBe_42 ?_
            refine lv_iload hx hb dX0_farmMayBe_45 (lv_at hl 0 rfl) ?_
            refine tw_zald (i := (nI i21)) hx hb hK hT hr_la shc_25 rfl (vp_in_nI (by omega) (by decide)) dX0_farmMayBe_47 (fun v9 m81 h9 => ?_)
            obtain ⟨x82, rfl, gx82, kx82⟩ := h9
            have cx82 := m70.at m81 (by have q9 := tn_of (show (nI i21).toInt = ((i21 : Nat) : Int) from (nI_toInt (by omega))) (by omega); omega)
            refine lv_if_eq (tgt := 66) hx hb dX0_farmMayBe_48 (by decide) (fun c83 => ?_) (fun c83 => ?_)
            · have t84 : x82.toInt = 0 := ti_eq c83 rfl (by decide)
              refine lv_iconst (v := 0) hx hb dX0_farmMayBe_66 (by decide) ?_
              refine lv_istore (lv' := [(4, .int 0), (5, .int (nI i21)), (0, .ref o0), (1, .int p0), (2, .int p1), (3, .ref p2)]) hx hb dX0_farmMayBe_67 hl (by decide) rfl (fun ls hl => ?_)
              refine lv_iinc (v := nI (i21 + 1)) (lv' := [(5, .int (nI (i21 + 1))), (4, .int 0), (0, .ref o0), (1, .int p0), (2, .int p1), (3, .ref p2)]) hx hb dX0_farmMayBe_69 hl (k := 1) rfl (nI_add i21 1) (by decide) rfl (fun ls hl => ?_)
              refine lv_goto (tgt := 19) hx hb dX0_farmMayBe_72 (by decide) ?_
              exact ih59 (i21 + 1) (by omega) (by omega) 0 ⟨(rg_t (a := 0) (by decide) (by first | decide | omega) (by first | decide | omega)), (by have := (show (0 : Int32).toInt = 0 from (by decide)); have ela : (VL i21) = x82 := (cx82.trans (by rw [tn_nI (by omega)])).symm; have h9 := (hj29.resolve_right (fun h8 => by have := h8.1; omega)).2; first | exact Or.inl ⟨by omega, fm_c (by omega) (fmK_out (inR_0 (s := ((i21 : Nat) : Int)) (a := p0.toInt) (b := p1.toInt) (by have q9 : (nI i21).toInt = ((i21 : Nat) : Int) := nI_toInt (by omega); omega)) (fm_d h9))⟩ | exact Or.inl ⟨by omega, fm_c (by omega) (fmK_ok (by show (VL i21).toInt = 1; rw [ela]; omega) (by show (VF i21).toInt + 1 = 0; rw [efo]; omega) (fm_d h9))⟩ | exact Or.inr ⟨by omega, fm_e (fmK_no (inR_1 (s := ((i21 : Nat) : Int)) (a := p0.toInt) (b := p1.toInt) (by have q9 : (nI i21).toInt = ((i21 : Nat) : Int) := nI_toInt (by omega); omega)) (Or.inl (by show (VL i21).toInt ≠ 1; rw [ela]; omega)))⟩ | exact Or.inr ⟨by omega, fm_e (fmK_no (inR_1 (s := ((i21 : Nat) : Int)) (a := p0.toInt) (b := p1.toInt) (by have q9 : (nI i21).toInt = ((i21 : Nat) : Int) := nI_toInt (by omega); omega)) (Or.inr (by show (VF i21).toInt + 1 ≠ 0; rw [efo]; omega)))⟩)⟩ _ _ hT hF hS m70 m71 m72 m73 m74 ls (lv_sub hl [0, 1, 2, 3, 4, 5] rfl)
            · have t85 : x82.toInt ≠ 0 := ti_ne c83 rfl (by decide)
              refine lv_aload_n hx hb dX0_farmMayBe_51 rfl (lv_at hl 2 rfl) ?_
              refine tw_getM (v := .ref fo) hx hb hts bF2_X0 hown hK hT hr_o0 shc_3 rfl 1 (by decide) (ht_at2 hts 14 rfl) (fun _ h9 => h9) m73 dX0_farmMayBe_52 ?_
              refine lv_iload hx hb dX0_farmMayBe_55 (lv_at hl 0 rfl) ?_
              refine tw_iald (i := (nI i21)) hx hb hK hT hr_fo shc_52 rfl (vp_in_nI (by omega) (by decide)) dX0_farmMayBe_57 (fun v9 m86 h9 => ?_)
              obtain ⟨x87, rfl, gx87, kx87⟩ := h9
              have cx87 := m71.at m86 (by have q9 := tn_of (show (nI i21).toInt = ((i21 : Nat) : Int) from (nI_toInt (by omega))) (by omega); omega)
              refine lv_iconst (v := (-1)) hx hb dX0_farmMayBe_58 (by decide) ?_
              have t88 : -2147483648 ≤ x87.toInt ∧ x87.toInt ≤ 2147483647 := ti_all x87
              refine lv_icmp_ne (tgt := 66) hx hb dX0_farmMayBe_59 (by decide) (fun c89 => ?_) (fun c89 => ?_)
              · have t90 : x87.toInt ≠ (-1) := ti_ne c89 rfl (by decide)
                refine lv_iconst (v := 0) hx hb dX0_farmMayBe_66 (by decide) ?_
                refine lv_istore (lv' := [(4, .int 0), (5, .int (nI i21)), (0, .ref o0), (1, .int p0), (2, .int p1), (3, .ref p2)]) hx hb dX0_farmMayBe_67 hl (by decide) rfl (fun ls hl => ?_)
                refine lv_iinc (v := nI (i21 + 1)) (lv' := [(5, .int (nI (i21 + 1))), (4, .int 0), (0, .ref o0), (1, .int p0), (2, .int p1), (3, .ref p2)]) hx hb dX0_farmMayBe_69 hl (k := 1) rfl (nI_add i21 1) (by decide) rfl (fun ls hl => ?_)
                refine lv_goto (tgt := 19) hx hb dX0_farmMayBe_72 (by decide) ?_
                exact ih59 (i21 + 1) (by omega) (by omega) 0 ⟨(rg_t (a := 0) (by decide) (by first | decide | omega) (by first | decide | omega)), (by have := (show (0 : Int32).toInt = 0 from (by decide)); have ela : (VL i21) = x82 := (cx82.trans (by rw [tn_nI (by omega)])).symm; have efo : (VF i21) = x87 := (cx87.trans (by rw [tn_nI (by omega)])).symm; have h9 := (hj29.resolve_right (fun h8 => by have := h8.1; omega)).2; first | exact Or.inl ⟨by omega, fm_c (by omega) (fmK_out (inR_0 (s := ((i21 : Nat) : Int)) (a := p0.toInt) (b := p1.toInt) (by have q9 : (nI i21).toInt = ((i21 : Nat) : Int) := nI_toInt (by omega); omega)) (fm_d h9))⟩ | exact Or.inl ⟨by omega, fm_c (by omega) (fmK_ok (by show (VL i21).toInt = 1; rw [ela]; omega) (by show (VF i21).toInt + 1 = 0; rw [efo]; omega) (fm_d h9))⟩ | exact Or.inr ⟨by omega, fm_e (fmK_no (inR_1 (s := ((i21 : Nat) : Int)) (a := p0.toInt) (b := p1.toInt) (by have q9 : (nI i21).toInt = ((i21 : Nat) : Int) := nI_toInt (by omega); omega)) (Or.inl (by show (VL i21).toInt ≠ 1; rw [ela]; omega)))⟩ | exact Or.inr ⟨by omega, fm_e (fmK_no (inR_1 (s := ((i21 : Nat) : Int)) (a := p0.toInt) (b := p1.toInt) (by have q9 : (nI i21).toInt = ((i21 : Nat) : Int) := nI_toInt (by omega); omega)) (Or.inr (by show (VF i21).toInt + 1 ≠ 0; rw [efo]; omega)))⟩)⟩ _ _ hT hF hS m70 m71 m72 m73 m74 ls (lv_sub hl [0, 1, 2, 3, 4, 5] rfl)
              · have t91 : x87.toInt = (-1) := ti_eq c89 rfl (by decide)
                refine lv_iconst (v := 1) hx hb dX0_farmMayBe_62 (by decide) ?_
                refine lv_goto (tgt := 67) hx hb dX0_farmMayBe_63 (by decide) ?_
                refine lv_istore (lv' := [(4, .int 1), (5, .int (nI i21)), (0, .ref o0), (1, .int p0), (2, .int p1), (3, .ref p2)]) hx hb dX0_farmMayBe_67 hl (by decide) rfl (fun ls hl => ?_)
                refine lv_iinc (v := nI (i21 + 1)) (lv' := [(5, .int (nI (i21 + 1))), (4, .int 1), (0, .ref o0), (1, .int p0), (2, .int p1), (3, .ref p2)]) hx hb dX0_farmMayBe_69 hl (k := 1) rfl (nI_add i21 1) (by decide) rfl (fun ls hl => ?_)
                refine lv_goto (tgt := 19) hx hb dX0_farmMayBe_72 (by decide) ?_
                exact ih59 (i21 + 1) (by omega) (by omega) 1 ⟨(rg_t (a := 1) (by decide) (by first | decide | omega) (by first | decide | omega)), (by have := (show (1 : Int32).toInt = 1 from (by decide)); have ela : (VL i21) = x82 := (cx82.trans (by rw [tn_nI (by omega)])).symm; have efo : (VF i21) = x87 := (cx87.trans (by rw [tn_nI (by omega)])).symm; have h9 := (hj29.resolve_right (fun h8 => by have := h8.1; omega)).2; first | exact Or.inl ⟨by omega, fm_c (by omega) (fmK_out (inR_0 (s := ((i21 : Nat) : Int)) (a := p0.toInt) (b := p1.toInt) (by have q9 : (nI i21).toInt = ((i21 : Nat) : Int) := nI_toInt (by omega); omega)) (fm_d h9))⟩ | exact Or.inl ⟨by omega, fm_c (by omega) (fmK_ok (by show (VL i21).toInt = 1; rw [ela]; omega) (by show (VF i21).toInt + 1 = 0; rw [efo]; omega) (fm_d h9))⟩ | exact Or.inr ⟨by omega, fm_e (fmK_no (inR_1 (s := ((i21 : Nat) : Int)) (a := p0.toInt) (b := p1.toInt) (by have q9 : (nI i21).toInt = ((i21 : Nat) : Int) := nI_toInt (by omega); omega)) (Or.inl (by show (VL i21).toInt ≠ 1; rw [ela]; omega)))⟩ | exact Or.inr ⟨by omega, fm_e (fmK_no (inR_1 (s := ((i21 : Nat) : Int)) (a := p0.toInt) (b := p1.toInt) (by have q9 : (nI i21).toInt = ((i21 : Nat) : Int) := nI_toInt (by omega); omega)) (Or.inr (by show (VF i21).toInt + 1 ≠ 0; rw [efo]; omega)))⟩)⟩ _ _ hT hF hS m70 m71 m72 m73 m74 ls (lv_sub hl [0, 1, 2, 3, 4, 5] rfl)
    exact key59 (96 - 0) 0 (by omega) (Nat.le_refl _) 1 ⟨(rg_t (a := 1) (by decide) (by first | decide | omega) (by first | decide | omega)), (by have q0 : (0 : Int32).toInt = 0 := (by decide); have q1 : (1 : Int32).toInt = 1 := (by decide); first | exact Or.inl ⟨by omega, fm_a (by omega) rfl⟩ | exact Or.inr ⟨by omega, fm_b (by omega)⟩)⟩ _ _ hT hF hS hc_VL hc_VF hm_nf hm_fo hm_la ls (lv_sub hl [0, 1, 2, 3, 4, 5] rfl)
def w_c_layOutC : List Cond := .code yX0_layOut cX0_layOut 4 (some .int) :: (HAppend.hAppend (α := List Cond) (β := List Cond) (γ := List Cond) [.fieldLink RX0 143 "SeaLand$Board" "farms" "I", .code yX11_inRectangle cX11_inRectangle 3 (some .boolean), .code yX11_isBetween cX11_isBetween 3 (some .boolean), .methodLink RX11 588 Lib.Math.min.name, .static Lib.Math.min.name, .initialized "java/lang/Math", .code Lib.Math.min.name Lib.Math.min.code 2 (some .int), .methodLink RX11 591 Lib.Math.max.name, .static Lib.Math.max.name, .code Lib.Math.max.name Lib.Math.max.code 2 (some .int), .methodLink RX11 585 yX11_isBetween, .static yX11_isBetween, .initialized RX11, .static yX11_inRectangle, .fieldLink RX0 17 "SeaLand$Board" "farmOf" "[I"] bs2)
set_option maxHeartbeats 4000000 in
set_option maxRecDepth 100000 in
theorem c_layOutC (l : Launch) (dC : Nat → ClassId) (dI : Nat → Nat → Nat) (kA : Nat → ClassId) (adK adV : Nat → Nat) (G : gT) (H0 : Heap) (nC nS : Int) (o0 : Nat) (p0 : Int32) (p1 : Int32) (nf : Int32) (fo : Nat) (VF : Nat → Int32)  (hT : gH (dC, dI) kA (SHc nC nS) G H0) (hr_o0 : G o0 = some 3) (hm_nf : el H0 o0 (dI 3 16) = some (.int nf)) (hm_fo : el H0 o0 (dI 3 1) = some (.ref fo)) (hr_fo : G fo = some 52) (hq0 : 0 ≤ nf.toInt ∧ nf.toInt ≤ 29) (hq1 : 0 ≤ p0.toInt ∧ p0.toInt ≤ 95) (hq2 : 0 ≤ p1.toInt ∧ p1.toInt ≤ 95) (hc_VF : ct H0 fo 96 VF) (hgC : 0 ≤ nC ∧ nC ≤ 40) (hgS : 0 ≤ nS ∧ nS ≤ 60) : Met l yX0_layOut w_c_layOutC ({ frames := 3, cells := 0, slots := 0, locals := 84 }) (va_Pc [.ref o0, .int p0, .int p1] (fun U => U.heap = H0 ∧ va_K (dC, dI) vwCl (tyl kA) U ∧ EVC adK adV (gA G H0.size) U U.heap)) (va_Qi (fun (r : Int32) (u : Int32) => (0 ≤ r.toInt ∧ r.toInt ≤ 29) ∧ (r.toInt = nf.toInt ∧ u.toInt = nf.toInt + 1)) (fun (f1 : Int32) (t : State) => gH (dC, dI) kA (SHc nC nS) G t.heap ∧ gF (dC, dI) SKc G ([(3, 16), (52, 0)] : List (Nat × Nat)) H0 t.heap ∧ el t.heap o0 (dI 3 16) = some (.int f1) ∧ ct t.heap fo 96 (lyV VF nf p0.toInt p1.toInt 96)) (gA G H0.size)) 0 0 (gA G H0.size) := by
  refine Met.ofW (cc := cX0_layOut) (maxL := 4) (ret := (some .int)) (by decide) rfl ?_
  intro p e s m args below meth c s₁ B hml hv
  obtain ⟨rfl, hH0, hK, hE⟩ := hv
  have hx := B.exec
  have hb := B.bytes
  have hr := B.returns
  have hts := atoms_spec (ws := w_c_layOutC) B.pre
  have hown : s.vm.findClass RX0 = some m.cls := findClass_of_methodNamed B.named
  have hlocks := B.notSynchronized
  subst hH0
  generalize hAe : gA G s.heap.size = A at hE ⊢
  have hA : ∀ q : Nat, s.heap.size ≤ q → A q := fun q h => by rw [← hAe]; exact Or.inr h
  have hG := gA_of hAe
  have hS : va_S A s.heap s.heap [] := va_S.rf
  have hF : gF (dC, dI) SKc G ([(3, 16), (52, 0)] : List (Nat × Nat)) s.heap s.heap := gF.rf
  have hl := lv_entry ([.ref o0, .int p0, .int p1]) (n := 4) (Nat.le_of_ble_eq_true rfl)
  rw [lg_entry_eq]
  generalize (lg_sl ([.ref o0, .int p0, .int p1]) ++ List.replicate (4 - (lg_sl ([.ref o0, .int p0, .int p1])).length) Slot.unset).toArray = ls at hl ⊢
  have hl : lv_has ls 4 [(0, .ref o0), (1, .int p0), (2, .int p1)] := hl
  refine lv_iconst (v := 0) hx hb dX0_layOut_0 (by decide) ?_
  refine lv_istore_n (lv' := [(3, .int 0), (0, .ref o0), (1, .int p0), (2, .int p1)]) hx hb dX0_layOut_1 rfl hl (by decide) rfl (fun ls hl => ?_)
  have key22 : ∀ (n22 i1 : Nat), i1 + n22 = 96 → 0 ≤ i1 → ∀ (H : Heap) (locs : List Loc), gH (dC, dI) kA (SHc nC nS) G H → gF (dC, dI) SKc G ([(3, 16), (52, 0)] : List (Nat × Nat)) s.heap H → va_S A s.heap H locs → ct H fo 96 (lyV VF nf p0.toInt p1.toInt i1) → el H o0 (dI 3 16) = some (.int nf) → el H o0 (dI 3 1) = some (.ref fo) → ∀ ls : Array Slot, lv_has ls 4 [(3, .int (nI i1)), (0, .ref o0), (1, .int p0), (2, .int p1)] → W p l e (headSpec w_c_layOutC ({ frames := 3, cells := 0, slots := 0, locals := 84 })).room s m #[.ref o0, .int p0, .int p1] below meth c H locs 0 0 (MQ below (va_Qi (fun (r : Int32) (u : Int32) => (0 ≤ r.toInt ∧ r.toInt ≤ 29) ∧ (r.toInt = nf.toInt ∧ u.toInt = nf.toInt + 1)) (fun (f1 : Int32) (t : State) => gH (dC, dI) kA (SHc nC nS) G t.heap ∧ gF (dC, dI) SKc G ([(3, 16), (52, 0)] : List (Nat × Nat)) s.heap t.heap ∧ el t.heap o0 (dI 3 16) = some (.int f1) ∧ ct t.heap fo 96 (lyV VF nf p0.toInt p1.toInt 96)) A) #[.ref o0, .int p0, .int p1] s 0 0 A) (F0 m 2 ls []) := by
    intro n22
    induction n22 with
    | zero =>
      intro i1 hn22 hlo23  H locs hT hF hS m2 m3 m4 ls hl
      obtain rfl : 96 = i1 := by omega
      refine lv_iload_n hx hb dX0_layOut_2 rfl (lv_at hl 0 rfl) ?_
      refine lv_bipush (v := 96) hx hb dX0_layOut_3 (by decide) ?_
      refine lv_icmp_ge (tgt := 33) hx hb dX0_layOut_5 (by decide) (fun c24 => ?_) (fun c24 => (by exfalso; have q9 : ((96 : Nat) : Int) < 96 := ti_nle c24 (by decide) (nI_toInt (by omega)); omega))
      have t25 : 96 ≤ ((96 : Nat) : Int) := ti_le c24 (by decide) (nI_toInt (by omega))
      refine lv_aload_n hx hb dX0_layOut_33 rfl (lv_at hl 1 rfl) ?_
      refine lv_dup hx hb dX0_layOut_34 rfl ?_
      refine tw_getM (v := .int nf) hx hb hts bF2_X0 hown hK hT hr_o0 shc_3 rfl 16 (by decide) (ht_at2 hts 0 rfl) (fun _ h9 => h9) m3 dX0_layOut_35 ?_
      refine lv_iconst (v := 1) hx hb dX0_layOut_38 (by decide) ?_
      refine lv_iadd hx hb dX0_layOut_39 ?_
      refine lv_topi (fun x26 ex26 => ?_)
      have t27 : x26.toInt = nf.toInt + 1 := ti_add ex26 rfl (by decide) (by omega) (by omega)
      refine tw_put (v := .int x26) (ty := .int) hx hb hts bF2_X0 tyX0 tyX0_ok nmX0 hown hK hT hG hS hr_o0 shc_3 rfl 16 (by decide) (ht_at2 hts 0 rfl) (fun _ h9 => h9) rfl (by decide +kernel) rfl rfl (gl_at rfl (gi_of (show x26.toInt = x26.toInt from rfl) (by omega) (by omega))) dX0_layOut_40 (fun H locs hT oq m28 oj hS => ?_)
      have hF := hF.put hr_o0 skc_3 oq oj (by decide)
      have m29 := m2.kept (oq _ (gne hr_fo hr_o0 (by decide)))
      refine lv_aload_n hx hb dX0_layOut_43 rfl (lv_at hl 1 rfl) ?_
      refine tw_getM (v := .int x26) hx hb hts bF2_X0 hown hK hT hr_o0 shc_3 rfl 16 (by decide) (ht_at2 hts 0 rfl) (fun _ h9 => h9) m28 dX0_layOut_44 ?_
      refine lv_iconst (v := 1) hx hb dX0_layOut_47 (by decide) ?_
      refine lv_isub hx hb dX0_layOut_48 ?_
      refine lv_topi (fun x31 ex31 => ?_)
      have t32 : x31.toInt = x26.toInt - 1 := ti_sub ex31 rfl (by decide) (by omega) (by omega)
      exact W.iret (v := x31) hx hb hr (fun t ht hW => ⟨⟨x31, x26, rfl, (by exact ⟨(by have q8 := ti_all x31; omega), (by omega)⟩), by (try dsimp only); rw [ht]; exact ⟨hT, hF, m28, m29⟩⟩, hS.F ht⟩) hS.2.2 dX0_layOut_49
    | succ n22 ih22 =>
      intro i1 hn22 hlo23  H locs hT hF hS m2 m3 m4 ls hl
      have hlt32 : i1 < 96 := by omega
      refine lv_iload_n hx hb dX0_layOut_2 rfl (lv_at hl 0 rfl) ?_
      refine lv_bipush (v := 96) hx hb dX0_layOut_3 (by decide) ?_
      refine lv_icmp_ge (tgt := 33) hx hb dX0_layOut_5 (by decide) (fun c33 => (by exfalso; have q9 : 96 ≤ ((i1 : Nat) : Int) := ti_le c33 (by decide) (nI_toInt (by omega)); omega)) (fun c33 => ?_)
      have t34 : ((i1 : Nat) : Int) < 96 := ti_nle c33 (by decide) (nI_toInt (by omega))
      refine lv_iload_n hx hb dX0_layOut_8 rfl (lv_at hl 0 rfl) ?_
      refine lv_iload_n hx hb dX0_layOut_9 rfl (lv_at hl 2 rfl) ?_
      refine lv_iload_n hx hb dX0_layOut_10 rfl (lv_at hl 3 rfl) ?_
      have hFc := gA_free hG hA hS
      refine va_calli (va_runSN (As := [.int (nI i1), .int p0, .int p1]) (rest := []) ⟨hx, hb, hml, hown, hts⟩ (c_inRectangleE l dC dI kA adK adV G H nC nS (nI i1) p0 p1 hT (rg_t (a := ((i1 : Nat) : Int)) (nI_toInt (by omega)) (by omega) (by omega)) (by have q8 := ti_all p0; omega) (by have q8 := ti_all p1; omega) (by omega) (by omega)) ⟨va_cnB 3 hts (goodIn_ca (goodIn_r _ [2, 3, 4, 5, 6, 7, 8, 9, 10, 11, 12, 13] rfl (by decide +kernel)) (bs2_in _ _)) rfl rfl rfl (hE.nm 105 rfl) (ht_at2 hts 12 rfl) (by decide +kernel) ⟨(Nat.le_of_ble_eq_true rfl), (Nat.le_of_ble_eq_true rfl)⟩, (ht_at2 hts 13 rfl), trivial⟩ ⟨fun a U g mk q => by obtain ⟨q0, q1, qK, qE⟩ := q; exact ⟨q0, q1, va_K.moved (u := U) (U := U.calling g mk a) (Vm.Alike.refl U.vm) qK, EVC.blind g mk a qE⟩, fun U hU hW => ⟨rfl, hU, va_K.moved hW.alike hK, hE.call hS hFc hU hW⟩⟩ rfl rfl hl.1 rfl (lv_room (Nat.le_of_ble_eq_true rfl)) dX0_layOut_11 ⟨(Nat.le_of_ble_eq_true rfl), (Nat.le_of_ble_eq_true rfl)⟩) hS (fun q _ h => hFc q h) hFc (fun r35 u t H locs ht hvm hw36 hB _ _ hS => ?_)
      obtain ⟨hT, hF1⟩ := hB
      rw [ht] at hT hF1
      have m37 := m2.kept (hF1.arr hr_fo skc_52 (by decide))
      have m38 := (hF1.fld hr_o0 skc_3 (k := 16) (by decide) (by decide)).trans m3
      have m39 := (hF1.fld hr_o0 skc_3 (k := 1) (by decide) (by decide)).trans m4
      have hF := hF.more hF1 (by decide)
      try dsimp only at hw36
      obtain ⟨h40, hf41⟩ := hw36
      have t42 : (nI i1).toInt = ((i1 : Nat) : Int) := nI_toInt (by omega)
      refine lv_if_eq (tgt := 27) hx hb dX0_layOut_14 (by decide) (fun c43 => ?_) (fun c43 => ?_)
      · have t44 : r35.toInt = 0 := ti_eq c43 rfl (by decide)
        refine lv_iinc (v := nI (i1 + 1)) (lv' := [(3, .int (nI (i1 + 1))), (0, .ref o0), (1, .int p0), (2, .int p1)]) hx hb dX0_layOut_27 hl (k := 0) rfl (nI_add i1 1) (by decide) rfl (fun ls hl => ?_)
        refine lv_goto (tgt := 2) hx hb dX0_layOut_30 (by decide) ?_
        exact ih22 (i1 + 1) (by omega) (by omega) _ _ hT hF hS (m37.ext (fun _ _ => ly_out (inR_0 (s := ((i1 : Nat) : Int)) (a := p0.toInt) (b := p1.toInt) (by have q9 : (nI i1).toInt = ((i1 : Nat) : Int) := nI_toInt (by omega); omega)))) m38 m39 ls (lv_sub hl [0, 1, 2, 3] rfl)
      · have t45 : r35.toInt ≠ 0 := ti_ne c43 rfl (by decide)
        refine lv_aload_n hx hb dX0_layOut_17 rfl (lv_at hl 1 rfl) ?_
        refine tw_getM (v := .ref fo) hx hb hts bF2_X0 hown hK hT hr_o0 shc_3 rfl 1 (by decide) (ht_at2 hts 14 rfl) (fun _ h9 => h9) m39 dX0_layOut_18 ?_
        refine lv_iload_n hx hb dX0_layOut_21 rfl (lv_at hl 0 rfl) ?_
        refine lv_aload_n hx hb dX0_layOut_22 rfl (lv_at hl 1 rfl) ?_
        refine tw_getM (v := .int nf) hx hb hts bF2_X0 hown hK hT hr_o0 shc_3 rfl 16 (by decide) (ht_at2 hts 0 rfl) (fun _ h9 => h9) m38 dX0_layOut_23 ?_
        refine tw_iast (i := (nI i1)) (x := nf) hx hb hK hT hG hS hr_fo shc_52 rfl (vp_in_nI (by omega) (by decide)) (gi_all _) dX0_layOut_26 (fun H locs hT oq m46 oi hS => ?_)
        have hF := hF.ast hr_fo skc_52 oq (by decide)
        have m47 := m37.put m46 oi
        have m48 := (el_kept (oq _ (gne hr_o0 hr_fo (by decide)))).trans m38
        have m49 := (el_kept (oq _ (gne hr_o0 hr_fo (by decide)))).trans m39
        refine lv_iinc (v := nI (i1 + 1)) (lv' := [(3, .int (nI (i1 + 1))), (0, .ref o0), (1, .int p0), (2, .int p1)]) hx hb dX0_layOut_27 hl (k := 0) rfl (nI_add i1 1) (by decide) rfl (fun ls hl => ?_)
        refine lv_goto (tgt := 2) hx hb dX0_layOut_30 (by decide) ?_
        exact ih22 (i1 + 1) (by omega) (by omega) _ _ hT hF hS (m47.ext (fun _ _ => by rw [tn_nI (by omega)]; exact ly_in (inR_1 (s := ((i1 : Nat) : Int)) (a := p0.toInt) (b := p1.toInt) (by have q9 : (nI i1).toInt = ((i1 : Nat) : Int) := nI_toInt (by omega); omega)))) m48 m49 ls (lv_sub hl [0, 1, 2, 3] rfl)
  exact key22 (96 - 0) 0 (by omega) (Nat.le_refl _) _ _ hT hF hS (hc_VF.ext (fun _ _ => ly_0)) hm_nf hm_fo ls (lv_sub hl [0, 1, 2, 3] rfl)
def w_c_farmC : List Cond := .code yX11_farm cX11_farm 3 (some .int) :: (HAppend.hAppend (α := List Cond) (β := List Cond) (γ := List Cond) [.code yX11_needSquare cX11_needSquare 1 none, .code yX11_within cX11_within 3 (some .boolean), .methodLink RX11 58 yX11_within, .static yX11_within, .initialized RX11, .classLink RX11 557 "java/lang/IndexOutOfBoundsException", .initialized "java/lang/IndexOutOfBoundsException", .methodLink RX11 55 yX11_needSquare, .static yX11_needSquare, .fieldLink RX11 30 "SeaLand" "board" "LSeaLand$Board;", .fieldLink RX11 16 "SeaLand" "lake" "LSeaLand$Lake;", .code yX0_farmMayBe cX0_farmMayBe 6 (some .boolean), .fieldLink RX0 143 "SeaLand$Board" "farms" "I", .code yX11_inRectangle cX11_inRectangle 3 (some .boolean), .code yX11_isBetween cX11_isBetween 3 (some .boolean), .methodLink RX11 588 Lib.Math.min.name, .static Lib.Math.min.name, .initialized "java/lang/Math", .code Lib.Math.min.name Lib.Math.min.code 2 (some .int), .methodLink RX11 591 Lib.Math.max.name, .static Lib.Math.max.name, .code Lib.Math.max.name Lib.Math.max.code 2 (some .int), .methodLink RX11 585 yX11_isBetween, .static yX11_isBetween, .static yX11_inRectangle, .fieldLink RX0 17 "SeaLand$Board" "farmOf" "[I", .methodLink RX11 359 yX0_farmMayBe, .instanceMethod yX0_farmMayBe, .selects RX0 yX0_farmMayBe yX0_farmMayBe, .initialized RX0, .code yX0_layOut cX0_layOut 4 (some .int), .methodLink RX11 363 yX0_layOut, .instanceMethod yX0_layOut, .selects RX0 yX0_layOut yX0_layOut] bs2)
set_option maxHeartbeats 4000000 in
set_option maxRecDepth 100000 in
theorem c_farmC (l : Launch) (hlt : l.stackTraces = false) (dC : Nat → ClassId) (dI : Nat → Nat → Nat) (kA : Nat → ClassId) (adK adV : Nat → Nat) (G : gT) (H0 : Heap) (nC nS : Int) (o0 : Nat) (p0 : Int32) (p1 : Int32) (lk : Nat) (gr : Nat) (la : Nat) (bd : Nat) (nf : Int32) (fo : Nat) (VL : Nat → Int32) (VF : Nat → Int32)  (hT : gH (dC, dI) kA (SHc nC nS) G H0) (hr_o0 : G o0 = some 14) (hm_lk : el H0 o0 (dI 14 1) = some (.ref lk)) (hr_lk : G lk = some 6) (hm_gr : el H0 lk (dI 6 1) = some (.ref gr)) (hr_gr : G gr = some 5) (hm_la : el H0 gr (dI 5 0) = some (.ref la)) (hr_la : G la = some 25) (hm_bd : el H0 o0 (dI 14 3) = some (.ref bd)) (hr_bd : G bd = some 3) (hm_nf : el H0 bd (dI 3 16) = some (.int nf)) (hm_fo : el H0 bd (dI 3 1) = some (.ref fo)) (hr_fo : G fo = some 52) (hq0 : 0 ≤ nf.toInt ∧ nf.toInt ≤ 30) (hc_VL : ct H0 la 96 VL) (hc_VF : ct H0 fo 96 VF) (hgC : 0 ≤ nC ∧ nC ≤ 40) (hgS : 0 ≤ nS ∧ nS ≤ 60) : vx_Met l yX11_farm w_c_farmC ({ frames := 7, cells := 2, slots := 12, locals := 120 }) (va_Pc [.ref o0, .int p0, .int p1] (fun U => U.heap = H0 ∧ va_K (dC, dI) vwCl (tyl kA) U ∧ EVC adK adV (gA G H0.size) U U.heap)) (va_Qi (fun (r : Int32) (u : Int32 × (Nat → Int32)) => match u with | (f1, V1) => (-1 ≤ r.toInt ∧ r.toInt ≤ 29) ∧ (faC p0.toInt p1.toInt = 0) ∧ (((decide (nf.toInt < 30) && fmK (fun j => (VL j).toInt) (fun j => (VF j).toInt + 1) p0.toInt p1.toInt 96) = true ∧ r.toInt = nf.toInt ∧ f1.toInt = nf.toInt + 1 ∧ V1 = lyV VF nf p0.toInt p1.toInt 96) ∨ ((decide (nf.toInt < 30) && fmK (fun j => (VL j).toInt) (fun j => (VF j).toInt + 1) p0.toInt p1.toInt 96) = false ∧ r.toInt = -1 ∧ f1.toInt = nf.toInt ∧ V1 = VF))) (fun (u : Int32 × (Nat → Int32)) (t : State) => match u with | (f1, V1) => gH (dC, dI) kA (SHc nC nS) G t.heap ∧ gF (dC, dI) SKc G ([(3, 16), (52, 0)] : List (Nat × Nat)) H0 t.heap ∧ el t.heap bd (dI 3 16) = some (.int f1) ∧ ct t.heap fo 96 V1) (gA G H0.size)) (vx_X (fun _ : Unit => True) (fun E _ t => (E = "java/lang/IndexOutOfBoundsException") ∧ ((E = "java/lang/IndexOutOfBoundsException" ∧ faC p0.toInt p1.toInt = 1)) ∧ gH (dC, dI) kA (SHc nC nS) G t.heap ∧ gF (dC, dI) SKc G ([(3, 16), (52, 0)] : List (Nat × Nat)) H0 t.heap ∧ el t.heap bd (dI 3 16) = some (.int nf) ∧ ct t.heap fo 96 VF) (gA G H0.size)) 2 12 (gA G H0.size) := by
  refine vx_ofW (cc := cX11_farm) (maxL := 3) (ret := (some .int)) (by decide) rfl ?_
  intro p e s m args below meth c s₁ B hml hnt hv
  obtain ⟨rfl, hH0, hK, hE⟩ := hv
  have hx := B.exec
  have hb := B.bytes
  have hr := B.returns
  have hts := atoms_spec (ws := w_c_farmC) B.pre
  have hown : s.vm.findClass RX11 = some m.cls := findClass_of_methodNamed B.named
  have hlocks := B.notSynchronized
  subst hH0
  generalize hAe : gA G s.heap.size = A at hE ⊢
  have hA : ∀ q : Nat, s.heap.size ≤ q → A q := fun q h => by rw [← hAe]; exact Or.inr h
  have hG := gA_of hAe
  have hS : va_S A s.heap s.heap [] := va_S.rf
  have hF : gF (dC, dI) SKc G ([(3, 16), (52, 0)] : List (Nat × Nat)) s.heap s.heap := gF.rf
  have hl := lv_entry ([.ref o0, .int p0, .int p1]) (n := 3) (Nat.le_of_ble_eq_true rfl)
  rw [lg_entry_eq]
  generalize (lg_sl ([.ref o0, .int p0, .int p1]) ++ List.replicate (3 - (lg_sl ([.ref o0, .int p0, .int p1])).length) Slot.unset).toArray = ls at hl ⊢
  have hl : lv_has ls 3 [(0, .ref o0), (1, .int p0), (2, .int p1)] := hl
  refine lv_iload_n hx hb dX11_farm_0 rfl (lv_at hl 1 rfl) ?_
  have hFc := gA_free hG hA hS
  refine vx_callv (vx_runS (As := [.int p0]) (rest := []) ⟨hx, hb, hml, hown, hts⟩ (c_needSquareE l hlt dC dI kA adK adV G s.heap nC nS p0 hT (by omega) (by omega)) (va_cwS 1 hts (goodIn_app (goodIn_r _ [8, 9, 5] rfl (by decide +kernel)) (goodIn_ca (goodIn_r _ [1, 2, 3, 4, 5, 6, 7] rfl (by decide +kernel)) (bs2_in _ _))) rfl rfl rfl (by decide +kernel) ⟨(Nat.le_of_ble_eq_true rfl), (Nat.le_of_ble_eq_true rfl)⟩) ⟨fun a U g mk q => by obtain ⟨q0, q1, qK, qE⟩ := q; exact ⟨q0, q1, va_K.moved (u := U) (U := U.calling g mk a) (Vm.Alike.refl U.vm) qK, EVC.blind g mk a qE⟩, fun U hU hW => ⟨rfl, hU, va_K.moved hW.alike hK, hE.call hS hFc hU hW⟩⟩ rfl rfl hl.1 rfl (lv_room (Nat.le_of_ble_eq_true rfl)) dX11_farm_1 ⟨(Nat.le_of_ble_eq_true rfl), (Nat.le_of_ble_eq_true rfl)⟩) hS (fun q _ h => hFc q h) hFc (fun q _ h => hFc q h) (fun E ce q9 u t H locs ht hvm _ hw2 _ _ hS hce hcv hcl => ?_) (fun u t H locs ht hvm hw2 hB _ _ hS => ?_)
  · obtain ⟨hw2, hxf, hTx, hFx⟩ := hw2; rw [ht] at hTx hFx
    exact vx_out (fun x h => (hnt x h).elim) hlocks hce hcv hcl (fun t2 h2 hW => ⟨(), trivial, ⟨((fun h9 => h9) hw2), (⟨hw2, (by have := faC_s p0.toInt p1.toInt; first | omega | exact hxf.elim)⟩), by rw [h2]; exact hTx, by rw [h2]; exact hF.more hFx (by decide), by rw [h2]; exact (hFx.fld hr_bd skc_3 (k := 16) (by decide) (by decide)).trans hm_nf, by rw [h2]; exact hc_VF.kept (hFx.arr hr_fo skc_52 (by decide))⟩, hS.F h2⟩) hS.2.2 (by decide) (by decide)
  · obtain ⟨hT, hF1⟩ := hB
    rw [ht] at hT hF1
    have m3 := (hF1.fld hr_o0 skc_14 (k := 1) (by decide) (by decide)).trans hm_lk
    have m4 := (hF1.fld hr_lk skc_6 (k := 1) (by decide) (by decide)).trans hm_gr
    have m5 := (hF1.fld hr_gr skc_5 (k := 0) (by decide) (by decide)).trans hm_la
    have m6 := (hF1.fld hr_o0 skc_14 (k := 3) (by decide) (by decide)).trans hm_bd
    have m7 := (hF1.fld hr_bd skc_3 (k := 16) (by decide) (by decide)).trans hm_nf
    have m8 := (hF1.fld hr_bd skc_3 (k := 1) (by decide) (by decide)).trans hm_fo
    have m9 := hc_VL.kept (hF1.arr hr_la skc_25 (by decide))
    have m10 := hc_VF.kept (hF1.arr hr_fo skc_52 (by decide))
    have hF := hF.more hF1 (by decide)
    try dsimp only at hw2
    have hf11 := hw2
    refine lv_iload_n hx hb dX11_farm_4 rfl (lv_at hl 2 rfl) ?_
    have hFc := gA_free hG hA hS
    refine vx_callv (vx_runS (As := [.int p1]) (rest := []) ⟨hx, hb, hml, hown, hts⟩ (c_needSquareE l hlt dC dI kA adK adV G H nC nS p1 hT (by omega) (by omega)) (va_cwS 1 hts (goodIn_app (goodIn_r _ [8, 9, 5] rfl (by decide +kernel)) (goodIn_ca (goodIn_r _ [1, 2, 3, 4, 5, 6, 7] rfl (by decide +kernel)) (bs2_in _ _))) rfl rfl rfl (by decide +kernel) ⟨(Nat.le_of_ble_eq_true rfl), (Nat.le_of_ble_eq_true rfl)⟩) ⟨fun a U g mk q => by obtain ⟨q0, q1, qK, qE⟩ := q; exact ⟨q0, q1, va_K.moved (u := U) (U := U.calling g mk a) (Vm.Alike.refl U.vm) qK, EVC.blind g mk a qE⟩, fun U hU hW => ⟨rfl, hU, va_K.moved hW.alike hK, hE.call hS hFc hU hW⟩⟩ rfl rfl hl.1 rfl (lv_room (Nat.le_of_ble_eq_true rfl)) dX11_farm_5 ⟨(Nat.le_of_ble_eq_true rfl), (Nat.le_of_ble_eq_true rfl)⟩) hS (fun q _ h => hFc q h) hFc (fun q _ h => hFc q h) (fun E ce q9 u t H locs ht hvm _ hw13 _ _ hS hce hcv hcl => ?_) (fun u t H locs ht hvm hw13 hB _ _ hS => ?_)
    · obtain ⟨hw13, hxf, hTx, hFx⟩ := hw13; rw [ht] at hTx hFx
      exact vx_out (fun x h => (hnt x h).elim) hlocks hce hcv hcl (fun t2 h2 hW => ⟨(), trivial, ⟨((fun h9 => h9) hw13), (⟨hw13, (by have := faC_s p0.toInt p1.toInt; first | omega | exact hxf.elim)⟩), by rw [h2]; exact hTx, by rw [h2]; exact hF.more hFx (by decide), by rw [h2]; exact (hFx.fld hr_bd skc_3 (k := 16) (by decide) (by decide)).trans m7, by rw [h2]; exact m10.kept (hFx.arr hr_fo skc_52 (by decide))⟩, hS.F h2⟩) hS.2.2 (by decide) (by decide)
    · obtain ⟨hT, hF1⟩ := hB
      rw [ht] at hT hF1
      have m14 := (hF1.fld hr_o0 skc_14 (k := 1) (by decide) (by decide)).trans m3
      have m15 := (hF1.fld hr_lk skc_6 (k := 1) (by decide) (by decide)).trans m4
      have m16 := (hF1.fld hr_gr skc_5 (k := 0) (by decide) (by decide)).trans m5
      have m17 := (hF1.fld hr_o0 skc_14 (k := 3) (by decide) (by decide)).trans m6
      have m18 := (hF1.fld hr_bd skc_3 (k := 16) (by decide) (by decide)).trans m7
      have m19 := (hF1.fld hr_bd skc_3 (k := 1) (by decide) (by decide)).trans m8
      have m20 := m9.kept (hF1.arr hr_la skc_25 (by decide))
      have m21 := m10.kept (hF1.arr hr_fo skc_52 (by decide))
      have hF := hF.more hF1 (by decide)
      try dsimp only at hw13
      have hf22 := hw13
      refine lv_aload_n hx hb dX11_farm_8 rfl (lv_at hl 0 rfl) ?_
      refine tw_getM (v := .ref bd) hx hb hts bF2_X11 hown hK hT hr_o0 shc_14 rfl 3 (by decide) (ht_at2 hts 9 rfl) (fun _ h9 => h9) m17 dX11_farm_9 ?_
      refine lv_iload_n hx hb dX11_farm_12 rfl (lv_at hl 1 rfl) ?_
      refine lv_iload_n hx hb dX11_farm_13 rfl (lv_at hl 2 rfl) ?_
      refine lv_aload_n hx hb dX11_farm_14 rfl (lv_at hl 0 rfl) ?_
      refine tw_getM (v := .ref lk) hx hb hts bF2_X11 hown hK hT hr_o0 shc_14 rfl 1 (by decide) (ht_at2 hts 10 rfl) (fun _ h9 => h9) m14 dX11_farm_15 ?_
      refine tw_getNM (v := .ref gr) hx hb hts bF2_X3 hown hK hT hr_lk shc_6 rfl 1 (by decide) (hE.nw 1 rfl) (fun _ h9 => h9) m15 dX11_farm_18 ?_
      have hFc := gA_free hG hA hS
      refine va_calli (va_runV (As := [.int p0, .int p1, .ref gr]) (rest := []) ⟨hx, hb, hml, hown, hts⟩ (c_farmMayBeC l dC dI kA adK adV G H nC nS bd p0 p1 gr nf fo la VL VF hT hr_gr hr_bd m18 m19 hr_fo m16 hr_la (by have q8 := ti_all nf; omega) (by have q8 := ti_all p0; omega) (by have q8 := ti_all p1; omega) m20 m21 (by omega) (by omega)) (cwV 3 hts (goodIn_app (goodIn_r _ [27, 28, 29, 30] rfl (by decide +kernel)) (goodIn_ca (goodIn_r _ [12, 13, 14, 15, 16, 17, 18, 19, 20, 21, 22, 23, 24, 5, 25, 26] rfl (by decide +kernel)) (bs2_in _ _))) rfl rfl rfl (by decide +kernel) ⟨(Nat.le_of_ble_eq_true rfl), (Nat.le_of_ble_eq_true rfl)⟩) ⟨fun a U g mk q => by obtain ⟨q0, q1, qK, qE⟩ := q; exact ⟨q0, q1, va_K.moved (u := U) (U := U.calling g mk a) (Vm.Alike.refl U.vm) qK, EVC.blind g mk a qE⟩, gH_rc hK hT hr_bd shc_3 rfl, fun U hU hW => ⟨rfl, hU, va_K.moved hW.alike hK, hE.call hS hFc hU hW⟩⟩ rfl rfl hl.1 rfl (lv_room (Nat.le_of_ble_eq_true rfl)) dX11_farm_21 ⟨(Nat.le_of_ble_eq_true rfl), (Nat.le_of_ble_eq_true rfl)⟩) hS (fun q _ h => hFc q h) hFc (fun r23 u t H locs ht hvm hw24 hB _ _ hS => ?_)
      obtain ⟨hT, hF1⟩ := hB
      rw [ht] at hT hF1
      have m28 := (hF1.fld hr_o0 skc_14 (k := 3) (by decide) (by decide)).trans m17
      have m29 := (hF1.fld hr_bd skc_3 (k := 16) (by decide) (by decide)).trans m18
      have m30 := (hF1.fld hr_bd skc_3 (k := 1) (by decide) (by decide)).trans m19
      have m32 := m21.kept (hF1.arr hr_fo skc_52 (by decide))
      have hF := hF.more hF1 (by decide)
      try dsimp only at hw24
      obtain ⟨h33, hf34⟩ := hw24
      have fmb := hf34
      refine lv_if_eq (tgt := 39) hx hb dX11_farm_24 (by decide) (fun c35 => ?_) (fun c35 => ?_)
      · have t36 : r23.toInt = 0 := ti_eq c35 rfl (by decide)
        refine lv_iconst (v := (-1)) hx hb dX11_farm_39 (by decide) ?_
        exact vx_ret (W.iret (v := (-1)) hx hb hr (fun t ht hW => ⟨⟨(-1), (nf, VF), rfl, (by exact ⟨(rg_t (a := (-1)) (by decide) (by first | decide | omega) (by first | decide | omega)), (by have := faC_s p0.toInt p1.toInt; omega), (Or.inr ⟨(fmb.resolve_left (fun h8 => by have := h8.1; omega)).2, by decide, by omega, rfl⟩)⟩), by (try dsimp only); rw [ht]; exact ⟨hT, hF, m29, m32⟩⟩, hS.F ht⟩) hS.2.2 dX11_farm_40)
      · have t37 : r23.toInt ≠ 0 := ti_ne c35 rfl (by decide)
        have fmc := (fmb.resolve_right (fun h8 => by have := h8.1; omega)).2
        have t38 : nf.toInt ≤ 29 := fm_h fmc
        refine lv_aload_n hx hb dX11_farm_27 rfl (lv_at hl 0 rfl) ?_
        refine tw_getM (v := .ref bd) hx hb hts bF2_X11 hown hK hT hr_o0 shc_14 rfl 3 (by decide) (ht_at2 hts 9 rfl) (fun _ h9 => h9) m28 dX11_farm_28 ?_
        refine lv_iload_n hx hb dX11_farm_31 rfl (lv_at hl 1 rfl) ?_
        refine lv_iload_n hx hb dX11_farm_32 rfl (lv_at hl 2 rfl) ?_
        have hFc := gA_free hG hA hS
        refine va_calli (va_runV (As := [.int p0, .int p1]) (rest := []) ⟨hx, hb, hml, hown, hts⟩ (c_layOutC l dC dI kA adK adV G H nC nS bd p0 p1 nf fo VF hT hr_bd m29 m30 hr_fo (by have q8 := ti_all nf; omega) (by have q8 := ti_all p0; omega) (by have q8 := ti_all p1; omega) m32 (by omega) (by omega)) (cwV 2 hts (goodIn_app (goodIn_r _ [32, 33, 34, 30] rfl (by decide +kernel)) (goodIn_ca (goodIn_r _ [31, 13, 14, 15, 16, 17, 18, 19, 20, 21, 22, 23, 24, 5, 25, 26] rfl (by decide +kernel)) (bs2_in _ _))) rfl rfl rfl (by decide +kernel) ⟨(Nat.le_of_ble_eq_true rfl), (Nat.le_of_ble_eq_true rfl)⟩) ⟨fun a U g mk q => by obtain ⟨q0, q1, qK, qE⟩ := q; exact ⟨q0, q1, va_K.moved (u := U) (U := U.calling g mk a) (Vm.Alike.refl U.vm) qK, EVC.blind g mk a qE⟩, gH_rc hK hT hr_bd shc_3 rfl, fun U hU hW => ⟨rfl, hU, va_K.moved hW.alike hK, hE.call hS hFc hU hW⟩⟩ rfl rfl hl.1 rfl (lv_room (Nat.le_of_ble_eq_true rfl)) dX11_farm_33 ⟨(Nat.le_of_ble_eq_true rfl), (Nat.le_of_ble_eq_true rfl)⟩) hS (fun q _ h => hFc q h) hFc (fun r39 u t H locs ht hvm hw40 hB _ _ hS => ?_)
        obtain ⟨u41, rfl⟩ : ∃ z, z = u := ⟨_, rfl⟩
        obtain ⟨hT, hF1, m42, m43⟩ := hB
        rw [ht] at hT hF1 m42 m43
        have hF := hF.more hF1 (by decide)
        try dsimp only at hw40
        obtain ⟨h52, hf53⟩ := hw40
        refine lv_goto (tgt := 40) hx hb dX11_farm_36 (by decide) ?_
        exact vx_ret (W.iret (v := r39) hx hb hr (fun t ht hW => ⟨⟨r39, (u41, (lyV VF nf p0.toInt p1.toInt 96)), rfl, (by exact ⟨(by have q8 := ti_all r39; omega), (by have := faC_s p0.toInt p1.toInt; omega), (Or.inl ⟨(fmb.resolve_right (fun h8 => by have := h8.1; omega)).2, by omega, by omega, rfl⟩)⟩), by (try dsimp only); rw [ht]; exact ⟨hT, hF, m42, m43⟩⟩, hS.F ht⟩) hS.2.2 dX11_farm_40)
def w_c_needFarmE : List Cond := .code yX11_needFarm cX11_needFarm 2 none :: (HAppend.hAppend (α := List Cond) (β := List Cond) (γ := List Cond) [.fieldLink RX11 30 "SeaLand" "board" "LSeaLand$Board;", .code yX11_within cX11_within 3 (some .boolean), .methodLink RX11 58 yX11_within, .static yX11_within, .initialized RX11, .classLink RX11 557 "java/lang/IndexOutOfBoundsException", .initialized "java/lang/IndexOutOfBoundsException"] bs2)
set_option maxHeartbeats 4000000 in
set_option maxRecDepth 100000 in
theorem c_needFarmE (l : Launch) (hlt : l.stackTraces = false) (dC : Nat → ClassId) (dI : Nat → Nat → Nat) (kA : Nat → ClassId) (adK adV : Nat → Nat) (G : gT) (H0 : Heap) (nC nS : Int) (o0 : Nat) (p0 : Int32) (bd : Nat) (nf : Int32)  (hT : gH (dC, dI) kA (SHc nC nS) G H0) (hr_o0 : G o0 = some 14) (hm_bd : el H0 o0 (dI 14 3) = some (.ref bd)) (hr_bd : G bd = some 3) (hm_nf : el H0 bd (dI 3 16) = some (.int nf)) (hq0 : 0 ≤ nf.toInt ∧ nf.toInt ≤ 30) (hgC : 0 ≤ nC ∧ nC ≤ 40) (hgS : 0 ≤ nS ∧ nS ≤ 60) : vx_Met l yX11_needFarm w_c_needFarmE ({ frames := 6, cells := 1, slots := 6, locals := 100 }) (va_Pc [.ref o0, .int p0] (fun U => U.heap = H0 ∧ va_K (dC, dI) vwCl (tyl kA) U ∧ EVC adK adV (gA G H0.size) U U.heap)) (va_Qv (fun (u : Unit) => (0 ≤ p0.toInt ∧ p0.toInt < nf.toInt)) (fun (_ : Unit) (t : State) => gH (dC, dI) kA (SHc nC nS) G t.heap ∧ gF (dC, dI) SKc G ([] : List (Nat × Nat)) H0 t.heap) (gA G H0.size)) (vx_X (fun _ : Unit => True) (fun E _ t => (E = "java/lang/IndexOutOfBoundsException") ∧ (¬ (0 ≤ p0.toInt ∧ p0.toInt < nf.toInt)) ∧ gH (dC, dI) kA (SHc nC nS) G t.heap ∧ gF (dC, dI) SKc G ([] : List (Nat × Nat)) H0 t.heap) (gA G H0.size)) 1 6 (gA G H0.size) := by
  refine vx_ofW (cc := cX11_needFarm) (maxL := 2) (ret := none) (by decide) rfl ?_
  intro p e s m args below meth c s₁ B hml hnt hv
  obtain ⟨rfl, hH0, hK, hE⟩ := hv
  have hx := B.exec
  have hb := B.bytes
  have hr := B.returns
  have hts := atoms_spec (ws := w_c_needFarmE) B.pre
  have hown : s.vm.findClass RX11 = some m.cls := findClass_of_methodNamed B.named
  have hlocks := B.notSynchronized
  subst hH0
  generalize hAe : gA G s.heap.size = A at hE ⊢
  have hA : ∀ q : Nat, s.heap.size ≤ q → A q := fun q h => by rw [← hAe]; exact Or.inr h
  have hG := gA_of hAe
  have hS : va_S A s.heap s.heap [] := va_S.rf
  have hF : gF (dC, dI) SKc G ([] : List (Nat × Nat)) s.heap s.heap := gF.rf
  have hl := lv_entry ([.ref o0, .int p0]) (n := 2) (Nat.le_of_ble_eq_true rfl)
  rw [lg_entry_eq]
  generalize (lg_sl ([.ref o0, .int p0]) ++ List.replicate (2 - (lg_sl ([.ref o0, .int p0])).length) Slot.unset).toArray = ls at hl ⊢
  have hl : lv_has ls 2 [(0, .ref o0), (1, .int p0)] := hl
  refine lv_iload_n hx hb dX11_needFarm_0 rfl (lv_at hl 1 rfl) ?_
  refine lv_iconst (v := 0) hx hb dX11_needFarm_1 (by decide) ?_
  refine lv_aload_n hx hb dX11_needFarm_2 rfl (lv_at hl 0 rfl) ?_
  refine tw_getM (v := .ref bd) hx hb hts bF2_X11 hown hK hT hr_o0 shc_14 rfl 3 (by decide) (ht_at2 hts 0 rfl) (fun _ h9 => h9) hm_bd dX11_needFarm_3 ?_
  refine tw_getNM (v := .int nf) hx hb hts bF2_X0 hown hK hT hr_bd shc_3 rfl 16 (by decide) (hE.nw 57 rfl) (fun _ h9 => h9) hm_nf dX11_needFarm_6 ?_
  refine lv_iconst (v := 1) hx hb dX11_needFarm_9 (by decide) ?_
  refine lv_isub hx hb dX11_needFarm_10 ?_
  refine lv_topi (fun x1 ex1 => ?_)
  have t2 : x1.toInt = nf.toInt - 1 := ti_sub ex1 rfl (by decide) (by omega) (by omega)
  have hFc := gA_free hG hA hS
  refine va_calli (va_runS (As := [.int p0, .int 0, .int x1]) (rest := []) ⟨hx, hb, hml, hown, hts⟩ (c_within l dC dI kA adK adV G s.heap nC nS p0 0 x1 hT (by omega) (by omega)) (va_cwS 3 hts (goodIn_app (goodIn_r _ [3, 4, 5] rfl (by decide +kernel)) (goodIn_ca (goodIn_r _ [2] rfl (by decide +kernel)) (bs2_in _ _))) rfl rfl rfl (by decide +kernel) ⟨(Nat.le_of_ble_eq_true rfl), (Nat.le_of_ble_eq_true rfl)⟩) ⟨fun a U g mk q => by obtain ⟨q0, q1, qK, qE⟩ := q; exact ⟨q0, q1, va_K.moved (u := U) (U := U.calling g mk a) (Vm.Alike.refl U.vm) qK, EVC.blind g mk a qE⟩, fun U hU hW => ⟨rfl, hU, va_K.moved hW.alike hK, hE.call hS hFc hU hW⟩⟩ rfl rfl hl.1 rfl (lv_room (Nat.le_of_ble_eq_true rfl)) dX11_needFarm_11 ⟨(Nat.le_of_ble_eq_true rfl), (Nat.le_of_ble_eq_true rfl)⟩) hS (fun q _ h => hFc q h) hFc (fun r3 u t H locs ht hvm hw4 hB _ _ hS => ?_)
  obtain ⟨hT, hF1⟩ := hB
  rw [ht] at hT hF1
  have hF := hF.more hF1 (by decide)
  try dsimp only at hw4
  obtain ⟨h7, hi8, hi9⟩ := hw4
  refine lv_if_ne (tgt := 28) hx hb dX11_needFarm_14 (by decide) (fun c10 => ?_) (fun c10 => ?_)
  · have t11 : r3.toInt ≠ 0 := ti_ne c10 rfl (by decide)
    have t12 : (0 : Int32).toInt = 0 := by decide
    have t13 : (0 : Int32).toInt ≤ p0.toInt ∧ p0.toInt ≤ x1.toInt := hi8 ((bit_of ⟨by omega, by omega⟩).resolve_left c10)
    refine W.widen (k := 1) (n := 6) (by decide) (by decide) ?_
    exact vx_ret (W.vret hx hb hr (fun t ht hW => ⟨⟨(), rfl, (by exact (by omega)), by (try dsimp only); rw [ht]; exact ⟨hT, hF⟩⟩, hS.F ht⟩) hS.2.2 dX11_needFarm_28)
  · have t14 : r3.toInt = 0 := ti_eq c10 rfl (by decide)
    have t15 : (0 : Int32).toInt = 0 := by decide
    have t16 : p0.toInt < (0 : Int32).toInt ∨ x1.toInt < p0.toInt := hi9 c10
    obtain ⟨sa17, hsa17⟩ := hE.str 14 rfl
    exact vx_throwSW (names := ["java/lang/RuntimeException", "java/lang/Exception"]) hx hb hlt hown (by decide +kernel) (by decide +kernel) (ht_at2 hts 5 rfl) (ht_at2 hts 6 rfl) hsa17 (bX2_at0 hts hE) bX_ok0_557 hE.1.1.2.2.1 hE.1.1.2.2.2 hS (by rw [hml]; exact hl.1) dX11_needFarm_17 dX11_needFarm_20 dX11_needFarm_21 dX11_needFarm_24 dX11_needFarm_27 (fun x h => (hnt x h).elim) (by decide) (Nat.le_of_ble_eq_true rfl) (Nat.le_of_ble_eq_true rfl) (Nat.le_of_ble_eq_true rfl) hlocks (fun t hW hz hq => ⟨(), trivial, ⟨rfl, (by omega), hT.ext hq, hF.ext hT hq⟩, Nat.le_trans hS.1 hz, fun q h1 h2 => (hq q (Nat.lt_of_lt_of_le h1 hS.1)).trans (hS.2.1 q h1 h2)⟩) hS.2.2 (by decide) (by decide)
def w_c_sowC : List Cond := .code yX11_sow cX11_sow 4 (some .boolean) :: (HAppend.hAppend (α := List Cond) (β := List Cond) (γ := List Cond) [.code yX11_needFarm cX11_needFarm 2 none, .fieldLink RX11 30 "SeaLand" "board" "LSeaLand$Board;", .code yX11_within cX11_within 3 (some .boolean), .methodLink RX11 58 yX11_within, .static yX11_within, .initialized RX11, .classLink RX11 557 "java/lang/IndexOutOfBoundsException", .initialized "java/lang/IndexOutOfBoundsException", .methodLink RX11 366 yX11_needFarm, .instanceMethod yX11_needFarm, .selects RX11 yX11_needFarm yX11_needFarm, .code yX11_needNumbers cX11_needNumbers 1 none, .classLink RX11 547 "java/lang/IllegalArgumentException", .initialized "java/lang/IllegalArgumentException", .methodLink RX11 62 yX11_needNumbers, .static yX11_needNumbers] bs2)
set_option maxHeartbeats 4000000 in
set_option maxRecDepth 100000 in
theorem c_sowC (l : Launch) (hlt : l.stackTraces = false) (dC : Nat → ClassId) (dI : Nat → Nat → Nat) (kA : Nat → ClassId) (adK adV : Nat → Nat) (G : gT) (H0 : Heap) (nC nS : Int) (o0 : Nat) (p0 : Int32) (p1 : Int32) (bd : Nat) (nf : Int32) (cr : Nat) (VK : Nat → Int32)  (hT : gH (dC, dI) kA (SHc nC nS) G H0) (hr_o0 : G o0 = some 14) (hm_bd : el H0 o0 (dI 14 3) = some (.ref bd)) (hr_bd : G bd = some 3) (hm_nf : el H0 bd (dI 3 16) = some (.int nf)) (hm_cr : el H0 bd (dI 3 2) = some (.ref cr)) (hr_cr : G cr = some 53) (hq0 : 0 ≤ nf.toInt ∧ nf.toInt ≤ 30) (hc_VK : ct H0 cr 30 VK) (hgC : 0 ≤ nC ∧ nC ≤ 40) (hgS : 0 ≤ nS ∧ nS ≤ 60) : vx_Met l yX11_sow w_c_sowC ({ frames := 7, cells := 2, slots := 12, locals := 121 }) (va_Pc [.ref o0, .int p0, .int p1] (fun U => U.heap = H0 ∧ va_K (dC, dI) vwCl (tyl kA) U ∧ EVC adK adV (gA G H0.size) U U.heap)) (va_Qi (fun (r : Int32) (u : Unit) => (0 ≤ r.toInt ∧ r.toInt ≤ 1) ∧ (soC nf.toInt p0.toInt p1.toInt = 0) ∧ ((r.toInt = 0 ∧ (VK p0.toNatClampNeg).toInt = p1.toInt) ∨ (r.toInt = 1 ∧ (VK p0.toNatClampNeg).toInt ≠ p1.toInt))) (fun (_ : Unit) (t : State) => gH (dC, dI) kA (SHc nC nS) G t.heap ∧ gF (dC, dI) SKc G ([(53, 0)] : List (Nat × Nat)) H0 t.heap ∧ ct t.heap cr 30 (cu VK p0.toNatClampNeg p1)) (gA G H0.size)) (vx_X (fun _ : Unit => True) (fun E _ t => (E = "java/lang/IllegalArgumentException" ∨ E = "java/lang/IndexOutOfBoundsException") ∧ ((E = "java/lang/IllegalArgumentException" ∧ soC nf.toInt p0.toInt p1.toInt = 2) ∨ (E = "java/lang/IndexOutOfBoundsException" ∧ soC nf.toInt p0.toInt p1.toInt = 1)) ∧ gH (dC, dI) kA (SHc nC nS) G t.heap ∧ gF (dC, dI) SKc G ([(53, 0)] : List (Nat × Nat)) H0 t.heap ∧ ct t.heap cr 30 VK) (gA G H0.size)) 2 12 (gA G H0.size) := by
  refine vx_ofW (cc := cX11_sow) (maxL := 4) (ret := (some .boolean)) (by decide) rfl ?_
  intro p e s m args below meth c s₁ B hml hnt hv
  obtain ⟨rfl, hH0, hK, hE⟩ := hv
  have hx := B.exec
  have hb := B.bytes
  have hr := B.returns
  have hts := atoms_spec (ws := w_c_sowC) B.pre
  have hown : s.vm.findClass RX11 = some m.cls := findClass_of_methodNamed B.named
  have hlocks := B.notSynchronized
  subst hH0
  generalize hAe : gA G s.heap.size = A at hE ⊢
  have hA : ∀ q : Nat, s.heap.size ≤ q → A q := fun q h => by rw [← hAe]; exact Or.inr h
  have hG := gA_of hAe
  have hS : va_S A s.heap s.heap [] := va_S.rf
  have hF : gF (dC, dI) SKc G ([(53, 0)] : List (Nat × Nat)) s.heap s.heap := gF.rf
  have hl := lv_entry ([.ref o0, .int p0, .int p1]) (n := 4) (Nat.le_of_ble_eq_true rfl)
  rw [lg_entry_eq]
  generalize (lg_sl ([.ref o0, .int p0, .int p1]) ++ List.replicate (4 - (lg_sl ([.ref o0, .int p0, .int p1])).length) Slot.unset).toArray = ls at hl ⊢
  have hl : lv_has ls 4 [(0, .ref o0), (1, .int p0), (2, .int p1)] := hl
  refine lv_aload_n hx hb dX11_sow_0 rfl (lv_at hl 0 rfl) ?_
  refine lv_iload_n hx hb dX11_sow_1 rfl (lv_at hl 1 rfl) ?_
  have hFc := gA_free hG hA hS
  refine vx_callv (vx_runV (As := [.int p0]) (rest := []) ⟨hx, hb, hml, hown, hts⟩ (c_needFarmE l hlt dC dI kA adK adV G s.heap nC nS o0 p0 bd nf hT hr_o0 hm_bd hr_bd hm_nf (by have q8 := ti_all nf; omega) (by omega) (by omega)) (cwV 1 hts (goodIn_app (goodIn_r _ [9, 10, 11, 6] rfl (by decide +kernel)) (goodIn_ca (goodIn_r _ [1, 2, 3, 4, 5, 6, 7, 8] rfl (by decide +kernel)) (bs2_in _ _))) rfl rfl rfl (by decide +kernel) ⟨(Nat.le_of_ble_eq_true rfl), (Nat.le_of_ble_eq_true rfl)⟩) ⟨fun a U g mk q => by obtain ⟨q0, q1, qK, qE⟩ := q; exact ⟨q0, q1, va_K.moved (u := U) (U := U.calling g mk a) (Vm.Alike.refl U.vm) qK, EVC.blind g mk a qE⟩, gH_rc hK hT hr_o0 shc_14 rfl, fun U hU hW => ⟨rfl, hU, va_K.moved hW.alike hK, hE.call hS hFc hU hW⟩⟩ rfl rfl hl.1 rfl (lv_room (Nat.le_of_ble_eq_true rfl)) dX11_sow_2 ⟨(Nat.le_of_ble_eq_true rfl), (Nat.le_of_ble_eq_true rfl)⟩) hS (fun q _ h => hFc q h) hFc (fun q _ h => hFc q h) (fun E ce q9 u t H locs ht hvm _ hw2 _ _ hS hce hcv hcl => ?_) (fun u t H locs ht hvm hw2 hB _ _ hS => ?_)
  · obtain ⟨hw2, hxf, hTx, hFx⟩ := hw2; rw [ht] at hTx hFx
    exact vx_out (fun x h => (hnt x h).elim) hlocks hce hcv hcl (fun t2 h2 hW => ⟨(), trivial, ⟨((fun h9 => (Or.inr h9)) hw2), (Or.inr (⟨hw2, (by have := soC_s nf.toInt p0.toInt p1.toInt; first | omega | exact hxf.elim)⟩)), by rw [h2]; exact hTx, by rw [h2]; exact hF.more hFx (by decide), by rw [h2]; exact hc_VK.kept (hFx.arr hr_cr skc_53 (by decide))⟩, hS.F h2⟩) hS.2.2 (by decide) (by decide)
  · obtain ⟨hT, hF1⟩ := hB
    rw [ht] at hT hF1
    have m3 := (hF1.fld hr_o0 skc_14 (k := 3) (by decide) (by decide)).trans hm_bd
    have m5 := (hF1.fld hr_bd skc_3 (k := 2) (by decide) (by decide)).trans hm_cr
    have m6 := hc_VK.kept (hF1.arr hr_cr skc_53 (by decide))
    have hF := hF.more hF1 (by decide)
    try dsimp only at hw2
    have hf7 := hw2
    refine lv_iload_n hx hb dX11_sow_5 rfl (lv_at hl 2 rfl) ?_
    refine lv_iconst (v := 0) hx hb dX11_sow_6 (by decide) ?_
    refine lv_iconst (v := 3) hx hb dX11_sow_7 (by decide) ?_
    have hFc := gA_free hG hA hS
    refine va_calli (va_runS (As := [.int p1, .int 0, .int 3]) (rest := []) ⟨hx, hb, hml, hown, hts⟩ (c_within l dC dI kA adK adV G H nC nS p1 0 3 hT (by omega) (by omega)) (va_cwS 3 hts (goodIn_app (goodIn_r _ [4, 5, 6] rfl (by decide +kernel)) (goodIn_ca (goodIn_r _ [3] rfl (by decide +kernel)) (bs2_in _ _))) rfl rfl rfl (by decide +kernel) ⟨(Nat.le_of_ble_eq_true rfl), (Nat.le_of_ble_eq_true rfl)⟩) ⟨fun a U g mk q => by obtain ⟨q0, q1, qK, qE⟩ := q; exact ⟨q0, q1, va_K.moved (u := U) (U := U.calling g mk a) (Vm.Alike.refl U.vm) qK, EVC.blind g mk a qE⟩, fun U hU hW => ⟨rfl, hU, va_K.moved hW.alike hK, hE.call hS hFc hU hW⟩⟩ rfl rfl hl.1 rfl (lv_room (Nat.le_of_ble_eq_true rfl)) dX11_sow_8 ⟨(Nat.le_of_ble_eq_true rfl), (Nat.le_of_ble_eq_true rfl)⟩) hS (fun q _ h => hFc q h) hFc (fun r8 u t H locs ht hvm hw9 hB _ _ hS => ?_)
    obtain ⟨hT, hF1⟩ := hB
    rw [ht] at hT hF1
    have m10 := (hF1.fld hr_o0 skc_14 (k := 3) (by decide) (by decide)).trans m3
    have m12 := (hF1.fld hr_bd skc_3 (k := 2) (by decide) (by decide)).trans m5
    have m13 := m6.kept (hF1.arr hr_cr skc_53 (by decide))
    have hF := hF.more hF1 (by decide)
    try dsimp only at hw9
    obtain ⟨h14, hi15, hi16⟩ := hw9
    have hb17 : r8 = 0 ∨ r8 = 1 := bit_of ⟨by omega, by omega⟩
    rcases hb17 with rfl | rfl
    · have t18 : (0 : Int32).toInt = 0 := by decide
      have t19 : (3 : Int32).toInt = 3 := by decide
      have t20 : p1.toInt < (0 : Int32).toInt ∨ (3 : Int32).toInt < p1.toInt := hi16 rfl
      have hFc := gA_free hG hA hS
      refine vx_callN (vx_runS (As := [.int 0]) (rest := []) ⟨hx, hb, hml, hown, hts⟩ (c_needNumbers0 l hlt dC dI kA adK adV G H nC nS hT (by omega) (by omega)) (va_cwS 1 hts (goodIn_app (goodIn_r _ [15, 16, 6] rfl (by decide +kernel)) (goodIn_ca (goodIn_r _ [12, 13, 14] rfl (by decide +kernel)) (bs2_in _ _))) rfl rfl rfl (by decide +kernel) ⟨(Nat.le_of_ble_eq_true rfl), (Nat.le_of_ble_eq_true rfl)⟩) ⟨fun a U g mk q => by obtain ⟨q0, q1, qK, qE⟩ := q; exact ⟨q0, q1, va_K.moved (u := U) (U := U.calling g mk a) (Vm.Alike.refl U.vm) qK, EVC.blind g mk a qE⟩, fun U hU hW => ⟨rfl, hU, va_K.moved hW.alike hK, hE.call hS hFc hU hW⟩⟩ rfl rfl hl.1 rfl (lv_room (Nat.le_of_ble_eq_true rfl)) dX11_sow_11 ⟨(Nat.le_of_ble_eq_true rfl), (Nat.le_of_ble_eq_true rfl)⟩) hS hFc (fun q _ h => hFc q h) (fun E ce q9 u t H locs ht hvm _ hw22 _ _ hS hce hcv hcl => ?_)
      obtain ⟨hw22, hTx, hFx⟩ := hw22; rw [ht] at hTx hFx
      exact vx_out (fun x h => (hnt x h).elim) hlocks hce hcv hcl (fun t2 h2 hW => ⟨(), trivial, ⟨((fun h9 => (Or.inl h9)) hw22), (Or.inl ⟨hw22, (by have := soC_s nf.toInt p0.toInt p1.toInt; first | omega | exact hxf.elim)⟩), by rw [h2]; exact hTx, by rw [h2]; exact hF.more hFx (by decide), by rw [h2]; exact m13.kept (hFx.arr hr_cr skc_53 (by decide))⟩, hS.F h2⟩) hS.2.2 (by decide) (by decide)
    · have t23 : (0 : Int32).toInt = 0 := by decide
      have t24 : (3 : Int32).toInt = 3 := by decide
      have t25 : (0 : Int32).toInt ≤ p1.toInt ∧ p1.toInt ≤ (3 : Int32).toInt := hi15 rfl
      have hFc := gA_free hG hA hS
      refine vx_callv (vx_runS (As := [.int 1]) (rest := []) ⟨hx, hb, hml, hown, hts⟩ (c_needNumbers1X l hlt dC dI kA adK adV G H nC nS hT (by omega) (by omega)) (va_cwS 1 hts (goodIn_app (goodIn_r _ [15, 16, 6] rfl (by decide +kernel)) (goodIn_ca (goodIn_r _ [12] rfl (by decide +kernel)) (bs2_in _ _))) rfl rfl rfl (by decide +kernel) ⟨(Nat.le_of_ble_eq_true rfl), (Nat.le_of_ble_eq_true rfl)⟩) ⟨fun a U g mk q => by obtain ⟨q0, q1, qK, qE⟩ := q; exact ⟨q0, q1, va_K.moved (u := U) (U := U.calling g mk a) (Vm.Alike.refl U.vm) qK, EVC.blind g mk a qE⟩, fun U hU hW => ⟨rfl, hU, va_K.moved hW.alike hK, hE.call hS hFc hU hW⟩⟩ rfl rfl hl.1 rfl (lv_room (Nat.le_of_ble_eq_true rfl)) dX11_sow_11 ⟨(Nat.le_of_ble_eq_true rfl), (Nat.le_of_ble_eq_true rfl)⟩) hS (fun q _ h => hFc q h) hFc (fun q _ h => hFc q h) (fun E ce q9 u t H locs ht hvm _ hw27 _ _ hS hce hcv hcl => ?_) (fun u t H locs ht hvm hw27 hB _ _ hS => ?_)
      · obtain ⟨hw27, hxf, hTx, hFx⟩ := hw27; rw [ht] at hTx hFx
        exact vx_out (fun x h => (hnt x h).elim) hlocks hce hcv hcl (fun t2 h2 hW => ⟨(), trivial, ⟨((fun h9 => (Or.inl h9)) hw27), (Or.inl ⟨hw27, (by have := soC_s nf.toInt p0.toInt p1.toInt; first | omega | exact hxf.elim)⟩), by rw [h2]; exact hTx, by rw [h2]; exact hF.more hFx (by decide), by rw [h2]; exact m13.kept (hFx.arr hr_cr skc_53 (by decide))⟩, hS.F h2⟩) hS.2.2 (by decide) (by decide)
      · obtain ⟨hT, hF1⟩ := hB
        rw [ht] at hT hF1
        have m28 := (hF1.fld hr_o0 skc_14 (k := 3) (by decide) (by decide)).trans m10
        have m30 := (hF1.fld hr_bd skc_3 (k := 2) (by decide) (by decide)).trans m12
        have m31 := m13.kept (hF1.arr hr_cr skc_53 (by decide))
        have hF := hF.more hF1 (by decide)
        try dsimp only at hw27
        refine lv_aload_n hx hb dX11_sow_14 rfl (lv_at hl 0 rfl) ?_
        refine tw_getM (v := .ref bd) hx hb hts bF2_X11 hown hK hT hr_o0 shc_14 rfl 3 (by decide) (ht_at2 hts 1 rfl) (fun _ h9 => h9) m28 dX11_sow_15 ?_
        refine tw_getNM (v := .ref cr) hx hb hts bF2_X0 hown hK hT hr_bd shc_3 rfl 2 (by decide) (hE.nw 31 rfl) (fun _ h9 => h9) m30 dX11_sow_18 ?_
        refine lv_iload_n hx hb dX11_sow_21 rfl (lv_at hl 1 rfl) ?_
        refine tw_iald (i := p0) hx hb hK hT hr_cr shc_53 rfl (vin_t (a := p0.toInt) rfl (by omega) (by omega)) dX11_sow_22 (fun v9 m32 h9 => ?_)
        obtain ⟨x33, rfl, gx33, kx33⟩ := h9
        have cx33 := m31.at m32 (by have q9 := tn_of (show p0.toInt = p0.toInt from rfl) (by omega); omega)
        refine lv_iload_n hx hb dX11_sow_23 rfl (lv_at hl 2 rfl) ?_
        have t34 : -2147483648 ≤ x33.toInt ∧ x33.toInt ≤ 2147483647 := ti_all x33
        refine lv_icmp_eq (tgt := 31) hx hb dX11_sow_24 (by decide) (fun c35 => ?_) (fun c35 => ?_)
        · have t36 : x33.toInt = p1.toInt := ti_eq c35 rfl rfl
          refine lv_iconst (v := 0) hx hb dX11_sow_31 (by decide) ?_
          refine lv_istore_n (lv' := [(3, .int 0), (0, .ref o0), (1, .int p0), (2, .int p1)]) hx hb dX11_sow_32 rfl hl (by decide) rfl (fun ls hl => ?_)
          refine lv_aload_n hx hb dX11_sow_33 rfl (lv_at hl 1 rfl) ?_
          refine tw_getM (v := .ref bd) hx hb hts bF2_X11 hown hK hT hr_o0 shc_14 rfl 3 (by decide) (ht_at2 hts 1 rfl) (fun _ h9 => h9) m28 dX11_sow_34 ?_
          refine tw_getNM (v := .ref cr) hx hb hts bF2_X0 hown hK hT hr_bd shc_3 rfl 2 (by decide) (hE.nw 31 rfl) (fun _ h9 => h9) m30 dX11_sow_37 ?_
          refine lv_iload_n hx hb dX11_sow_40 rfl (lv_at hl 2 rfl) ?_
          refine lv_iload_n hx hb dX11_sow_41 rfl (lv_at hl 3 rfl) ?_
          refine tw_iast (i := p0) (x := p1) hx hb hK hT hG hS hr_cr shc_53 rfl (vin_t (a := p0.toInt) rfl (by omega) (by omega)) (gi_all _) dX11_sow_42 (fun H locs hT oq m37 oi hS => ?_)
          have hF := hF.ast hr_cr skc_53 oq (by decide)
          have m41 := m31.put m37 oi
          refine lv_iload_n hx hb dX11_sow_43 rfl (lv_at hl 0 rfl) ?_
          refine W.widen (k := 2) (n := 12) (by decide) (by decide) ?_
          exact vx_ret (W.zret (v := 0) hx hb hr (by decide) (fun t ht hW => ⟨⟨0, (), rfl, (by exact ⟨(rg_t (a := 0) (by decide) (by first | decide | omega) (by first | decide | omega)), (by have := soC_s nf.toInt p0.toInt p1.toInt; omega), (by have c9 := congrArg Int32.toInt cx33; have q0 : (0 : Int32).toInt = 0 := (by decide); have q1 : (1 : Int32).toInt = 1 := (by decide); omega)⟩), by (try dsimp only); rw [ht]; exact ⟨hT, hF, m41⟩⟩, hS.F ht⟩) hS.2.2 dX11_sow_44)
        · have t42 : x33.toInt ≠ p1.toInt := ti_ne c35 rfl rfl
          refine lv_iconst (v := 1) hx hb dX11_sow_27 (by decide) ?_
          refine lv_goto (tgt := 32) hx hb dX11_sow_28 (by decide) ?_
          refine lv_istore_n (lv' := [(3, .int 1), (0, .ref o0), (1, .int p0), (2, .int p1)]) hx hb dX11_sow_32 rfl hl (by decide) rfl (fun ls hl => ?_)
          refine lv_aload_n hx hb dX11_sow_33 rfl (lv_at hl 1 rfl) ?_
          refine tw_getM (v := .ref bd) hx hb hts bF2_X11 hown hK hT hr_o0 shc_14 rfl 3 (by decide) (ht_at2 hts 1 rfl) (fun _ h9 => h9) m28 dX11_sow_34 ?_
          refine tw_getNM (v := .ref cr) hx hb hts bF2_X0 hown hK hT hr_bd shc_3 rfl 2 (by decide) (hE.nw 31 rfl) (fun _ h9 => h9) m30 dX11_sow_37 ?_
          refine lv_iload_n hx hb dX11_sow_40 rfl (lv_at hl 2 rfl) ?_
          refine lv_iload_n hx hb dX11_sow_41 rfl (lv_at hl 3 rfl) ?_
          refine tw_iast (i := p0) (x := p1) hx hb hK hT hG hS hr_cr shc_53 rfl (vin_t (a := p0.toInt) rfl (by omega) (by omega)) (gi_all _) dX11_sow_42 (fun H locs hT oq m43 oi hS => ?_)
          have hF := hF.ast hr_cr skc_53 oq (by decide)
          have m47 := m31.put m43 oi
          refine lv_iload_n hx hb dX11_sow_43 rfl (lv_at hl 0 rfl) ?_
          refine W.widen (k := 2) (n := 12) (by decide) (by decide) ?_
          exact vx_ret (W.zret (v := 1) hx hb hr (by decide) (fun t ht hW => ⟨⟨1, (), rfl, (by exact ⟨(rg_t (a := 1) (by decide) (by first | decide | omega) (by first | decide | omega)), (by have := soC_s nf.toInt p0.toInt p1.toInt; omega), (by have c9 := congrArg Int32.toInt cx33; have q0 : (0 : Int32).toInt = 0 := (by decide); have q1 : (1 : Int32).toInt = 1 := (by decide); omega)⟩), by (try dsimp only); rw [ht]; exact ⟨hT, hF, m47⟩⟩, hS.F ht⟩) hS.2.2 dX11_sow_44)
def w_l_landC : List Cond := .codeWith yL_land cL_land 8 (some .int) [(0, 16, 19, 13), (0, 16, 23, 15), (0, 16, 27, 17)] :: (HAppend.hAppend (α := List Cond) (β := List Cond) (γ := List Cond) [.code yX11_land cX11_land 8 (some .int), .code yX11_needSquare cX11_needSquare 1 none, .code yX11_within cX11_within 3 (some .boolean), .methodLink RX11 58 yX11_within, .static yX11_within, .initialized RX11, .classLink RX11 557 "java/lang/IndexOutOfBoundsException", .initialized "java/lang/IndexOutOfBoundsException", .methodLink RX11 55 yX11_needSquare, .static yX11_needSquare, .code yX11_needNumbers cX11_needNumbers 1 none, .classLink RX11 547 "java/lang/IllegalArgumentException", .initialized "java/lang/IllegalArgumentException", .methodLink RX11 62 yX11_needNumbers, .static yX11_needNumbers, .fieldLink RX11 16 "SeaLand" "lake" "LSeaLand$Lake;", .fieldLink RX11 23 "SeaLand" "rows" "LSeaLand$Rows;", .code yX6_forget cX6_forget 1 none, .fieldLink RX6 18 "SeaLand$Rows" "kept" "I", .fieldLink RX6 22 "SeaLand$Rows" "oldest" "I", .methodLink RX11 76 yX6_forget, .instanceMethod yX6_forget, .selects RX6 yX6_forget yX6_forget, .initialized RX6, .code yX11_inRectangle cX11_inRectangle 3 (some .boolean), .code yX11_isBetween cX11_isBetween 3 (some .boolean), .methodLink RX11 588 Lib.Math.min.name, .static Lib.Math.min.name, .initialized "java/lang/Math", .code Lib.Math.min.name Lib.Math.min.code 2 (some .int), .methodLink RX11 591 Lib.Math.max.name, .static Lib.Math.max.name, .code Lib.Math.max.name Lib.Math.max.code 2 (some .int), .methodLink RX11 585 yX11_isBetween, .static yX11_isBetween, .methodLink RX11 79 yX11_inRectangle, .static yX11_inRectangle, .code yX2_tellLand cX2_tellLand 5 none, .fieldLink RX2 9 "SeaLand$Ground" "isLand" "[Z", .fieldLink RX2 15 "SeaLand$Ground" "height" "[I", .fieldLink RX2 19 "SeaLand$Ground" "soil" "[I", .fieldLink RX2 22 "SeaLand$Ground" "ditch" "[I", .code yX2_tellWater cX2_tellWater 4 none, .fieldLink RX2 50 "SeaLand$Ground" "toldMore" "I", .fieldLink RX2 25 "SeaLand$Ground" "water" "[I", .fieldLink RX2 28 "SeaLand$Ground" "salt" "[I", .methodLink RX2 46 yX2_tellWater, .instanceMethod yX2_tellWater, .selects RX2 yX2_tellWater yX2_tellWater, .initialized RX2, .methodLink RX11 92 yX2_tellLand, .instanceMethod yX2_tellLand, .selects RX2 yX2_tellLand yX2_tellLand, .classLink RX11 69 "java/lang/IllegalStateException", .initialized "java/lang/IllegalStateException", .methodLink RL 7 yX11_land, .instanceMethod yX11_land, .selects RX11 yX11_land yX11_land, .classLink RL 13 "java/lang/IndexOutOfBoundsException", .classLink RL 15 "java/lang/IllegalArgumentException", .classLink RL 17 "java/lang/IllegalStateException"] bs2)
set_option maxHeartbeats 4000000 in
set_option maxRecDepth 100000 in
theorem l_landC (l : Launch) (hlt : l.stackTraces = false) (dC : Nat → ClassId) (dI : Nat → Nat → Nat) (kA : Nat → ClassId) (adK adV : Nat → Nat) (G : gT) (H0 : Heap) (nC nS : Int) (o0 : Nat) (p1 : Int32) (p2 : Int32) (p3 : Int32) (p4 : Int32) (p5 : Int32) (ou : Nat) (lk : Nat) (ho : Int32) (gr : Nat) (la : Nat) (VL : Nat → Int32) (hT : gH (dC, dI) kA (SHc nC nS) G H0) (hr_o0 : G o0 = some 14) (hr_ou : G ou = some 98) (hm_lk : el H0 o0 (dI 14 1) = some (.ref lk)) (hr_lk : G lk = some 6) (hm_ho : el H0 lk (dI 6 4) = some (.int ho)) (hm_gr : el H0 lk (dI 6 1) = some (.ref gr)) (hr_gr : G gr = some 5) (hm_la : el H0 gr (dI 5 0) = some (.ref la)) (hr_la : G la = some 25) (hq0 : 0 ≤ ho.toInt ∧ ho.toInt ≤ 40000) (hc_VL : ct H0 la 96 VL) (hgC : 0 ≤ nC ∧ nC ≤ 40) (hgS : 0 ≤ nS ∧ nS ≤ 60) : Met l yL_land w_l_landC ({ frames := 8, cells := 3, slots := 18, locals := 147 }) (va_Pc [.ref o0, .int p1, .int p2, .int p3, .int p4, .int p5, .ref ou] (fun U => U.heap = H0 ∧ va_K (dC, dI) vwCl (tyl kA) U ∧ EVC adK adV (gA G H0.size) U U.heap ∧ NC U)) (va_Qi (fun (r : Int32) (u : (Nat → Int32)) => (0 ≤ r.toInt ∧ r.toInt ≤ 3) ∧ (r.toInt = laC ho.toInt p1.toInt p2.toInt p3.toInt p4.toInt p5.toInt) ∧ ((laC ho.toInt p1.toInt p2.toInt p3.toInt p4.toInt p5.toInt = 0 ∧ u = lyV VL 1 p1.toInt p2.toInt 96) ∨ (laC ho.toInt p1.toInt p2.toInt p3.toInt p4.toInt p5.toInt ≠ 0 ∧ u = VL))) (fun (V1 : (Nat → Int32)) (t : State) => gH (dC, dI) kA (SHc nC nS) G t.heap ∧ gF (dC, dI) SKc G ([(5, 14), (9, 2), (9, 3), (25, 0), (26, 0), (27, 0), (28, 0), (29, 0), (30, 0), (98, 0)] : List (Nat × Nat)) H0 t.heap ∧ ct t.heap la 96 V1) (gA G H0.size)) 3 18 (gA G H0.size) := by
  refine va_MetW (cc := cL_land) (maxL := 8) (ret := (some .int)) (by decide) rfl ?_
  intro p e s m args below meth c s₁ B hml hv
  obtain ⟨rfl, hH0, hK, hE, hN⟩ := hv
  have hx := B.exec
  have hb := B.bytes
  have hr := B.returns
  have hts := atoms_spec (ws := w_l_landC) B.pre
  have hown : s.vm.findClass RL = some m.cls := findClass_of_methodNamed B.named
  have hlocks := B.notSynchronized
  have htab := vx_table (x := yL_land) B (hts _ List.mem_cons_self)
  subst hH0
  generalize hAe : gA G s.heap.size = A at hE ⊢
  have hA : ∀ q : Nat, s.heap.size ≤ q → A q := fun q h => by rw [← hAe]; exact Or.inr h
  have hG := gA_of hAe
  have hS : va_S A s.heap s.heap [] := va_S.rf
  have hF : gF (dC, dI) SKc G ([(5, 14), (9, 2), (9, 3), (25, 0), (26, 0), (27, 0), (28, 0), (29, 0), (30, 0), (98, 0)] : List (Nat × Nat)) s.heap s.heap := gF.rf
  have hl := lv_entry ([.ref o0, .int p1, .int p2, .int p3, .int p4, .int p5, .ref ou]) (n := 8) (Nat.le_of_ble_eq_true rfl)
  rw [lg_entry_eq]
  generalize (lg_sl ([.ref o0, .int p1, .int p2, .int p3, .int p4, .int p5, .ref ou]) ++ List.replicate (8 - (lg_sl ([.ref o0, .int p1, .int p2, .int p3, .int p4, .int p5, .ref ou])).length) Slot.unset).toArray = ls at hl ⊢
  have hl : lv_has ls 8 [(0, .ref o0), (1, .int p1), (2, .int p2), (3, .int p3), (4, .int p4), (5, .int p5), (6, .ref ou)] := hl
  refine lv_aload hx hb dL_land_0 (lv_at hl 6 rfl) ?_
  refine lv_iconst (v := 0) hx hb dL_land_2 (by decide) ?_
  refine lv_aload_n hx hb dL_land_3 rfl (lv_at hl 0 rfl) ?_
  refine lv_iload_n hx hb dL_land_4 rfl (lv_at hl 1 rfl) ?_
  refine lv_iload_n hx hb dL_land_5 rfl (lv_at hl 2 rfl) ?_
  refine lv_iload_n hx hb dL_land_6 rfl (lv_at hl 3 rfl) ?_
  refine lv_iload hx hb dL_land_7 (lv_at hl 4 rfl) ?_
  refine lv_iload hx hb dL_land_9 (lv_at hl 5 rfl) ?_
  have hFc := gA_free hG hA hS
  refine vx_calli (vx_runV (As := [.int p1, .int p2, .int p3, .int p4, .int p5]) (rest := [.int 0, .ref ou]) ⟨hx, hb, hml, hown, hts⟩ (c_landC l hlt dC dI kA adK adV G s.heap nC nS o0 p1 p2 p3 p4 p5 lk ho gr la VL hT hr_o0 hm_lk hr_lk hm_ho hm_gr hr_gr hm_la hr_la (by have q8 := ti_all ho; omega) hc_VL (by omega) (by omega)) (cwV 5 hts (goodIn_app (goodIn_r _ [56, 57, 58, 6] rfl (by decide +kernel)) (goodIn_ca (goodIn_r _ [1, 2, 3, 4, 5, 6, 7, 8, 9, 10, 11, 12, 13, 14, 15, 16, 17, 18, 19, 20, 21, 22, 23, 24, 25, 26, 27, 28, 29, 30, 31, 32, 33, 34, 35, 36, 37, 38, 39, 40, 41, 42, 43, 44, 45, 46, 47, 48, 49, 50, 51, 52, 53, 54, 55] rfl (by decide +kernel)) (bs2_in _ _))) rfl rfl rfl (by decide +kernel) ⟨(Nat.le_of_ble_eq_true rfl), (Nat.le_of_ble_eq_true rfl)⟩) ⟨fun a U g mk q => by obtain ⟨q0, q1, qK, qE⟩ := q; exact ⟨q0, q1, va_K.moved (u := U) (U := U.calling g mk a) (Vm.Alike.refl U.vm) qK, EVC.blind g mk a qE⟩, gH_rc hK hT hr_o0 shc_14 rfl, fun U hU hW => ⟨rfl, hU, va_K.moved hW.alike hK, hE.call hS hFc hU hW⟩⟩ rfl rfl hl.1 rfl (lv_room (Nat.le_of_ble_eq_true rfl)) dL_land_11 ⟨(Nat.le_of_ble_eq_true rfl), (Nat.le_of_ble_eq_true rfl)⟩) hS (fun q _ h => hFc q h) hFc (fun q _ h => hFc q h) (fun E ce q9 u t H locs ht hvm _ hw2 _ _ hS hce hcv hcl => ?_) (fun r1 u t H locs ht hvm hw2 hB _ _ hS => ?_)
  · obtain ⟨hw2, hxf, hTx, hFx, hxc0⟩ := hw2; rw [ht] at hTx hFx hxc0
    have hT := hTx; have hF := hF.more hFx (by decide)
    rcases hw2 with rfl | rfl | rfl
    · have hxf := (hxf.resolve_right (fun h => h.elim (fun h => absurd h.1 (by decide)) (fun h => absurd h.1 (by decide)))).2
      refine vx_catch (E := "java/lang/IllegalArgumentException") hown [⟨0, 16, 19, 13⟩] ⟨0, 16, 23, 15⟩ [⟨0, 16, 27, 17⟩] (by rw [htab]; rfl) (fun z h => by
          simp only [List.mem_cons, List.not_mem_nil, or_false] at h
          rcases h with rfl
          · exact Or.inr ⟨by decide, "java/lang/IndexOutOfBoundsException", (ht_at2 hts 58 rfl), hN ("java/lang/IllegalArgumentException", "java/lang/IndexOutOfBoundsException") (by decide +kernel)⟩) (by decide) (by decide) (ht_at2 hts 59 rfl) (va_Nw.use rfl (hE.1.1.2.1.2.1 _ (List.mem_of_getElem? (i := 1) rfl))) hce hcv hcl ?_
      refine lv_astore (lv' := [(7, .ref q9), (0, .ref o0), (1, .int p1), (2, .int p2), (3, .int p3), (4, .int p4), (5, .int p5), (6, .ref ou)]) hx hb dL_land_23 hl (by decide) rfl (fun ls hl => ?_)
      refine lv_iconst (v := 2) hx hb dL_land_25 (by decide) ?_
      exact W.iret (v := 2) hx hb hr (fun t ht hW => ⟨⟨2, VL, rfl, (by exact ⟨(rg_t (a := 2) (by decide) (by first | decide | omega) (by first | decide | omega)), (by have : (2 : Int32).toInt = 2 := (by decide); omega), (Or.inr ⟨by omega, rfl⟩)⟩), by (try dsimp only); rw [ht]; exact ⟨hT, hF, hxc0⟩⟩, hS.F ht⟩) hS.2.2 dL_land_26
    · have hxf := ((hxf.resolve_left (fun h => absurd h.1 (by decide))).resolve_right (fun h => absurd h.1 (by decide))).2
      refine vx_catch (E := "java/lang/IllegalStateException") hown [⟨0, 16, 19, 13⟩, ⟨0, 16, 23, 15⟩] ⟨0, 16, 27, 17⟩ [] (by rw [htab]; rfl) (fun z h => by
          simp only [List.mem_cons, List.not_mem_nil, or_false] at h
          rcases h with rfl | rfl
          · exact Or.inr ⟨by decide, "java/lang/IndexOutOfBoundsException", (ht_at2 hts 58 rfl), hN ("java/lang/IllegalStateException", "java/lang/IndexOutOfBoundsException") (by decide +kernel)⟩
          · exact Or.inr ⟨by decide, "java/lang/IllegalArgumentException", (ht_at2 hts 59 rfl), hN ("java/lang/IllegalStateException", "java/lang/IllegalArgumentException") (by decide +kernel)⟩) (by decide) (by decide) (ht_at2 hts 60 rfl) (va_Nw.use rfl (hE.1.1.2.1.2.1 _ (List.mem_of_getElem? (i := 3) rfl))) hce hcv hcl ?_
      refine lv_astore (lv' := [(7, .ref q9), (0, .ref o0), (1, .int p1), (2, .int p2), (3, .int p3), (4, .int p4), (5, .int p5), (6, .ref ou)]) hx hb dL_land_27 hl (by decide) rfl (fun ls hl => ?_)
      refine lv_iconst (v := 3) hx hb dL_land_29 (by decide) ?_
      exact W.iret (v := 3) hx hb hr (fun t ht hW => ⟨⟨3, VL, rfl, (by exact ⟨(rg_t (a := 3) (by decide) (by first | decide | omega) (by first | decide | omega)), (by have : (3 : Int32).toInt = 3 := (by decide); omega), (Or.inr ⟨by omega, rfl⟩)⟩), by (try dsimp only); rw [ht]; exact ⟨hT, hF, hxc0⟩⟩, hS.F ht⟩) hS.2.2 dL_land_30
    · have hxf := ((hxf.resolve_left (fun h => absurd h.1 (by decide))).resolve_left (fun h => absurd h.1 (by decide))).2
      refine vx_catch (E := "java/lang/IndexOutOfBoundsException") hown [] ⟨0, 16, 19, 13⟩ [⟨0, 16, 23, 15⟩, ⟨0, 16, 27, 17⟩] (by rw [htab]; rfl) (fun z h => absurd h List.not_mem_nil) (by decide) (by decide) (ht_at2 hts 58 rfl) (va_Nw.use rfl (hE.1.1.2.1.2.1 _ (List.mem_of_getElem? (i := 0) rfl))) hce hcv hcl ?_
      refine lv_astore (lv' := [(7, .ref q9), (0, .ref o0), (1, .int p1), (2, .int p2), (3, .int p3), (4, .int p4), (5, .int p5), (6, .ref ou)]) hx hb dL_land_19 hl (by decide) rfl (fun ls hl => ?_)
      refine lv_iconst (v := 1) hx hb dL_land_21 (by decide) ?_
      exact W.iret (v := 1) hx hb hr (fun t ht hW => ⟨⟨1, VL, rfl, (by exact ⟨(rg_t (a := 1) (by decide) (by first | decide | omega) (by first | decide | omega)), (by have : (1 : Int32).toInt = 1 := (by decide); omega), (Or.inr ⟨by omega, rfl⟩)⟩), by (try dsimp only); rw [ht]; exact ⟨hT, hF, hxc0⟩⟩, hS.F ht⟩) hS.2.2 dL_land_22
  · obtain ⟨hT, hF1, m3⟩ := hB
    rw [ht] at hT hF1 m3
    have hF := hF.more hF1 (by decide)
    try dsimp only at hw2
    obtain ⟨h9, hf10, hf11⟩ := hw2
    refine lv_i2l (v := r1.toInt64) hx hb dL_land_14 rfl ?_
    refine tw_last (i := 0)  hx hb hK hT hG hS hr_ou shc_98 rfl (by unfold vp_in; decide) ⟨_, rfl⟩ dL_land_15 (fun H locs hT oq m12 oi hS => ?_)
    have hF := hF.ast hr_ou skc_98 oq (by decide)
    have m17 := m3.kept (oq _ (gne hr_la hr_ou (by decide)))
    refine lv_goto (tgt := 31) hx hb dL_land_16 (by decide) ?_
    refine lv_iconst (v := 0) hx hb dL_land_31 (by decide) ?_
    exact W.iret (v := 0) hx hb hr (fun t ht hW => ⟨⟨0, (lyV VL 1 p1.toInt p2.toInt 96), rfl, (by exact ⟨(rg_t (a := 0) (by decide) (by first | decide | omega) (by first | decide | omega)), (by have : (0 : Int32).toInt = 0 := (by decide); omega), (Or.inl ⟨by omega, rfl⟩)⟩), by (try dsimp only); rw [ht]; exact ⟨hT, hF, m17⟩⟩, hS.F ht⟩) hS.2.2 dL_land_32
def w_l_fillC : List Cond := .codeWith yL_fill cL_fill 6 (some .int) [(0, 19, 22, 13), (0, 19, 26, 15)] :: (HAppend.hAppend (α := List Cond) (β := List Cond) (γ := List Cond) [.code yX11_fill cX11_fill 4 (some .boolean), .code yX11_needSquare cX11_needSquare 1 none, .code yX11_within cX11_within 3 (some .boolean), .methodLink RX11 58 yX11_within, .static yX11_within, .initialized RX11, .classLink RX11 557 "java/lang/IndexOutOfBoundsException", .initialized "java/lang/IndexOutOfBoundsException", .methodLink RX11 55 yX11_needSquare, .static yX11_needSquare, .code yX11_needNumbers cX11_needNumbers 1 none, .classLink RX11 547 "java/lang/IllegalArgumentException", .initialized "java/lang/IllegalArgumentException", .methodLink RX11 62 yX11_needNumbers, .static yX11_needNumbers, .constant RX11 96 100000, .fieldLink RX11 16 "SeaLand" "lake" "LSeaLand$Lake;", .fieldLink RX11 23 "SeaLand" "rows" "LSeaLand$Rows;", .code yX6_forget cX6_forget 1 none, .fieldLink RX6 18 "SeaLand$Rows" "kept" "I", .fieldLink RX6 22 "SeaLand$Rows" "oldest" "I", .methodLink RX11 76 yX6_forget, .instanceMethod yX6_forget, .selects RX6 yX6_forget yX6_forget, .initialized RX6, .code yX2_tellWater cX2_tellWater 4 none, .fieldLink RX2 50 "SeaLand$Ground" "toldMore" "I", .fieldLink RX2 25 "SeaLand$Ground" "water" "[I", .fieldLink RX2 28 "SeaLand$Ground" "salt" "[I", .methodLink RX11 97 yX2_tellWater, .instanceMethod yX2_tellWater, .selects RX2 yX2_tellWater yX2_tellWater, .initialized RX2, .methodLink RL 19 yX11_fill, .instanceMethod yX11_fill, .selects RX11 yX11_fill yX11_fill, .classLink RL 13 "java/lang/IndexOutOfBoundsException", .classLink RL 15 "java/lang/IllegalArgumentException"] bs2)
set_option maxHeartbeats 4000000 in
set_option maxRecDepth 100000 in
theorem l_fillC (l : Launch) (hlt : l.stackTraces = false) (dC : Nat → ClassId) (dI : Nat → Nat → Nat) (kA : Nat → ClassId) (adK adV : Nat → Nat) (G : gT) (H0 : Heap) (nC nS : Int) (o0 : Nat) (p1 : Int32) (p2 : Int32) (p3 : Int32) (ou : Nat) (lk : Nat) (gr : Nat) (la : Nat) (VL : Nat → Int32) (hT : gH (dC, dI) kA (SHc nC nS) G H0) (hr_o0 : G o0 = some 14) (hr_ou : G ou = some 98) (hm_lk : el H0 o0 (dI 14 1) = some (.ref lk)) (hr_lk : G lk = some 6) (hm_gr : el H0 lk (dI 6 1) = some (.ref gr)) (hr_gr : G gr = some 5) (hm_la : el H0 gr (dI 5 0) = some (.ref la)) (hr_la : G la = some 25) (hc_VL : ct H0 la 96 VL) (hgC : 0 ≤ nC ∧ nC ≤ 40) (hgS : 0 ≤ nS ∧ nS ≤ 60) : Met l yL_fill w_l_fillC ({ frames := 8, cells := 2, slots := 12, locals := 143 }) (va_Pc [.ref o0, .int p1, .int p2, .int p3, .ref ou] (fun U => U.heap = H0 ∧ va_K (dC, dI) vwCl (tyl kA) U ∧ EVC adK adV (gA G H0.size) U U.heap ∧ NC U)) (va_Qi (fun (r : Int32) (u : Unit) => (0 ≤ r.toInt ∧ r.toInt ≤ 2) ∧ (r.toInt = fiC p1.toInt p2.toInt p3.toInt)) (fun (_ : Unit) (t : State) => gH (dC, dI) kA (SHc nC nS) G t.heap ∧ gF (dC, dI) SKc G ([(5, 14), (9, 2), (9, 3), (29, 0), (30, 0), (98, 0)] : List (Nat × Nat)) H0 t.heap) (gA G H0.size)) 2 12 (gA G H0.size) := by
  refine va_MetW (cc := cL_fill) (maxL := 6) (ret := (some .int)) (by decide) rfl ?_
  intro p e s m args below meth c s₁ B hml hv
  obtain ⟨rfl, hH0, hK, hE, hN⟩ := hv
  have hx := B.exec
  have hb := B.bytes
  have hr := B.returns
  have hts := atoms_spec (ws := w_l_fillC) B.pre
  have hown : s.vm.findClass RL = some m.cls := findClass_of_methodNamed B.named
  have hlocks := B.notSynchronized
  have htab := vx_table (x := yL_fill) B (hts _ List.mem_cons_self)
  subst hH0
  generalize hAe : gA G s.heap.size = A at hE ⊢
  have hA : ∀ q : Nat, s.heap.size ≤ q → A q := fun q h => by rw [← hAe]; exact Or.inr h
  have hG := gA_of hAe
  have hS : va_S A s.heap s.heap [] := va_S.rf
  have hF : gF (dC, dI) SKc G ([(5, 14), (9, 2), (9, 3), (29, 0), (30, 0), (98, 0)] : List (Nat × Nat)) s.heap s.heap := gF.rf
  have hl := lv_entry ([.ref o0, .int p1, .int p2, .int p3, .ref ou]) (n := 6) (Nat.le_of_ble_eq_true rfl)
  rw [lg_entry_eq]
  generalize (lg_sl ([.ref o0, .int p1, .int p2, .int p3, .ref ou]) ++ List.replicate (6 - (lg_sl ([.ref o0, .int p1, .int p2, .int p3, .ref ou])).length) Slot.unset).toArray = ls at hl ⊢
  have hl : lv_has ls 6 [(0, .ref o0), (1, .int p1), (2, .int p2), (3, .int p3), (4, .ref ou)] := hl
  refine lv_aload hx hb dL_fill_0 (lv_at hl 4 rfl) ?_
  refine lv_iconst (v := 0) hx hb dL_fill_2 (by decide) ?_
  refine lv_aload_n hx hb dL_fill_3 rfl (lv_at hl 0 rfl) ?_
  refine lv_iload_n hx hb dL_fill_4 rfl (lv_at hl 1 rfl) ?_
  refine lv_iload_n hx hb dL_fill_5 rfl (lv_at hl 2 rfl) ?_
  refine lv_iload_n hx hb dL_fill_6 rfl (lv_at hl 3 rfl) ?_
  have hFc := gA_free hG hA hS
  refine vx_calli (vx_runV (As := [.int p1, .int p2, .int p3]) (rest := [.int 0, .ref ou]) ⟨hx, hb, hml, hown, hts⟩ (c_fillC l hlt dC dI kA adK adV G s.heap nC nS o0 p1 p2 p3 lk gr la VL hT hr_o0 hm_lk hr_lk hm_gr hr_gr hm_la hr_la hc_VL (by omega) (by omega)) (cwV 3 hts (goodIn_app (goodIn_r _ [34, 35, 36, 6] rfl (by decide +kernel)) (goodIn_ca (goodIn_r _ [1, 2, 3, 4, 5, 6, 7, 8, 9, 10, 11, 12, 13, 14, 15, 16, 17, 18, 19, 20, 21, 22, 23, 24, 25, 26, 27, 28, 29, 30, 31, 32, 33] rfl (by decide +kernel)) (bs2_in _ _))) rfl rfl rfl (by decide +kernel) ⟨(Nat.le_of_ble_eq_true rfl), (Nat.le_of_ble_eq_true rfl)⟩) ⟨fun a U g mk q => by obtain ⟨q0, q1, qK, qE⟩ := q; exact ⟨q0, q1, va_K.moved (u := U) (U := U.calling g mk a) (Vm.Alike.refl U.vm) qK, EVC.blind g mk a qE⟩, gH_rc hK hT hr_o0 shc_14 rfl, fun U hU hW => ⟨rfl, hU, va_K.moved hW.alike hK, hE.call hS hFc hU hW⟩⟩ rfl rfl hl.1 rfl (lv_room (Nat.le_of_ble_eq_true rfl)) dL_fill_7 ⟨(Nat.le_of_ble_eq_true rfl), (Nat.le_of_ble_eq_true rfl)⟩) hS (fun q _ h => hFc q h) hFc (fun q _ h => hFc q h) (fun E ce q9 u t H locs ht hvm _ hw2 _ _ hS hce hcv hcl => ?_) (fun r1 u t H locs ht hvm hw2 hB _ _ hS => ?_)
  · obtain ⟨hw2, hxf, hTx, hFx⟩ := hw2; rw [ht] at hTx hFx
    have hT := hTx; have hF := hF.more hFx (by decide)
    rcases hw2 with rfl | rfl
    · have hxf := (hxf.resolve_right (fun h => absurd h.1 (by decide))).2
      refine vx_catch (E := "java/lang/IllegalArgumentException") hown [⟨0, 19, 22, 13⟩] ⟨0, 19, 26, 15⟩ [] (by rw [htab]; rfl) (fun z h => by
          simp only [List.mem_cons, List.not_mem_nil, or_false] at h
          rcases h with rfl
          · exact Or.inr ⟨by decide, "java/lang/IndexOutOfBoundsException", (ht_at2 hts 36 rfl), hN ("java/lang/IllegalArgumentException", "java/lang/IndexOutOfBoundsException") (by decide +kernel)⟩) (by decide) (by decide) (ht_at2 hts 37 rfl) (va_Nw.use rfl (hE.1.1.2.1.2.1 _ (List.mem_of_getElem? (i := 1) rfl))) hce hcv hcl ?_
      refine lv_astore (lv' := [(5, .ref q9), (0, .ref o0), (1, .int p1), (2, .int p2), (3, .int p3), (4, .ref ou)]) hx hb dL_fill_26 hl (by decide) rfl (fun ls hl => ?_)
      refine lv_iconst (v := 2) hx hb dL_fill_28 (by decide) ?_
      exact W.iret (v := 2) hx hb hr (fun t ht hW => ⟨⟨2, (), rfl, (by exact ⟨(rg_t (a := 2) (by decide) (by first | decide | omega) (by first | decide | omega)), (by have : (2 : Int32).toInt = 2 := (by decide); omega)⟩), by (try dsimp only); rw [ht]; exact ⟨hT, hF⟩⟩, hS.F ht⟩) hS.2.2 dL_fill_29
    · have hxf := (hxf.resolve_left (fun h => absurd h.1 (by decide))).2
      refine vx_catch (E := "java/lang/IndexOutOfBoundsException") hown [] ⟨0, 19, 22, 13⟩ [⟨0, 19, 26, 15⟩] (by rw [htab]; rfl) (fun z h => absurd h List.not_mem_nil) (by decide) (by decide) (ht_at2 hts 36 rfl) (va_Nw.use rfl (hE.1.1.2.1.2.1 _ (List.mem_of_getElem? (i := 0) rfl))) hce hcv hcl ?_
      refine lv_astore (lv' := [(5, .ref q9), (0, .ref o0), (1, .int p1), (2, .int p2), (3, .int p3), (4, .ref ou)]) hx hb dL_fill_22 hl (by decide) rfl (fun ls hl => ?_)
      refine lv_iconst (v := 1) hx hb dL_fill_24 (by decide) ?_
      exact W.iret (v := 1) hx hb hr (fun t ht hW => ⟨⟨1, (), rfl, (by exact ⟨(rg_t (a := 1) (by decide) (by first | decide | omega) (by first | decide | omega)), (by have : (1 : Int32).toInt = 1 := (by decide); omega)⟩), by (try dsimp only); rw [ht]; exact ⟨hT, hF⟩⟩, hS.F ht⟩) hS.2.2 dL_fill_25
  · obtain ⟨hT, hF1⟩ := hB
    rw [ht] at hT hF1
    have hF := hF.more hF1 (by decide)
    try dsimp only at hw2
    obtain ⟨h7, hf8, hf9⟩ := hw2
    refine lv_if_eq (tgt := 17) hx hb dL_fill_10 (by decide) (fun c10 => ?_) (fun c10 => ?_)
    · have t11 : r1.toInt = 0 := ti_eq c10 rfl (by decide)
      refine lv_lconst (v := 0) hx hb dL_fill_17 (by decide) ?_
      refine tw_last (i := 0)  hx hb hK hT hG hS hr_ou shc_98 rfl (by unfold vp_in; decide) ⟨_, rfl⟩ dL_fill_18 (fun H locs hT oq m12 oi hS => ?_)
      have hF := hF.ast hr_ou skc_98 oq (by decide)
      refine lv_goto (tgt := 30) hx hb dL_fill_19 (by decide) ?_
      refine lv_iconst (v := 0) hx hb dL_fill_30 (by decide) ?_
      exact W.iret (v := 0) hx hb hr (fun t ht hW => ⟨⟨0, (), rfl, (by exact ⟨(rg_t (a := 0) (by decide) (by first | decide | omega) (by first | decide | omega)), (by have : (0 : Int32).toInt = 0 := (by decide); omega)⟩), by (try dsimp only); rw [ht]; exact ⟨hT, hF⟩⟩, hS.F ht⟩) hS.2.2 dL_fill_31
    · have t17 : r1.toInt ≠ 0 := ti_ne c10 rfl (by decide)
      refine lv_lconst (v := 1) hx hb dL_fill_13 (by decide) ?_
      refine lv_goto (tgt := 18) hx hb dL_fill_14 (by decide) ?_
      refine tw_last (i := 0)  hx hb hK hT hG hS hr_ou shc_98 rfl (by unfold vp_in; decide) ⟨_, rfl⟩ dL_fill_18 (fun H locs hT oq m18 oi hS => ?_)
      have hF := hF.ast hr_ou skc_98 oq (by decide)
      refine lv_goto (tgt := 30) hx hb dL_fill_19 (by decide) ?_
      refine lv_iconst (v := 0) hx hb dL_fill_30 (by decide) ?_
      exact W.iret (v := 0) hx hb hr (fun t ht hW => ⟨⟨0, (), rfl, (by exact ⟨(rg_t (a := 0) (by decide) (by first | decide | omega) (by first | decide | omega)), (by have : (0 : Int32).toInt = 0 := (by decide); omega)⟩), by (try dsimp only); rw [ht]; exact ⟨hT, hF⟩⟩, hS.F ht⟩) hS.2.2 dL_fill_31
def w_l_farmC : List Cond := .codeWith yL_farm cL_farm 5 (some .int) [(0, 10, 13, 13)] :: (HAppend.hAppend (α := List Cond) (β := List Cond) (γ := List Cond) [.code yX11_farm cX11_farm 3 (some .int), .code yX11_needSquare cX11_needSquare 1 none, .code yX11_within cX11_within 3 (some .boolean), .methodLink RX11 58 yX11_within, .static yX11_within, .initialized RX11, .classLink RX11 557 "java/lang/IndexOutOfBoundsException", .initialized "java/lang/IndexOutOfBoundsException", .methodLink RX11 55 yX11_needSquare, .static yX11_needSquare, .fieldLink RX11 30 "SeaLand" "board" "LSeaLand$Board;", .fieldLink RX11 16 "SeaLand" "lake" "LSeaLand$Lake;", .code yX0_farmMayBe cX0_farmMayBe 6 (some .boolean), .fieldLink RX0 143 "SeaLand$Board" "farms" "I", .code yX11_inRectangle cX11_inRectangle 3 (some .boolean), .code yX11_isBetween cX11_isBetween 3 (some .boolean), .methodLink RX11 588 Lib.Math.min.name, .static Lib.Math.min.name, .initialized "java/lang/Math", .code Lib.Math.min.name Lib.Math.min.code 2 (some .int), .methodLink RX11 591 Lib.Math.max.name, .static Lib.Math.max.name, .code Lib.Math.max.name Lib.Math.max.code 2 (some .int), .methodLink RX11 585 yX11_isBetween, .static yX11_isBetween, .static yX11_inRectangle, .fieldLink RX0 17 "SeaLand$Board" "farmOf" "[I", .methodLink RX11 359 yX0_farmMayBe, .instanceMethod yX0_farmMayBe, .selects RX0 yX0_farmMayBe yX0_farmMayBe, .initialized RX0, .code yX0_layOut cX0_layOut 4 (some .int), .methodLink RX11 363 yX0_layOut, .instanceMethod yX0_layOut, .selects RX0 yX0_layOut yX0_layOut, .methodLink RL 114 yX11_farm, .instanceMethod yX11_farm, .selects RX11 yX11_farm yX11_farm, .classLink RL 13 "java/lang/IndexOutOfBoundsException"] bs2)
set_option maxHeartbeats 4000000 in
set_option maxRecDepth 100000 in
theorem l_farmC (l : Launch) (hlt : l.stackTraces = false) (dC : Nat → ClassId) (dI : Nat → Nat → Nat) (kA : Nat → ClassId) (adK adV : Nat → Nat) (G : gT) (H0 : Heap) (nC nS : Int) (o0 : Nat) (p1 : Int32) (p2 : Int32) (ou : Nat) (lk : Nat) (gr : Nat) (la : Nat) (bd : Nat) (nf : Int32) (fo : Nat) (VL : Nat → Int32) (VF : Nat → Int32) (hT : gH (dC, dI) kA (SHc nC nS) G H0) (hr_o0 : G o0 = some 14) (hr_ou : G ou = some 98) (hm_lk : el H0 o0 (dI 14 1) = some (.ref lk)) (hr_lk : G lk = some 6) (hm_gr : el H0 lk (dI 6 1) = some (.ref gr)) (hr_gr : G gr = some 5) (hm_la : el H0 gr (dI 5 0) = some (.ref la)) (hr_la : G la = some 25) (hm_bd : el H0 o0 (dI 14 3) = some (.ref bd)) (hr_bd : G bd = some 3) (hm_nf : el H0 bd (dI 3 16) = some (.int nf)) (hm_fo : el H0 bd (dI 3 1) = some (.ref fo)) (hr_fo : G fo = some 52) (hq0 : 0 ≤ nf.toInt ∧ nf.toInt ≤ 30) (hc_VL : ct H0 la 96 VL) (hc_VF : ct H0 fo 96 VF) (hgC : 0 ≤ nC ∧ nC ≤ 40) (hgS : 0 ≤ nS ∧ nS ≤ 60) : Met l yL_farm w_l_farmC ({ frames := 8, cells := 2, slots := 12, locals := 142 }) (va_Pc [.ref o0, .int p1, .int p2, .ref ou] (fun U => U.heap = H0 ∧ va_K (dC, dI) vwCl (tyl kA) U ∧ EVC adK adV (gA G H0.size) U U.heap ∧ NC U)) (va_Qi (fun (r : Int32) (u : Int32 × (Nat → Int32)) => match u with | (f1, V1) => (0 ≤ r.toInt ∧ r.toInt ≤ 1) ∧ (r.toInt = faC p1.toInt p2.toInt) ∧ ((faC p1.toInt p2.toInt = 1 ∧ f1.toInt = nf.toInt ∧ V1 = VF) ∨ (faC p1.toInt p2.toInt = 0 ∧ (((decide (nf.toInt < 30) && fmK (fun j => (VL j).toInt) (fun j => (VF j).toInt + 1) p1.toInt p2.toInt 96) = true ∧ f1.toInt = nf.toInt + 1 ∧ V1 = lyV VF nf p1.toInt p2.toInt 96) ∨ ((decide (nf.toInt < 30) && fmK (fun j => (VL j).toInt) (fun j => (VF j).toInt + 1) p1.toInt p2.toInt 96) = false ∧ f1.toInt = nf.toInt ∧ V1 = VF))))) (fun (u : Int32 × (Nat → Int32)) (t : State) => match u with | (f1, V1) => gH (dC, dI) kA (SHc nC nS) G t.heap ∧ gF (dC, dI) SKc G ([(3, 16), (52, 0), (98, 0)] : List (Nat × Nat)) H0 t.heap ∧ el t.heap bd (dI 3 16) = some (.int f1) ∧ ct t.heap fo 96 V1) (gA G H0.size)) 2 12 (gA G H0.size) := by
  refine va_MetW (cc := cL_farm) (maxL := 5) (ret := (some .int)) (by decide) rfl ?_
  intro p e s m args below meth c s₁ B hml hv
  obtain ⟨rfl, hH0, hK, hE, hN⟩ := hv
  have hx := B.exec
  have hb := B.bytes
  have hr := B.returns
  have hts := atoms_spec (ws := w_l_farmC) B.pre
  have hown : s.vm.findClass RL = some m.cls := findClass_of_methodNamed B.named
  have hlocks := B.notSynchronized
  have htab := vx_table (x := yL_farm) B (hts _ List.mem_cons_self)
  subst hH0
  generalize hAe : gA G s.heap.size = A at hE ⊢
  have hA : ∀ q : Nat, s.heap.size ≤ q → A q := fun q h => by rw [← hAe]; exact Or.inr h
  have hG := gA_of hAe
  have hS : va_S A s.heap s.heap [] := va_S.rf
  have hF : gF (dC, dI) SKc G ([(3, 16), (52, 0), (98, 0)] : List (Nat × Nat)) s.heap s.heap := gF.rf
  have hl := lv_entry ([.ref o0, .int p1, .int p2, .ref ou]) (n := 5) (Nat.le_of_ble_eq_true rfl)
  rw [lg_entry_eq]
  generalize (lg_sl ([.ref o0, .int p1, .int p2, .ref ou]) ++ List.replicate (5 - (lg_sl ([.ref o0, .int p1, .int p2, .ref ou])).length) Slot.unset).toArray = ls at hl ⊢
  have hl : lv_has ls 5 [(0, .ref o0), (1, .int p1), (2, .int p2), (3, .ref ou)] := hl
  refine lv_aload_n hx hb dL_farm_0 rfl (lv_at hl 3 rfl) ?_
  refine lv_iconst (v := 0) hx hb dL_farm_1 (by decide) ?_
  refine lv_aload_n hx hb dL_farm_2 rfl (lv_at hl 0 rfl) ?_
  refine lv_iload_n hx hb dL_farm_3 rfl (lv_at hl 1 rfl) ?_
  refine lv_iload_n hx hb dL_farm_4 rfl (lv_at hl 2 rfl) ?_
  have hFc := gA_free hG hA hS
  refine vx_calli (vx_runV (As := [.int p1, .int p2]) (rest := [.int 0, .ref ou]) ⟨hx, hb, hml, hown, hts⟩ (c_farmC l hlt dC dI kA adK adV G s.heap nC nS o0 p1 p2 lk gr la bd nf fo VL VF hT hr_o0 hm_lk hr_lk hm_gr hr_gr hm_la hr_la hm_bd hr_bd hm_nf hm_fo hr_fo (by have q8 := ti_all nf; omega) hc_VL hc_VF (by omega) (by omega)) (cwV 2 hts (goodIn_app (goodIn_r _ [36, 37, 38, 6] rfl (by decide +kernel)) (goodIn_ca (goodIn_r _ [1, 2, 3, 4, 5, 6, 7, 8, 9, 10, 11, 12, 13, 14, 15, 16, 17, 18, 19, 20, 21, 22, 23, 24, 25, 26, 27, 28, 29, 30, 31, 32, 33, 34, 35] rfl (by decide +kernel)) (bs2_in _ _))) rfl rfl rfl (by decide +kernel) ⟨(Nat.le_of_ble_eq_true rfl), (Nat.le_of_ble_eq_true rfl)⟩) ⟨fun a U g mk q => by obtain ⟨q0, q1, qK, qE⟩ := q; exact ⟨q0, q1, va_K.moved (u := U) (U := U.calling g mk a) (Vm.Alike.refl U.vm) qK, EVC.blind g mk a qE⟩, gH_rc hK hT hr_o0 shc_14 rfl, fun U hU hW => ⟨rfl, hU, va_K.moved hW.alike hK, hE.call hS hFc hU hW⟩⟩ rfl rfl hl.1 rfl (lv_room (Nat.le_of_ble_eq_true rfl)) dL_farm_5 ⟨(Nat.le_of_ble_eq_true rfl), (Nat.le_of_ble_eq_true rfl)⟩) hS (fun q _ h => hFc q h) hFc (fun q _ h => hFc q h) (fun E ce q9 u t H locs ht hvm _ hw2 _ _ hS hce hcv hcl => ?_) (fun r1 u t H locs ht hvm hw2 hB _ _ hS => ?_)
  · obtain ⟨hw2, hxf, hTx, hFx, hxm0, hxc0⟩ := hw2; rw [ht] at hTx hFx hxm0 hxc0
    have hT := hTx; have hF := hF.more hFx (by decide)
    subst hw2
    have hxf := hxf.2
    refine vx_catch (E := "java/lang/IndexOutOfBoundsException") hown [] ⟨0, 10, 13, 13⟩ [] (by rw [htab]; rfl) (fun z h => absurd h List.not_mem_nil) (by decide) (by decide) (ht_at2 hts 38 rfl) (va_Nw.use rfl (hE.1.1.2.1.2.1 _ (List.mem_of_getElem? (i := 0) rfl))) hce hcv hcl ?_
    refine lv_astore (lv' := [(4, .ref q9), (0, .ref o0), (1, .int p1), (2, .int p2), (3, .ref ou)]) hx hb dL_farm_13 hl (by decide) rfl (fun ls hl => ?_)
    refine lv_iconst (v := 1) hx hb dL_farm_15 (by decide) ?_
    exact W.iret (v := 1) hx hb hr (fun t ht hW => ⟨⟨1, (nf, VF), rfl, (by exact ⟨(rg_t (a := 1) (by decide) (by first | decide | omega) (by first | decide | omega)), (by have : (1 : Int32).toInt = 1 := (by decide); omega), (Or.inl ⟨by omega, by omega, rfl⟩)⟩), by (try dsimp only); rw [ht]; exact ⟨hT, hF, hxm0, hxc0⟩⟩, hS.F ht⟩) hS.2.2 dL_farm_16
  · obtain ⟨u3, u4⟩ := u
    obtain ⟨hT, hF1, m5, m6⟩ := hB
    rw [ht] at hT hF1 m5 m6
    have hF := hF.more hF1 (by decide)
    try dsimp only at hw2
    obtain ⟨h15, hf16, hf17⟩ := hw2
    refine lv_i2l (v := r1.toInt64) hx hb dL_farm_8 rfl ?_
    refine tw_last (i := 0)  hx hb hK hT hG hS hr_ou shc_98 rfl (by unfold vp_in; decide) ⟨_, rfl⟩ dL_farm_9 (fun H locs hT oq m18 oi hS => ?_)
    have hF := hF.ast hr_ou skc_98 oq (by decide)
    have m25 := (el_kept (oq _ (gne hr_bd hr_ou (by decide)))).trans m5
    have m26 := m6.kept (oq _ (gne hr_fo hr_ou (by decide)))
    refine lv_goto (tgt := 17) hx hb dL_farm_10 (by decide) ?_
    refine lv_iconst (v := 0) hx hb dL_farm_17 (by decide) ?_
    exact W.iret (v := 0) hx hb hr (fun t ht hW => ⟨⟨0, (u3, u4), rfl, (by exact ⟨(rg_t (a := 0) (by decide) (by first | decide | omega) (by first | decide | omega)), (by have : (0 : Int32).toInt = 0 := (by decide); omega), (Or.inr ⟨by omega, by rcases hf17 with ⟨q1, q2, q3, q4⟩ | ⟨q1, q2, q3, q4⟩; exact Or.inl ⟨q1, q3, q4⟩; exact Or.inr ⟨q1, q3, q4⟩⟩)⟩), by (try dsimp only); rw [ht]; exact ⟨hT, hF, m25, m26⟩⟩, hS.F ht⟩) hS.2.2 dL_farm_18
def w_l_sowC : List Cond := .codeWith yL_sow cL_sow 5 (some .int) [(0, 17, 20, 13), (0, 17, 24, 15)] :: (HAppend.hAppend (α := List Cond) (β := List Cond) (γ := List Cond) [.code yX11_sow cX11_sow 4 (some .boolean), .code yX11_needFarm cX11_needFarm 2 none, .fieldLink RX11 30 "SeaLand" "board" "LSeaLand$Board;", .code yX11_within cX11_within 3 (some .boolean), .methodLink RX11 58 yX11_within, .static yX11_within, .initialized RX11, .classLink RX11 557 "java/lang/IndexOutOfBoundsException", .initialized "java/lang/IndexOutOfBoundsException", .methodLink RX11 366 yX11_needFarm, .instanceMethod yX11_needFarm, .selects RX11 yX11_needFarm yX11_needFarm, .code yX11_needNumbers cX11_needNumbers 1 none, .classLink RX11 547 "java/lang/IllegalArgumentException", .initialized "java/lang/IllegalArgumentException", .methodLink RX11 62 yX11_needNumbers, .static yX11_needNumbers, .methodLink RL 123 yX11_sow, .instanceMethod yX11_sow, .selects RX11 yX11_sow yX11_sow, .classLink RL 13 "java/lang/IndexOutOfBoundsException", .classLink RL 15 "java/lang/IllegalArgumentException"] bs2)
set_option maxHeartbeats 4000000 in
set_option maxRecDepth 100000 in
theorem l_sowC (l : Launch) (hlt : l.stackTraces = false) (dC : Nat → ClassId) (dI : Nat → Nat → Nat) (kA : Nat → ClassId) (adK adV : Nat → Nat) (G : gT) (H0 : Heap) (nC nS : Int) (o0 : Nat) (p1 : Int32) (p2 : Int32) (ou : Nat) (bd : Nat) (nf : Int32) (cr : Nat) (VK : Nat → Int32) (hT : gH (dC, dI) kA (SHc nC nS) G H0) (hr_o0 : G o0 = some 14) (hr_ou : G ou = some 98) (hm_bd : el H0 o0 (dI 14 3) = some (.ref bd)) (hr_bd : G bd = some 3) (hm_nf : el H0 bd (dI 3 16) = some (.int nf)) (hm_cr : el H0 bd (dI 3 2) = some (.ref cr)) (hr_cr : G cr = some 53) (hq0 : 0 ≤ nf.toInt ∧ nf.toInt ≤ 30) (hc_VK : ct H0 cr 30 VK) (hgC : 0 ≤ nC ∧ nC ≤ 40) (hgS : 0 ≤ nS ∧ nS ≤ 60) : Met l yL_sow w_l_sowC ({ frames := 8, cells := 2, slots := 12, locals := 144 }) (va_Pc [.ref o0, .int p1, .int p2, .ref ou] (fun U => U.heap = H0 ∧ va_K (dC, dI) vwCl (tyl kA) U ∧ EVC adK adV (gA G H0.size) U U.heap ∧ NC U)) (va_Qi (fun (r : Int32) (u : (Nat → Int32)) => (0 ≤ r.toInt ∧ r.toInt ≤ 2) ∧ (r.toInt = soC nf.toInt p1.toInt p2.toInt) ∧ ((soC nf.toInt p1.toInt p2.toInt = 0 ∧ u = cu VK p1.toNatClampNeg p2) ∨ (soC nf.toInt p1.toInt p2.toInt ≠ 0 ∧ u = VK))) (fun (V1 : (Nat → Int32)) (t : State) => gH (dC, dI) kA (SHc nC nS) G t.heap ∧ gF (dC, dI) SKc G ([(53, 0), (98, 0)] : List (Nat × Nat)) H0 t.heap ∧ ct t.heap cr 30 V1) (gA G H0.size)) 2 12 (gA G H0.size) := by
  refine va_MetW (cc := cL_sow) (maxL := 5) (ret := (some .int)) (by decide) rfl ?_
  intro p e s m args below meth c s₁ B hml hv
  obtain ⟨rfl, hH0, hK, hE, hN⟩ := hv
  have hx := B.exec
  have hb := B.bytes
  have hr := B.returns
  have hts := atoms_spec (ws := w_l_sowC) B.pre
  have hown : s.vm.findClass RL = some m.cls := findClass_of_methodNamed B.named
  have hlocks := B.notSynchronized
  have htab := vx_table (x := yL_sow) B (hts _ List.mem_cons_self)
  subst hH0
  generalize hAe : gA G s.heap.size = A at hE ⊢
  have hA : ∀ q : Nat, s.heap.size ≤ q → A q := fun q h => by rw [← hAe]; exact Or.inr h
  have hG := gA_of hAe
  have hS : va_S A s.heap s.heap [] := va_S.rf
  have hF : gF (dC, dI) SKc G ([(53, 0), (98, 0)] : List (Nat × Nat)) s.heap s.heap := gF.rf
  have hl := lv_entry ([.ref o0, .int p1, .int p2, .ref ou]) (n := 5) (Nat.le_of_ble_eq_true rfl)
  rw [lg_entry_eq]
  generalize (lg_sl ([.ref o0, .int p1, .int p2, .ref ou]) ++ List.replicate (5 - (lg_sl ([.ref o0, .int p1, .int p2, .ref ou])).length) Slot.unset).toArray = ls at hl ⊢
  have hl : lv_has ls 5 [(0, .ref o0), (1, .int p1), (2, .int p2), (3, .ref ou)] := hl
  refine lv_aload_n hx hb dL_sow_0 rfl (lv_at hl 3 rfl) ?_
  refine lv_iconst (v := 0) hx hb dL_sow_1 (by decide) ?_
  refine lv_aload_n hx hb dL_sow_2 rfl (lv_at hl 0 rfl) ?_
  refine lv_iload_n hx hb dL_sow_3 rfl (lv_at hl 1 rfl) ?_
  refine lv_iload_n hx hb dL_sow_4 rfl (lv_at hl 2 rfl) ?_
  have hFc := gA_free hG hA hS
  refine vx_calli (vx_runV (As := [.int p1, .int p2]) (rest := [.int 0, .ref ou]) ⟨hx, hb, hml, hown, hts⟩ (c_sowC l hlt dC dI kA adK adV G s.heap nC nS o0 p1 p2 bd nf cr VK hT hr_o0 hm_bd hr_bd hm_nf hm_cr hr_cr (by have q8 := ti_all nf; omega) hc_VK (by omega) (by omega)) (cwV 2 hts (goodIn_app (goodIn_r _ [18, 19, 20, 7] rfl (by decide +kernel)) (goodIn_ca (goodIn_r _ [1, 2, 3, 4, 5, 6, 7, 8, 9, 10, 11, 12, 13, 14, 15, 16, 17] rfl (by decide +kernel)) (bs2_in _ _))) rfl rfl rfl (by decide +kernel) ⟨(Nat.le_of_ble_eq_true rfl), (Nat.le_of_ble_eq_true rfl)⟩) ⟨fun a U g mk q => by obtain ⟨q0, q1, qK, qE⟩ := q; exact ⟨q0, q1, va_K.moved (u := U) (U := U.calling g mk a) (Vm.Alike.refl U.vm) qK, EVC.blind g mk a qE⟩, gH_rc hK hT hr_o0 shc_14 rfl, fun U hU hW => ⟨rfl, hU, va_K.moved hW.alike hK, hE.call hS hFc hU hW⟩⟩ rfl rfl hl.1 rfl (lv_room (Nat.le_of_ble_eq_true rfl)) dL_sow_5 ⟨(Nat.le_of_ble_eq_true rfl), (Nat.le_of_ble_eq_true rfl)⟩) hS (fun q _ h => hFc q h) hFc (fun q _ h => hFc q h) (fun E ce q9 u t H locs ht hvm _ hw2 _ _ hS hce hcv hcl => ?_) (fun r1 u t H locs ht hvm hw2 hB _ _ hS => ?_)
  · obtain ⟨hw2, hxf, hTx, hFx, hxc0⟩ := hw2; rw [ht] at hTx hFx hxc0
    have hT := hTx; have hF := hF.more hFx (by decide)
    rcases hw2 with rfl | rfl
    · have hxf := (hxf.resolve_right (fun h => absurd h.1 (by decide))).2
      refine vx_catch (E := "java/lang/IllegalArgumentException") hown [⟨0, 17, 20, 13⟩] ⟨0, 17, 24, 15⟩ [] (by rw [htab]; rfl) (fun z h => by
          simp only [List.mem_cons, List.not_mem_nil, or_false] at h
          rcases h with rfl
          · exact Or.inr ⟨by decide, "java/lang/IndexOutOfBoundsException", (ht_at2 hts 20 rfl), hN ("java/lang/IllegalArgumentException", "java/lang/IndexOutOfBoundsException") (by decide +kernel)⟩) (by decide) (by decide) (ht_at2 hts 21 rfl) (va_Nw.use rfl (hE.1.1.2.1.2.1 _ (List.mem_of_getElem? (i := 1) rfl))) hce hcv hcl ?_
      refine lv_astore (lv' := [(4, .ref q9), (0, .ref o0), (1, .int p1), (2, .int p2), (3, .ref ou)]) hx hb dL_sow_24 hl (by decide) rfl (fun ls hl => ?_)
      refine lv_iconst (v := 2) hx hb dL_sow_26 (by decide) ?_
      exact W.iret (v := 2) hx hb hr (fun t ht hW => ⟨⟨2, VK, rfl, (by exact ⟨(rg_t (a := 2) (by decide) (by first | decide | omega) (by first | decide | omega)), (by have : (2 : Int32).toInt = 2 := (by decide); omega), (Or.inr ⟨by omega, rfl⟩)⟩), by (try dsimp only); rw [ht]; exact ⟨hT, hF, hxc0⟩⟩, hS.F ht⟩) hS.2.2 dL_sow_27
    · have hxf := (hxf.resolve_left (fun h => absurd h.1 (by decide))).2
      refine vx_catch (E := "java/lang/IndexOutOfBoundsException") hown [] ⟨0, 17, 20, 13⟩ [⟨0, 17, 24, 15⟩] (by rw [htab]; rfl) (fun z h => absurd h List.not_mem_nil) (by decide) (by decide) (ht_at2 hts 20 rfl) (va_Nw.use rfl (hE.1.1.2.1.2.1 _ (List.mem_of_getElem? (i := 0) rfl))) hce hcv hcl ?_
      refine lv_astore (lv' := [(4, .ref q9), (0, .ref o0), (1, .int p1), (2, .int p2), (3, .ref ou)]) hx hb dL_sow_20 hl (by decide) rfl (fun ls hl => ?_)
      refine lv_iconst (v := 1) hx hb dL_sow_22 (by decide) ?_
      exact W.iret (v := 1) hx hb hr (fun t ht hW => ⟨⟨1, VK, rfl, (by exact ⟨(rg_t (a := 1) (by decide) (by first | decide | omega) (by first | decide | omega)), (by have : (1 : Int32).toInt = 1 := (by decide); omega), (Or.inr ⟨by omega, rfl⟩)⟩), by (try dsimp only); rw [ht]; exact ⟨hT, hF, hxc0⟩⟩, hS.F ht⟩) hS.2.2 dL_sow_23
  · obtain ⟨hT, hF1, m3⟩ := hB
    rw [ht] at hT hF1 m3
    have hF := hF.more hF1 (by decide)
    try dsimp only at hw2
    obtain ⟨h8, hf9, hf10⟩ := hw2
    refine lv_if_eq (tgt := 15) hx hb dL_sow_8 (by decide) (fun c11 => ?_) (fun c11 => ?_)
    · have t12 : r1.toInt = 0 := ti_eq c11 rfl (by decide)
      refine lv_lconst (v := 0) hx hb dL_sow_15 (by decide) ?_
      refine tw_last (i := 0)  hx hb hK hT hG hS hr_ou shc_98 rfl (by unfold vp_in; decide) ⟨_, rfl⟩ dL_sow_16 (fun H locs hT oq m13 oi hS => ?_)
      have hF := hF.ast hr_ou skc_98 oq (by decide)
      have m17 := m3.kept (oq _ (gne hr_cr hr_ou (by decide)))
      refine lv_goto (tgt := 28) hx hb dL_sow_17 (by decide) ?_
      refine lv_iconst (v := 0) hx hb dL_sow_28 (by decide) ?_
      exact W.iret (v := 0) hx hb hr (fun t ht hW => ⟨⟨0, (cu VK p1.toNatClampNeg p2), rfl, (by exact ⟨(rg_t (a := 0) (by decide) (by first | decide | omega) (by first | decide | omega)), (by have : (0 : Int32).toInt = 0 := (by decide); omega), (Or.inl ⟨by omega, rfl⟩)⟩), by (try dsimp only); rw [ht]; exact ⟨hT, hF, m17⟩⟩, hS.F ht⟩) hS.2.2 dL_sow_29
    · have t18 : r1.toInt ≠ 0 := ti_ne c11 rfl (by decide)
      refine lv_lconst (v := 1) hx hb dL_sow_11 (by decide) ?_
      refine lv_goto (tgt := 16) hx hb dL_sow_12 (by decide) ?_
      refine tw_last (i := 0)  hx hb hK hT hG hS hr_ou shc_98 rfl (by unfold vp_in; decide) ⟨_, rfl⟩ dL_sow_16 (fun H locs hT oq m19 oi hS => ?_)
      have hF := hF.ast hr_ou skc_98 oq (by decide)
      have m23 := m3.kept (oq _ (gne hr_cr hr_ou (by decide)))
      refine lv_goto (tgt := 28) hx hb dL_sow_17 (by decide) ?_
      refine lv_iconst (v := 0) hx hb dL_sow_28 (by decide) ?_
      exact W.iret (v := 0) hx hb hr (fun t ht hW => ⟨⟨0, (cu VK p1.toNatClampNeg p2), rfl, (by exact ⟨(rg_t (a := 0) (by decide) (by first | decide | omega) (by first | decide | omega)), (by have : (0 : Int32).toInt = 0 := (by decide); omega), (Or.inl ⟨by omega, rfl⟩)⟩), by (try dsimp only); rw [ht]; exact ⟨hT, hF, m23⟩⟩, hS.F ht⟩) hS.2.2 dL_sow_29

