def w_c_passHourE : List Cond := .code yX3_passHour cX3_passHour 3 none :: (HAppend.hAppend (α := List Cond) (β := List Cond) (γ := List Cond) [.fieldLink RX3 32 "SeaLand$Lake" "hour" "I", .fieldLink RX3 12 "SeaLand$Lake" "sky" "LSeaLand$Sky;", .code yX8_outsideAt cX8_outsideAt 4 (some .int), .fieldLink RX8 9 "SeaLand$Sky" "tides" "[I", .code yJ9_floorMod_7cf53 cJ9_floorMod_7cf53 3 (some .int), .methodLink RX8 38 yJ9_floorMod_7cf53, .static yJ9_floorMod_7cf53, .initialized RJ9, .fieldLink RX8 34 "SeaLand$Sky" "storms" "I", .fieldLink RX8 15 "SeaLand$Sky" "stormFrom" "[I", .fieldLink RX8 18 "SeaLand$Sky" "stormTo" "[I", .fieldLink RX8 21 "SeaLand$Sky" "stormMore" "[I", .methodLink RX3 44 yX8_outsideAt, .instanceMethod yX8_outsideAt, .selects RX8 yX8_outsideAt yX8_outsideAt, .initialized RX8, .fieldLink RX3 21 "SeaLand$Lake" "ground" "LSeaLand$Ground;", .code yX8_rainAt cX8_rainAt 3 (some .int), .fieldLink RX8 31 "SeaLand$Sky" "rain" "LSeaLand$Tellings;", .code yX9_standingAt cX9_standingAt 5 (some .int), .fieldLink RX9 18 "SeaLand$Tellings" "told" "I", .fieldLink RX9 9 "SeaLand$Tellings" "hours" "[I", .methodLink RX8 44 yX9_standingAt, .instanceMethod yX9_standingAt, .selects RX9 yX9_standingAt yX9_standingAt, .initialized RX9, .methodLink RX3 103 yX8_rainAt, .instanceMethod yX8_rainAt, .selects RX8 yX8_rainAt yX8_rainAt, .code yX2_rainOnLand cX2_rainOnLand 3 none, .fieldLink RX2 9 "SeaLand$Ground" "isLand" "[Z", .fieldLink RX2 25 "SeaLand$Ground" "water" "[I", .fieldLink RX2 54 "SeaLand$Ground" "rained" "I", .methodLink RX3 106 yX2_rainOnLand, .instanceMethod yX2_rainOnLand, .selects RX2 yX2_rainOnLand yX2_rainOnLand, .initialized RX2, .fieldLink RX3 47 "SeaLand$Lake" "built" "I", .fieldLink RX3 27 "SeaLand$Lake" "works" "[LSeaLand$Work;", .code yX3_runSluice cX3_runSluice 5 none, .code yX2_levelOf cX2_levelOf 2 (some .int), .fieldLink RX2 15 "SeaLand$Ground" "height" "[I", .methodLink RX3 40 yX2_levelOf, .instanceMethod yX2_levelOf, .selects RX2 yX2_levelOf yX2_levelOf, .methodLink RX3 71 Lib.Math.min.name, .static Lib.Math.min.name, .initialized "java/lang/Math", .code Lib.Math.min.name Lib.Math.min.code 2 (some .int), .code yX2_giveToSea cX2_giveToSea 3 none, .fieldLink RX2 28 "SeaLand$Ground" "salt" "[I", .code yX2_saltGoingWith cX2_saltGoingWith 4 (some .int), .methodLink RX2 60 yX2_saltGoingWith, .instanceMethod yX2_saltGoingWith, .selects RX2 yX2_saltGoingWith yX2_saltGoingWith, .fieldLink RX2 64 "SeaLand$Ground" "wentOut" "I", .methodLink RX3 154 yX2_giveToSea, .instanceMethod yX2_giveToSea, .selects RX2 yX2_giveToSea yX2_giveToSea, .code yX10_moved cX10_moved 2 none, .fieldLink RX10 44 "SeaLand$Work" "latest" "I", .fieldLink RX10 47 "SeaLand$Work" "total" "I", .methodLink RX3 140 yX10_moved, .instanceMethod yX10_moved, .selects RX10 yX10_moved yX10_moved, .initialized RX10, .methodLink RX3 114 yX3_runSluice, .instanceMethod yX3_runSluice, .selects RX3 yX3_runSluice yX3_runSluice, .initialized RX3, .code yX2_runDitches cX2_runDitches 3 none, .fieldLink RX2 37 "SeaLand$Ground" "ditchTo" "[I", .fieldLink RX2 40 "SeaLand$Ground" "ditchWater" "[I", .fieldLink RX2 43 "SeaLand$Ground" "ditchSalt" "[I", .code yX2_reckonDitch cX2_reckonDitch 5 none, .fieldLink RX2 22 "SeaLand$Ground" "ditch" "[I", .code yX2_lowestDitchBeside cX2_lowestDitchBeside 4 (some .int), .code yX2_lowerDitch cX2_lowerDitch 4 (some .int), .methodLink RX2 79 yX2_levelOf, .methodLink RX2 87 yX2_lowerDitch, .instanceMethod yX2_lowerDitch, .selects RX2 yX2_lowerDitch yX2_lowerDitch, .methodLink RX2 75 yX2_lowestDitchBeside, .instanceMethod yX2_lowestDitchBeside, .selects RX2 yX2_lowestDitchBeside yX2_lowestDitchBeside, .methodLink RX2 82 Lib.Math.min.name, .methodLink RX2 71 yX2_reckonDitch, .instanceMethod yX2_reckonDitch, .selects RX2 yX2_reckonDitch yX2_reckonDitch, .methodLink RX3 117 yX2_runDitches, .instanceMethod yX2_runDitches, .selects RX2 yX2_runDitches yX2_runDitches, .code yX8_windAt cX8_windAt 4 (some .int), .fieldLink RX8 27 "SeaLand$Sky" "wind" "LSeaLand$Tellings;", .code yX9_nearestNumberBefore cX9_nearestNumberBefore 5 (some .int), .fieldLink RX9 15 "SeaLand$Tellings" "numbers" "[I", .methodLink RX8 54 yX9_nearestNumberBefore, .instanceMethod yX9_nearestNumberBefore, .selects RX9 yX9_nearestNumberBefore yX9_nearestNumberBefore, .code yX9_nearestNumberAfter cX9_nearestNumberAfter 5 (some .int), .constant RX9 22 40001, .methodLink RX8 57 yX9_nearestNumberAfter, .instanceMethod yX9_nearestNumberAfter, .selects RX9 yX9_nearestNumberAfter yX9_nearestNumberAfter, .methodLink RX8 60 Lib.Math.max.name, .static Lib.Math.max.name, .code Lib.Math.max.name Lib.Math.max.code 2 (some .int), .methodLink RX3 120 yX8_windAt, .instanceMethod yX8_windAt, .selects RX8 yX8_windAt yX8_windAt, .code yX3_runMills cX3_runMills 3 none, .code yX3_runEngine cX3_runEngine 3 none, .code yX3_liftBy cX3_liftBy 4 none, .code yX2_giveTo cX2_giveTo 5 none, .methodLink RX2 67 yX2_giveToSea, .methodLink RX3 171 yX2_giveTo, .instanceMethod yX2_giveTo, .selects RX2 yX2_giveTo yX2_giveTo, .methodLink RX3 161 yX3_liftBy, .instanceMethod yX3_liftBy, .selects RX3 yX3_liftBy yX3_liftBy, .methodLink RX3 164 yX3_runEngine, .instanceMethod yX3_runEngine, .selects RX3 yX3_runEngine yX3_runEngine, .methodLink RX3 123 yX3_runMills, .instanceMethod yX3_runMills, .selects RX3 yX3_runMills yX3_runMills, .code yX2_endDay cX2_endDay 2 none, .fieldLink RX2 31 "SeaLand$Ground" "dry" "[I", .code yX2_sinksNow cX2_sinksNow 2 (some .boolean), .fieldLink RX2 19 "SeaLand$Ground" "soil" "[I", .methodLink RX2 91 yX2_sinksNow, .instanceMethod yX2_sinksNow, .selects RX2 yX2_sinksNow yX2_sinksNow, .fieldLink RX2 34 "SeaLand$Ground" "wet" "[I", .methodLink RX3 126 yX2_endDay, .instanceMethod yX2_endDay, .selects RX2 yX2_endDay yX2_endDay, .code yX10_isBank cX10_isBank 1 (some .boolean), .fieldLink RX10 18 "SeaLand$Work" "kind" "I", .methodLink RX3 67 yX10_isBank, .instanceMethod yX10_isBank, .selects RX10 yX10_isBank yX10_isBank, .code yX3_runBank cX3_runBank 4 none, .code yX3_seepOf cX3_seepOf 5 (some .int), .methodLink RX3 97 Lib.Math.max.name, .code yX10_leakBelow cX10_leakBelow 6 (some .int), .fieldLink RX10 34 "SeaLand$Work" "layers" "I", .fieldLink RX10 9 "SeaLand$Work" "thick" "[I", .fieldLink RX10 15 "SeaLand$Work" "clay" "[I", .methodLink RX3 100 yX10_leakBelow, .instanceMethod yX10_leakBelow, .selects RX10 yX10_leakBelow yX10_leakBelow, .methodLink RX3 132 yX3_seepOf, .instanceMethod yX3_seepOf, .selects RX3 yX3_seepOf yX3_seepOf, .code yX10_breakOpen cX10_breakOpen 1 none, .fieldLink RX10 31 "SeaLand$Work" "width" "I", .methodLink RX3 143 yX10_breakOpen, .instanceMethod yX10_breakOpen, .selects RX10 yX10_breakOpen yX10_breakOpen, .code yX3_runBreach cX3_runBreach 4 none, .constantLong RX3 149 120, .code yX2_takeFromSea cX2_takeFromSea 3 none, .fieldLink RX2 57 "SeaLand$Ground" "cameIn" "I", .methodLink RX3 136 yX2_takeFromSea, .instanceMethod yX2_takeFromSea, .selects RX2 yX2_takeFromSea yX2_takeFromSea, .methodLink RX3 146 yX3_runBreach, .instanceMethod yX3_runBreach, .selects RX3 yX3_runBreach yX3_runBreach, .code yX3_crestOf cX3_crestOf 2 (some .int), .code yX10_thickness cX10_thickness 3 (some .int), .methodLink RX3 80 yX10_thickness, .instanceMethod yX10_thickness, .selects RX10 yX10_thickness yX10_thickness, .methodLink RX3 84 yX3_crestOf, .instanceMethod yX3_crestOf, .selects RX3 yX3_crestOf yX3_crestOf, .code yX10_widen cX10_widen 1 none, .code yX10_wider cX10_wider 1 (some .int), .methodLink RX10 54 Lib.Math.min.name, .methodLink RX10 50 yX10_wider, .static yX10_wider, .methodLink RX3 129 yX10_widen, .instanceMethod yX10_widen, .selects RX10 yX10_widen yX10_widen, .methodLink RX3 110 yX3_runBank, .instanceMethod yX3_runBank, .selects RX3 yX3_runBank yX3_runBank] bs2)
set_option maxHeartbeats 4000000 in
set_option maxRecDepth 100000 in
theorem c_passHourE (l : Launch) (dC : Nat → ClassId) (dI : Nat → Nat → Nat) (kA : Nat → ClassId) (adK adV : Nat → Nat) (G : gT) (H0 : Heap) (nC nS : Int) (o0 : Nat) (ho : Int32)  (hT : gH (dC, dI) kA (SHc nC nS) G H0) (hr_o0 : G o0 = some 6) (hm_ho : el H0 o0 (dI 6 4) = some (.int ho)) (hq0 : 0 ≤ ho.toInt ∧ ho.toInt ≤ 39999) (hgC : 0 ≤ nC ∧ nC ≤ 40) (hgS : 0 ≤ nS ∧ nS ≤ 60) : Met l yX3_passHour w_c_passHourE ({ frames := 6, cells := 0, slots := 0, locals := 136 }) (va_Pc [.ref o0] (fun U => U.heap = H0 ∧ va_K (dC, dI) vwCl (tyl kA) U ∧ EVC adK adV (gA G H0.size) U U.heap)) (va_Qv (fun (u : Int32) => (1 ≤ u.toInt ∧ u.toInt ≤ 40000) ∧ (u.toInt = ho.toInt + 1)) (fun (h1 : Int32) (t : State) => gH (dC, dI) kA (SHc nC nS) G t.heap ∧ gF (dC, dI) SKc G ([(5, 11), (5, 12), (5, 13), (6, 4), (13, 2), (13, 6), (13, 8), (13, 10), (13, 11), (26, 0), (29, 0), (30, 0), (31, 0), (32, 0), (33, 0), (34, 0), (35, 0)] : List (Nat × Nat)) H0 t.heap ∧ el t.heap o0 (dI 6 4) = some (.int h1)) (gA G H0.size)) 0 0 (gA G H0.size) := by
  refine Met.ofW (cc := cX3_passHour) (maxL := 3) (ret := none) (by decide) rfl ?_
  intro p e s m args below meth c s₁ B hml hv
  obtain ⟨rfl, hH0, hK, hE⟩ := hv
  have hx := B.exec
  have hb := B.bytes
  have hr := B.returns
  have hts := atoms_spec (ws := w_c_passHourE) B.pre
  have hown : s.vm.findClass RX3 = some m.cls := findClass_of_methodNamed B.named
  have hlocks := B.notSynchronized
  subst hH0
  generalize hAe : gA G s.heap.size = A at hE ⊢
  have hA : ∀ q : Nat, s.heap.size ≤ q → A q := fun q h => by rw [← hAe]; exact Or.inr h
  have hG := gA_of hAe
  have hS : va_S A s.heap s.heap [] := va_S.rf
  have hF : gF (dC, dI) SKc G ([(5, 11), (5, 12), (5, 13), (6, 4), (13, 2), (13, 6), (13, 8), (13, 10), (13, 11), (26, 0), (29, 0), (30, 0), (31, 0), (32, 0), (33, 0), (34, 0), (35, 0)] : List (Nat × Nat)) s.heap s.heap := gF.rf
  have hl := lv_entry ([.ref o0]) (n := 3) (Nat.le_of_ble_eq_true rfl)
  rw [lg_entry_eq]
  generalize (lg_sl ([.ref o0]) ++ List.replicate (3 - (lg_sl ([.ref o0])).length) Slot.unset).toArray = ls at hl ⊢
  have hl : lv_has ls 3 [(0, .ref o0)] := hl
  refine lv_aload_n hx hb dX3_passHour_0 rfl (lv_at hl 0 rfl) ?_
  refine lv_dup hx hb dX3_passHour_1 rfl ?_
  refine tw_getM (v := .int ho) hx hb hts bF2_X3 hown hK hT hr_o0 shc_6 rfl 4 (by decide) (ht_at2 hts 0 rfl) (fun _ h9 => h9) hm_ho dX3_passHour_2 ?_
  refine lv_iconst (v := 1) hx hb dX3_passHour_5 (by decide) ?_
  refine lv_iadd hx hb dX3_passHour_6 ?_
  refine lv_topi (fun x1 ex1 => ?_)
  have t2 : x1.toInt = ho.toInt + 1 := ti_add ex1 rfl (by decide) (by omega) (by omega)
  refine tw_put (v := .int x1) (ty := .int) hx hb hts bF2_X3 tyX3 tyX3_ok nmX3 hown hK hT hG hS hr_o0 shc_6 rfl 4 (by decide) (ht_at2 hts 0 rfl) (fun _ h9 => h9) rfl (by decide +kernel) rfl rfl (gl_at rfl (gi_of (show x1.toInt = x1.toInt from rfl) (by omega) (by omega))) dX3_passHour_7 (fun H locs hT oq m3 oj hS => ?_)
  have hF := hF.put hr_o0 skc_6 oq oj (by decide)
  refine lv_aload_n hx hb dX3_passHour_10 rfl (lv_at hl 0 rfl) ?_
  refine tw_get hx hb hts bF2_X3 hown hK hT hr_o0 shc_6 rfl 0 (by decide) (ht_at2 hts 1 rfl) (fun _ h9 => h9) dX3_passHour_11 (fun v9 m4 h9 => ?_)
  obtain ⟨b5, rfl, hg6⟩ := h9 _ rfl
  refine lv_aload_n hx hb dX3_passHour_14 rfl (lv_at hl 0 rfl) ?_
  refine tw_getM (v := .int x1) hx hb hts bF2_X3 hown hK hT hr_o0 shc_6 rfl 4 (by decide) (ht_at2 hts 0 rfl) (fun _ h9 => h9) m3 dX3_passHour_15 ?_
  have hFc := gA_free hG hA hS
  refine va_calli (va_runV (As := [.int x1]) (rest := []) ⟨hx, hb, hml, hown, hts⟩ (c_outsideAt l dC dI kA adK adV G H nC nS b5 x1 hT hg6 (by have q8 := ti_all x1; omega) (by omega) (by omega)) (cwV 1 hts (goodIn_app (goodIn_r _ [13, 14, 15, 16] rfl (by decide +kernel)) (goodIn_ca (goodIn_r _ [3, 4, 5, 6, 7, 8, 9, 10, 11, 12] rfl (by decide +kernel)) (bs2_in _ _))) rfl rfl rfl (by decide +kernel) ⟨(Nat.le_of_ble_eq_true rfl), (Nat.le_of_ble_eq_true rfl)⟩) ⟨fun a U g mk q => by obtain ⟨q0, q1, qK, qE⟩ := q; exact ⟨q0, q1, va_K.moved (u := U) (U := U.calling g mk a) (Vm.Alike.refl U.vm) qK, EVC.blind g mk a qE⟩, gH_rc hK hT hg6 shc_11 rfl, fun U hU hW => ⟨rfl, hU, va_K.moved hW.alike hK, hE.call hS hFc hU hW⟩⟩ rfl rfl hl.1 rfl (lv_room (Nat.le_of_ble_eq_true rfl)) dX3_passHour_18 ⟨(Nat.le_of_ble_eq_true rfl), (Nat.le_of_ble_eq_true rfl)⟩) hS (fun q _ h => hFc q h) hFc (fun r7 u t H locs ht hvm hw8 hB _ _ hS => ?_)
  obtain ⟨hT, hF1⟩ := hB
  rw [ht] at hT hF1
  have m9 := (hF1.fld hr_o0 skc_6 (k := 4) (by decide) (by decide)).trans m3
  have m10 := (hF1.fld hr_o0 skc_6 (k := 0) (by decide) (by decide)).trans m4
  have hF := hF.more hF1 (by decide)
  try dsimp only at hw8
  refine lv_istore_n (lv' := [(1, .int r7), (0, .ref o0)]) hx hb dX3_passHour_21 rfl hl (by decide) rfl (fun ls hl => ?_)
  refine lv_aload_n hx hb dX3_passHour_22 rfl (lv_at hl 1 rfl) ?_
  refine tw_get hx hb hts bF2_X3 hown hK hT hr_o0 shc_6 rfl 1 (by decide) (ht_at2 hts 16 rfl) (fun _ h9 => h9) dX3_passHour_23 (fun v9 m11 h9 => ?_)
  obtain ⟨b12, rfl, hg13⟩ := h9 _ rfl
  refine lv_aload_n hx hb dX3_passHour_26 rfl (lv_at hl 1 rfl) ?_
  refine tw_getM (v := .ref b5) hx hb hts bF2_X3 hown hK hT hr_o0 shc_6 rfl 0 (by decide) (ht_at2 hts 1 rfl) (fun _ h9 => h9) m10 dX3_passHour_27 ?_
  refine lv_aload_n hx hb dX3_passHour_30 rfl (lv_at hl 1 rfl) ?_
  refine tw_getM (v := .int x1) hx hb hts bF2_X3 hown hK hT hr_o0 shc_6 rfl 4 (by decide) (ht_at2 hts 0 rfl) (fun _ h9 => h9) m9 dX3_passHour_31 ?_
  have hFc := gA_free hG hA hS
  refine va_calli (va_runV (As := [.int x1]) (rest := [.ref b12]) ⟨hx, hb, hml, hown, hts⟩ (c_rainAt l dC dI kA adK adV G H nC nS b5 x1 hT hg6 (by omega) (by omega)) (cwV 1 hts (goodIn_app (goodIn_r _ [27, 28, 29, 16] rfl (by decide +kernel)) (goodIn_ca (goodIn_r _ [18, 19, 20, 21, 22, 23, 24, 25, 26] rfl (by decide +kernel)) (bs2_in _ _))) rfl rfl rfl (by decide +kernel) ⟨(Nat.le_of_ble_eq_true rfl), (Nat.le_of_ble_eq_true rfl)⟩) ⟨fun a U g mk q => by obtain ⟨q0, q1, qK, qE⟩ := q; exact ⟨q0, q1, va_K.moved (u := U) (U := U.calling g mk a) (Vm.Alike.refl U.vm) qK, EVC.blind g mk a qE⟩, gH_rc hK hT hg6 shc_11 rfl, fun U hU hW => ⟨rfl, hU, va_K.moved hW.alike hK, hE.call hS hFc hU hW⟩⟩ rfl rfl hl.1 rfl (lv_room (Nat.le_of_ble_eq_true rfl)) dX3_passHour_34 ⟨(Nat.le_of_ble_eq_true rfl), (Nat.le_of_ble_eq_true rfl)⟩) hS (fun q _ h => hFc q h) hFc (fun r14 u t H locs ht hvm hw15 hB _ _ hS => ?_)
  obtain ⟨hT, hF1⟩ := hB
  rw [ht] at hT hF1
  have m16 := (hF1.fld hr_o0 skc_6 (k := 4) (by decide) (by decide)).trans m9
  have m17 := (hF1.fld hr_o0 skc_6 (k := 0) (by decide) (by decide)).trans m10
  have m18 := (hF1.fld hr_o0 skc_6 (k := 1) (by decide) (by decide)).trans m11
  have hF := hF.more hF1 (by decide)
  try dsimp only at hw15
  have hFc := gA_free hG hA hS
  refine va_callv (va_runV (As := [.int r14]) (rest := []) ⟨hx, hb, hml, hown, hts⟩ (c_rainOnLand l dC dI kA adK adV G H nC nS b12 r14 hT hg13 (by omega) (by omega)) (cwV 1 hts (goodIn_app (goodIn_r _ [34, 35, 36, 37] rfl (by decide +kernel)) (goodIn_ca (goodIn_r _ [30, 31, 32, 33] rfl (by decide +kernel)) (bs2_in _ _))) rfl rfl rfl (by decide +kernel) ⟨(Nat.le_of_ble_eq_true rfl), (Nat.le_of_ble_eq_true rfl)⟩) ⟨fun a U g mk q => by obtain ⟨q0, q1, qK, qE⟩ := q; exact ⟨q0, q1, va_K.moved (u := U) (U := U.calling g mk a) (Vm.Alike.refl U.vm) qK, EVC.blind g mk a qE⟩, gH_rc hK hT hg13 shc_5 rfl, fun U hU hW => ⟨rfl, hU, va_K.moved hW.alike hK, hE.call hS hFc hU hW⟩⟩ rfl rfl hl.1 rfl (lv_room (Nat.le_of_ble_eq_true rfl)) dX3_passHour_37 ⟨(Nat.le_of_ble_eq_true rfl), (Nat.le_of_ble_eq_true rfl)⟩) hS (fun q _ h => hFc q h) hFc (fun u t H locs ht hvm hw20 hB _ _ hS => ?_)
  obtain ⟨hT, hF1⟩ := hB
  rw [ht] at hT hF1
  have m21 := (hF1.fld hr_o0 skc_6 (k := 4) (by decide) (by decide)).trans m16
  have m22 := (hF1.fld hr_o0 skc_6 (k := 0) (by decide) (by decide)).trans m17
  have m23 := (hF1.fld hr_o0 skc_6 (k := 1) (by decide) (by decide)).trans m18
  have hF := hF.more hF1 (by decide)
  try dsimp only at hw20
  refine lv_iconst (v := 0) hx hb dX3_passHour_40 (by decide) ?_
  refine lv_istore_n (lv' := [(2, .int 0), (1, .int r7), (0, .ref o0)]) hx hb dX3_passHour_41 rfl hl (by decide) rfl (fun ls hl => ?_)
  have key243 : ∀ (n243 i24 : Nat), i24 + n243 = 30 → 0 ≤ i24 → ∀ (H : Heap) (locs : List Loc), gH (dC, dI) kA (SHc nC nS) G H → gF (dC, dI) SKc G ([(5, 11), (5, 12), (5, 13), (6, 4), (13, 2), (13, 6), (13, 8), (13, 10), (13, 11), (26, 0), (29, 0), (30, 0), (31, 0), (32, 0), (33, 0), (34, 0), (35, 0)] : List (Nat × Nat)) s.heap H → va_S A s.heap H locs → el H o0 (dI 6 4) = some (.int x1) → el H o0 (dI 6 0) = some (.ref b5) → el H o0 (dI 6 1) = some (.ref b12) → ∀ ls : Array Slot, lv_has ls 3 [(2, .int (nI i24)), (1, .int r7), (0, .ref o0)] → W p l e (headSpec w_c_passHourE ({ frames := 6, cells := 0, slots := 0, locals := 136 })).room s m #[.ref o0] below meth c H locs 0 0 (MQ below (va_Qv (fun (u : Int32) => (1 ≤ u.toInt ∧ u.toInt ≤ 40000) ∧ (u.toInt = ho.toInt + 1)) (fun (h1 : Int32) (t : State) => gH (dC, dI) kA (SHc nC nS) G t.heap ∧ gF (dC, dI) SKc G ([(5, 11), (5, 12), (5, 13), (6, 4), (13, 2), (13, 6), (13, 8), (13, 10), (13, 11), (26, 0), (29, 0), (30, 0), (31, 0), (32, 0), (33, 0), (34, 0), (35, 0)] : List (Nat × Nat)) s.heap t.heap ∧ el t.heap o0 (dI 6 4) = some (.int h1)) A) #[.ref o0] s 0 0 A) (F0 m 42 ls []) := by
    intro n243
    induction n243 with
    | zero =>
      intro i24 hn243 hlo244  H locs hT hF hS m25 m26 m27 ls hl
      obtain rfl : 30 = i24 := by omega
      refine lv_iload_n hx hb dX3_passHour_42 rfl (lv_at hl 0 rfl) ?_
      refine lv_aload_n hx hb dX3_passHour_43 rfl (lv_at hl 2 rfl) ?_
      refine tw_get hx hb hts bF2_X3 hown hK hT hr_o0 shc_6 rfl 3 (by decide) (ht_at2 hts 37 rfl) (fun _ h9 => h9) dX3_passHour_44 (fun v9 m245 h9 => ?_)
      obtain ⟨x246, rfl, gx246, kx246⟩ := h9 _ rfl
      refine lv_icmp_ge (tgt := 79) hx hb dX3_passHour_47 (by decide) (fun c247 => ?_) (fun c247 => (by exfalso; have q9 : ((30 : Nat) : Int) < x246.toInt := ti_nle c247 rfl (nI_toInt (by omega)); omega))
      have t248 : x246.toInt ≤ ((30 : Nat) : Int) := ti_le c247 rfl (nI_toInt (by omega))
      refine lv_iconst (v := 0) hx hb dX3_passHour_79 (by decide) ?_
      refine lv_istore_n (lv' := [(2, .int 0), (1, .int r7), (0, .ref o0)]) hx hb dX3_passHour_80 rfl hl (by decide) rfl (fun ls hl => ?_)
      have jn369 : ∀ (z363 : Int32), ((0 ≤ z363.toInt ∧ z363.toInt ≤ 30)) → ∀ (H : Heap) (locs : List Loc), gH (dC, dI) kA (SHc nC nS) G H → gF (dC, dI) SKc G ([(5, 11), (5, 12), (5, 13), (6, 4), (13, 2), (13, 6), (13, 8), (13, 10), (13, 11), (26, 0), (29, 0), (30, 0), (31, 0), (32, 0), (33, 0), (34, 0), (35, 0)] : List (Nat × Nat)) s.heap H → va_S A s.heap H locs → el H o0 (dI 6 4) = some (.int x1) → el H o0 (dI 6 0) = some (.ref b5) → el H o0 (dI 6 1) = some (.ref b12) → el H o0 (dI 6 3) = some (.int x246) → ∀ ls : Array Slot, lv_has ls 3 [(2, .int z363), (1, .int r7), (0, .ref o0)] → W p l e (headSpec w_c_passHourE ({ frames := 6, cells := 0, slots := 0, locals := 136 })).room s m #[.ref o0] below meth c H locs 0 0 (MQ below (va_Qv (fun (u : Int32) => (1 ≤ u.toInt ∧ u.toInt ≤ 40000) ∧ (u.toInt = ho.toInt + 1)) (fun (h1 : Int32) (t : State) => gH (dC, dI) kA (SHc nC nS) G t.heap ∧ gF (dC, dI) SKc G ([(5, 11), (5, 12), (5, 13), (6, 4), (13, 2), (13, 6), (13, 8), (13, 10), (13, 11), (26, 0), (29, 0), (30, 0), (31, 0), (32, 0), (33, 0), (34, 0), (35, 0)] : List (Nat × Nat)) s.heap t.heap ∧ el t.heap o0 (dI 6 4) = some (.int h1)) A) #[.ref o0] s 0 0 A) (F0 m 119 ls []) := by
        intro z363 h364 H locs hT hF hS m365 m366 m367 m368 ls hl
        refine lv_aload_n hx hb dX3_passHour_119 rfl (lv_at hl 2 rfl) ?_
        refine tw_getM (v := .ref b12) hx hb hts bF2_X3 hown hK hT hr_o0 shc_6 rfl 1 (by decide) (ht_at2 hts 16 rfl) (fun _ h9 => h9) m367 dX3_passHour_120 ?_
        have hFc := gA_free hG hA hS
        refine va_callv (va_runV (As := []) (rest := []) ⟨hx, hb, hml, hown, hts⟩ (c_runDitches l dC dI kA adK adV G H nC nS b12 hT hg13 (by omega) (by omega)) (cwV 0 hts (goodIn_app (goodIn_r _ [90, 91, 92, 37] rfl (by decide +kernel)) (goodIn_ca (goodIn_r _ [71, 72, 32, 73, 51, 74, 75, 76, 77, 78, 41, 42, 79, 44, 45, 37, 80, 81, 82, 83, 84, 85, 86, 47, 48, 49, 52, 53, 54, 55, 87, 88, 89] rfl (by decide +kernel)) (bs2_in _ _))) rfl rfl rfl (by decide +kernel) ⟨(Nat.le_of_ble_eq_true rfl), (Nat.le_of_ble_eq_true rfl)⟩) ⟨fun a U g mk q => by obtain ⟨q0, q1, qK, qE⟩ := q; exact ⟨q0, q1, va_K.moved (u := U) (U := U.calling g mk a) (Vm.Alike.refl U.vm) qK, EVC.blind g mk a qE⟩, gH_rc hK hT hg13 shc_5 rfl, fun U hU hW => ⟨rfl, hU, va_K.moved hW.alike hK, hE.call hS hFc hU hW⟩⟩ rfl rfl hl.1 rfl (lv_room (Nat.le_of_ble_eq_true rfl)) dX3_passHour_123 ⟨(Nat.le_of_ble_eq_true rfl), (Nat.le_of_ble_eq_true rfl)⟩) hS (fun q _ h => hFc q h) hFc (fun u t H locs ht hvm hw371 hB _ _ hS => ?_)
        obtain ⟨hT, hF1⟩ := hB
        rw [ht] at hT hF1
        have m372 := (hF1.fld hr_o0 skc_6 (k := 4) (by decide) (by decide)).trans m365
        have m373 := (hF1.fld hr_o0 skc_6 (k := 0) (by decide) (by decide)).trans m366
        have m374 := (hF1.fld hr_o0 skc_6 (k := 1) (by decide) (by decide)).trans m367
        have hF := hF.more hF1 (by decide)
        try dsimp only at hw371
        refine lv_aload_n hx hb dX3_passHour_126 rfl (lv_at hl 2 rfl) ?_
        refine lv_aload_n hx hb dX3_passHour_127 rfl (lv_at hl 2 rfl) ?_
        refine tw_getM (v := .ref b5) hx hb hts bF2_X3 hown hK hT hr_o0 shc_6 rfl 0 (by decide) (ht_at2 hts 1 rfl) (fun _ h9 => h9) m373 dX3_passHour_128 ?_
        refine lv_aload_n hx hb dX3_passHour_131 rfl (lv_at hl 2 rfl) ?_
        refine tw_getM (v := .int x1) hx hb hts bF2_X3 hown hK hT hr_o0 shc_6 rfl 4 (by decide) (ht_at2 hts 0 rfl) (fun _ h9 => h9) m372 dX3_passHour_132 ?_
        have hFc := gA_free hG hA hS
        refine va_calli (va_runV (As := [.int x1]) (rest := [.ref o0]) ⟨hx, hb, hml, hown, hts⟩ (c_windAt l dC dI kA adK adV G H nC nS b5 x1 hT hg6 (by omega) (by omega)) (cwV 1 hts (goodIn_app (goodIn_r _ [108, 109, 110, 16] rfl (by decide +kernel)) (goodIn_ca (goodIn_r _ [93, 94, 20, 21, 22, 23, 24, 25, 26, 95, 96, 97, 98, 99, 100, 101, 102, 103, 104, 105, 106, 48, 107] rfl (by decide +kernel)) (bs2_in _ _))) rfl rfl rfl (by decide +kernel) ⟨(Nat.le_of_ble_eq_true rfl), (Nat.le_of_ble_eq_true rfl)⟩) ⟨fun a U g mk q => by obtain ⟨q0, q1, qK, qE⟩ := q; exact ⟨q0, q1, va_K.moved (u := U) (U := U.calling g mk a) (Vm.Alike.refl U.vm) qK, EVC.blind g mk a qE⟩, gH_rc hK hT hg6 shc_11 rfl, fun U hU hW => ⟨rfl, hU, va_K.moved hW.alike hK, hE.call hS hFc hU hW⟩⟩ rfl rfl hl.1 rfl (lv_room (Nat.le_of_ble_eq_true rfl)) dX3_passHour_135 ⟨(Nat.le_of_ble_eq_true rfl), (Nat.le_of_ble_eq_true rfl)⟩) hS (fun q _ h => hFc q h) hFc (fun r376 u t H locs ht hvm hw377 hB _ _ hS => ?_)
        obtain ⟨hT, hF1⟩ := hB
        rw [ht] at hT hF1
        have m378 := (hF1.fld hr_o0 skc_6 (k := 4) (by decide) (by decide)).trans m372
        have m380 := (hF1.fld hr_o0 skc_6 (k := 1) (by decide) (by decide)).trans m374
        have hF := hF.more hF1 (by decide)
        try dsimp only at hw377
        have hFc := gA_free hG hA hS
        refine va_callv (va_runV (As := [.int r376]) (rest := []) ⟨hx, hb, hml, hown, hts⟩ (c_runMills l dC dI kA adK adV G H nC nS o0 r376 hT hr_o0 (by omega) (by omega)) (cwV 1 hts (goodIn_app (goodIn_r _ [125, 126, 127, 70] rfl (by decide +kernel)) (goodIn_ca (goodIn_r _ [111, 38, 39, 112, 113, 17, 46, 47, 48, 49, 114, 31, 52, 32, 51, 53, 54, 55, 37, 50, 56, 115, 58, 59, 116, 117, 118, 60, 61, 62, 63, 64, 65, 66, 119, 120, 121, 70, 122, 123, 124] rfl (by decide +kernel)) (bs2_in _ _))) rfl rfl rfl (by decide +kernel) ⟨(Nat.le_of_ble_eq_true rfl), (Nat.le_of_ble_eq_true rfl)⟩) ⟨fun a U g mk q => by obtain ⟨q0, q1, qK, qE⟩ := q; exact ⟨q0, q1, va_K.moved (u := U) (U := U.calling g mk a) (Vm.Alike.refl U.vm) qK, EVC.blind g mk a qE⟩, gH_rc hK hT hr_o0 shc_6 rfl, fun U hU hW => ⟨rfl, hU, va_K.moved hW.alike hK, hE.call hS hFc hU hW⟩⟩ rfl rfl hl.1 rfl (lv_room (Nat.le_of_ble_eq_true rfl)) dX3_passHour_138 ⟨(Nat.le_of_ble_eq_true rfl), (Nat.le_of_ble_eq_true rfl)⟩) hS (fun q _ h => hFc q h) hFc (fun u t H locs ht hvm hw383 hB _ _ hS => ?_)
        obtain ⟨hT, hF1⟩ := hB
        rw [ht] at hT hF1
        have m384 := (hF1.fld hr_o0 skc_6 (k := 4) (by decide) (by decide)).trans m378
        have m386 := (hF1.fld hr_o0 skc_6 (k := 1) (by decide) (by decide)).trans m380
        have hF := hF.more hF1 (by decide)
        try dsimp only at hw383
        refine lv_aload_n hx hb dX3_passHour_141 rfl (lv_at hl 2 rfl) ?_
        refine tw_getM (v := .int x1) hx hb hts bF2_X3 hown hK hT hr_o0 shc_6 rfl 4 (by decide) (ht_at2 hts 0 rfl) (fun _ h9 => h9) m384 dX3_passHour_142 ?_
        refine lv_bipush (v := 24) hx hb dX3_passHour_145 (by decide) ?_
        refine lv_irem hx hb dX3_passHour_147 (by decide) ?_
        refine lv_topi (fun x388 ex388 => ?_)
        have t389 : x388.toInt = x1.toInt % 24 := ti_rem ex388 rfl (by decide) (by omega) (by omega)
        refine lv_if_ne (tgt := 158) hx hb dX3_passHour_148 (by decide) (fun c390 => ?_) (fun c390 => ?_)
        · have t391 : x388.toInt ≠ 0 := ti_ne c390 rfl (by decide)
          exact W.vret hx hb hr (fun t ht hW => ⟨⟨x1, rfl, (by exact ⟨(by have q8 := ti_all x1; omega), (by omega)⟩), by (try dsimp only); rw [ht]; exact ⟨hT, hF, m384⟩⟩, hS.F ht⟩) hS.2.2 dX3_passHour_158
        · have t392 : x388.toInt = 0 := ti_eq c390 rfl (by decide)
          refine lv_aload_n hx hb dX3_passHour_151 rfl (lv_at hl 2 rfl) ?_
          refine tw_getM (v := .ref b12) hx hb hts bF2_X3 hown hK hT hr_o0 shc_6 rfl 1 (by decide) (ht_at2 hts 16 rfl) (fun _ h9 => h9) m386 dX3_passHour_152 ?_
          have hFc := gA_free hG hA hS
          refine va_callv (va_runV (As := []) (rest := []) ⟨hx, hb, hml, hown, hts⟩ (c_endDay l dC dI kA adK adV G H nC nS b12 hT hg13 (by omega) (by omega)) (cwV 0 hts (goodIn_app (goodIn_r _ [136, 137, 138, 37] rfl (by decide +kernel)) (goodIn_ca (goodIn_r _ [128, 31, 32, 129, 42, 130, 131, 132, 133, 134, 37, 51, 135] rfl (by decide +kernel)) (bs2_in _ _))) rfl rfl rfl (by decide +kernel) ⟨(Nat.le_of_ble_eq_true rfl), (Nat.le_of_ble_eq_true rfl)⟩) ⟨fun a U g mk q => by obtain ⟨q0, q1, qK, qE⟩ := q; exact ⟨q0, q1, va_K.moved (u := U) (U := U.calling g mk a) (Vm.Alike.refl U.vm) qK, EVC.blind g mk a qE⟩, gH_rc hK hT hg13 shc_5 rfl, fun U hU hW => ⟨rfl, hU, va_K.moved hW.alike hK, hE.call hS hFc hU hW⟩⟩ rfl rfl hl.1 rfl (lv_room (Nat.le_of_ble_eq_true rfl)) dX3_passHour_155 ⟨(Nat.le_of_ble_eq_true rfl), (Nat.le_of_ble_eq_true rfl)⟩) hS (fun q _ h => hFc q h) hFc (fun u t H locs ht hvm hw394 hB _ _ hS => ?_)
          obtain ⟨hT, hF1⟩ := hB
          rw [ht] at hT hF1
          have m395 := (hF1.fld hr_o0 skc_6 (k := 4) (by decide) (by decide)).trans m384
          have hF := hF.more hF1 (by decide)
          try dsimp only at hw394
          exact W.vret hx hb hr (fun t ht hW => ⟨⟨x1, rfl, (by exact ⟨(by have q8 := ti_all x1; omega), (by omega)⟩), by (try dsimp only); rw [ht]; exact ⟨hT, hF, m395⟩⟩, hS.F ht⟩) hS.2.2 dX3_passHour_158
      have key399 : ∀ (n399 i249 : Nat), i249 + n399 = 30 → 0 ≤ i249 → ∀ (H : Heap) (locs : List Loc), gH (dC, dI) kA (SHc nC nS) G H → gF (dC, dI) SKc G ([(5, 11), (5, 12), (5, 13), (6, 4), (13, 2), (13, 6), (13, 8), (13, 10), (13, 11), (26, 0), (29, 0), (30, 0), (31, 0), (32, 0), (33, 0), (34, 0), (35, 0)] : List (Nat × Nat)) s.heap H → va_S A s.heap H locs → el H o0 (dI 6 4) = some (.int x1) → el H o0 (dI 6 0) = some (.ref b5) → el H o0 (dI 6 1) = some (.ref b12) → el H o0 (dI 6 3) = some (.int x246) → ∀ ls : Array Slot, lv_has ls 3 [(2, .int (nI i249)), (1, .int r7), (0, .ref o0)] → W p l e (headSpec w_c_passHourE ({ frames := 6, cells := 0, slots := 0, locals := 136 })).room s m #[.ref o0] below meth c H locs 0 0 (MQ below (va_Qv (fun (u : Int32) => (1 ≤ u.toInt ∧ u.toInt ≤ 40000) ∧ (u.toInt = ho.toInt + 1)) (fun (h1 : Int32) (t : State) => gH (dC, dI) kA (SHc nC nS) G t.heap ∧ gF (dC, dI) SKc G ([(5, 11), (5, 12), (5, 13), (6, 4), (13, 2), (13, 6), (13, 8), (13, 10), (13, 11), (26, 0), (29, 0), (30, 0), (31, 0), (32, 0), (33, 0), (34, 0), (35, 0)] : List (Nat × Nat)) s.heap t.heap ∧ el t.heap o0 (dI 6 4) = some (.int h1)) A) #[.ref o0] s 0 0 A) (F0 m 81 ls []) := by
        intro n399
        induction n399 with
        | zero =>
          intro i249 hn399 hlo400  H locs hT hF hS m250 m251 m252 m253 ls hl
          obtain rfl : 30 = i249 := by omega
          refine lv_iload_n hx hb dX3_passHour_81 rfl (lv_at hl 0 rfl) ?_
          refine lv_aload_n hx hb dX3_passHour_82 rfl (lv_at hl 2 rfl) ?_
          refine tw_getM (v := .int x246) hx hb hts bF2_X3 hown hK hT hr_o0 shc_6 rfl 3 (by decide) (ht_at2 hts 37 rfl) (fun _ h9 => h9) m253 dX3_passHour_83 ?_
          refine lv_icmp_ge (tgt := 119) hx hb dX3_passHour_86 (by decide) (fun c401 => ?_) (fun c401 => (by exfalso; have q9 : ((30 : Nat) : Int) < x246.toInt := ti_nle c401 rfl (nI_toInt (by omega)); omega))
          have t402 : x246.toInt ≤ ((30 : Nat) : Int) := ti_le c401 rfl (nI_toInt (by omega))
          exact jn369 (nI 30) (rg_t (a := ((30 : Nat) : Int)) (nI_toInt (by omega)) (by omega) (by omega)) _ _ hT hF hS m250 m251 m252 m253 ls (lv_sub hl [0, 1, 2] rfl)
        | succ n399 ih399 =>
          intro i249 hn399 hlo400  H locs hT hF hS m250 m251 m252 m253 ls hl
          have hlt402 : i249 < 30 := by omega
          refine lv_iload_n hx hb dX3_passHour_81 rfl (lv_at hl 0 rfl) ?_
          refine lv_aload_n hx hb dX3_passHour_82 rfl (lv_at hl 2 rfl) ?_
          refine tw_getM (v := .int x246) hx hb hts bF2_X3 hown hK hT hr_o0 shc_6 rfl 3 (by decide) (ht_at2 hts 37 rfl) (fun _ h9 => h9) m253 dX3_passHour_83 ?_
          refine lv_icmp_ge (tgt := 119) hx hb dX3_passHour_86 (by decide) (fun c403 => ?_) (fun c403 => ?_)
          · have t404 : x246.toInt ≤ ((i249 : Nat) : Int) := ti_le c403 rfl (nI_toInt (by omega))
            exact jn369 (nI i249) (rg_t (a := ((i249 : Nat) : Int)) (nI_toInt (by omega)) (by omega) (by omega)) _ _ hT hF hS m250 m251 m252 m253 ls (lv_sub hl [0, 1, 2] rfl)
          · have t405 : ((i249 : Nat) : Int) < x246.toInt := ti_nle c403 rfl (nI_toInt (by omega))
            refine lv_aload_n hx hb dX3_passHour_89 rfl (lv_at hl 2 rfl) ?_
            refine tw_get hx hb hts bF2_X3 hown hK hT hr_o0 shc_6 rfl 2 (by decide) (ht_at2 hts 38 rfl) (fun _ h9 => h9) dX3_passHour_90 (fun v9 m406 h9 => ?_)
            obtain ⟨b407, rfl, hg408⟩ := h9 _ rfl
            refine lv_iload_n hx hb dX3_passHour_93 rfl (lv_at hl 0 rfl) ?_
            refine tw_aald (i := (nI i249)) hx hb hK hT hg408 shc_18 rfl (vp_in_nI (by omega) (by decide)) dX3_passHour_94 (fun v9 m409 h9 => ?_)
            obtain ⟨b410, rfl, hg411⟩ := h9
            refine tw_getN hx hb hts bF2_X10 hown hK hT hg411 shc_13 rfl 2 (by decide) (hE.nw 79 rfl) (fun _ h9 => h9) dX3_passHour_95 (fun v9 m412 h9 => ?_)
            obtain ⟨x413, rfl, gx413, kx413⟩ := h9 _ rfl
            refine lv_iconst (v := 4) hx hb dX3_passHour_98 (by decide) ?_
            have t414 : -2147483648 ≤ x413.toInt ∧ x413.toInt ≤ 2147483647 := ti_all x413
            refine lv_icmp_ne (tgt := 113) hx hb dX3_passHour_99 (by decide) (fun c415 => ?_) (fun c415 => ?_)
            · have t416 : x413.toInt ≠ 4 := ti_ne c415 rfl (by decide)
              refine lv_iinc (v := nI (i249 + 1)) (lv' := [(2, .int (nI (i249 + 1))), (1, .int r7), (0, .ref o0)]) hx hb dX3_passHour_113 hl (k := 0) rfl (nI_add i249 1) (by decide) rfl (fun ls hl => ?_)
              refine lv_goto (tgt := 81) hx hb dX3_passHour_116 (by decide) ?_
              exact ih399 (i249 + 1) (by omega) (by omega) _ _ hT hF hS m250 m251 m252 m253 ls (lv_sub hl [0, 1, 2] rfl)
            · have t417 : x413.toInt = 4 := ti_eq c415 rfl (by decide)
              refine lv_aload_n hx hb dX3_passHour_102 rfl (lv_at hl 2 rfl) ?_
              refine lv_aload_n hx hb dX3_passHour_103 rfl (lv_at hl 2 rfl) ?_
              refine tw_getM (v := .ref b407) hx hb hts bF2_X3 hown hK hT hr_o0 shc_6 rfl 2 (by decide) (ht_at2 hts 38 rfl) (fun _ h9 => h9) m406 dX3_passHour_104 ?_
              refine lv_iload_n hx hb dX3_passHour_107 rfl (lv_at hl 0 rfl) ?_
              refine tw_aald (i := (nI i249)) hx hb hK hT hg408 shc_18 rfl (vp_in_nI (by omega) (by decide)) dX3_passHour_108 (fun v9 m418 h9 => ?_)
              obtain ⟨b419, rfl, hg420⟩ := h9
              obtain rfl : b410 = b419 := (el_sameR m418 m409 (show (nI i249).toInt = (nI i249).toInt from by have q9 := (show (nI i249).toInt = ((i249 : Nat) : Int) from (nI_toInt (by omega))); have q8 := (show (nI i249).toInt = ((i249 : Nat) : Int) from (nI_toInt (by omega))); omega)).symm
              refine lv_iload_n hx hb dX3_passHour_109 rfl (lv_at hl 1 rfl) ?_
              have hFc := gA_free hG hA hS
              refine va_callv (va_runV (As := [.ref b410, .int r7]) (rest := []) ⟨hx, hb, hml, hown, hts⟩ (c_runSluice l dC dI kA adK adV G H nC nS o0 b410 r7 hT hg411 hr_o0 (by omega) (by omega)) (cwV 2 hts (goodIn_app (goodIn_r _ [67, 68, 69, 70] rfl (by decide +kernel)) (goodIn_ca (goodIn_r _ [40, 17, 41, 42, 32, 43, 44, 45, 37, 46, 47, 48, 49, 50, 51, 52, 53, 54, 55, 56, 57, 58, 59, 60, 61, 62, 63, 64, 65, 66] rfl (by decide +kernel)) (bs2_in _ _))) rfl rfl rfl (by decide +kernel) ⟨(Nat.le_of_ble_eq_true rfl), (Nat.le_of_ble_eq_true rfl)⟩) ⟨fun a U g mk q => by obtain ⟨q0, q1, qK, qE⟩ := q; exact ⟨q0, q1, va_K.moved (u := U) (U := U.calling g mk a) (Vm.Alike.refl U.vm) qK, EVC.blind g mk a qE⟩, gH_rc hK hT hr_o0 shc_6 rfl, fun U hU hW => ⟨rfl, hU, va_K.moved hW.alike hK, hE.call hS hFc hU hW⟩⟩ rfl rfl hl.1 rfl (lv_room (Nat.le_of_ble_eq_true rfl)) dX3_passHour_110 ⟨(Nat.le_of_ble_eq_true rfl), (Nat.le_of_ble_eq_true rfl)⟩) hS (fun q _ h => hFc q h) hFc (fun u t H locs ht hvm hw422 hB _ _ hS => ?_)
              obtain ⟨hT, hF1⟩ := hB
              rw [ht] at hT hF1
              have m423 := (hF1.fld hr_o0 skc_6 (k := 4) (by decide) (by decide)).trans m250
              have m424 := (hF1.fld hr_o0 skc_6 (k := 0) (by decide) (by decide)).trans m251
              have m425 := (hF1.fld hr_o0 skc_6 (k := 1) (by decide) (by decide)).trans m252
              have m426 := (hF1.fld hr_o0 skc_6 (k := 3) (by decide) (by decide)).trans m253
              have hF := hF.more hF1 (by decide)
              try dsimp only at hw422
              refine lv_iinc (v := nI (i249 + 1)) (lv' := [(2, .int (nI (i249 + 1))), (1, .int r7), (0, .ref o0)]) hx hb dX3_passHour_113 hl (k := 0) rfl (nI_add i249 1) (by decide) rfl (fun ls hl => ?_)
              refine lv_goto (tgt := 81) hx hb dX3_passHour_116 (by decide) ?_
              exact ih399 (i249 + 1) (by omega) (by omega) _ _ hT hF hS m423 m424 m425 m426 ls (lv_sub hl [0, 1, 2] rfl)
      exact key399 (30 - 0) 0 (by omega) (Nat.le_refl _) _ _ hT hF hS m25 m26 m27 m245 ls (lv_sub hl [0, 1, 2] rfl)
    | succ n243 ih243 =>
      intro i24 hn243 hlo244  H locs hT hF hS m25 m26 m27 ls hl
      have hlt429 : i24 < 30 := by omega
      refine lv_iload_n hx hb dX3_passHour_42 rfl (lv_at hl 0 rfl) ?_
      refine lv_aload_n hx hb dX3_passHour_43 rfl (lv_at hl 2 rfl) ?_
      refine tw_get hx hb hts bF2_X3 hown hK hT hr_o0 shc_6 rfl 3 (by decide) (ht_at2 hts 37 rfl) (fun _ h9 => h9) dX3_passHour_44 (fun v9 m430 h9 => ?_)
      obtain ⟨x431, rfl, gx431, kx431⟩ := h9 _ rfl
      refine lv_icmp_ge (tgt := 79) hx hb dX3_passHour_47 (by decide) (fun c432 => ?_) (fun c432 => ?_)
      · have t433 : x431.toInt ≤ ((i24 : Nat) : Int) := ti_le c432 rfl (nI_toInt (by omega))
        refine lv_iconst (v := 0) hx hb dX3_passHour_79 (by decide) ?_
        refine lv_istore_n (lv' := [(2, .int 0), (1, .int r7), (0, .ref o0)]) hx hb dX3_passHour_80 rfl hl (by decide) rfl (fun ls hl => ?_)
        have jn554 : ∀ (z548 : Int32), ((0 ≤ z548.toInt ∧ z548.toInt ≤ 30)) → ∀ (H : Heap) (locs : List Loc), gH (dC, dI) kA (SHc nC nS) G H → gF (dC, dI) SKc G ([(5, 11), (5, 12), (5, 13), (6, 4), (13, 2), (13, 6), (13, 8), (13, 10), (13, 11), (26, 0), (29, 0), (30, 0), (31, 0), (32, 0), (33, 0), (34, 0), (35, 0)] : List (Nat × Nat)) s.heap H → va_S A s.heap H locs → el H o0 (dI 6 4) = some (.int x1) → el H o0 (dI 6 0) = some (.ref b5) → el H o0 (dI 6 1) = some (.ref b12) → el H o0 (dI 6 3) = some (.int x431) → ∀ ls : Array Slot, lv_has ls 3 [(2, .int z548), (1, .int r7), (0, .ref o0)] → W p l e (headSpec w_c_passHourE ({ frames := 6, cells := 0, slots := 0, locals := 136 })).room s m #[.ref o0] below meth c H locs 0 0 (MQ below (va_Qv (fun (u : Int32) => (1 ≤ u.toInt ∧ u.toInt ≤ 40000) ∧ (u.toInt = ho.toInt + 1)) (fun (h1 : Int32) (t : State) => gH (dC, dI) kA (SHc nC nS) G t.heap ∧ gF (dC, dI) SKc G ([(5, 11), (5, 12), (5, 13), (6, 4), (13, 2), (13, 6), (13, 8), (13, 10), (13, 11), (26, 0), (29, 0), (30, 0), (31, 0), (32, 0), (33, 0), (34, 0), (35, 0)] : List (Nat × Nat)) s.heap t.heap ∧ el t.heap o0 (dI 6 4) = some (.int h1)) A) #[.ref o0] s 0 0 A) (F0 m 119 ls []) := by
          intro z548 h549 H locs hT hF hS m550 m551 m552 m553 ls hl
          refine lv_aload_n hx hb dX3_passHour_119 rfl (lv_at hl 2 rfl) ?_
          refine tw_getM (v := .ref b12) hx hb hts bF2_X3 hown hK hT hr_o0 shc_6 rfl 1 (by decide) (ht_at2 hts 16 rfl) (fun _ h9 => h9) m552 dX3_passHour_120 ?_
          have hFc := gA_free hG hA hS
          refine va_callv (va_runV (As := []) (rest := []) ⟨hx, hb, hml, hown, hts⟩ (c_runDitches l dC dI kA adK adV G H nC nS b12 hT hg13 (by omega) (by omega)) (cwV 0 hts (goodIn_app (goodIn_r _ [90, 91, 92, 37] rfl (by decide +kernel)) (goodIn_ca (goodIn_r _ [71, 72, 32, 73, 51, 74, 75, 76, 77, 78, 41, 42, 79, 44, 45, 37, 80, 81, 82, 83, 84, 85, 86, 47, 48, 49, 52, 53, 54, 55, 87, 88, 89] rfl (by decide +kernel)) (bs2_in _ _))) rfl rfl rfl (by decide +kernel) ⟨(Nat.le_of_ble_eq_true rfl), (Nat.le_of_ble_eq_true rfl)⟩) ⟨fun a U g mk q => by obtain ⟨q0, q1, qK, qE⟩ := q; exact ⟨q0, q1, va_K.moved (u := U) (U := U.calling g mk a) (Vm.Alike.refl U.vm) qK, EVC.blind g mk a qE⟩, gH_rc hK hT hg13 shc_5 rfl, fun U hU hW => ⟨rfl, hU, va_K.moved hW.alike hK, hE.call hS hFc hU hW⟩⟩ rfl rfl hl.1 rfl (lv_room (Nat.le_of_ble_eq_true rfl)) dX3_passHour_123 ⟨(Nat.le_of_ble_eq_true rfl), (Nat.le_of_ble_eq_true rfl)⟩) hS (fun q _ h => hFc q h) hFc (fun u t H locs ht hvm hw556 hB _ _ hS => ?_)
          obtain ⟨hT, hF1⟩ := hB
          rw [ht] at hT hF1
          have m557 := (hF1.fld hr_o0 skc_6 (k := 4) (by decide) (by decide)).trans m550
          have m558 := (hF1.fld hr_o0 skc_6 (k := 0) (by decide) (by decide)).trans m551
          have m559 := (hF1.fld hr_o0 skc_6 (k := 1) (by decide) (by decide)).trans m552
          have hF := hF.more hF1 (by decide)
          try dsimp only at hw556
          refine lv_aload_n hx hb dX3_passHour_126 rfl (lv_at hl 2 rfl) ?_
          refine lv_aload_n hx hb dX3_passHour_127 rfl (lv_at hl 2 rfl) ?_
          refine tw_getM (v := .ref b5) hx hb hts bF2_X3 hown hK hT hr_o0 shc_6 rfl 0 (by decide) (ht_at2 hts 1 rfl) (fun _ h9 => h9) m558 dX3_passHour_128 ?_
          refine lv_aload_n hx hb dX3_passHour_131 rfl (lv_at hl 2 rfl) ?_
          refine tw_getM (v := .int x1) hx hb hts bF2_X3 hown hK hT hr_o0 shc_6 rfl 4 (by decide) (ht_at2 hts 0 rfl) (fun _ h9 => h9) m557 dX3_passHour_132 ?_
          have hFc := gA_free hG hA hS
          refine va_calli (va_runV (As := [.int x1]) (rest := [.ref o0]) ⟨hx, hb, hml, hown, hts⟩ (c_windAt l dC dI kA adK adV G H nC nS b5 x1 hT hg6 (by omega) (by omega)) (cwV 1 hts (goodIn_app (goodIn_r _ [108, 109, 110, 16] rfl (by decide +kernel)) (goodIn_ca (goodIn_r _ [93, 94, 20, 21, 22, 23, 24, 25, 26, 95, 96, 97, 98, 99, 100, 101, 102, 103, 104, 105, 106, 48, 107] rfl (by decide +kernel)) (bs2_in _ _))) rfl rfl rfl (by decide +kernel) ⟨(Nat.le_of_ble_eq_true rfl), (Nat.le_of_ble_eq_true rfl)⟩) ⟨fun a U g mk q => by obtain ⟨q0, q1, qK, qE⟩ := q; exact ⟨q0, q1, va_K.moved (u := U) (U := U.calling g mk a) (Vm.Alike.refl U.vm) qK, EVC.blind g mk a qE⟩, gH_rc hK hT hg6 shc_11 rfl, fun U hU hW => ⟨rfl, hU, va_K.moved hW.alike hK, hE.call hS hFc hU hW⟩⟩ rfl rfl hl.1 rfl (lv_room (Nat.le_of_ble_eq_true rfl)) dX3_passHour_135 ⟨(Nat.le_of_ble_eq_true rfl), (Nat.le_of_ble_eq_true rfl)⟩) hS (fun q _ h => hFc q h) hFc (fun r561 u t H locs ht hvm hw562 hB _ _ hS => ?_)
          obtain ⟨hT, hF1⟩ := hB
          rw [ht] at hT hF1
          have m563 := (hF1.fld hr_o0 skc_6 (k := 4) (by decide) (by decide)).trans m557
          have m565 := (hF1.fld hr_o0 skc_6 (k := 1) (by decide) (by decide)).trans m559
          have hF := hF.more hF1 (by decide)
          try dsimp only at hw562
          have hFc := gA_free hG hA hS
          refine va_callv (va_runV (As := [.int r561]) (rest := []) ⟨hx, hb, hml, hown, hts⟩ (c_runMills l dC dI kA adK adV G H nC nS o0 r561 hT hr_o0 (by omega) (by omega)) (cwV 1 hts (goodIn_app (goodIn_r _ [125, 126, 127, 70] rfl (by decide +kernel)) (goodIn_ca (goodIn_r _ [111, 38, 39, 112, 113, 17, 46, 47, 48, 49, 114, 31, 52, 32, 51, 53, 54, 55, 37, 50, 56, 115, 58, 59, 116, 117, 118, 60, 61, 62, 63, 64, 65, 66, 119, 120, 121, 70, 122, 123, 124] rfl (by decide +kernel)) (bs2_in _ _))) rfl rfl rfl (by decide +kernel) ⟨(Nat.le_of_ble_eq_true rfl), (Nat.le_of_ble_eq_true rfl)⟩) ⟨fun a U g mk q => by obtain ⟨q0, q1, qK, qE⟩ := q; exact ⟨q0, q1, va_K.moved (u := U) (U := U.calling g mk a) (Vm.Alike.refl U.vm) qK, EVC.blind g mk a qE⟩, gH_rc hK hT hr_o0 shc_6 rfl, fun U hU hW => ⟨rfl, hU, va_K.moved hW.alike hK, hE.call hS hFc hU hW⟩⟩ rfl rfl hl.1 rfl (lv_room (Nat.le_of_ble_eq_true rfl)) dX3_passHour_138 ⟨(Nat.le_of_ble_eq_true rfl), (Nat.le_of_ble_eq_true rfl)⟩) hS (fun q _ h => hFc q h) hFc (fun u t H locs ht hvm hw568 hB _ _ hS => ?_)
          obtain ⟨hT, hF1⟩ := hB
          rw [ht] at hT hF1
          have m569 := (hF1.fld hr_o0 skc_6 (k := 4) (by decide) (by decide)).trans m563
          have m571 := (hF1.fld hr_o0 skc_6 (k := 1) (by decide) (by decide)).trans m565
          have hF := hF.more hF1 (by decide)
          try dsimp only at hw568
          refine lv_aload_n hx hb dX3_passHour_141 rfl (lv_at hl 2 rfl) ?_
          refine tw_getM (v := .int x1) hx hb hts bF2_X3 hown hK hT hr_o0 shc_6 rfl 4 (by decide) (ht_at2 hts 0 rfl) (fun _ h9 => h9) m569 dX3_passHour_142 ?_
          refine lv_bipush (v := 24) hx hb dX3_passHour_145 (by decide) ?_
          refine lv_irem hx hb dX3_passHour_147 (by decide) ?_
          refine lv_topi (fun x573 ex573 => ?_)
          have t574 : x573.toInt = x1.toInt % 24 := ti_rem ex573 rfl (by decide) (by omega) (by omega)
          refine lv_if_ne (tgt := 158) hx hb dX3_passHour_148 (by decide) (fun c575 => ?_) (fun c575 => ?_)
          · have t576 : x573.toInt ≠ 0 := ti_ne c575 rfl (by decide)
            exact W.vret hx hb hr (fun t ht hW => ⟨⟨x1, rfl, (by exact ⟨(by have q8 := ti_all x1; omega), (by omega)⟩), by (try dsimp only); rw [ht]; exact ⟨hT, hF, m569⟩⟩, hS.F ht⟩) hS.2.2 dX3_passHour_158
          · have t577 : x573.toInt = 0 := ti_eq c575 rfl (by decide)
            refine lv_aload_n hx hb dX3_passHour_151 rfl (lv_at hl 2 rfl) ?_
            refine tw_getM (v := .ref b12) hx hb hts bF2_X3 hown hK hT hr_o0 shc_6 rfl 1 (by decide) (ht_at2 hts 16 rfl) (fun _ h9 => h9) m571 dX3_passHour_152 ?_
            have hFc := gA_free hG hA hS
            refine va_callv (va_runV (As := []) (rest := []) ⟨hx, hb, hml, hown, hts⟩ (c_endDay l dC dI kA adK adV G H nC nS b12 hT hg13 (by omega) (by omega)) (cwV 0 hts (goodIn_app (goodIn_r _ [136, 137, 138, 37] rfl (by decide +kernel)) (goodIn_ca (goodIn_r _ [128, 31, 32, 129, 42, 130, 131, 132, 133, 134, 37, 51, 135] rfl (by decide +kernel)) (bs2_in _ _))) rfl rfl rfl (by decide +kernel) ⟨(Nat.le_of_ble_eq_true rfl), (Nat.le_of_ble_eq_true rfl)⟩) ⟨fun a U g mk q => by obtain ⟨q0, q1, qK, qE⟩ := q; exact ⟨q0, q1, va_K.moved (u := U) (U := U.calling g mk a) (Vm.Alike.refl U.vm) qK, EVC.blind g mk a qE⟩, gH_rc hK hT hg13 shc_5 rfl, fun U hU hW => ⟨rfl, hU, va_K.moved hW.alike hK, hE.call hS hFc hU hW⟩⟩ rfl rfl hl.1 rfl (lv_room (Nat.le_of_ble_eq_true rfl)) dX3_passHour_155 ⟨(Nat.le_of_ble_eq_true rfl), (Nat.le_of_ble_eq_true rfl)⟩) hS (fun q _ h => hFc q h) hFc (fun u t H locs ht hvm hw579 hB _ _ hS => ?_)
            obtain ⟨hT, hF1⟩ := hB
            rw [ht] at hT hF1
            have m580 := (hF1.fld hr_o0 skc_6 (k := 4) (by decide) (by decide)).trans m569
            have hF := hF.more hF1 (by decide)
            try dsimp only at hw579
            exact W.vret hx hb hr (fun t ht hW => ⟨⟨x1, rfl, (by exact ⟨(by have q8 := ti_all x1; omega), (by omega)⟩), by (try dsimp only); rw [ht]; exact ⟨hT, hF, m580⟩⟩, hS.F ht⟩) hS.2.2 dX3_passHour_158
        have key584 : ∀ (n584 i434 : Nat), i434 + n584 = 30 → 0 ≤ i434 → ∀ (H : Heap) (locs : List Loc), gH (dC, dI) kA (SHc nC nS) G H → gF (dC, dI) SKc G ([(5, 11), (5, 12), (5, 13), (6, 4), (13, 2), (13, 6), (13, 8), (13, 10), (13, 11), (26, 0), (29, 0), (30, 0), (31, 0), (32, 0), (33, 0), (34, 0), (35, 0)] : List (Nat × Nat)) s.heap H → va_S A s.heap H locs → el H o0 (dI 6 4) = some (.int x1) → el H o0 (dI 6 0) = some (.ref b5) → el H o0 (dI 6 1) = some (.ref b12) → el H o0 (dI 6 3) = some (.int x431) → ∀ ls : Array Slot, lv_has ls 3 [(2, .int (nI i434)), (1, .int r7), (0, .ref o0)] → W p l e (headSpec w_c_passHourE ({ frames := 6, cells := 0, slots := 0, locals := 136 })).room s m #[.ref o0] below meth c H locs 0 0 (MQ below (va_Qv (fun (u : Int32) => (1 ≤ u.toInt ∧ u.toInt ≤ 40000) ∧ (u.toInt = ho.toInt + 1)) (fun (h1 : Int32) (t : State) => gH (dC, dI) kA (SHc nC nS) G t.heap ∧ gF (dC, dI) SKc G ([(5, 11), (5, 12), (5, 13), (6, 4), (13, 2), (13, 6), (13, 8), (13, 10), (13, 11), (26, 0), (29, 0), (30, 0), (31, 0), (32, 0), (33, 0), (34, 0), (35, 0)] : List (Nat × Nat)) s.heap t.heap ∧ el t.heap o0 (dI 6 4) = some (.int h1)) A) #[.ref o0] s 0 0 A) (F0 m 81 ls []) := by
          intro n584
          induction n584 with
          | zero =>
            intro i434 hn584 hlo585  H locs hT hF hS m435 m436 m437 m438 ls hl
            obtain rfl : 30 = i434 := by omega
            refine lv_iload_n hx hb dX3_passHour_81 rfl (lv_at hl 0 rfl) ?_
            refine lv_aload_n hx hb dX3_passHour_82 rfl (lv_at hl 2 rfl) ?_
            refine tw_getM (v := .int x431) hx hb hts bF2_X3 hown hK hT hr_o0 shc_6 rfl 3 (by decide) (ht_at2 hts 37 rfl) (fun _ h9 => h9) m438 dX3_passHour_83 ?_
            refine lv_icmp_ge (tgt := 119) hx hb dX3_passHour_86 (by decide) (fun c586 => ?_) (fun c586 => (by exfalso; have q9 : ((30 : Nat) : Int) < x431.toInt := ti_nle c586 rfl (nI_toInt (by omega)); omega))
            have t587 : x431.toInt ≤ ((30 : Nat) : Int) := ti_le c586 rfl (nI_toInt (by omega))
            exact jn554 (nI 30) (rg_t (a := ((30 : Nat) : Int)) (nI_toInt (by omega)) (by omega) (by omega)) _ _ hT hF hS m435 m436 m437 m438 ls (lv_sub hl [0, 1, 2] rfl)
          | succ n584 ih584 =>
            intro i434 hn584 hlo585  H locs hT hF hS m435 m436 m437 m438 ls hl
            have hlt587 : i434 < 30 := by omega
            refine lv_iload_n hx hb dX3_passHour_81 rfl (lv_at hl 0 rfl) ?_
            refine lv_aload_n hx hb dX3_passHour_82 rfl (lv_at hl 2 rfl) ?_
            refine tw_getM (v := .int x431) hx hb hts bF2_X3 hown hK hT hr_o0 shc_6 rfl 3 (by decide) (ht_at2 hts 37 rfl) (fun _ h9 => h9) m438 dX3_passHour_83 ?_
            refine lv_icmp_ge (tgt := 119) hx hb dX3_passHour_86 (by decide) (fun c588 => ?_) (fun c588 => ?_)
            · have t589 : x431.toInt ≤ ((i434 : Nat) : Int) := ti_le c588 rfl (nI_toInt (by omega))
              exact jn554 (nI i434) (rg_t (a := ((i434 : Nat) : Int)) (nI_toInt (by omega)) (by omega) (by omega)) _ _ hT hF hS m435 m436 m437 m438 ls (lv_sub hl [0, 1, 2] rfl)
            · have t590 : ((i434 : Nat) : Int) < x431.toInt := ti_nle c588 rfl (nI_toInt (by omega))
              refine lv_aload_n hx hb dX3_passHour_89 rfl (lv_at hl 2 rfl) ?_
              refine tw_get hx hb hts bF2_X3 hown hK hT hr_o0 shc_6 rfl 2 (by decide) (ht_at2 hts 38 rfl) (fun _ h9 => h9) dX3_passHour_90 (fun v9 m591 h9 => ?_)
              obtain ⟨b592, rfl, hg593⟩ := h9 _ rfl
              refine lv_iload_n hx hb dX3_passHour_93 rfl (lv_at hl 0 rfl) ?_
              refine tw_aald (i := (nI i434)) hx hb hK hT hg593 shc_18 rfl (vp_in_nI (by omega) (by decide)) dX3_passHour_94 (fun v9 m594 h9 => ?_)
              obtain ⟨b595, rfl, hg596⟩ := h9
              refine tw_getN hx hb hts bF2_X10 hown hK hT hg596 shc_13 rfl 2 (by decide) (hE.nw 79 rfl) (fun _ h9 => h9) dX3_passHour_95 (fun v9 m597 h9 => ?_)
              obtain ⟨x598, rfl, gx598, kx598⟩ := h9 _ rfl
              refine lv_iconst (v := 4) hx hb dX3_passHour_98 (by decide) ?_
              have t599 : -2147483648 ≤ x598.toInt ∧ x598.toInt ≤ 2147483647 := ti_all x598
              refine lv_icmp_ne (tgt := 113) hx hb dX3_passHour_99 (by decide) (fun c600 => ?_) (fun c600 => ?_)
              · have t601 : x598.toInt ≠ 4 := ti_ne c600 rfl (by decide)
                refine lv_iinc (v := nI (i434 + 1)) (lv' := [(2, .int (nI (i434 + 1))), (1, .int r7), (0, .ref o0)]) hx hb dX3_passHour_113 hl (k := 0) rfl (nI_add i434 1) (by decide) rfl (fun ls hl => ?_)
                refine lv_goto (tgt := 81) hx hb dX3_passHour_116 (by decide) ?_
                exact ih584 (i434 + 1) (by omega) (by omega) _ _ hT hF hS m435 m436 m437 m438 ls (lv_sub hl [0, 1, 2] rfl)
              · have t602 : x598.toInt = 4 := ti_eq c600 rfl (by decide)
                refine lv_aload_n hx hb dX3_passHour_102 rfl (lv_at hl 2 rfl) ?_
                refine lv_aload_n hx hb dX3_passHour_103 rfl (lv_at hl 2 rfl) ?_
                refine tw_getM (v := .ref b592) hx hb hts bF2_X3 hown hK hT hr_o0 shc_6 rfl 2 (by decide) (ht_at2 hts 38 rfl) (fun _ h9 => h9) m591 dX3_passHour_104 ?_
                refine lv_iload_n hx hb dX3_passHour_107 rfl (lv_at hl 0 rfl) ?_
                refine tw_aald (i := (nI i434)) hx hb hK hT hg593 shc_18 rfl (vp_in_nI (by omega) (by decide)) dX3_passHour_108 (fun v9 m603 h9 => ?_)
                obtain ⟨b604, rfl, hg605⟩ := h9
                obtain rfl : b595 = b604 := (el_sameR m603 m594 (show (nI i434).toInt = (nI i434).toInt from by have q9 := (show (nI i434).toInt = ((i434 : Nat) : Int) from (nI_toInt (by omega))); have q8 := (show (nI i434).toInt = ((i434 : Nat) : Int) from (nI_toInt (by omega))); omega)).symm
                refine lv_iload_n hx hb dX3_passHour_109 rfl (lv_at hl 1 rfl) ?_
                have hFc := gA_free hG hA hS
                refine va_callv (va_runV (As := [.ref b595, .int r7]) (rest := []) ⟨hx, hb, hml, hown, hts⟩ (c_runSluice l dC dI kA adK adV G H nC nS o0 b595 r7 hT hg596 hr_o0 (by omega) (by omega)) (cwV 2 hts (goodIn_app (goodIn_r _ [67, 68, 69, 70] rfl (by decide +kernel)) (goodIn_ca (goodIn_r _ [40, 17, 41, 42, 32, 43, 44, 45, 37, 46, 47, 48, 49, 50, 51, 52, 53, 54, 55, 56, 57, 58, 59, 60, 61, 62, 63, 64, 65, 66] rfl (by decide +kernel)) (bs2_in _ _))) rfl rfl rfl (by decide +kernel) ⟨(Nat.le_of_ble_eq_true rfl), (Nat.le_of_ble_eq_true rfl)⟩) ⟨fun a U g mk q => by obtain ⟨q0, q1, qK, qE⟩ := q; exact ⟨q0, q1, va_K.moved (u := U) (U := U.calling g mk a) (Vm.Alike.refl U.vm) qK, EVC.blind g mk a qE⟩, gH_rc hK hT hr_o0 shc_6 rfl, fun U hU hW => ⟨rfl, hU, va_K.moved hW.alike hK, hE.call hS hFc hU hW⟩⟩ rfl rfl hl.1 rfl (lv_room (Nat.le_of_ble_eq_true rfl)) dX3_passHour_110 ⟨(Nat.le_of_ble_eq_true rfl), (Nat.le_of_ble_eq_true rfl)⟩) hS (fun q _ h => hFc q h) hFc (fun u t H locs ht hvm hw607 hB _ _ hS => ?_)
                obtain ⟨hT, hF1⟩ := hB
                rw [ht] at hT hF1
                have m608 := (hF1.fld hr_o0 skc_6 (k := 4) (by decide) (by decide)).trans m435
                have m609 := (hF1.fld hr_o0 skc_6 (k := 0) (by decide) (by decide)).trans m436
                have m610 := (hF1.fld hr_o0 skc_6 (k := 1) (by decide) (by decide)).trans m437
                have m611 := (hF1.fld hr_o0 skc_6 (k := 3) (by decide) (by decide)).trans m438
                have hF := hF.more hF1 (by decide)
                try dsimp only at hw607
                refine lv_iinc (v := nI (i434 + 1)) (lv' := [(2, .int (nI (i434 + 1))), (1, .int r7), (0, .ref o0)]) hx hb dX3_passHour_113 hl (k := 0) rfl (nI_add i434 1) (by decide) rfl (fun ls hl => ?_)
                refine lv_goto (tgt := 81) hx hb dX3_passHour_116 (by decide) ?_
                exact ih584 (i434 + 1) (by omega) (by omega) _ _ hT hF hS m608 m609 m610 m611 ls (lv_sub hl [0, 1, 2] rfl)
        exact key584 (30 - 0) 0 (by omega) (Nat.le_refl _) _ _ hT hF hS m25 m26 m27 m430 ls (lv_sub hl [0, 1, 2] rfl)
      · have t615 : ((i24 : Nat) : Int) < x431.toInt := ti_nle c432 rfl (nI_toInt (by omega))
        refine lv_aload_n hx hb dX3_passHour_50 rfl (lv_at hl 2 rfl) ?_
        refine tw_get hx hb hts bF2_X3 hown hK hT hr_o0 shc_6 rfl 2 (by decide) (ht_at2 hts 38 rfl) (fun _ h9 => h9) dX3_passHour_51 (fun v9 m616 h9 => ?_)
        obtain ⟨b617, rfl, hg618⟩ := h9 _ rfl
        refine lv_iload_n hx hb dX3_passHour_54 rfl (lv_at hl 0 rfl) ?_
        refine tw_aald (i := (nI i24)) hx hb hK hT hg618 shc_18 rfl (vp_in_nI (by omega) (by decide)) dX3_passHour_55 (fun v9 m619 h9 => ?_)
        obtain ⟨b620, rfl, hg621⟩ := h9
        have hFc := gA_free hG hA hS
        refine va_calli (va_runV (As := []) (rest := []) ⟨hx, hb, hml, hown, hts⟩ (c_isBank l dC dI kA adK adV G H nC nS b620 hT hg621 (by omega) (by omega)) (cwV 0 hts (goodIn_app (goodIn_r _ [141, 142, 143, 66] rfl (by decide +kernel)) (goodIn_ca (goodIn_r _ [139, 140] rfl (by decide +kernel)) (bs2_in _ _))) rfl rfl rfl (by decide +kernel) ⟨(Nat.le_of_ble_eq_true rfl), (Nat.le_of_ble_eq_true rfl)⟩) ⟨fun a U g mk q => by obtain ⟨q0, q1, qK, qE⟩ := q; exact ⟨q0, q1, va_K.moved (u := U) (U := U.calling g mk a) (Vm.Alike.refl U.vm) qK, EVC.blind g mk a qE⟩, gH_rc hK hT hg621 shc_13 rfl, fun U hU hW => ⟨rfl, hU, va_K.moved hW.alike hK, hE.call hS hFc hU hW⟩⟩ rfl rfl hl.1 rfl (lv_room (Nat.le_of_ble_eq_true rfl)) dX3_passHour_56 ⟨(Nat.le_of_ble_eq_true rfl), (Nat.le_of_ble_eq_true rfl)⟩) hS (fun q _ h => hFc q h) hFc (fun r622 u t H locs ht hvm hw623 hB _ _ hS => ?_)
        obtain ⟨hT, hF1⟩ := hB
        rw [ht] at hT hF1
        have m624 := (hF1.fld hr_o0 skc_6 (k := 4) (by decide) (by decide)).trans m25
        have m625 := (hF1.fld hr_o0 skc_6 (k := 0) (by decide) (by decide)).trans m26
        have m626 := (hF1.fld hr_o0 skc_6 (k := 1) (by decide) (by decide)).trans m27
        have m628 := (hF1.fld hr_o0 skc_6 (k := 2) (by decide) (by decide)).trans m616
        have m629 := (el_kept (hF1.arr hg618 skc_18 (by decide))).trans m619
        have hF := hF.more hF1 (by decide)
        try dsimp only at hw623
        have h630 := hw623
        refine lv_if_eq (tgt := 73) hx hb dX3_passHour_59 (by decide) (fun c631 => ?_) (fun c631 => ?_)
        · have t632 : r622.toInt = 0 := ti_eq c631 rfl (by decide)
          refine lv_iinc (v := nI (i24 + 1)) (lv' := [(2, .int (nI (i24 + 1))), (1, .int r7), (0, .ref o0)]) hx hb dX3_passHour_73 hl (k := 0) rfl (nI_add i24 1) (by decide) rfl (fun ls hl => ?_)
          refine lv_goto (tgt := 42) hx hb dX3_passHour_76 (by decide) ?_
          exact ih243 (i24 + 1) (by omega) (by omega) _ _ hT hF hS m624 m625 m626 ls (lv_sub hl [0, 1, 2] rfl)
        · have t633 : r622.toInt ≠ 0 := ti_ne c631 rfl (by decide)
          refine lv_aload_n hx hb dX3_passHour_62 rfl (lv_at hl 2 rfl) ?_
          refine lv_aload_n hx hb dX3_passHour_63 rfl (lv_at hl 2 rfl) ?_
          refine tw_getM (v := .ref b617) hx hb hts bF2_X3 hown hK hT hr_o0 shc_6 rfl 2 (by decide) (ht_at2 hts 38 rfl) (fun _ h9 => h9) m628 dX3_passHour_64 ?_
          refine lv_iload_n hx hb dX3_passHour_67 rfl (lv_at hl 0 rfl) ?_
          refine tw_aald (i := (nI i24)) hx hb hK hT hg618 shc_18 rfl (vp_in_nI (by omega) (by decide)) dX3_passHour_68 (fun v9 m634 h9 => ?_)
          obtain ⟨b635, rfl, hg636⟩ := h9
          obtain rfl : b620 = b635 := (el_sameR m634 m629 (show (nI i24).toInt = (nI i24).toInt from by have q9 := (show (nI i24).toInt = ((i24 : Nat) : Int) from (nI_toInt (by omega))); have q8 := (show (nI i24).toInt = ((i24 : Nat) : Int) from (nI_toInt (by omega))); omega)).symm
          refine lv_iload_n hx hb dX3_passHour_69 rfl (lv_at hl 1 rfl) ?_
          have hFc := gA_free hG hA hS
          refine va_callv (va_runV (As := [.ref b620, .int r7]) (rest := []) ⟨hx, hb, hml, hown, hts⟩ (c_runBank l dC dI kA adK adV G H nC nS o0 b620 r7 hT hg621 hr_o0 (by omega) (by omega)) (cwV 2 hts (goodIn_app (goodIn_r _ [188, 189, 190, 70] rfl (by decide +kernel)) (goodIn_ca (goodIn_r _ [144, 145, 17, 41, 42, 32, 43, 44, 45, 37, 146, 106, 48, 107, 147, 148, 149, 150, 151, 152, 153, 66, 154, 155, 156, 70, 157, 140, 158, 159, 160, 161, 162, 163, 46, 47, 49, 50, 51, 52, 53, 54, 55, 56, 57, 58, 59, 164, 165, 166, 167, 168, 60, 61, 62, 63, 64, 65, 169, 170, 171, 172, 173, 174, 175, 176, 177, 178, 179, 180, 181, 182, 183, 184, 185, 186, 187] rfl (by decide +kernel)) (bs2_in _ _))) rfl rfl rfl (by decide +kernel) ⟨(Nat.le_of_ble_eq_true rfl), (Nat.le_of_ble_eq_true rfl)⟩) ⟨fun a U g mk q => by obtain ⟨q0, q1, qK, qE⟩ := q; exact ⟨q0, q1, va_K.moved (u := U) (U := U.calling g mk a) (Vm.Alike.refl U.vm) qK, EVC.blind g mk a qE⟩, gH_rc hK hT hr_o0 shc_6 rfl, fun U hU hW => ⟨rfl, hU, va_K.moved hW.alike hK, hE.call hS hFc hU hW⟩⟩ rfl rfl hl.1 rfl (lv_room (Nat.le_of_ble_eq_true rfl)) dX3_passHour_70 ⟨(Nat.le_of_ble_eq_true rfl), (Nat.le_of_ble_eq_true rfl)⟩) hS (fun q _ h => hFc q h) hFc (fun u t H locs ht hvm hw638 hB _ _ hS => ?_)
          obtain ⟨hT, hF1⟩ := hB
          rw [ht] at hT hF1
          have m639 := (hF1.fld hr_o0 skc_6 (k := 4) (by decide) (by decide)).trans m624
          have m640 := (hF1.fld hr_o0 skc_6 (k := 0) (by decide) (by decide)).trans m625
          have m641 := (hF1.fld hr_o0 skc_6 (k := 1) (by decide) (by decide)).trans m626
          have hF := hF.more hF1 (by decide)
          try dsimp only at hw638
          refine lv_iinc (v := nI (i24 + 1)) (lv' := [(2, .int (nI (i24 + 1))), (1, .int r7), (0, .ref o0)]) hx hb dX3_passHour_73 hl (k := 0) rfl (nI_add i24 1) (by decide) rfl (fun ls hl => ?_)
          refine lv_goto (tgt := 42) hx hb dX3_passHour_76 (by decide) ?_
          exact ih243 (i24 + 1) (by omega) (by omega) _ _ hT hF hS m639 m640 m641 ls (lv_sub hl [0, 1, 2] rfl)
  exact key243 (30 - 0) 0 (by omega) (Nat.le_refl _) _ _ hT hF hS m21 m22 m23 ls (lv_sub hl [0, 1, 2] rfl)
def w_c_hoursE : List Cond := .code yX11_hours cX11_hours 3 (some .int) :: (HAppend.hAppend (α := List Cond) (β := List Cond) (γ := List Cond) [.code yX11_within cX11_within 3 (some .boolean), .methodLink RX11 58 yX11_within, .static yX11_within, .initialized RX11, .code yX11_needNumbers cX11_needNumbers 1 none, .classLink RX11 547 "java/lang/IllegalArgumentException", .initialized "java/lang/IllegalArgumentException", .methodLink RX11 62 yX11_needNumbers, .static yX11_needNumbers, .fieldLink RX11 16 "SeaLand" "lake" "LSeaLand$Lake;", .constant RX11 110 40000, .code yX3_passHour cX3_passHour 3 none, .fieldLink RX3 32 "SeaLand$Lake" "hour" "I", .fieldLink RX3 12 "SeaLand$Lake" "sky" "LSeaLand$Sky;", .code yX8_outsideAt cX8_outsideAt 4 (some .int), .fieldLink RX8 9 "SeaLand$Sky" "tides" "[I", .code yJ9_floorMod_7cf53 cJ9_floorMod_7cf53 3 (some .int), .methodLink RX8 38 yJ9_floorMod_7cf53, .static yJ9_floorMod_7cf53, .initialized RJ9, .fieldLink RX8 34 "SeaLand$Sky" "storms" "I", .fieldLink RX8 15 "SeaLand$Sky" "stormFrom" "[I", .fieldLink RX8 18 "SeaLand$Sky" "stormTo" "[I", .fieldLink RX8 21 "SeaLand$Sky" "stormMore" "[I", .methodLink RX3 44 yX8_outsideAt, .instanceMethod yX8_outsideAt, .selects RX8 yX8_outsideAt yX8_outsideAt, .initialized RX8, .fieldLink RX3 21 "SeaLand$Lake" "ground" "LSeaLand$Ground;", .code yX8_rainAt cX8_rainAt 3 (some .int), .fieldLink RX8 31 "SeaLand$Sky" "rain" "LSeaLand$Tellings;", .code yX9_standingAt cX9_standingAt 5 (some .int), .fieldLink RX9 18 "SeaLand$Tellings" "told" "I", .fieldLink RX9 9 "SeaLand$Tellings" "hours" "[I", .methodLink RX8 44 yX9_standingAt, .instanceMethod yX9_standingAt, .selects RX9 yX9_standingAt yX9_standingAt, .initialized RX9, .methodLink RX3 103 yX8_rainAt, .instanceMethod yX8_rainAt, .selects RX8 yX8_rainAt yX8_rainAt, .code yX2_rainOnLand cX2_rainOnLand 3 none, .fieldLink RX2 9 "SeaLand$Ground" "isLand" "[Z", .fieldLink RX2 25 "SeaLand$Ground" "water" "[I", .fieldLink RX2 54 "SeaLand$Ground" "rained" "I", .methodLink RX3 106 yX2_rainOnLand, .instanceMethod yX2_rainOnLand, .selects RX2 yX2_rainOnLand yX2_rainOnLand, .initialized RX2, .fieldLink RX3 47 "SeaLand$Lake" "built" "I", .fieldLink RX3 27 "SeaLand$Lake" "works" "[LSeaLand$Work;", .code yX3_runSluice cX3_runSluice 5 none, .code yX2_levelOf cX2_levelOf 2 (some .int), .fieldLink RX2 15 "SeaLand$Ground" "height" "[I", .methodLink RX3 40 yX2_levelOf, .instanceMethod yX2_levelOf, .selects RX2 yX2_levelOf yX2_levelOf, .methodLink RX3 71 Lib.Math.min.name, .static Lib.Math.min.name, .initialized "java/lang/Math", .code Lib.Math.min.name Lib.Math.min.code 2 (some .int), .code yX2_giveToSea cX2_giveToSea 3 none, .fieldLink RX2 28 "SeaLand$Ground" "salt" "[I", .code yX2_saltGoingWith cX2_saltGoingWith 4 (some .int), .methodLink RX2 60 yX2_saltGoingWith, .instanceMethod yX2_saltGoingWith, .selects RX2 yX2_saltGoingWith yX2_saltGoingWith, .fieldLink RX2 64 "SeaLand$Ground" "wentOut" "I", .methodLink RX3 154 yX2_giveToSea, .instanceMethod yX2_giveToSea, .selects RX2 yX2_giveToSea yX2_giveToSea, .code yX10_moved cX10_moved 2 none, .fieldLink RX10 44 "SeaLand$Work" "latest" "I", .fieldLink RX10 47 "SeaLand$Work" "total" "I", .methodLink RX3 140 yX10_moved, .instanceMethod yX10_moved, .selects RX10 yX10_moved yX10_moved, .initialized RX10, .methodLink RX3 114 yX3_runSluice, .instanceMethod yX3_runSluice, .selects RX3 yX3_runSluice yX3_runSluice, .initialized RX3, .code yX2_runDitches cX2_runDitches 3 none, .fieldLink RX2 37 "SeaLand$Ground" "ditchTo" "[I", .fieldLink RX2 40 "SeaLand$Ground" "ditchWater" "[I", .fieldLink RX2 43 "SeaLand$Ground" "ditchSalt" "[I", .code yX2_reckonDitch cX2_reckonDitch 5 none, .fieldLink RX2 22 "SeaLand$Ground" "ditch" "[I", .code yX2_lowestDitchBeside cX2_lowestDitchBeside 4 (some .int), .code yX2_lowerDitch cX2_lowerDitch 4 (some .int), .methodLink RX2 79 yX2_levelOf, .methodLink RX2 87 yX2_lowerDitch, .instanceMethod yX2_lowerDitch, .selects RX2 yX2_lowerDitch yX2_lowerDitch, .methodLink RX2 75 yX2_lowestDitchBeside, .instanceMethod yX2_lowestDitchBeside, .selects RX2 yX2_lowestDitchBeside yX2_lowestDitchBeside, .methodLink RX2 82 Lib.Math.min.name, .methodLink RX2 71 yX2_reckonDitch, .instanceMethod yX2_reckonDitch, .selects RX2 yX2_reckonDitch yX2_reckonDitch, .methodLink RX3 117 yX2_runDitches, .instanceMethod yX2_runDitches, .selects RX2 yX2_runDitches yX2_runDitches, .code yX8_windAt cX8_windAt 4 (some .int), .fieldLink RX8 27 "SeaLand$Sky" "wind" "LSeaLand$Tellings;", .code yX9_nearestNumberBefore cX9_nearestNumberBefore 5 (some .int), .fieldLink RX9 15 "SeaLand$Tellings" "numbers" "[I", .methodLink RX8 54 yX9_nearestNumberBefore, .instanceMethod yX9_nearestNumberBefore, .selects RX9 yX9_nearestNumberBefore yX9_nearestNumberBefore, .code yX9_nearestNumberAfter cX9_nearestNumberAfter 5 (some .int), .constant RX9 22 40001, .methodLink RX8 57 yX9_nearestNumberAfter, .instanceMethod yX9_nearestNumberAfter, .selects RX9 yX9_nearestNumberAfter yX9_nearestNumberAfter, .methodLink RX8 60 Lib.Math.max.name, .static Lib.Math.max.name, .code Lib.Math.max.name Lib.Math.max.code 2 (some .int), .methodLink RX3 120 yX8_windAt, .instanceMethod yX8_windAt, .selects RX8 yX8_windAt yX8_windAt, .code yX3_runMills cX3_runMills 3 none, .code yX3_runEngine cX3_runEngine 3 none, .code yX3_liftBy cX3_liftBy 4 none, .code yX2_giveTo cX2_giveTo 5 none, .methodLink RX2 67 yX2_giveToSea, .methodLink RX3 171 yX2_giveTo, .instanceMethod yX2_giveTo, .selects RX2 yX2_giveTo yX2_giveTo, .methodLink RX3 161 yX3_liftBy, .instanceMethod yX3_liftBy, .selects RX3 yX3_liftBy yX3_liftBy, .methodLink RX3 164 yX3_runEngine, .instanceMethod yX3_runEngine, .selects RX3 yX3_runEngine yX3_runEngine, .methodLink RX3 123 yX3_runMills, .instanceMethod yX3_runMills, .selects RX3 yX3_runMills yX3_runMills, .code yX2_endDay cX2_endDay 2 none, .fieldLink RX2 31 "SeaLand$Ground" "dry" "[I", .code yX2_sinksNow cX2_sinksNow 2 (some .boolean), .fieldLink RX2 19 "SeaLand$Ground" "soil" "[I", .methodLink RX2 91 yX2_sinksNow, .instanceMethod yX2_sinksNow, .selects RX2 yX2_sinksNow yX2_sinksNow, .fieldLink RX2 34 "SeaLand$Ground" "wet" "[I", .methodLink RX3 126 yX2_endDay, .instanceMethod yX2_endDay, .selects RX2 yX2_endDay yX2_endDay, .code yX10_isBank cX10_isBank 1 (some .boolean), .fieldLink RX10 18 "SeaLand$Work" "kind" "I", .methodLink RX3 67 yX10_isBank, .instanceMethod yX10_isBank, .selects RX10 yX10_isBank yX10_isBank, .code yX3_runBank cX3_runBank 4 none, .code yX3_seepOf cX3_seepOf 5 (some .int), .methodLink RX3 97 Lib.Math.max.name, .code yX10_leakBelow cX10_leakBelow 6 (some .int), .fieldLink RX10 34 "SeaLand$Work" "layers" "I", .fieldLink RX10 9 "SeaLand$Work" "thick" "[I", .fieldLink RX10 15 "SeaLand$Work" "clay" "[I", .methodLink RX3 100 yX10_leakBelow, .instanceMethod yX10_leakBelow, .selects RX10 yX10_leakBelow yX10_leakBelow, .methodLink RX3 132 yX3_seepOf, .instanceMethod yX3_seepOf, .selects RX3 yX3_seepOf yX3_seepOf, .code yX10_breakOpen cX10_breakOpen 1 none, .fieldLink RX10 31 "SeaLand$Work" "width" "I", .methodLink RX3 143 yX10_breakOpen, .instanceMethod yX10_breakOpen, .selects RX10 yX10_breakOpen yX10_breakOpen, .code yX3_runBreach cX3_runBreach 4 none, .constantLong RX3 149 120, .code yX2_takeFromSea cX2_takeFromSea 3 none, .fieldLink RX2 57 "SeaLand$Ground" "cameIn" "I", .methodLink RX3 136 yX2_takeFromSea, .instanceMethod yX2_takeFromSea, .selects RX2 yX2_takeFromSea yX2_takeFromSea, .methodLink RX3 146 yX3_runBreach, .instanceMethod yX3_runBreach, .selects RX3 yX3_runBreach yX3_runBreach, .code yX3_crestOf cX3_crestOf 2 (some .int), .code yX10_thickness cX10_thickness 3 (some .int), .methodLink RX3 80 yX10_thickness, .instanceMethod yX10_thickness, .selects RX10 yX10_thickness yX10_thickness, .methodLink RX3 84 yX3_crestOf, .instanceMethod yX3_crestOf, .selects RX3 yX3_crestOf yX3_crestOf, .code yX10_widen cX10_widen 1 none, .code yX10_wider cX10_wider 1 (some .int), .methodLink RX10 54 Lib.Math.min.name, .methodLink RX10 50 yX10_wider, .static yX10_wider, .methodLink RX3 129 yX10_widen, .instanceMethod yX10_widen, .selects RX10 yX10_widen yX10_widen, .methodLink RX3 110 yX3_runBank, .instanceMethod yX3_runBank, .selects RX3 yX3_runBank yX3_runBank, .methodLink RX11 223 yX3_passHour, .instanceMethod yX3_passHour, .selects RX3 yX3_passHour yX3_passHour, .fieldLink RX11 23 "SeaLand" "rows" "LSeaLand$Rows;", .code yX6_write cX6_write 5 none, .fieldLink RX6 18 "SeaLand$Rows" "kept" "I", .fieldLink RX6 22 "SeaLand$Rows" "oldest" "I", .methodLink RX6 34 yX8_outsideAt, .code yX6_placeOf cX6_placeOf 3 (some .int), .methodLink RX6 40 yX6_placeOf, .instanceMethod yX6_placeOf, .selects RX6 yX6_placeOf yX6_placeOf, .initialized RX6, .fieldLink RX6 15 "SeaLand$Rows" "proof" "[I", .methodLink RX6 54 yX2_levelOf, .fieldLink RX6 9 "SeaLand$Rows" "shown" "[I", .methodLink RX11 226 yX6_write, .instanceMethod yX6_write, .selects RX6 yX6_write yX6_write] bs2)
set_option maxHeartbeats 4000000 in
set_option maxRecDepth 100000 in
theorem c_hoursE (l : Launch) (hlt : l.stackTraces = false) (dC : Nat → ClassId) (dI : Nat → Nat → Nat) (kA : Nat → ClassId) (adK adV : Nat → Nat) (G : gT) (H0 : Heap) (nC nS : Int) (o0 : Nat) (p0 : Int32) (lk : Nat) (ho : Int32)  (hT : gH (dC, dI) kA (SHc nC nS) G H0) (hr_o0 : G o0 = some 14) (hm_lk : el H0 o0 (dI 14 1) = some (.ref lk)) (hr_lk : G lk = some 6) (hm_ho : el H0 lk (dI 6 4) = some (.int ho)) (hq0 : 0 ≤ ho.toInt ∧ ho.toInt ≤ 40000) (hgC : 0 ≤ nC ∧ nC ≤ 40) (hgS : 0 ≤ nS ∧ nS ≤ 60) : vx_Met l yX11_hours w_c_hoursE ({ frames := 7, cells := 1, slots := 6, locals := 158 }) (va_Pc [.ref o0, .int p0] (fun U => U.heap = H0 ∧ va_K (dC, dI) vwCl (tyl kA) U ∧ EVC adK adV (gA G H0.size) U U.heap)) (va_Qi (fun (r : Int32) (u : Int32) => (0 ≤ r.toInt ∧ r.toInt ≤ 40000) ∧ ((0 ≤ p0.toInt ∧ p0.toInt ≤ 240) ∧ r.toInt = u.toInt ∧ ((u.toInt = ho.toInt + p0.toInt ∧ ho.toInt + p0.toInt ≤ 40000) ∨ (u.toInt = 40000 ∧ 40000 ≤ ho.toInt + p0.toInt)))) (fun (h1 : Int32) (t : State) => gH (dC, dI) kA (SHc nC nS) G t.heap ∧ gF (dC, dI) SKc G ([(5, 11), (5, 12), (5, 13), (6, 4), (9, 2), (9, 3), (13, 2), (13, 6), (13, 8), (13, 10), (13, 11), (26, 0), (29, 0), (30, 0), (31, 0), (32, 0), (33, 0), (34, 0), (35, 0), (38, 0), (39, 0)] : List (Nat × Nat)) H0 t.heap ∧ el t.heap lk (dI 6 4) = some (.int h1)) (gA G H0.size)) (vx_X (fun _ : Unit => True) (fun E _ t => (E = "java/lang/IllegalArgumentException") ∧ (¬ (0 ≤ p0.toInt ∧ p0.toInt ≤ 240)) ∧ gH (dC, dI) kA (SHc nC nS) G t.heap ∧ gF (dC, dI) SKc G ([(5, 11), (5, 12), (5, 13), (6, 4), (9, 2), (9, 3), (13, 2), (13, 6), (13, 8), (13, 10), (13, 11), (26, 0), (29, 0), (30, 0), (31, 0), (32, 0), (33, 0), (34, 0), (35, 0), (38, 0), (39, 0)] : List (Nat × Nat)) H0 t.heap ∧ el t.heap lk (dI 6 4) = some (.int ho)) (gA G H0.size)) 1 6 (gA G H0.size) := by
  refine vx_ofW (cc := cX11_hours) (maxL := 3) (ret := (some .int)) (by decide) rfl ?_
  intro p e s m args below meth c s₁ B hml hnt hv
  obtain ⟨rfl, hH0, hK, hE⟩ := hv
  have hx := B.exec
  have hb := B.bytes
  have hr := B.returns
  have hts := atoms_spec (ws := w_c_hoursE) B.pre
  have hown : s.vm.findClass RX11 = some m.cls := findClass_of_methodNamed B.named
  have hlocks := B.notSynchronized
  subst hH0
  generalize hAe : gA G s.heap.size = A at hE ⊢
  have hA : ∀ q : Nat, s.heap.size ≤ q → A q := fun q h => by rw [← hAe]; exact Or.inr h
  have hG := gA_of hAe
  have hS : va_S A s.heap s.heap [] := va_S.rf
  have hF : gF (dC, dI) SKc G ([(5, 11), (5, 12), (5, 13), (6, 4), (9, 2), (9, 3), (13, 2), (13, 6), (13, 8), (13, 10), (13, 11), (26, 0), (29, 0), (30, 0), (31, 0), (32, 0), (33, 0), (34, 0), (35, 0), (38, 0), (39, 0)] : List (Nat × Nat)) s.heap s.heap := gF.rf
  have hl := lv_entry ([.ref o0, .int p0]) (n := 3) (Nat.le_of_ble_eq_true rfl)
  rw [lg_entry_eq]
  generalize (lg_sl ([.ref o0, .int p0]) ++ List.replicate (3 - (lg_sl ([.ref o0, .int p0])).length) Slot.unset).toArray = ls at hl ⊢
  have hl : lv_has ls 3 [(0, .ref o0), (1, .int p0)] := hl
  refine lv_iload_n hx hb dX11_hours_0 rfl (lv_at hl 1 rfl) ?_
  refine lv_iconst (v := 0) hx hb dX11_hours_1 (by decide) ?_
  refine lv_sipush (v := 240) hx hb dX11_hours_2 (by decide) ?_
  have hFc := gA_free hG hA hS
  refine va_calli (va_runS (As := [.int p0, .int 0, .int 240]) (rest := []) ⟨hx, hb, hml, hown, hts⟩ (c_within l dC dI kA adK adV G s.heap nC nS p0 0 240 hT (by omega) (by omega)) (va_cwS 3 hts (goodIn_app (goodIn_r _ [2, 3, 4] rfl (by decide +kernel)) (goodIn_ca (goodIn_r _ [1] rfl (by decide +kernel)) (bs2_in _ _))) rfl rfl rfl (by decide +kernel) ⟨(Nat.le_of_ble_eq_true rfl), (Nat.le_of_ble_eq_true rfl)⟩) ⟨fun a U g mk q => by obtain ⟨q0, q1, qK, qE⟩ := q; exact ⟨q0, q1, va_K.moved (u := U) (U := U.calling g mk a) (Vm.Alike.refl U.vm) qK, EVC.blind g mk a qE⟩, fun U hU hW => ⟨rfl, hU, va_K.moved hW.alike hK, hE.call hS hFc hU hW⟩⟩ rfl rfl hl.1 rfl (lv_room (Nat.le_of_ble_eq_true rfl)) dX11_hours_5 ⟨(Nat.le_of_ble_eq_true rfl), (Nat.le_of_ble_eq_true rfl)⟩) hS (fun q _ h => hFc q h) hFc (fun r1 u t H locs ht hvm hw2 hB _ _ hS => ?_)
  obtain ⟨hT, hF1⟩ := hB
  rw [ht] at hT hF1
  have m3 := (hF1.fld hr_o0 skc_14 (k := 1) (by decide) (by decide)).trans hm_lk
  have m4 := (hF1.fld hr_lk skc_6 (k := 4) (by decide) (by decide)).trans hm_ho
  have hF := hF.more hF1 (by decide)
  try dsimp only at hw2
  obtain ⟨h5, hi6, hi7⟩ := hw2
  have hb8 : r1 = 0 ∨ r1 = 1 := bit_of ⟨by omega, by omega⟩
  rcases hb8 with rfl | rfl
  · have t9 : (0 : Int32).toInt = 0 := by decide
    have t10 : (240 : Int32).toInt = 240 := by decide
    have t11 : p0.toInt < (0 : Int32).toInt ∨ (240 : Int32).toInt < p0.toInt := hi7 rfl
    have hFc := gA_free hG hA hS
    refine vx_callN (vx_runS (As := [.int 0]) (rest := []) ⟨hx, hb, hml, hown, hts⟩ (c_needNumbers0 l hlt dC dI kA adK adV G H nC nS hT (by omega) (by omega)) (va_cwS 1 hts (goodIn_app (goodIn_r _ [8, 9, 4] rfl (by decide +kernel)) (goodIn_ca (goodIn_r _ [5, 6, 7] rfl (by decide +kernel)) (bs2_in _ _))) rfl rfl rfl (by decide +kernel) ⟨(Nat.le_of_ble_eq_true rfl), (Nat.le_of_ble_eq_true rfl)⟩) ⟨fun a U g mk q => by obtain ⟨q0, q1, qK, qE⟩ := q; exact ⟨q0, q1, va_K.moved (u := U) (U := U.calling g mk a) (Vm.Alike.refl U.vm) qK, EVC.blind g mk a qE⟩, fun U hU hW => ⟨rfl, hU, va_K.moved hW.alike hK, hE.call hS hFc hU hW⟩⟩ rfl rfl hl.1 rfl (lv_room (Nat.le_of_ble_eq_true rfl)) dX11_hours_8 ⟨(Nat.le_of_ble_eq_true rfl), (Nat.le_of_ble_eq_true rfl)⟩) hS hFc (fun q _ h => hFc q h) (fun E ce q9 u t H locs ht hvm _ hw13 _ _ hS hce hcv hcl => ?_)
    obtain ⟨hw13, hTx, hFx⟩ := hw13; rw [ht] at hTx hFx
    exact vx_out (fun x h => (hnt x h).elim) hlocks hce hcv hcl (fun t2 h2 hW => ⟨(), trivial, ⟨((fun h9 => h9) hw13), (by first | omega | exact hxf.elim), by rw [h2]; exact hTx, by rw [h2]; exact hF.more hFx (by decide), by rw [h2]; exact (hFx.fld hr_lk skc_6 (k := 4) (by decide) (by decide)).trans m4⟩, hS.F h2⟩) hS.2.2 (by decide) (by decide)
  · have t14 : (0 : Int32).toInt = 0 := by decide
    have t15 : (240 : Int32).toInt = 240 := by decide
    have t16 : (0 : Int32).toInt ≤ p0.toInt ∧ p0.toInt ≤ (240 : Int32).toInt := hi6 rfl
    have hFc := gA_free hG hA hS
    refine vx_callv (vx_runS (As := [.int 1]) (rest := []) ⟨hx, hb, hml, hown, hts⟩ (c_needNumbers1X l hlt dC dI kA adK adV G H nC nS hT (by omega) (by omega)) (va_cwS 1 hts (goodIn_app (goodIn_r _ [8, 9, 4] rfl (by decide +kernel)) (goodIn_ca (goodIn_r _ [5] rfl (by decide +kernel)) (bs2_in _ _))) rfl rfl rfl (by decide +kernel) ⟨(Nat.le_of_ble_eq_true rfl), (Nat.le_of_ble_eq_true rfl)⟩) ⟨fun a U g mk q => by obtain ⟨q0, q1, qK, qE⟩ := q; exact ⟨q0, q1, va_K.moved (u := U) (U := U.calling g mk a) (Vm.Alike.refl U.vm) qK, EVC.blind g mk a qE⟩, fun U hU hW => ⟨rfl, hU, va_K.moved hW.alike hK, hE.call hS hFc hU hW⟩⟩ rfl rfl hl.1 rfl (lv_room (Nat.le_of_ble_eq_true rfl)) dX11_hours_8 ⟨(Nat.le_of_ble_eq_true rfl), (Nat.le_of_ble_eq_true rfl)⟩) hS (fun q _ h => hFc q h) hFc (fun q _ h => hFc q h) (fun E ce q9 u t H locs ht hvm _ hw18 _ _ hS hce hcv hcl => ?_) (fun u t H locs ht hvm hw18 hB _ _ hS => ?_)
    · obtain ⟨hw18, hxf, hTx, hFx⟩ := hw18; rw [ht] at hTx hFx
      exact vx_out (fun x h => (hnt x h).elim) hlocks hce hcv hcl (fun t2 h2 hW => ⟨(), trivial, ⟨((fun h9 => h9) hw18), (by first | omega | exact hxf.elim), by rw [h2]; exact hTx, by rw [h2]; exact hF.more hFx (by decide), by rw [h2]; exact (hFx.fld hr_lk skc_6 (k := 4) (by decide) (by decide)).trans m4⟩, hS.F h2⟩) hS.2.2 (by decide) (by decide)
    · obtain ⟨hT, hF1⟩ := hB
      rw [ht] at hT hF1
      have m19 := (hF1.fld hr_o0 skc_14 (k := 1) (by decide) (by decide)).trans m3
      have m20 := (hF1.fld hr_lk skc_6 (k := 4) (by decide) (by decide)).trans m4
      have hF := hF.more hF1 (by decide)
      try dsimp only at hw18
      refine lv_iconst (v := 0) hx hb dX11_hours_11 (by decide) ?_
      refine lv_istore_n (lv' := [(2, .int 0), (0, .ref o0), (1, .int p0)]) hx hb dX11_hours_12 rfl hl (by decide) rfl (fun ls hl => ?_)
      have key49 : ∀ (n49 i21 : Nat), i21 + n49 = 240 → 0 ≤ i21 → ∀ (z23 : Int32), ((0 ≤ z23.toInt ∧ z23.toInt ≤ 40000) ∧ (z23.toInt = ho.toInt + ((i21 : Nat) : Int) ∧ ((i21 : Nat) : Int) ≤ p0.toInt)) → ∀ (H : Heap) (locs : List Loc), gH (dC, dI) kA (SHc nC nS) G H → gF (dC, dI) SKc G ([(5, 11), (5, 12), (5, 13), (6, 4), (9, 2), (9, 3), (13, 2), (13, 6), (13, 8), (13, 10), (13, 11), (26, 0), (29, 0), (30, 0), (31, 0), (32, 0), (33, 0), (34, 0), (35, 0), (38, 0), (39, 0)] : List (Nat × Nat)) s.heap H → va_S A s.heap H locs → el H o0 (dI 14 1) = some (.ref lk) → el H lk (dI 6 4) = some (.int z23) → ∀ ls : Array Slot, lv_has ls 3 [(2, .int (nI i21)), (0, .ref o0), (1, .int p0)] → W p l e (headSpec w_c_hoursE ({ frames := 7, cells := 1, slots := 6, locals := 158 })).room s m #[.ref o0, .int p0] below meth c H locs 0 0 (vx_MQ below (va_Qi (fun (r : Int32) (u : Int32) => (0 ≤ r.toInt ∧ r.toInt ≤ 40000) ∧ ((0 ≤ p0.toInt ∧ p0.toInt ≤ 240) ∧ r.toInt = u.toInt ∧ ((u.toInt = ho.toInt + p0.toInt ∧ ho.toInt + p0.toInt ≤ 40000) ∨ (u.toInt = 40000 ∧ 40000 ≤ ho.toInt + p0.toInt)))) (fun (h1 : Int32) (t : State) => gH (dC, dI) kA (SHc nC nS) G t.heap ∧ gF (dC, dI) SKc G ([(5, 11), (5, 12), (5, 13), (6, 4), (9, 2), (9, 3), (13, 2), (13, 6), (13, 8), (13, 10), (13, 11), (26, 0), (29, 0), (30, 0), (31, 0), (32, 0), (33, 0), (34, 0), (35, 0), (38, 0), (39, 0)] : List (Nat × Nat)) s.heap t.heap ∧ el t.heap lk (dI 6 4) = some (.int h1)) A) (vx_X (fun _ : Unit => True) (fun E _ t => (E = "java/lang/IllegalArgumentException") ∧ (¬ (0 ≤ p0.toInt ∧ p0.toInt ≤ 240)) ∧ gH (dC, dI) kA (SHc nC nS) G t.heap ∧ gF (dC, dI) SKc G ([(5, 11), (5, 12), (5, 13), (6, 4), (9, 2), (9, 3), (13, 2), (13, 6), (13, 8), (13, 10), (13, 11), (26, 0), (29, 0), (30, 0), (31, 0), (32, 0), (33, 0), (34, 0), (35, 0), (38, 0), (39, 0)] : List (Nat × Nat)) s.heap t.heap ∧ el t.heap lk (dI 6 4) = some (.int ho)) A) #[.ref o0, .int p0] s 1 6 A) (F0 m 13 ls []) := by
        intro n49
        induction n49 with
        | zero =>
          intro i21 hn49 hlo50 z23 ⟨h24, hj26⟩ H locs hT hF hS m22 m25 ls hl
          obtain rfl : 240 = i21 := by omega
          refine lv_iload_n hx hb dX11_hours_13 rfl (lv_at hl 0 rfl) ?_
          refine lv_iload_n hx hb dX11_hours_14 rfl (lv_at hl 2 rfl) ?_
          refine lv_icmp_ge (tgt := 54) hx hb dX11_hours_15 (by decide) (fun c51 => ?_) (fun c51 => (by exfalso; have q9 : ((240 : Nat) : Int) < p0.toInt := ti_nle c51 rfl (nI_toInt (by omega)); omega))
          have t52 : p0.toInt ≤ ((240 : Nat) : Int) := ti_le c51 rfl (nI_toInt (by omega))
          refine lv_aload_n hx hb dX11_hours_54 rfl (lv_at hl 1 rfl) ?_
          refine tw_getM (v := .ref lk) hx hb hts bF2_X11 hown hK hT hr_o0 shc_14 rfl 1 (by decide) (ht_at2 hts 9 rfl) (fun _ h9 => h9) m22 dX11_hours_55 ?_
          refine tw_getNM (v := .int z23) hx hb hts bF2_X3 hown hK hT hr_lk shc_6 rfl 4 (by decide) (hE.nw 0 rfl) (fun _ h9 => h9) m25 dX11_hours_58 ?_
          refine W.widen (k := 1) (n := 6) (by decide) (by decide) ?_
          exact vx_ret (W.iret (v := z23) hx hb hr (fun t ht hW => ⟨⟨z23, z23, rfl, (by exact ⟨(by have q8 := ti_all z23; omega), (by omega)⟩), by (try dsimp only); rw [ht]; exact ⟨hT, hF, m25⟩⟩, hS.F ht⟩) hS.2.2 dX11_hours_61)
        | succ n49 ih49 =>
          intro i21 hn49 hlo50 z23 ⟨h24, hj26⟩ H locs hT hF hS m22 m25 ls hl
          have hlt52 : i21 < 240 := by omega
          refine lv_iload_n hx hb dX11_hours_13 rfl (lv_at hl 0 rfl) ?_
          refine lv_iload_n hx hb dX11_hours_14 rfl (lv_at hl 2 rfl) ?_
          refine lv_icmp_ge (tgt := 54) hx hb dX11_hours_15 (by decide) (fun c53 => ?_) (fun c53 => ?_)
          · have t54 : p0.toInt ≤ ((i21 : Nat) : Int) := ti_le c53 rfl (nI_toInt (by omega))
            refine lv_aload_n hx hb dX11_hours_54 rfl (lv_at hl 1 rfl) ?_
            refine tw_getM (v := .ref lk) hx hb hts bF2_X11 hown hK hT hr_o0 shc_14 rfl 1 (by decide) (ht_at2 hts 9 rfl) (fun _ h9 => h9) m22 dX11_hours_55 ?_
            refine tw_getNM (v := .int z23) hx hb hts bF2_X3 hown hK hT hr_lk shc_6 rfl 4 (by decide) (hE.nw 0 rfl) (fun _ h9 => h9) m25 dX11_hours_58 ?_
            refine W.widen (k := 1) (n := 6) (by decide) (by decide) ?_
            exact vx_ret (W.iret (v := z23) hx hb hr (fun t ht hW => ⟨⟨z23, z23, rfl, (by exact ⟨(by have q8 := ti_all z23; omega), (by omega)⟩), by (try dsimp only); rw [ht]; exact ⟨hT, hF, m25⟩⟩, hS.F ht⟩) hS.2.2 dX11_hours_61)
          · have t55 : ((i21 : Nat) : Int) < p0.toInt := ti_nle c53 rfl (nI_toInt (by omega))
            refine lv_aload_n hx hb dX11_hours_18 rfl (lv_at hl 1 rfl) ?_
            refine tw_getM (v := .ref lk) hx hb hts bF2_X11 hown hK hT hr_o0 shc_14 rfl 1 (by decide) (ht_at2 hts 9 rfl) (fun _ h9 => h9) m22 dX11_hours_19 ?_
            refine tw_getNM (v := .int z23) hx hb hts bF2_X3 hown hK hT hr_lk shc_6 rfl 4 (by decide) (hE.nw 0 rfl) (fun _ h9 => h9) m25 dX11_hours_22 ?_
            refine lv_ldc (v := 40000) hx hb hown (ht_at2 hts 10 rfl) dX11_hours_25 ?_
            refine lv_icmp_ge (tgt := 54) hx hb dX11_hours_27 (by decide) (fun c56 => ?_) (fun c56 => ?_)
            · have t57 : 40000 ≤ z23.toInt := ti_le c56 (by decide) rfl
              refine lv_aload_n hx hb dX11_hours_54 rfl (lv_at hl 1 rfl) ?_
              refine tw_getM (v := .ref lk) hx hb hts bF2_X11 hown hK hT hr_o0 shc_14 rfl 1 (by decide) (ht_at2 hts 9 rfl) (fun _ h9 => h9) m22 dX11_hours_55 ?_
              refine tw_getNM (v := .int z23) hx hb hts bF2_X3 hown hK hT hr_lk shc_6 rfl 4 (by decide) (hE.nw 0 rfl) (fun _ h9 => h9) m25 dX11_hours_58 ?_
              refine W.widen (k := 1) (n := 6) (by decide) (by decide) ?_
              exact vx_ret (W.iret (v := z23) hx hb hr (fun t ht hW => ⟨⟨z23, z23, rfl, (by exact ⟨(by have q8 := ti_all z23; omega), (by omega)⟩), by (try dsimp only); rw [ht]; exact ⟨hT, hF, m25⟩⟩, hS.F ht⟩) hS.2.2 dX11_hours_61)
            · have t58 : z23.toInt < 40000 := ti_nle c56 (by decide) rfl
              refine lv_aload_n hx hb dX11_hours_30 rfl (lv_at hl 1 rfl) ?_
              refine tw_getM (v := .ref lk) hx hb hts bF2_X11 hown hK hT hr_o0 shc_14 rfl 1 (by decide) (ht_at2 hts 9 rfl) (fun _ h9 => h9) m22 dX11_hours_31 ?_
              have hFc := gA_free hG hA hS
              refine va_callv (va_runV (As := []) (rest := []) ⟨hx, hb, hml, hown, hts⟩ (c_passHourE l dC dI kA adK adV G H nC nS lk z23 hT hr_lk m25 (by have q8 := ti_all z23; omega) (by omega) (by omega)) (cwV 0 hts (goodIn_app (goodIn_r _ [203, 204, 205, 82] rfl (by decide +kernel)) (goodIn_ca (goodIn_r _ [12, 13, 14, 15, 16, 17, 18, 19, 20, 21, 22, 23, 24, 25, 26, 27, 28, 29, 30, 31, 32, 33, 34, 35, 36, 37, 38, 39, 40, 41, 42, 43, 44, 45, 46, 47, 48, 49, 50, 51, 52, 53, 54, 55, 56, 57, 58, 59, 60, 61, 62, 63, 64, 65, 66, 67, 68, 69, 70, 71, 72, 73, 74, 75, 76, 77, 78, 79, 80, 81, 82, 83, 84, 85, 86, 87, 88, 89, 90, 91, 92, 93, 94, 95, 96, 97, 98, 99, 100, 101, 102, 103, 104, 105, 106, 107, 108, 109, 110, 111, 112, 113, 114, 115, 116, 117, 118, 119, 120, 121, 122, 123, 124, 125, 126, 127, 128, 129, 130, 131, 132, 133, 134, 135, 136, 137, 138, 139, 140, 141, 142, 143, 144, 145, 146, 147, 148, 149, 150, 151, 152, 153, 154, 155, 156, 157, 158, 159, 160, 161, 162, 163, 164, 165, 166, 167, 168, 169, 170, 171, 172, 173, 174, 175, 176, 177, 178, 179, 180, 181, 182, 183, 184, 185, 186, 187, 188, 189, 190, 191, 192, 193, 194, 195, 196, 197, 198, 199, 200, 201, 202] rfl (by decide +kernel)) (bs2_in _ _))) rfl rfl rfl (by decide +kernel) ⟨(Nat.le_of_ble_eq_true rfl), (Nat.le_of_ble_eq_true rfl)⟩) ⟨fun a U g mk q => by obtain ⟨q0, q1, qK, qE⟩ := q; exact ⟨q0, q1, va_K.moved (u := U) (U := U.calling g mk a) (Vm.Alike.refl U.vm) qK, EVC.blind g mk a qE⟩, gH_rc hK hT hr_lk shc_6 rfl, fun U hU hW => ⟨rfl, hU, va_K.moved hW.alike hK, hE.call hS hFc hU hW⟩⟩ rfl rfl hl.1 rfl (lv_room (Nat.le_of_ble_eq_true rfl)) dX11_hours_34 ⟨(Nat.le_of_ble_eq_true rfl), (Nat.le_of_ble_eq_true rfl)⟩) hS (fun q _ h => hFc q h) hFc (fun u t H locs ht hvm hw60 hB _ _ hS => ?_)
              obtain ⟨u61, rfl⟩ : ∃ z, z = u := ⟨_, rfl⟩
              obtain ⟨hT, hF1, m62⟩ := hB
              rw [ht] at hT hF1 m62
              have m63 := (hF1.fld hr_o0 skc_14 (k := 1) (by decide) (by decide)).trans m22
              have hF := hF.more hF1 (by decide)
              try dsimp only at hw60
              obtain ⟨h65, hf66⟩ := hw60
              refine lv_aload_n hx hb dX11_hours_37 rfl (lv_at hl 1 rfl) ?_
              refine tw_get hx hb hts bF2_X11 hown hK hT hr_o0 shc_14 rfl 2 (by decide) (ht_at2 hts 205 rfl) (fun _ h9 => h9) dX11_hours_38 (fun v9 m67 h9 => ?_)
              obtain ⟨b68, rfl, hg69⟩ := h9 _ rfl
              refine lv_aload_n hx hb dX11_hours_41 rfl (lv_at hl 1 rfl) ?_
              refine tw_getM (v := .ref lk) hx hb hts bF2_X11 hown hK hT hr_o0 shc_14 rfl 1 (by decide) (ht_at2 hts 9 rfl) (fun _ h9 => h9) m63 dX11_hours_42 ?_
              have hFc := gA_free hG hA hS
              refine va_callv (va_runV (As := [.ref lk]) (rest := []) ⟨hx, hb, hml, hown, hts⟩ (c_write l dC dI kA adK adV G H nC nS b68 lk hT hr_lk hg69 (by omega) (by omega)) (cwV 1 hts (goodIn_app (goodIn_r _ [219, 220, 221, 215] rfl (by decide +kernel)) (goodIn_ca (goodIn_r _ [207, 208, 209, 15, 16, 17, 18, 19, 20, 21, 22, 23, 24, 210, 26, 27, 28, 211, 212, 213, 214, 215, 216, 53, 54, 44, 217, 56, 57, 49, 218] rfl (by decide +kernel)) (bs2_in _ _))) rfl rfl rfl (by decide +kernel) ⟨(Nat.le_of_ble_eq_true rfl), (Nat.le_of_ble_eq_true rfl)⟩) ⟨fun a U g mk q => by obtain ⟨q0, q1, qK, qE⟩ := q; exact ⟨q0, q1, va_K.moved (u := U) (U := U.calling g mk a) (Vm.Alike.refl U.vm) qK, EVC.blind g mk a qE⟩, gH_rc hK hT hg69 shc_9 rfl, fun U hU hW => ⟨rfl, hU, va_K.moved hW.alike hK, hE.call hS hFc hU hW⟩⟩ rfl rfl hl.1 rfl (lv_room (Nat.le_of_ble_eq_true rfl)) dX11_hours_45 ⟨(Nat.le_of_ble_eq_true rfl), (Nat.le_of_ble_eq_true rfl)⟩) hS (fun q _ h => hFc q h) hFc (fun u t H locs ht hvm hw71 hB _ _ hS => ?_)
              obtain ⟨hT, hF1⟩ := hB
              rw [ht] at hT hF1
              have m72 := (hF1.fld hr_o0 skc_14 (k := 1) (by decide) (by decide)).trans m63
              have m73 := (hF1.fld hr_lk skc_6 (k := 4) (by decide) (by decide)).trans m62
              have hF := hF.more hF1 (by decide)
              try dsimp only at hw71
              refine lv_iinc (v := nI (i21 + 1)) (lv' := [(2, .int (nI (i21 + 1))), (0, .ref o0), (1, .int p0)]) hx hb dX11_hours_48 hl (k := 0) rfl (nI_add i21 1) (by decide) rfl (fun ls hl => ?_)
              refine lv_goto (tgt := 13) hx hb dX11_hours_51 (by decide) ?_
              exact ih49 (i21 + 1) (by omega) (by omega) u61 ⟨(by have q8 := ti_all u61; omega), (by have := (show u61.toInt = u61.toInt from rfl); omega)⟩ _ _ hT hF hS m72 m73 ls (lv_sub hl [0, 1, 2] rfl)
      exact key49 (240 - 0) 0 (by omega) (Nat.le_refl _) ho ⟨(by have q8 := ti_all ho; omega), (by have := (show ho.toInt = ho.toInt from rfl); omega)⟩ _ _ hT hF hS m19 m20 ls (lv_sub hl [0, 1, 2] rfl)
def w_l_hoursE : List Cond := .codeWith yL_hours cL_hours 4 (some .int) [(0, 9, 12, 15)] :: (HAppend.hAppend (α := List Cond) (β := List Cond) (γ := List Cond) [.code yX11_hours cX11_hours 3 (some .int), .code yX11_within cX11_within 3 (some .boolean), .methodLink RX11 58 yX11_within, .static yX11_within, .initialized RX11, .code yX11_needNumbers cX11_needNumbers 1 none, .classLink RX11 547 "java/lang/IllegalArgumentException", .initialized "java/lang/IllegalArgumentException", .methodLink RX11 62 yX11_needNumbers, .static yX11_needNumbers, .fieldLink RX11 16 "SeaLand" "lake" "LSeaLand$Lake;", .constant RX11 110 40000, .code yX3_passHour cX3_passHour 3 none, .fieldLink RX3 32 "SeaLand$Lake" "hour" "I", .fieldLink RX3 12 "SeaLand$Lake" "sky" "LSeaLand$Sky;", .code yX8_outsideAt cX8_outsideAt 4 (some .int), .fieldLink RX8 9 "SeaLand$Sky" "tides" "[I", .code yJ9_floorMod_7cf53 cJ9_floorMod_7cf53 3 (some .int), .methodLink RX8 38 yJ9_floorMod_7cf53, .static yJ9_floorMod_7cf53, .initialized RJ9, .fieldLink RX8 34 "SeaLand$Sky" "storms" "I", .fieldLink RX8 15 "SeaLand$Sky" "stormFrom" "[I", .fieldLink RX8 18 "SeaLand$Sky" "stormTo" "[I", .fieldLink RX8 21 "SeaLand$Sky" "stormMore" "[I", .methodLink RX3 44 yX8_outsideAt, .instanceMethod yX8_outsideAt, .selects RX8 yX8_outsideAt yX8_outsideAt, .initialized RX8, .fieldLink RX3 21 "SeaLand$Lake" "ground" "LSeaLand$Ground;", .code yX8_rainAt cX8_rainAt 3 (some .int), .fieldLink RX8 31 "SeaLand$Sky" "rain" "LSeaLand$Tellings;", .code yX9_standingAt cX9_standingAt 5 (some .int), .fieldLink RX9 18 "SeaLand$Tellings" "told" "I", .fieldLink RX9 9 "SeaLand$Tellings" "hours" "[I", .methodLink RX8 44 yX9_standingAt, .instanceMethod yX9_standingAt, .selects RX9 yX9_standingAt yX9_standingAt, .initialized RX9, .methodLink RX3 103 yX8_rainAt, .instanceMethod yX8_rainAt, .selects RX8 yX8_rainAt yX8_rainAt, .code yX2_rainOnLand cX2_rainOnLand 3 none, .fieldLink RX2 9 "SeaLand$Ground" "isLand" "[Z", .fieldLink RX2 25 "SeaLand$Ground" "water" "[I", .fieldLink RX2 54 "SeaLand$Ground" "rained" "I", .methodLink RX3 106 yX2_rainOnLand, .instanceMethod yX2_rainOnLand, .selects RX2 yX2_rainOnLand yX2_rainOnLand, .initialized RX2, .fieldLink RX3 47 "SeaLand$Lake" "built" "I", .fieldLink RX3 27 "SeaLand$Lake" "works" "[LSeaLand$Work;", .code yX3_runSluice cX3_runSluice 5 none, .code yX2_levelOf cX2_levelOf 2 (some .int), .fieldLink RX2 15 "SeaLand$Ground" "height" "[I", .methodLink RX3 40 yX2_levelOf, .instanceMethod yX2_levelOf, .selects RX2 yX2_levelOf yX2_levelOf, .methodLink RX3 71 Lib.Math.min.name, .static Lib.Math.min.name, .initialized "java/lang/Math", .code Lib.Math.min.name Lib.Math.min.code 2 (some .int), .code yX2_giveToSea cX2_giveToSea 3 none, .fieldLink RX2 28 "SeaLand$Ground" "salt" "[I", .code yX2_saltGoingWith cX2_saltGoingWith 4 (some .int), .methodLink RX2 60 yX2_saltGoingWith, .instanceMethod yX2_saltGoingWith, .selects RX2 yX2_saltGoingWith yX2_saltGoingWith, .fieldLink RX2 64 "SeaLand$Ground" "wentOut" "I", .methodLink RX3 154 yX2_giveToSea, .instanceMethod yX2_giveToSea, .selects RX2 yX2_giveToSea yX2_giveToSea, .code yX10_moved cX10_moved 2 none, .fieldLink RX10 44 "SeaLand$Work" "latest" "I", .fieldLink RX10 47 "SeaLand$Work" "total" "I", .methodLink RX3 140 yX10_moved, .instanceMethod yX10_moved, .selects RX10 yX10_moved yX10_moved, .initialized RX10, .methodLink RX3 114 yX3_runSluice, .instanceMethod yX3_runSluice, .selects RX3 yX3_runSluice yX3_runSluice, .initialized RX3, .code yX2_runDitches cX2_runDitches 3 none, .fieldLink RX2 37 "SeaLand$Ground" "ditchTo" "[I", .fieldLink RX2 40 "SeaLand$Ground" "ditchWater" "[I", .fieldLink RX2 43 "SeaLand$Ground" "ditchSalt" "[I", .code yX2_reckonDitch cX2_reckonDitch 5 none, .fieldLink RX2 22 "SeaLand$Ground" "ditch" "[I", .code yX2_lowestDitchBeside cX2_lowestDitchBeside 4 (some .int), .code yX2_lowerDitch cX2_lowerDitch 4 (some .int), .methodLink RX2 79 yX2_levelOf, .methodLink RX2 87 yX2_lowerDitch, .instanceMethod yX2_lowerDitch, .selects RX2 yX2_lowerDitch yX2_lowerDitch, .methodLink RX2 75 yX2_lowestDitchBeside, .instanceMethod yX2_lowestDitchBeside, .selects RX2 yX2_lowestDitchBeside yX2_lowestDitchBeside, .methodLink RX2 82 Lib.Math.min.name, .methodLink RX2 71 yX2_reckonDitch, .instanceMethod yX2_reckonDitch, .selects RX2 yX2_reckonDitch yX2_reckonDitch, .methodLink RX3 117 yX2_runDitches, .instanceMethod yX2_runDitches, .selects RX2 yX2_runDitches yX2_runDitches, .code yX8_windAt cX8_windAt 4 (some .int), .fieldLink RX8 27 "SeaLand$Sky" "wind" "LSeaLand$Tellings;", .code yX9_nearestNumberBefore cX9_nearestNumberBefore 5 (some .int), .fieldLink RX9 15 "SeaLand$Tellings" "numbers" "[I", .methodLink RX8 54 yX9_nearestNumberBefore, .instanceMethod yX9_nearestNumberBefore, .selects RX9 yX9_nearestNumberBefore yX9_nearestNumberBefore, .code yX9_nearestNumberAfter cX9_nearestNumberAfter 5 (some .int), .constant RX9 22 40001, .methodLink RX8 57 yX9_nearestNumberAfter, .instanceMethod yX9_nearestNumberAfter, .selects RX9 yX9_nearestNumberAfter yX9_nearestNumberAfter, .methodLink RX8 60 Lib.Math.max.name, .static Lib.Math.max.name, .code Lib.Math.max.name Lib.Math.max.code 2 (some .int), .methodLink RX3 120 yX8_windAt, .instanceMethod yX8_windAt, .selects RX8 yX8_windAt yX8_windAt, .code yX3_runMills cX3_runMills 3 none, .code yX3_runEngine cX3_runEngine 3 none, .code yX3_liftBy cX3_liftBy 4 none, .code yX2_giveTo cX2_giveTo 5 none, .methodLink RX2 67 yX2_giveToSea, .methodLink RX3 171 yX2_giveTo, .instanceMethod yX2_giveTo, .selects RX2 yX2_giveTo yX2_giveTo, .methodLink RX3 161 yX3_liftBy, .instanceMethod yX3_liftBy, .selects RX3 yX3_liftBy yX3_liftBy, .methodLink RX3 164 yX3_runEngine, .instanceMethod yX3_runEngine, .selects RX3 yX3_runEngine yX3_runEngine, .methodLink RX3 123 yX3_runMills, .instanceMethod yX3_runMills, .selects RX3 yX3_runMills yX3_runMills, .code yX2_endDay cX2_endDay 2 none, .fieldLink RX2 31 "SeaLand$Ground" "dry" "[I", .code yX2_sinksNow cX2_sinksNow 2 (some .boolean), .fieldLink RX2 19 "SeaLand$Ground" "soil" "[I", .methodLink RX2 91 yX2_sinksNow, .instanceMethod yX2_sinksNow, .selects RX2 yX2_sinksNow yX2_sinksNow, .fieldLink RX2 34 "SeaLand$Ground" "wet" "[I", .methodLink RX3 126 yX2_endDay, .instanceMethod yX2_endDay, .selects RX2 yX2_endDay yX2_endDay, .code yX10_isBank cX10_isBank 1 (some .boolean), .fieldLink RX10 18 "SeaLand$Work" "kind" "I", .methodLink RX3 67 yX10_isBank, .instanceMethod yX10_isBank, .selects RX10 yX10_isBank yX10_isBank, .code yX3_runBank cX3_runBank 4 none, .code yX3_seepOf cX3_seepOf 5 (some .int), .methodLink RX3 97 Lib.Math.max.name, .code yX10_leakBelow cX10_leakBelow 6 (some .int), .fieldLink RX10 34 "SeaLand$Work" "layers" "I", .fieldLink RX10 9 "SeaLand$Work" "thick" "[I", .fieldLink RX10 15 "SeaLand$Work" "clay" "[I", .methodLink RX3 100 yX10_leakBelow, .instanceMethod yX10_leakBelow, .selects RX10 yX10_leakBelow yX10_leakBelow, .methodLink RX3 132 yX3_seepOf, .instanceMethod yX3_seepOf, .selects RX3 yX3_seepOf yX3_seepOf, .code yX10_breakOpen cX10_breakOpen 1 none, .fieldLink RX10 31 "SeaLand$Work" "width" "I", .methodLink RX3 143 yX10_breakOpen, .instanceMethod yX10_breakOpen, .selects RX10 yX10_breakOpen yX10_breakOpen, .code yX3_runBreach cX3_runBreach 4 none, .constantLong RX3 149 120, .code yX2_takeFromSea cX2_takeFromSea 3 none, .fieldLink RX2 57 "SeaLand$Ground" "cameIn" "I", .methodLink RX3 136 yX2_takeFromSea, .instanceMethod yX2_takeFromSea, .selects RX2 yX2_takeFromSea yX2_takeFromSea, .methodLink RX3 146 yX3_runBreach, .instanceMethod yX3_runBreach, .selects RX3 yX3_runBreach yX3_runBreach, .code yX3_crestOf cX3_crestOf 2 (some .int), .code yX10_thickness cX10_thickness 3 (some .int), .methodLink RX3 80 yX10_thickness, .instanceMethod yX10_thickness, .selects RX10 yX10_thickness yX10_thickness, .methodLink RX3 84 yX3_crestOf, .instanceMethod yX3_crestOf, .selects RX3 yX3_crestOf yX3_crestOf, .code yX10_widen cX10_widen 1 none, .code yX10_wider cX10_wider 1 (some .int), .methodLink RX10 54 Lib.Math.min.name, .methodLink RX10 50 yX10_wider, .static yX10_wider, .methodLink RX3 129 yX10_widen, .instanceMethod yX10_widen, .selects RX10 yX10_widen yX10_widen, .methodLink RX3 110 yX3_runBank, .instanceMethod yX3_runBank, .selects RX3 yX3_runBank yX3_runBank, .methodLink RX11 223 yX3_passHour, .instanceMethod yX3_passHour, .selects RX3 yX3_passHour yX3_passHour, .fieldLink RX11 23 "SeaLand" "rows" "LSeaLand$Rows;", .code yX6_write cX6_write 5 none, .fieldLink RX6 18 "SeaLand$Rows" "kept" "I", .fieldLink RX6 22 "SeaLand$Rows" "oldest" "I", .methodLink RX6 34 yX8_outsideAt, .code yX6_placeOf cX6_placeOf 3 (some .int), .methodLink RX6 40 yX6_placeOf, .instanceMethod yX6_placeOf, .selects RX6 yX6_placeOf yX6_placeOf, .initialized RX6, .fieldLink RX6 15 "SeaLand$Rows" "proof" "[I", .methodLink RX6 54 yX2_levelOf, .fieldLink RX6 9 "SeaLand$Rows" "shown" "[I", .methodLink RX11 226 yX6_write, .instanceMethod yX6_write, .selects RX6 yX6_write yX6_write, .methodLink RL 76 yX11_hours, .instanceMethod yX11_hours, .selects RX11 yX11_hours yX11_hours, .classLink RL 15 "java/lang/IllegalArgumentException"] bs2)
set_option maxHeartbeats 4000000 in
set_option maxRecDepth 100000 in
theorem l_hoursE (l : Launch) (hlt : l.stackTraces = false) (dC : Nat → ClassId) (dI : Nat → Nat → Nat) (kA : Nat → ClassId) (adK adV : Nat → Nat) (G : gT) (H0 : Heap) (nC nS : Int) (o0 : Nat) (p1 : Int32) (ou : Nat) (lk : Nat) (ho : Int32) (hT : gH (dC, dI) kA (SHc nC nS) G H0) (hr_o0 : G o0 = some 14) (hr_ou : G ou = some 98) (hm_lk : el H0 o0 (dI 14 1) = some (.ref lk)) (hr_lk : G lk = some 6) (hm_ho : el H0 lk (dI 6 4) = some (.int ho)) (hq0 : 0 ≤ ho.toInt ∧ ho.toInt ≤ 40000) (hgC : 0 ≤ nC ∧ nC ≤ 40) (hgS : 0 ≤ nS ∧ nS ≤ 60) : Met l yL_hours w_l_hoursE ({ frames := 8, cells := 1, slots := 6, locals := 180 }) (va_Pc [.ref o0, .int p1, .ref ou] (fun U => U.heap = H0 ∧ va_K (dC, dI) vwCl (tyl kA) U ∧ EVC adK adV (gA G H0.size) U U.heap ∧ NC U)) (va_Qi (fun (r : Int32) (u : Int32) => (0 ≤ r.toInt ∧ r.toInt ≤ 1) ∧ ((r.toInt = 0 ∧ (0 ≤ p1.toInt ∧ p1.toInt ≤ 240) ∧ ((u.toInt = ho.toInt + p1.toInt ∧ ho.toInt + p1.toInt ≤ 40000) ∨ (u.toInt = 40000 ∧ 40000 ≤ ho.toInt + p1.toInt))) ∨ (r.toInt = 1 ∧ ¬ (0 ≤ p1.toInt ∧ p1.toInt ≤ 240) ∧ u.toInt = ho.toInt))) (fun (h1 : Int32) (t : State) => gH (dC, dI) kA (SHc nC nS) G t.heap ∧ gF (dC, dI) SKc G ([(5, 11), (5, 12), (5, 13), (6, 4), (9, 2), (9, 3), (13, 2), (13, 6), (13, 8), (13, 10), (13, 11), (26, 0), (29, 0), (30, 0), (31, 0), (32, 0), (33, 0), (34, 0), (35, 0), (38, 0), (39, 0), (98, 0)] : List (Nat × Nat)) H0 t.heap ∧ el t.heap lk (dI 6 4) = some (.int h1)) (gA G H0.size)) 1 6 (gA G H0.size) := by
  refine va_MetW (cc := cL_hours) (maxL := 4) (ret := (some .int)) (by decide) rfl ?_
  intro p e s m args below meth c s₁ B hml hv
  obtain ⟨rfl, hH0, hK, hE, hN⟩ := hv
  have hx := B.exec
  have hb := B.bytes
  have hr := B.returns
  have hts := atoms_spec (ws := w_l_hoursE) B.pre
  have hown : s.vm.findClass RL = some m.cls := findClass_of_methodNamed B.named
  have hlocks := B.notSynchronized
  have htab := vx_table (x := yL_hours) B (hts _ List.mem_cons_self)
  subst hH0
  generalize hAe : gA G s.heap.size = A at hE ⊢
  have hA : ∀ q : Nat, s.heap.size ≤ q → A q := fun q h => by rw [← hAe]; exact Or.inr h
  have hG := gA_of hAe
  have hS : va_S A s.heap s.heap [] := va_S.rf
  have hF : gF (dC, dI) SKc G ([(5, 11), (5, 12), (5, 13), (6, 4), (9, 2), (9, 3), (13, 2), (13, 6), (13, 8), (13, 10), (13, 11), (26, 0), (29, 0), (30, 0), (31, 0), (32, 0), (33, 0), (34, 0), (35, 0), (38, 0), (39, 0), (98, 0)] : List (Nat × Nat)) s.heap s.heap := gF.rf
  have hl := lv_entry ([.ref o0, .int p1, .ref ou]) (n := 4) (Nat.le_of_ble_eq_true rfl)
  rw [lg_entry_eq]
  generalize (lg_sl ([.ref o0, .int p1, .ref ou]) ++ List.replicate (4 - (lg_sl ([.ref o0, .int p1, .ref ou])).length) Slot.unset).toArray = ls at hl ⊢
  have hl : lv_has ls 4 [(0, .ref o0), (1, .int p1), (2, .ref ou)] := hl
  refine lv_aload_n hx hb dL_hours_0 rfl (lv_at hl 2 rfl) ?_
  refine lv_iconst (v := 0) hx hb dL_hours_1 (by decide) ?_
  refine lv_aload_n hx hb dL_hours_2 rfl (lv_at hl 0 rfl) ?_
  refine lv_iload_n hx hb dL_hours_3 rfl (lv_at hl 1 rfl) ?_
  have hFc := gA_free hG hA hS
  refine vx_calli (vx_runV (As := [.int p1]) (rest := [.int 0, .ref ou]) ⟨hx, hb, hml, hown, hts⟩ (c_hoursE l hlt dC dI kA adK adV G s.heap nC nS o0 p1 lk ho hT hr_o0 hm_lk hr_lk hm_ho (by have q8 := ti_all ho; omega) (by omega) (by omega)) (cwV 1 hts (goodIn_app (goodIn_r _ [223, 224, 225, 5] rfl (by decide +kernel)) (goodIn_ca (goodIn_r _ [1, 2, 3, 4, 5, 6, 7, 8, 9, 10, 11, 12, 13, 14, 15, 16, 17, 18, 19, 20, 21, 22, 23, 24, 25, 26, 27, 28, 29, 30, 31, 32, 33, 34, 35, 36, 37, 38, 39, 40, 41, 42, 43, 44, 45, 46, 47, 48, 49, 50, 51, 52, 53, 54, 55, 56, 57, 58, 59, 60, 61, 62, 63, 64, 65, 66, 67, 68, 69, 70, 71, 72, 73, 74, 75, 76, 77, 78, 79, 80, 81, 82, 83, 84, 85, 86, 87, 88, 89, 90, 91, 92, 93, 94, 95, 96, 97, 98, 99, 100, 101, 102, 103, 104, 105, 106, 107, 108, 109, 110, 111, 112, 113, 114, 115, 116, 117, 118, 119, 120, 121, 122, 123, 124, 125, 126, 127, 128, 129, 130, 131, 132, 133, 134, 135, 136, 137, 138, 139, 140, 141, 142, 143, 144, 145, 146, 147, 148, 149, 150, 151, 152, 153, 154, 155, 156, 157, 158, 159, 160, 161, 162, 163, 164, 165, 166, 167, 168, 169, 170, 171, 172, 173, 174, 175, 176, 177, 178, 179, 180, 181, 182, 183, 184, 185, 186, 187, 188, 189, 190, 191, 192, 193, 194, 195, 196, 197, 198, 199, 200, 201, 202, 203, 204, 205, 206, 207, 208, 209, 210, 211, 212, 213, 214, 215, 216, 217, 218, 219, 220, 221, 222] rfl (by decide +kernel)) (bs2_in _ _))) rfl rfl rfl (by decide +kernel) ⟨(Nat.le_of_ble_eq_true rfl), (Nat.le_of_ble_eq_true rfl)⟩) ⟨fun a U g mk q => by obtain ⟨q0, q1, qK, qE⟩ := q; exact ⟨q0, q1, va_K.moved (u := U) (U := U.calling g mk a) (Vm.Alike.refl U.vm) qK, EVC.blind g mk a qE⟩, gH_rc hK hT hr_o0 shc_14 rfl, fun U hU hW => ⟨rfl, hU, va_K.moved hW.alike hK, hE.call hS hFc hU hW⟩⟩ rfl rfl hl.1 rfl (lv_room (Nat.le_of_ble_eq_true rfl)) dL_hours_4 ⟨(Nat.le_of_ble_eq_true rfl), (Nat.le_of_ble_eq_true rfl)⟩) hS (fun q _ h => hFc q h) hFc (fun q _ h => hFc q h) (fun E ce q9 u t H locs ht hvm _ hw2 _ _ hS hce hcv hcl => ?_) (fun r1 u t H locs ht hvm hw2 hB _ _ hS => ?_)
  · obtain ⟨hw2, hxf, hTx, hFx, hxm0⟩ := hw2; rw [ht] at hTx hFx hxm0
    have hT := hTx; have hF := hF.more hFx (by decide)
    subst hw2
    refine vx_catch (E := "java/lang/IllegalArgumentException") hown [] ⟨0, 9, 12, 15⟩ [] (by rw [htab]; rfl) (fun z h => absurd h List.not_mem_nil) (by decide) (by decide) (ht_at2 hts 225 rfl) (va_Nw.use rfl (hE.1.1.2.1.2.1 _ (List.mem_of_getElem? (i := 1) rfl))) hce hcv hcl ?_
    refine lv_astore_n (lv' := [(3, .ref q9), (0, .ref o0), (1, .int p1), (2, .ref ou)]) hx hb dL_hours_12 rfl hl (by decide) rfl (fun ls hl => ?_)
    refine lv_iconst (v := 1) hx hb dL_hours_13 (by decide) ?_
    exact W.iret (v := 1) hx hb hr (fun t ht hW => ⟨⟨1, ho, rfl, (by exact ⟨(rg_t (a := 1) (by decide) (by first | decide | omega) (by first | decide | omega)), (by have : (1 : Int32).toInt = 1 := (by decide); omega)⟩), by (try dsimp only); rw [ht]; exact ⟨hT, hF, hxm0⟩⟩, hS.F ht⟩) hS.2.2 dL_hours_14
  · obtain ⟨u3, rfl⟩ : ∃ z, z = u := ⟨_, rfl⟩
    obtain ⟨hT, hF1, m4⟩ := hB
    rw [ht] at hT hF1 m4
    have hF := hF.more hF1 (by decide)
    try dsimp only at hw2
    obtain ⟨h7, hf8⟩ := hw2
    refine lv_i2l (v := r1.toInt64) hx hb dL_hours_7 rfl ?_
    refine tw_last (i := 0)  hx hb hK hT hG hS hr_ou shc_98 rfl (by unfold vp_in; decide) ⟨_, rfl⟩ dL_hours_8 (fun H locs hT oq m9 oi hS => ?_)
    have hF := hF.ast hr_ou skc_98 oq (by decide)
    have m11 := (el_kept (oq _ (gne hr_lk hr_ou (by decide)))).trans m4
    refine lv_goto (tgt := 15) hx hb dL_hours_9 (by decide) ?_
    refine lv_iconst (v := 0) hx hb dL_hours_15 (by decide) ?_
    exact W.iret (v := 0) hx hb hr (fun t ht hW => ⟨⟨0, u3, rfl, (by exact ⟨(rg_t (a := 0) (by decide) (by first | decide | omega) (by first | decide | omega)), (by have : (0 : Int32).toInt = 0 := (by decide); omega)⟩), by (try dsimp only); rw [ht]; exact ⟨hT, hF, m11⟩⟩, hS.F ht⟩) hS.2.2 dL_hours_16
def w_c_cpW9_iY : List Cond := .code yX9_copyFrom cX9_copyFrom 2 none :: (HAppend.hAppend (α := List Cond) (β := List Cond) (γ := List Cond) [.fieldLink RX9 9 "SeaLand$Tellings" "hours" "[I", .methodLink RX9 23 arraycopyName, .native arraycopyName, .static arraycopyName, .initialized "java/lang/System", .fieldLink RX9 15 "SeaLand$Tellings" "numbers" "[I", .fieldLink RX9 18 "SeaLand$Tellings" "told" "I"] bs2)
set_option maxHeartbeats 4000000 in
set_option maxRecDepth 100000 in
theorem c_cpW9_iY (l : Launch) (dC : Nat → ClassId) (dI : Nat → Nat → Nat) (kA : Nat → ClassId) (adK adV : Nat → Nat) (G : gT) (H0 : Heap) (nC nS : Int) (o0 : Nat) (p0 : Nat) (dwh : Nat) (dwn : Nat) (swh : Nat) (swn : Nat) (snw : Int32) (sVH : Nat → Int32) (sVN : Nat → Int32)  (hT : gH (dC, dI) kA (SHc nC nS) G H0) (hr_o0 : G o0 = some 133) (hr_p0 : G p0 = some 130) (hm_dwh : el H0 o0 (dI 12 0) = some (.ref dwh)) (hr_dwh : G dwh = some 134) (hm_dwn : el H0 o0 (dI 12 1) = some (.ref dwn)) (hr_dwn : G dwn = some 135) (hm_swh : el H0 p0 (dI 12 0) = some (.ref swh)) (hr_swh : G swh = some 131) (hm_swn : el H0 p0 (dI 12 1) = some (.ref swn)) (hr_swn : G swn = some 132) (hm_snw : el H0 p0 (dI 12 2) = some (.int snw)) (hq0 : 0 ≤ snw.toInt ∧ snw.toInt ≤ 60) (hc_sVH : ct H0 swh 60 sVH) (hc_sVN : ct H0 swn 60 sVN) (hgC : 0 ≤ nC ∧ nC ≤ 40) (hgS : 0 ≤ nS ∧ nS ≤ 60) : Met l yX9_copyFrom w_c_cpW9_iY ({ frames := 2, cells := 0, slots := 0, locals := 60 }) (va_Pc [.ref o0, .ref p0] (fun U => U.heap = H0 ∧ va_K (dC, dI) vwCl (tyl kA) U ∧ EVC adK adV (gA G H0.size) U U.heap)) (va_Qv (fun (u : Int32) => (u.toInt = snw.toInt)) (fun (dnw : Int32) (t : State) => gH (dC, dI) kA (SHc nC nS) G t.heap ∧ gF (dC, dI) SKc G ([(133, 2), (134, 0), (135, 0)] : List (Nat × Nat)) H0 t.heap ∧ el t.heap o0 (dI 12 2) = some (.int dnw) ∧ ct t.heap dwh 60 sVH ∧ ct t.heap dwn 60 sVN) (gA G H0.size)) 0 0 (gA G H0.size) := by
  refine Met.ofW (cc := cX9_copyFrom) (maxL := 2) (ret := none) (by decide) rfl ?_
  intro p e s m args below meth c s₁ B hml hv
  obtain ⟨rfl, hH0, hK, hE⟩ := hv
  have hx := B.exec
  have hb := B.bytes
  have hr := B.returns
  have hts := atoms_spec (ws := w_c_cpW9_iY) B.pre
  have hown : s.vm.findClass RX9 = some m.cls := findClass_of_methodNamed B.named
  have hlocks := B.notSynchronized
  subst hH0
  generalize hAe : gA G s.heap.size = A at hE ⊢
  have hA : ∀ q : Nat, s.heap.size ≤ q → A q := fun q h => by rw [← hAe]; exact Or.inr h
  have hG := gA_of hAe
  have hS : va_S A s.heap s.heap [] := va_S.rf
  have hF : gF (dC, dI) SKc G ([(133, 2), (134, 0), (135, 0)] : List (Nat × Nat)) s.heap s.heap := gF.rf
  have hl := lv_entry ([.ref o0, .ref p0]) (n := 2) (Nat.le_of_ble_eq_true rfl)
  rw [lg_entry_eq]
  generalize (lg_sl ([.ref o0, .ref p0]) ++ List.replicate (2 - (lg_sl ([.ref o0, .ref p0])).length) Slot.unset).toArray = ls at hl ⊢
  have hl : lv_has ls 2 [(0, .ref o0), (1, .ref p0)] := hl
  refine lv_aload_n hx hb dX9_copyFrom_0 rfl (lv_at hl 1 rfl) ?_
  refine tw_getM (v := .ref swh) hx hb hts bF2_X9 hown hK hT hr_p0 shc_130 rfl 0 (by decide) (ht_at2 hts 0 rfl) (fun _ h9 => h9) hm_swh dX9_copyFrom_1 ?_
  refine lv_iconst (v := 0) hx hb dX9_copyFrom_4 (by decide) ?_
  refine lv_aload_n hx hb dX9_copyFrom_5 rfl (lv_at hl 0 rfl) ?_
  refine tw_getM (v := .ref dwh) hx hb hts bF2_X9 hown hK hT hr_o0 shc_133 rfl 0 (by decide) (ht_at2 hts 0 rfl) (fun _ h9 => h9) hm_dwh dX9_copyFrom_6 ?_
  refine lv_iconst (v := 0) hx hb dX9_copyFrom_9 (by decide) ?_
  refine lv_bipush (v := 60) hx hb dX9_copyFrom_10 (by decide) ?_
  refine tw_copyE (ty := .int) hx hb (hml.trans hl.1.symm) hown (ht_at2 hts 1 rfl) (ht_at2 hts 2 rfl) (ht_at2 hts 3 rfl) (ht_at2 hts 4 rfl) hK hT hG hS hr_swh hr_dwh shc_131 shc_134 rfl rfl (by decide) (by decide) (by decide) (by decide) (by decide) (by decide) (by decide) (fun _ _ h9 => by obtain ⟨x9, e9, _⟩ := h9; exact ⟨x9, e9, rfl⟩) (fun _ _ _ h9 => h9) (Nat.le_of_ble_eq_true rfl) (Nat.le_of_ble_eq_true rfl) dX9_copyFrom_12 (fun H locs hT oq ce1 hS => ?_)
  have hF := hF.ast hr_dwh skc_134 oq (by decide)
  have m2 : ct H dwh 60 sVH := fun i9 hi9 => (ce1 i9 (by have q8 : (60 : Int32).toNatClampNeg = 60 := (by decide); omega)).trans (hc_sVH i9 hi9)
  have m4 := (el_kept (oq _ (gne hr_o0 hr_dwh (by decide)))).trans hm_dwn
  have m6 := (el_kept (oq _ (gne hr_p0 hr_dwh (by decide)))).trans hm_swn
  have m7 := (el_kept (oq _ (gne hr_p0 hr_dwh (by decide)))).trans hm_snw
  have m9 := hc_sVN.kept (oq _ (gne hr_swn hr_dwh (by decide)))
  refine lv_aload_n hx hb dX9_copyFrom_15 rfl (lv_at hl 1 rfl) ?_
  refine tw_getM (v := .ref swn) hx hb hts bF2_X9 hown hK hT hr_p0 shc_130 rfl 1 (by decide) (ht_at2 hts 5 rfl) (fun _ h9 => h9) m6 dX9_copyFrom_16 ?_
  refine lv_iconst (v := 0) hx hb dX9_copyFrom_19 (by decide) ?_
  refine lv_aload_n hx hb dX9_copyFrom_20 rfl (lv_at hl 0 rfl) ?_
  refine tw_getM (v := .ref dwn) hx hb hts bF2_X9 hown hK hT hr_o0 shc_133 rfl 1 (by decide) (ht_at2 hts 5 rfl) (fun _ h9 => h9) m4 dX9_copyFrom_21 ?_
  refine lv_iconst (v := 0) hx hb dX9_copyFrom_24 (by decide) ?_
  refine lv_bipush (v := 60) hx hb dX9_copyFrom_25 (by decide) ?_
  refine tw_copyE (ty := .int) hx hb (hml.trans hl.1.symm) hown (ht_at2 hts 1 rfl) (ht_at2 hts 2 rfl) (ht_at2 hts 3 rfl) (ht_at2 hts 4 rfl) hK hT hG hS hr_swn hr_dwn shc_132 shc_135 rfl rfl (by decide) (by decide) (by decide) (by decide) (by decide) (by decide) (by decide) (fun _ _ h9 => by obtain ⟨x9, e9, _⟩ := h9; exact ⟨x9, e9, rfl⟩) (fun _ _ _ h9 => h9) (Nat.le_of_ble_eq_true rfl) (Nat.le_of_ble_eq_true rfl) dX9_copyFrom_27 (fun H locs hT oq ce10 hS => ?_)
  have hF := hF.ast hr_dwn skc_135 oq (by decide)
  have m11 : ct H dwn 60 sVN := fun i9 hi9 => (ce10 i9 (by have q8 : (60 : Int32).toNatClampNeg = 60 := (by decide); omega)).trans (m9 i9 hi9)
  have m16 := (el_kept (oq _ (gne hr_p0 hr_dwn (by decide)))).trans m7
  have m19 := m2.kept (oq _ (gne hr_dwh hr_dwn (by decide)))
  refine lv_aload_n hx hb dX9_copyFrom_30 rfl (lv_at hl 0 rfl) ?_
  refine lv_aload_n hx hb dX9_copyFrom_31 rfl (lv_at hl 1 rfl) ?_
  refine tw_getM (v := .int snw) hx hb hts bF2_X9 hown hK hT hr_p0 shc_130 rfl 2 (by decide) (ht_at2 hts 6 rfl) (fun _ h9 => h9) m16 dX9_copyFrom_32 ?_
  refine tw_put (v := .int snw) (ty := .int) hx hb hts bF2_X9 tyX9 tyX9_ok nmX9 hown hK hT hG hS hr_o0 shc_133 rfl 2 (by decide) (ht_at2 hts 6 rfl) (fun _ h9 => h9) rfl (by decide +kernel) rfl rfl (gl_at rfl (gi_of (show snw.toInt = snw.toInt from rfl) (by omega) (by omega))) dX9_copyFrom_35 (fun H locs hT oq m20 oj hS => ?_)
  have hF := hF.put hr_o0 skc_133 oq oj (by decide)
  have m28 := m19.kept (oq _ (gne hr_dwh hr_o0 (by decide)))
  have m29 := m11.kept (oq _ (gne hr_dwn hr_o0 (by decide)))
  exact W.vret hx hb hr (fun t ht hW => ⟨⟨snw, rfl, (by exact (by omega)), by (try dsimp only); rw [ht]; exact ⟨hT, hF, m20, m28, m29⟩⟩, hS.F ht⟩) hS.2.2 dX9_copyFrom_38
def w_c_cpW9_lY : List Cond := .code yX9_copyFrom cX9_copyFrom 2 none :: (HAppend.hAppend (α := List Cond) (β := List Cond) (γ := List Cond) [.fieldLink RX9 9 "SeaLand$Tellings" "hours" "[I", .methodLink RX9 23 arraycopyName, .native arraycopyName, .static arraycopyName, .initialized "java/lang/System", .fieldLink RX9 15 "SeaLand$Tellings" "numbers" "[I", .fieldLink RX9 18 "SeaLand$Tellings" "told" "I"] bs2)
set_option maxHeartbeats 4000000 in
set_option maxRecDepth 100000 in
theorem c_cpW9_lY (l : Launch) (dC : Nat → ClassId) (dI : Nat → Nat → Nat) (kA : Nat → ClassId) (adK adV : Nat → Nat) (G : gT) (H0 : Heap) (nC nS : Int) (o0 : Nat) (p0 : Nat) (dwh : Nat) (dwn : Nat) (swh : Nat) (swn : Nat) (snw : Int32) (sVH : Nat → Int32) (sVN : Nat → Int32)  (hT : gH (dC, dI) kA (SHc nC nS) G H0) (hr_o0 : G o0 = some 130) (hr_p0 : G p0 = some 133) (hm_dwh : el H0 o0 (dI 12 0) = some (.ref dwh)) (hr_dwh : G dwh = some 131) (hm_dwn : el H0 o0 (dI 12 1) = some (.ref dwn)) (hr_dwn : G dwn = some 132) (hm_swh : el H0 p0 (dI 12 0) = some (.ref swh)) (hr_swh : G swh = some 134) (hm_swn : el H0 p0 (dI 12 1) = some (.ref swn)) (hr_swn : G swn = some 135) (hm_snw : el H0 p0 (dI 12 2) = some (.int snw)) (hq0 : 0 ≤ snw.toInt ∧ snw.toInt ≤ 60) (hc_sVH : ct H0 swh 60 sVH) (hc_sVN : ct H0 swn 60 sVN) (hgC : 0 ≤ nC ∧ nC ≤ 40) (hgS : 0 ≤ nS ∧ nS ≤ 60) : Met l yX9_copyFrom w_c_cpW9_lY ({ frames := 2, cells := 0, slots := 0, locals := 60 }) (va_Pc [.ref o0, .ref p0] (fun U => U.heap = H0 ∧ va_K (dC, dI) vwCl (tyl kA) U ∧ EVC adK adV (gA G H0.size) U U.heap)) (va_Qv (fun (u : Int32) => (u.toInt = snw.toInt)) (fun (dnw : Int32) (t : State) => gH (dC, dI) kA (SHc nC nS) G t.heap ∧ gF (dC, dI) SKc G ([(130, 2), (131, 0), (132, 0)] : List (Nat × Nat)) H0 t.heap ∧ el t.heap o0 (dI 12 2) = some (.int dnw) ∧ ct t.heap dwh 60 sVH ∧ ct t.heap dwn 60 sVN) (gA G H0.size)) 0 0 (gA G H0.size) := by
  refine Met.ofW (cc := cX9_copyFrom) (maxL := 2) (ret := none) (by decide) rfl ?_
  intro p e s m args below meth c s₁ B hml hv
  obtain ⟨rfl, hH0, hK, hE⟩ := hv
  have hx := B.exec
  have hb := B.bytes
  have hr := B.returns
  have hts := atoms_spec (ws := w_c_cpW9_lY) B.pre
  have hown : s.vm.findClass RX9 = some m.cls := findClass_of_methodNamed B.named
  have hlocks := B.notSynchronized
  subst hH0
  generalize hAe : gA G s.heap.size = A at hE ⊢
  have hA : ∀ q : Nat, s.heap.size ≤ q → A q := fun q h => by rw [← hAe]; exact Or.inr h
  have hG := gA_of hAe
  have hS : va_S A s.heap s.heap [] := va_S.rf
  have hF : gF (dC, dI) SKc G ([(130, 2), (131, 0), (132, 0)] : List (Nat × Nat)) s.heap s.heap := gF.rf
  have hl := lv_entry ([.ref o0, .ref p0]) (n := 2) (Nat.le_of_ble_eq_true rfl)
  rw [lg_entry_eq]
  generalize (lg_sl ([.ref o0, .ref p0]) ++ List.replicate (2 - (lg_sl ([.ref o0, .ref p0])).length) Slot.unset).toArray = ls at hl ⊢
  have hl : lv_has ls 2 [(0, .ref o0), (1, .ref p0)] := hl
  refine lv_aload_n hx hb dX9_copyFrom_0 rfl (lv_at hl 1 rfl) ?_
  refine tw_getM (v := .ref swh) hx hb hts bF2_X9 hown hK hT hr_p0 shc_133 rfl 0 (by decide) (ht_at2 hts 0 rfl) (fun _ h9 => h9) hm_swh dX9_copyFrom_1 ?_
  refine lv_iconst (v := 0) hx hb dX9_copyFrom_4 (by decide) ?_
  refine lv_aload_n hx hb dX9_copyFrom_5 rfl (lv_at hl 0 rfl) ?_
  refine tw_getM (v := .ref dwh) hx hb hts bF2_X9 hown hK hT hr_o0 shc_130 rfl 0 (by decide) (ht_at2 hts 0 rfl) (fun _ h9 => h9) hm_dwh dX9_copyFrom_6 ?_
  refine lv_iconst (v := 0) hx hb dX9_copyFrom_9 (by decide) ?_
  refine lv_bipush (v := 60) hx hb dX9_copyFrom_10 (by decide) ?_
  refine tw_copyE (ty := .int) hx hb (hml.trans hl.1.symm) hown (ht_at2 hts 1 rfl) (ht_at2 hts 2 rfl) (ht_at2 hts 3 rfl) (ht_at2 hts 4 rfl) hK hT hG hS hr_swh hr_dwh shc_134 shc_131 rfl rfl (by decide) (by decide) (by decide) (by decide) (by decide) (by decide) (by decide) (fun _ _ h9 => by obtain ⟨x9, e9, _⟩ := h9; exact ⟨x9, e9, rfl⟩) (fun _ _ _ h9 => h9) (Nat.le_of_ble_eq_true rfl) (Nat.le_of_ble_eq_true rfl) dX9_copyFrom_12 (fun H locs hT oq ce1 hS => ?_)
  have hF := hF.ast hr_dwh skc_131 oq (by decide)
  have m2 : ct H dwh 60 sVH := fun i9 hi9 => (ce1 i9 (by have q8 : (60 : Int32).toNatClampNeg = 60 := (by decide); omega)).trans (hc_sVH i9 hi9)
  have m4 := (el_kept (oq _ (gne hr_o0 hr_dwh (by decide)))).trans hm_dwn
  have m6 := (el_kept (oq _ (gne hr_p0 hr_dwh (by decide)))).trans hm_swn
  have m7 := (el_kept (oq _ (gne hr_p0 hr_dwh (by decide)))).trans hm_snw
  have m9 := hc_sVN.kept (oq _ (gne hr_swn hr_dwh (by decide)))
  refine lv_aload_n hx hb dX9_copyFrom_15 rfl (lv_at hl 1 rfl) ?_
  refine tw_getM (v := .ref swn) hx hb hts bF2_X9 hown hK hT hr_p0 shc_133 rfl 1 (by decide) (ht_at2 hts 5 rfl) (fun _ h9 => h9) m6 dX9_copyFrom_16 ?_
  refine lv_iconst (v := 0) hx hb dX9_copyFrom_19 (by decide) ?_
  refine lv_aload_n hx hb dX9_copyFrom_20 rfl (lv_at hl 0 rfl) ?_
  refine tw_getM (v := .ref dwn) hx hb hts bF2_X9 hown hK hT hr_o0 shc_130 rfl 1 (by decide) (ht_at2 hts 5 rfl) (fun _ h9 => h9) m4 dX9_copyFrom_21 ?_
  refine lv_iconst (v := 0) hx hb dX9_copyFrom_24 (by decide) ?_
  refine lv_bipush (v := 60) hx hb dX9_copyFrom_25 (by decide) ?_
  refine tw_copyE (ty := .int) hx hb (hml.trans hl.1.symm) hown (ht_at2 hts 1 rfl) (ht_at2 hts 2 rfl) (ht_at2 hts 3 rfl) (ht_at2 hts 4 rfl) hK hT hG hS hr_swn hr_dwn shc_135 shc_132 rfl rfl (by decide) (by decide) (by decide) (by decide) (by decide) (by decide) (by decide) (fun _ _ h9 => by obtain ⟨x9, e9, _⟩ := h9; exact ⟨x9, e9, rfl⟩) (fun _ _ _ h9 => h9) (Nat.le_of_ble_eq_true rfl) (Nat.le_of_ble_eq_true rfl) dX9_copyFrom_27 (fun H locs hT oq ce10 hS => ?_)
  have hF := hF.ast hr_dwn skc_132 oq (by decide)
  have m11 : ct H dwn 60 sVN := fun i9 hi9 => (ce10 i9 (by have q8 : (60 : Int32).toNatClampNeg = 60 := (by decide); omega)).trans (m9 i9 hi9)
  have m16 := (el_kept (oq _ (gne hr_p0 hr_dwn (by decide)))).trans m7
  have m19 := m2.kept (oq _ (gne hr_dwh hr_dwn (by decide)))
  refine lv_aload_n hx hb dX9_copyFrom_30 rfl (lv_at hl 0 rfl) ?_
  refine lv_aload_n hx hb dX9_copyFrom_31 rfl (lv_at hl 1 rfl) ?_
  refine tw_getM (v := .int snw) hx hb hts bF2_X9 hown hK hT hr_p0 shc_133 rfl 2 (by decide) (ht_at2 hts 6 rfl) (fun _ h9 => h9) m16 dX9_copyFrom_32 ?_
  refine tw_put (v := .int snw) (ty := .int) hx hb hts bF2_X9 tyX9 tyX9_ok nmX9 hown hK hT hG hS hr_o0 shc_130 rfl 2 (by decide) (ht_at2 hts 6 rfl) (fun _ h9 => h9) rfl (by decide +kernel) rfl rfl (gl_at rfl (gi_of (show snw.toInt = snw.toInt from rfl) (by omega) (by omega))) dX9_copyFrom_35 (fun H locs hT oq m20 oj hS => ?_)
  have hF := hF.put hr_o0 skc_130 oq oj (by decide)
  have m28 := m19.kept (oq _ (gne hr_dwh hr_o0 (by decide)))
  have m29 := m11.kept (oq _ (gne hr_dwn hr_o0 (by decide)))
  exact W.vret hx hb hr (fun t ht hW => ⟨⟨snw, rfl, (by exact (by omega)), by (try dsimp only); rw [ht]; exact ⟨hT, hF, m20, m28, m29⟩⟩, hS.F ht⟩) hS.2.2 dX9_copyFrom_38
def w_c_cpX9_iY : List Cond := .code yX9_copyFrom cX9_copyFrom 2 none :: (HAppend.hAppend (α := List Cond) (β := List Cond) (γ := List Cond) [.fieldLink RX9 9 "SeaLand$Tellings" "hours" "[I", .methodLink RX9 23 arraycopyName, .native arraycopyName, .static arraycopyName, .initialized "java/lang/System", .fieldLink RX9 15 "SeaLand$Tellings" "numbers" "[I", .fieldLink RX9 18 "SeaLand$Tellings" "told" "I"] bs2)
set_option maxHeartbeats 4000000 in
set_option maxRecDepth 100000 in
theorem c_cpX9_iY (l : Launch) (dC : Nat → ClassId) (dI : Nat → Nat → Nat) (kA : Nat → ClassId) (adK adV : Nat → Nat) (G : gT) (H0 : Heap) (nC nS : Int) (o0 : Nat) (p0 : Nat) (drh : Nat) (drn : Nat) (srh : Nat) (srn : Nat) (snr : Int32) (sVR : Nat → Int32) (sVQ : Nat → Int32)  (hT : gH (dC, dI) kA (SHc nC nS) G H0) (hr_o0 : G o0 = some 92) (hr_p0 : G p0 = some 12) (hm_drh : el H0 o0 (dI 12 0) = some (.ref drh)) (hr_drh : G drh = some 75) (hm_drn : el H0 o0 (dI 12 1) = some (.ref drn)) (hr_drn : G drn = some 76) (hm_srh : el H0 p0 (dI 12 0) = some (.ref srh)) (hr_srh : G srh = some 23) (hm_srn : el H0 p0 (dI 12 1) = some (.ref srn)) (hr_srn : G srn = some 24) (hm_snr : el H0 p0 (dI 12 2) = some (.int snr)) (hq0 : 0 ≤ snr.toInt ∧ snr.toInt ≤ 60) (hc_sVR : ct H0 srh 60 sVR) (hc_sVQ : ct H0 srn 60 sVQ) (hgC : 0 ≤ nC ∧ nC ≤ 40) (hgS : 0 ≤ nS ∧ nS ≤ 60) : Met l yX9_copyFrom w_c_cpX9_iY ({ frames := 2, cells := 0, slots := 0, locals := 60 }) (va_Pc [.ref o0, .ref p0] (fun U => U.heap = H0 ∧ va_K (dC, dI) vwCl (tyl kA) U ∧ EVC adK adV (gA G H0.size) U U.heap)) (va_Qv (fun (u : Int32) => (u.toInt = snr.toInt)) (fun (dnr : Int32) (t : State) => gH (dC, dI) kA (SHc nC nS) G t.heap ∧ gF (dC, dI) SKc G ([(75, 0), (76, 0), (92, 2)] : List (Nat × Nat)) H0 t.heap ∧ el t.heap o0 (dI 12 2) = some (.int dnr) ∧ ct t.heap drh 60 sVR ∧ ct t.heap drn 60 sVQ) (gA G H0.size)) 0 0 (gA G H0.size) := by
  refine Met.ofW (cc := cX9_copyFrom) (maxL := 2) (ret := none) (by decide) rfl ?_
  intro p e s m args below meth c s₁ B hml hv
  obtain ⟨rfl, hH0, hK, hE⟩ := hv
  have hx := B.exec
  have hb := B.bytes
  have hr := B.returns
  have hts := atoms_spec (ws := w_c_cpX9_iY) B.pre
  have hown : s.vm.findClass RX9 = some m.cls := findClass_of_methodNamed B.named
  have hlocks := B.notSynchronized
  subst hH0
  generalize hAe : gA G s.heap.size = A at hE ⊢
  have hA : ∀ q : Nat, s.heap.size ≤ q → A q := fun q h => by rw [← hAe]; exact Or.inr h
  have hG := gA_of hAe
  have hS : va_S A s.heap s.heap [] := va_S.rf
  have hF : gF (dC, dI) SKc G ([(75, 0), (76, 0), (92, 2)] : List (Nat × Nat)) s.heap s.heap := gF.rf
  have hl := lv_entry ([.ref o0, .ref p0]) (n := 2) (Nat.le_of_ble_eq_true rfl)
  rw [lg_entry_eq]
  generalize (lg_sl ([.ref o0, .ref p0]) ++ List.replicate (2 - (lg_sl ([.ref o0, .ref p0])).length) Slot.unset).toArray = ls at hl ⊢
  have hl : lv_has ls 2 [(0, .ref o0), (1, .ref p0)] := hl
  refine lv_aload_n hx hb dX9_copyFrom_0 rfl (lv_at hl 1 rfl) ?_
  refine tw_getM (v := .ref srh) hx hb hts bF2_X9 hown hK hT hr_p0 shc_12 rfl 0 (by decide) (ht_at2 hts 0 rfl) (fun _ h9 => h9) hm_srh dX9_copyFrom_1 ?_
  refine lv_iconst (v := 0) hx hb dX9_copyFrom_4 (by decide) ?_
  refine lv_aload_n hx hb dX9_copyFrom_5 rfl (lv_at hl 0 rfl) ?_
  refine tw_getM (v := .ref drh) hx hb hts bF2_X9 hown hK hT hr_o0 shc_92 rfl 0 (by decide) (ht_at2 hts 0 rfl) (fun _ h9 => h9) hm_drh dX9_copyFrom_6 ?_
  refine lv_iconst (v := 0) hx hb dX9_copyFrom_9 (by decide) ?_
  refine lv_bipush (v := 60) hx hb dX9_copyFrom_10 (by decide) ?_
  refine tw_copyE (ty := .int) hx hb (hml.trans hl.1.symm) hown (ht_at2 hts 1 rfl) (ht_at2 hts 2 rfl) (ht_at2 hts 3 rfl) (ht_at2 hts 4 rfl) hK hT hG hS hr_srh hr_drh shc_23 shc_75 rfl rfl (by decide) (by decide) (by decide) (by decide) (by decide) (by decide) (by decide) (fun _ _ h9 => by obtain ⟨x9, e9, _⟩ := h9; exact ⟨x9, e9, rfl⟩) (fun _ _ _ h9 => h9) (Nat.le_of_ble_eq_true rfl) (Nat.le_of_ble_eq_true rfl) dX9_copyFrom_12 (fun H locs hT oq ce1 hS => ?_)
  have hF := hF.ast hr_drh skc_75 oq (by decide)
  have m2 : ct H drh 60 sVR := fun i9 hi9 => (ce1 i9 (by have q8 : (60 : Int32).toNatClampNeg = 60 := (by decide); omega)).trans (hc_sVR i9 hi9)
  have m4 := (el_kept (oq _ (gne hr_o0 hr_drh (by decide)))).trans hm_drn
  have m6 := (el_kept (oq _ (gne hr_p0 hr_drh (by decide)))).trans hm_srn
  have m7 := (el_kept (oq _ (gne hr_p0 hr_drh (by decide)))).trans hm_snr
  have m9 := hc_sVQ.kept (oq _ (gne hr_srn hr_drh (by decide)))
  refine lv_aload_n hx hb dX9_copyFrom_15 rfl (lv_at hl 1 rfl) ?_
  refine tw_getM (v := .ref srn) hx hb hts bF2_X9 hown hK hT hr_p0 shc_12 rfl 1 (by decide) (ht_at2 hts 5 rfl) (fun _ h9 => h9) m6 dX9_copyFrom_16 ?_
  refine lv_iconst (v := 0) hx hb dX9_copyFrom_19 (by decide) ?_
  refine lv_aload_n hx hb dX9_copyFrom_20 rfl (lv_at hl 0 rfl) ?_
  refine tw_getM (v := .ref drn) hx hb hts bF2_X9 hown hK hT hr_o0 shc_92 rfl 1 (by decide) (ht_at2 hts 5 rfl) (fun _ h9 => h9) m4 dX9_copyFrom_21 ?_
  refine lv_iconst (v := 0) hx hb dX9_copyFrom_24 (by decide) ?_
  refine lv_bipush (v := 60) hx hb dX9_copyFrom_25 (by decide) ?_
  refine tw_copyE (ty := .int) hx hb (hml.trans hl.1.symm) hown (ht_at2 hts 1 rfl) (ht_at2 hts 2 rfl) (ht_at2 hts 3 rfl) (ht_at2 hts 4 rfl) hK hT hG hS hr_srn hr_drn shc_24 shc_76 rfl rfl (by decide) (by decide) (by decide) (by decide) (by decide) (by decide) (by decide) (fun _ _ h9 => by obtain ⟨x9, e9, _⟩ := h9; exact ⟨x9, e9, rfl⟩) (fun _ _ _ h9 => h9) (Nat.le_of_ble_eq_true rfl) (Nat.le_of_ble_eq_true rfl) dX9_copyFrom_27 (fun H locs hT oq ce10 hS => ?_)
  have hF := hF.ast hr_drn skc_76 oq (by decide)
  have m11 : ct H drn 60 sVQ := fun i9 hi9 => (ce10 i9 (by have q8 : (60 : Int32).toNatClampNeg = 60 := (by decide); omega)).trans (m9 i9 hi9)
  have m16 := (el_kept (oq _ (gne hr_p0 hr_drn (by decide)))).trans m7
  have m19 := m2.kept (oq _ (gne hr_drh hr_drn (by decide)))
  refine lv_aload_n hx hb dX9_copyFrom_30 rfl (lv_at hl 0 rfl) ?_
  refine lv_aload_n hx hb dX9_copyFrom_31 rfl (lv_at hl 1 rfl) ?_
  refine tw_getM (v := .int snr) hx hb hts bF2_X9 hown hK hT hr_p0 shc_12 rfl 2 (by decide) (ht_at2 hts 6 rfl) (fun _ h9 => h9) m16 dX9_copyFrom_32 ?_
  refine tw_put (v := .int snr) (ty := .int) hx hb hts bF2_X9 tyX9 tyX9_ok nmX9 hown hK hT hG hS hr_o0 shc_92 rfl 2 (by decide) (ht_at2 hts 6 rfl) (fun _ h9 => h9) rfl (by decide +kernel) rfl rfl (gl_at rfl (gi_of (show snr.toInt = snr.toInt from rfl) (by omega) (by omega))) dX9_copyFrom_35 (fun H locs hT oq m20 oj hS => ?_)
  have hF := hF.put hr_o0 skc_92 oq oj (by decide)
  have m28 := m19.kept (oq _ (gne hr_drh hr_o0 (by decide)))
  have m29 := m11.kept (oq _ (gne hr_drn hr_o0 (by decide)))
  exact W.vret hx hb hr (fun t ht hW => ⟨⟨snr, rfl, (by exact (by omega)), by (try dsimp only); rw [ht]; exact ⟨hT, hF, m20, m28, m29⟩⟩, hS.F ht⟩) hS.2.2 dX9_copyFrom_38
def w_c_cpX9_lY : List Cond := .code yX9_copyFrom cX9_copyFrom 2 none :: (HAppend.hAppend (α := List Cond) (β := List Cond) (γ := List Cond) [.fieldLink RX9 9 "SeaLand$Tellings" "hours" "[I", .methodLink RX9 23 arraycopyName, .native arraycopyName, .static arraycopyName, .initialized "java/lang/System", .fieldLink RX9 15 "SeaLand$Tellings" "numbers" "[I", .fieldLink RX9 18 "SeaLand$Tellings" "told" "I"] bs2)
set_option maxHeartbeats 4000000 in
set_option maxRecDepth 100000 in
theorem c_cpX9_lY (l : Launch) (dC : Nat → ClassId) (dI : Nat → Nat → Nat) (kA : Nat → ClassId) (adK adV : Nat → Nat) (G : gT) (H0 : Heap) (nC nS : Int) (o0 : Nat) (p0 : Nat) (drh : Nat) (drn : Nat) (srh : Nat) (srn : Nat) (snr : Int32) (sVR : Nat → Int32) (sVQ : Nat → Int32)  (hT : gH (dC, dI) kA (SHc nC nS) G H0) (hr_o0 : G o0 = some 12) (hr_p0 : G p0 = some 92) (hm_drh : el H0 o0 (dI 12 0) = some (.ref drh)) (hr_drh : G drh = some 23) (hm_drn : el H0 o0 (dI 12 1) = some (.ref drn)) (hr_drn : G drn = some 24) (hm_srh : el H0 p0 (dI 12 0) = some (.ref srh)) (hr_srh : G srh = some 75) (hm_srn : el H0 p0 (dI 12 1) = some (.ref srn)) (hr_srn : G srn = some 76) (hm_snr : el H0 p0 (dI 12 2) = some (.int snr)) (hq0 : 0 ≤ snr.toInt ∧ snr.toInt ≤ 60) (hc_sVR : ct H0 srh 60 sVR) (hc_sVQ : ct H0 srn 60 sVQ) (hgC : 0 ≤ nC ∧ nC ≤ 40) (hgS : 0 ≤ nS ∧ nS ≤ 60) : Met l yX9_copyFrom w_c_cpX9_lY ({ frames := 2, cells := 0, slots := 0, locals := 60 }) (va_Pc [.ref o0, .ref p0] (fun U => U.heap = H0 ∧ va_K (dC, dI) vwCl (tyl kA) U ∧ EVC adK adV (gA G H0.size) U U.heap)) (va_Qv (fun (u : Int32) => (u.toInt = snr.toInt)) (fun (dnr : Int32) (t : State) => gH (dC, dI) kA (SHc nC nS) G t.heap ∧ gF (dC, dI) SKc G ([(12, 2), (23, 0), (24, 0)] : List (Nat × Nat)) H0 t.heap ∧ el t.heap o0 (dI 12 2) = some (.int dnr) ∧ ct t.heap drh 60 sVR ∧ ct t.heap drn 60 sVQ) (gA G H0.size)) 0 0 (gA G H0.size) := by
  refine Met.ofW (cc := cX9_copyFrom) (maxL := 2) (ret := none) (by decide) rfl ?_
  intro p e s m args below meth c s₁ B hml hv
  obtain ⟨rfl, hH0, hK, hE⟩ := hv
  have hx := B.exec
  have hb := B.bytes
  have hr := B.returns
  have hts := atoms_spec (ws := w_c_cpX9_lY) B.pre
  have hown : s.vm.findClass RX9 = some m.cls := findClass_of_methodNamed B.named
  have hlocks := B.notSynchronized
  subst hH0
  generalize hAe : gA G s.heap.size = A at hE ⊢
  have hA : ∀ q : Nat, s.heap.size ≤ q → A q := fun q h => by rw [← hAe]; exact Or.inr h
  have hG := gA_of hAe
  have hS : va_S A s.heap s.heap [] := va_S.rf
  have hF : gF (dC, dI) SKc G ([(12, 2), (23, 0), (24, 0)] : List (Nat × Nat)) s.heap s.heap := gF.rf
  have hl := lv_entry ([.ref o0, .ref p0]) (n := 2) (Nat.le_of_ble_eq_true rfl)
  rw [lg_entry_eq]
  generalize (lg_sl ([.ref o0, .ref p0]) ++ List.replicate (2 - (lg_sl ([.ref o0, .ref p0])).length) Slot.unset).toArray = ls at hl ⊢
  have hl : lv_has ls 2 [(0, .ref o0), (1, .ref p0)] := hl
  refine lv_aload_n hx hb dX9_copyFrom_0 rfl (lv_at hl 1 rfl) ?_
  refine tw_getM (v := .ref srh) hx hb hts bF2_X9 hown hK hT hr_p0 shc_92 rfl 0 (by decide) (ht_at2 hts 0 rfl) (fun _ h9 => h9) hm_srh dX9_copyFrom_1 ?_
  refine lv_iconst (v := 0) hx hb dX9_copyFrom_4 (by decide) ?_
  refine lv_aload_n hx hb dX9_copyFrom_5 rfl (lv_at hl 0 rfl) ?_
  refine tw_getM (v := .ref drh) hx hb hts bF2_X9 hown hK hT hr_o0 shc_12 rfl 0 (by decide) (ht_at2 hts 0 rfl) (fun _ h9 => h9) hm_drh dX9_copyFrom_6 ?_
  refine lv_iconst (v := 0) hx hb dX9_copyFrom_9 (by decide) ?_
  refine lv_bipush (v := 60) hx hb dX9_copyFrom_10 (by decide) ?_
  refine tw_copyE (ty := .int) hx hb (hml.trans hl.1.symm) hown (ht_at2 hts 1 rfl) (ht_at2 hts 2 rfl) (ht_at2 hts 3 rfl) (ht_at2 hts 4 rfl) hK hT hG hS hr_srh hr_drh shc_75 shc_23 rfl rfl (by decide) (by decide) (by decide) (by decide) (by decide) (by decide) (by decide) (fun _ _ h9 => by obtain ⟨x9, e9, _⟩ := h9; exact ⟨x9, e9, rfl⟩) (fun _ _ _ h9 => h9) (Nat.le_of_ble_eq_true rfl) (Nat.le_of_ble_eq_true rfl) dX9_copyFrom_12 (fun H locs hT oq ce1 hS => ?_)
  have hF := hF.ast hr_drh skc_23 oq (by decide)
  have m2 : ct H drh 60 sVR := fun i9 hi9 => (ce1 i9 (by have q8 : (60 : Int32).toNatClampNeg = 60 := (by decide); omega)).trans (hc_sVR i9 hi9)
  have m4 := (el_kept (oq _ (gne hr_o0 hr_drh (by decide)))).trans hm_drn
  have m6 := (el_kept (oq _ (gne hr_p0 hr_drh (by decide)))).trans hm_srn
  have m7 := (el_kept (oq _ (gne hr_p0 hr_drh (by decide)))).trans hm_snr
  have m9 := hc_sVQ.kept (oq _ (gne hr_srn hr_drh (by decide)))
  refine lv_aload_n hx hb dX9_copyFrom_15 rfl (lv_at hl 1 rfl) ?_
  refine tw_getM (v := .ref srn) hx hb hts bF2_X9 hown hK hT hr_p0 shc_92 rfl 1 (by decide) (ht_at2 hts 5 rfl) (fun _ h9 => h9) m6 dX9_copyFrom_16 ?_
  refine lv_iconst (v := 0) hx hb dX9_copyFrom_19 (by decide) ?_
  refine lv_aload_n hx hb dX9_copyFrom_20 rfl (lv_at hl 0 rfl) ?_
  refine tw_getM (v := .ref drn) hx hb hts bF2_X9 hown hK hT hr_o0 shc_12 rfl 1 (by decide) (ht_at2 hts 5 rfl) (fun _ h9 => h9) m4 dX9_copyFrom_21 ?_
  refine lv_iconst (v := 0) hx hb dX9_copyFrom_24 (by decide) ?_
  refine lv_bipush (v := 60) hx hb dX9_copyFrom_25 (by decide) ?_
  refine tw_copyE (ty := .int) hx hb (hml.trans hl.1.symm) hown (ht_at2 hts 1 rfl) (ht_at2 hts 2 rfl) (ht_at2 hts 3 rfl) (ht_at2 hts 4 rfl) hK hT hG hS hr_srn hr_drn shc_76 shc_24 rfl rfl (by decide) (by decide) (by decide) (by decide) (by decide) (by decide) (by decide) (fun _ _ h9 => by obtain ⟨x9, e9, _⟩ := h9; exact ⟨x9, e9, rfl⟩) (fun _ _ _ h9 => h9) (Nat.le_of_ble_eq_true rfl) (Nat.le_of_ble_eq_true rfl) dX9_copyFrom_27 (fun H locs hT oq ce10 hS => ?_)
  have hF := hF.ast hr_drn skc_24 oq (by decide)
  have m11 : ct H drn 60 sVQ := fun i9 hi9 => (ce10 i9 (by have q8 : (60 : Int32).toNatClampNeg = 60 := (by decide); omega)).trans (m9 i9 hi9)
  have m16 := (el_kept (oq _ (gne hr_p0 hr_drn (by decide)))).trans m7
  have m19 := m2.kept (oq _ (gne hr_drh hr_drn (by decide)))
  refine lv_aload_n hx hb dX9_copyFrom_30 rfl (lv_at hl 0 rfl) ?_
  refine lv_aload_n hx hb dX9_copyFrom_31 rfl (lv_at hl 1 rfl) ?_
  refine tw_getM (v := .int snr) hx hb hts bF2_X9 hown hK hT hr_p0 shc_92 rfl 2 (by decide) (ht_at2 hts 6 rfl) (fun _ h9 => h9) m16 dX9_copyFrom_32 ?_
  refine tw_put (v := .int snr) (ty := .int) hx hb hts bF2_X9 tyX9 tyX9_ok nmX9 hown hK hT hG hS hr_o0 shc_12 rfl 2 (by decide) (ht_at2 hts 6 rfl) (fun _ h9 => h9) rfl (by decide +kernel) rfl rfl (gl_at rfl (gi_of (show snr.toInt = snr.toInt from rfl) (by omega) (by omega))) dX9_copyFrom_35 (fun H locs hT oq m20 oj hS => ?_)
  have hF := hF.put hr_o0 skc_12 oq oj (by decide)
  have m28 := m19.kept (oq _ (gne hr_drh hr_o0 (by decide)))
  have m29 := m11.kept (oq _ (gne hr_drn hr_o0 (by decide)))
  exact W.vret hx hb hr (fun t ht hW => ⟨⟨snr, rfl, (by exact (by omega)), by (try dsimp only); rw [ht]; exact ⟨hT, hF, m20, m28, m29⟩⟩, hS.F ht⟩) hS.2.2 dX9_copyFrom_38
def w_c_cpX8_iY : List Cond := .code yX8_copyFrom cX8_copyFrom 2 none :: (HAppend.hAppend (α := List Cond) (β := List Cond) (γ := List Cond) [.fieldLink RX8 9 "SeaLand$Sky" "tides" "[I", .methodLink RX8 63 arraycopyName, .native arraycopyName, .static arraycopyName, .initialized "java/lang/System", .fieldLink RX8 15 "SeaLand$Sky" "stormFrom" "[I", .fieldLink RX8 18 "SeaLand$Sky" "stormTo" "[I", .fieldLink RX8 21 "SeaLand$Sky" "stormMore" "[I", .fieldLink RX8 27 "SeaLand$Sky" "wind" "LSeaLand$Tellings;", .code yX9_copyFrom cX9_copyFrom 2 none, .fieldLink RX9 9 "SeaLand$Tellings" "hours" "[I", .methodLink RX9 23 arraycopyName, .fieldLink RX9 15 "SeaLand$Tellings" "numbers" "[I", .fieldLink RX9 18 "SeaLand$Tellings" "told" "I", .methodLink RX8 69 yX9_copyFrom, .instanceMethod yX9_copyFrom, .selects RX9 yX9_copyFrom yX9_copyFrom, .initialized RX9, .fieldLink RX8 31 "SeaLand$Sky" "rain" "LSeaLand$Tellings;", .fieldLink RX8 34 "SeaLand$Sky" "storms" "I"] bs2)
set_option maxHeartbeats 4000000 in
set_option maxRecDepth 100000 in
theorem c_cpX8_iY (l : Launch) (dC : Nat → ClassId) (dI : Nat → Nat → Nat) (kA : Nat → ClassId) (adK adV : Nat → Nat) (G : gT) (H0 : Heap) (nC nS : Int) (o0 : Nat) (p0 : Nat) (dti : Nat) (dsf : Nat) (dso : Nat) (dsm : Nat) (dwi : Nat) (dwh : Nat) (dwn : Nat) (dra : Nat) (drh : Nat) (drn : Nat) (sti : Nat) (ssf : Nat) (sso : Nat) (ssm : Nat) (sns : Int32) (swi : Nat) (swh : Nat) (swn : Nat) (snw : Int32) (sra : Nat) (srh : Nat) (srn : Nat) (snr : Int32) (sVT : Nat → Int32) (sVF : Nat → Int32) (sVO : Nat → Int32) (sVM : Nat → Int32) (sVH : Nat → Int32) (sVN : Nat → Int32) (sVR : Nat → Int32) (sVQ : Nat → Int32)  (hT : gH (dC, dI) kA (SHc nC nS) G H0) (hr_o0 : G o0 = some 91) (hr_p0 : G p0 = some 11) (hm_dti : el H0 o0 (dI 11 0) = some (.ref dti)) (hr_dti : G dti = some 71) (hm_dsf : el H0 o0 (dI 11 1) = some (.ref dsf)) (hr_dsf : G dsf = some 72) (hm_dso : el H0 o0 (dI 11 2) = some (.ref dso)) (hr_dso : G dso = some 73) (hm_dsm : el H0 o0 (dI 11 3) = some (.ref dsm)) (hr_dsm : G dsm = some 74) (hm_dwi : el H0 o0 (dI 11 4) = some (.ref dwi)) (hr_dwi : G dwi = some 133) (hm_dwh : el H0 dwi (dI 12 0) = some (.ref dwh)) (hr_dwh : G dwh = some 134) (hm_dwn : el H0 dwi (dI 12 1) = some (.ref dwn)) (hr_dwn : G dwn = some 135) (hm_dra : el H0 o0 (dI 11 5) = some (.ref dra)) (hr_dra : G dra = some 92) (hm_drh : el H0 dra (dI 12 0) = some (.ref drh)) (hr_drh : G drh = some 75) (hm_drn : el H0 dra (dI 12 1) = some (.ref drn)) (hr_drn : G drn = some 76) (hm_sti : el H0 p0 (dI 11 0) = some (.ref sti)) (hr_sti : G sti = some 19) (hm_ssf : el H0 p0 (dI 11 1) = some (.ref ssf)) (hr_ssf : G ssf = some 20) (hm_sso : el H0 p0 (dI 11 2) = some (.ref sso)) (hr_sso : G sso = some 21) (hm_ssm : el H0 p0 (dI 11 3) = some (.ref ssm)) (hr_ssm : G ssm = some 22) (hm_sns : el H0 p0 (dI 11 6) = some (.int sns)) (hm_swi : el H0 p0 (dI 11 4) = some (.ref swi)) (hr_swi : G swi = some 130) (hm_swh : el H0 swi (dI 12 0) = some (.ref swh)) (hr_swh : G swh = some 131) (hm_swn : el H0 swi (dI 12 1) = some (.ref swn)) (hr_swn : G swn = some 132) (hm_snw : el H0 swi (dI 12 2) = some (.int snw)) (hm_sra : el H0 p0 (dI 11 5) = some (.ref sra)) (hr_sra : G sra = some 12) (hm_srh : el H0 sra (dI 12 0) = some (.ref srh)) (hr_srh : G srh = some 23) (hm_srn : el H0 sra (dI 12 1) = some (.ref srn)) (hr_srn : G srn = some 24) (hm_snr : el H0 sra (dI 12 2) = some (.int snr)) (hq0 : 0 ≤ sns.toInt ∧ sns.toInt ≤ 20) (hq1 : 0 ≤ snw.toInt ∧ snw.toInt ≤ 60) (hq2 : 0 ≤ snr.toInt ∧ snr.toInt ≤ 60) (hc_sVT : ct H0 sti 12 sVT) (hc_sVF : ct H0 ssf 20 sVF) (hc_sVO : ct H0 sso 20 sVO) (hc_sVM : ct H0 ssm 20 sVM) (hc_sVH : ct H0 swh 60 sVH) (hc_sVN : ct H0 swn 60 sVN) (hc_sVR : ct H0 srh 60 sVR) (hc_sVQ : ct H0 srn 60 sVQ) (hgC : 0 ≤ nC ∧ nC ≤ 40) (hgS : 0 ≤ nS ∧ nS ≤ 60) : Met l yX8_copyFrom w_c_cpX8_iY ({ frames := 3, cells := 0, slots := 0, locals := 81 }) (va_Pc [.ref o0, .ref p0] (fun U => U.heap = H0 ∧ va_K (dC, dI) vwCl (tyl kA) U ∧ EVC adK adV (gA G H0.size) U U.heap)) (va_Qv (fun (u : Int32 × Int32 × Int32) => match u with | (dns, dnw, dnr) => (dns.toInt = sns.toInt ∧ dnw.toInt = snw.toInt ∧ dnr.toInt = snr.toInt)) (fun (u : Int32 × Int32 × Int32) (t : State) => match u with | (dns, dnw, dnr) => gH (dC, dI) kA (SHc nC nS) G t.heap ∧ gF (dC, dI) SKc G ([(71, 0), (72, 0), (73, 0), (74, 0), (75, 0), (76, 0), (91, 6), (92, 2), (133, 2), (134, 0), (135, 0)] : List (Nat × Nat)) H0 t.heap ∧ el t.heap o0 (dI 11 6) = some (.int dns) ∧ el t.heap dwi (dI 12 2) = some (.int dnw) ∧ el t.heap dra (dI 12 2) = some (.int dnr) ∧ ct t.heap dti 12 sVT ∧ ct t.heap dsf 20 sVF ∧ ct t.heap dso 20 sVO ∧ ct t.heap dsm 20 sVM ∧ ct t.heap dwh 60 sVH ∧ ct t.heap dwn 60 sVN ∧ ct t.heap drh 60 sVR ∧ ct t.heap drn 60 sVQ) (gA G H0.size)) 0 0 (gA G H0.size) := by
  refine Met.ofW (cc := cX8_copyFrom) (maxL := 2) (ret := none) (by decide) rfl ?_
  intro p e s m args below meth c s₁ B hml hv
  obtain ⟨rfl, hH0, hK, hE⟩ := hv
  have hx := B.exec
  have hb := B.bytes
  have hr := B.returns
  have hts := atoms_spec (ws := w_c_cpX8_iY) B.pre
  have hown : s.vm.findClass RX8 = some m.cls := findClass_of_methodNamed B.named
  have hlocks := B.notSynchronized
  subst hH0
  generalize hAe : gA G s.heap.size = A at hE ⊢
  have hA : ∀ q : Nat, s.heap.size ≤ q → A q := fun q h => by rw [← hAe]; exact Or.inr h
  have hG := gA_of hAe
  have hS : va_S A s.heap s.heap [] := va_S.rf
  have hF : gF (dC, dI) SKc G ([(71, 0), (72, 0), (73, 0), (74, 0), (75, 0), (76, 0), (91, 6), (92, 2), (133, 2), (134, 0), (135, 0)] : List (Nat × Nat)) s.heap s.heap := gF.rf
  have hl := lv_entry ([.ref o0, .ref p0]) (n := 2) (Nat.le_of_ble_eq_true rfl)
  rw [lg_entry_eq]
  generalize (lg_sl ([.ref o0, .ref p0]) ++ List.replicate (2 - (lg_sl ([.ref o0, .ref p0])).length) Slot.unset).toArray = ls at hl ⊢
  have hl : lv_has ls 2 [(0, .ref o0), (1, .ref p0)] := hl
  refine lv_aload_n hx hb dX8_copyFrom_0 rfl (lv_at hl 1 rfl) ?_
  refine tw_getM (v := .ref sti) hx hb hts bF2_X8 hown hK hT hr_p0 shc_11 rfl 0 (by decide) (ht_at2 hts 0 rfl) (fun _ h9 => h9) hm_sti dX8_copyFrom_1 ?_
  refine lv_iconst (v := 0) hx hb dX8_copyFrom_4 (by decide) ?_
  refine lv_aload_n hx hb dX8_copyFrom_5 rfl (lv_at hl 0 rfl) ?_
  refine tw_getM (v := .ref dti) hx hb hts bF2_X8 hown hK hT hr_o0 shc_91 rfl 0 (by decide) (ht_at2 hts 0 rfl) (fun _ h9 => h9) hm_dti dX8_copyFrom_6 ?_
  refine lv_iconst (v := 0) hx hb dX8_copyFrom_9 (by decide) ?_
  refine lv_bipush (v := 12) hx hb dX8_copyFrom_10 (by decide) ?_
  refine tw_copyE (ty := .int) hx hb (hml.trans hl.1.symm) hown (ht_at2 hts 1 rfl) (ht_at2 hts 2 rfl) (ht_at2 hts 3 rfl) (ht_at2 hts 4 rfl) hK hT hG hS hr_sti hr_dti shc_19 shc_71 rfl rfl (by decide) (by decide) (by decide) (by decide) (by decide) (by decide) (by decide) (fun _ _ h9 => by obtain ⟨x9, e9, _⟩ := h9; exact ⟨x9, e9, rfl⟩) (fun _ _ _ h9 => h9) (Nat.le_of_ble_eq_true rfl) (Nat.le_of_ble_eq_true rfl) dX8_copyFrom_12 (fun H locs hT oq ce1 hS => ?_)
  have hF := hF.ast hr_dti skc_71 oq (by decide)
  have m2 : ct H dti 12 sVT := fun i9 hi9 => (ce1 i9 (by have q8 : (12 : Int32).toNatClampNeg = 12 := (by decide); omega)).trans (hc_sVT i9 hi9)
  have m4 := (el_kept (oq _ (gne hr_o0 hr_dti (by decide)))).trans hm_dsf
  have m5 := (el_kept (oq _ (gne hr_o0 hr_dti (by decide)))).trans hm_dso
  have m6 := (el_kept (oq _ (gne hr_o0 hr_dti (by decide)))).trans hm_dsm
  have m7 := (el_kept (oq _ (gne hr_o0 hr_dti (by decide)))).trans hm_dwi
  have m8 := (el_kept (oq _ (gne hr_dwi hr_dti (by decide)))).trans hm_dwh
  have m9 := (el_kept (oq _ (gne hr_dwi hr_dti (by decide)))).trans hm_dwn
  have m10 := (el_kept (oq _ (gne hr_o0 hr_dti (by decide)))).trans hm_dra
  have m11 := (el_kept (oq _ (gne hr_dra hr_dti (by decide)))).trans hm_drh
  have m12 := (el_kept (oq _ (gne hr_dra hr_dti (by decide)))).trans hm_drn
  have m14 := (el_kept (oq _ (gne hr_p0 hr_dti (by decide)))).trans hm_ssf
  have m15 := (el_kept (oq _ (gne hr_p0 hr_dti (by decide)))).trans hm_sso
  have m16 := (el_kept (oq _ (gne hr_p0 hr_dti (by decide)))).trans hm_ssm
  have m17 := (el_kept (oq _ (gne hr_p0 hr_dti (by decide)))).trans hm_sns
  have m18 := (el_kept (oq _ (gne hr_p0 hr_dti (by decide)))).trans hm_swi
  have m19 := (el_kept (oq _ (gne hr_swi hr_dti (by decide)))).trans hm_swh
  have m20 := (el_kept (oq _ (gne hr_swi hr_dti (by decide)))).trans hm_swn
  have m21 := (el_kept (oq _ (gne hr_swi hr_dti (by decide)))).trans hm_snw
  have m22 := (el_kept (oq _ (gne hr_p0 hr_dti (by decide)))).trans hm_sra
  have m23 := (el_kept (oq _ (gne hr_sra hr_dti (by decide)))).trans hm_srh
  have m24 := (el_kept (oq _ (gne hr_sra hr_dti (by decide)))).trans hm_srn
  have m25 := (el_kept (oq _ (gne hr_sra hr_dti (by decide)))).trans hm_snr
  have m27 := hc_sVF.kept (oq _ (gne hr_ssf hr_dti (by decide)))
  have m28 := hc_sVO.kept (oq _ (gne hr_sso hr_dti (by decide)))
  have m29 := hc_sVM.kept (oq _ (gne hr_ssm hr_dti (by decide)))
  have m30 := hc_sVH.kept (oq _ (gne hr_swh hr_dti (by decide)))
  have m31 := hc_sVN.kept (oq _ (gne hr_swn hr_dti (by decide)))
  have m32 := hc_sVR.kept (oq _ (gne hr_srh hr_dti (by decide)))
  have m33 := hc_sVQ.kept (oq _ (gne hr_srn hr_dti (by decide)))
  refine lv_aload_n hx hb dX8_copyFrom_15 rfl (lv_at hl 1 rfl) ?_
  refine tw_getM (v := .ref ssf) hx hb hts bF2_X8 hown hK hT hr_p0 shc_11 rfl 1 (by decide) (ht_at2 hts 5 rfl) (fun _ h9 => h9) m14 dX8_copyFrom_16 ?_
  refine lv_iconst (v := 0) hx hb dX8_copyFrom_19 (by decide) ?_
  refine lv_aload_n hx hb dX8_copyFrom_20 rfl (lv_at hl 0 rfl) ?_
  refine tw_getM (v := .ref dsf) hx hb hts bF2_X8 hown hK hT hr_o0 shc_91 rfl 1 (by decide) (ht_at2 hts 5 rfl) (fun _ h9 => h9) m4 dX8_copyFrom_21 ?_
  refine lv_iconst (v := 0) hx hb dX8_copyFrom_24 (by decide) ?_
  refine lv_bipush (v := 20) hx hb dX8_copyFrom_25 (by decide) ?_
  refine tw_copyE (ty := .int) hx hb (hml.trans hl.1.symm) hown (ht_at2 hts 1 rfl) (ht_at2 hts 2 rfl) (ht_at2 hts 3 rfl) (ht_at2 hts 4 rfl) hK hT hG hS hr_ssf hr_dsf shc_20 shc_72 rfl rfl (by decide) (by decide) (by decide) (by decide) (by decide) (by decide) (by decide) (fun _ _ h9 => by obtain ⟨x9, e9, _⟩ := h9; exact ⟨x9, e9, rfl⟩) (fun _ _ _ h9 => h9) (Nat.le_of_ble_eq_true rfl) (Nat.le_of_ble_eq_true rfl) dX8_copyFrom_27 (fun H locs hT oq ce34 hS => ?_)
  have hF := hF.ast hr_dsf skc_72 oq (by decide)
  have m35 : ct H dsf 20 sVF := fun i9 hi9 => (ce34 i9 (by have q8 : (20 : Int32).toNatClampNeg = 20 := (by decide); omega)).trans (m27 i9 hi9)
  have m38 := (el_kept (oq _ (gne hr_o0 hr_dsf (by decide)))).trans m5
  have m39 := (el_kept (oq _ (gne hr_o0 hr_dsf (by decide)))).trans m6
  have m40 := (el_kept (oq _ (gne hr_o0 hr_dsf (by decide)))).trans m7
  have m41 := (el_kept (oq _ (gne hr_dwi hr_dsf (by decide)))).trans m8
  have m42 := (el_kept (oq _ (gne hr_dwi hr_dsf (by decide)))).trans m9
  have m43 := (el_kept (oq _ (gne hr_o0 hr_dsf (by decide)))).trans m10
  have m44 := (el_kept (oq _ (gne hr_dra hr_dsf (by decide)))).trans m11
  have m45 := (el_kept (oq _ (gne hr_dra hr_dsf (by decide)))).trans m12
  have m48 := (el_kept (oq _ (gne hr_p0 hr_dsf (by decide)))).trans m15
  have m49 := (el_kept (oq _ (gne hr_p0 hr_dsf (by decide)))).trans m16
  have m50 := (el_kept (oq _ (gne hr_p0 hr_dsf (by decide)))).trans m17
  have m51 := (el_kept (oq _ (gne hr_p0 hr_dsf (by decide)))).trans m18
  have m52 := (el_kept (oq _ (gne hr_swi hr_dsf (by decide)))).trans m19
  have m53 := (el_kept (oq _ (gne hr_swi hr_dsf (by decide)))).trans m20
  have m54 := (el_kept (oq _ (gne hr_swi hr_dsf (by decide)))).trans m21
  have m55 := (el_kept (oq _ (gne hr_p0 hr_dsf (by decide)))).trans m22
  have m56 := (el_kept (oq _ (gne hr_sra hr_dsf (by decide)))).trans m23
  have m57 := (el_kept (oq _ (gne hr_sra hr_dsf (by decide)))).trans m24
  have m58 := (el_kept (oq _ (gne hr_sra hr_dsf (by decide)))).trans m25
  have m61 := m28.kept (oq _ (gne hr_sso hr_dsf (by decide)))
  have m62 := m29.kept (oq _ (gne hr_ssm hr_dsf (by decide)))
  have m63 := m30.kept (oq _ (gne hr_swh hr_dsf (by decide)))
  have m64 := m31.kept (oq _ (gne hr_swn hr_dsf (by decide)))
  have m65 := m32.kept (oq _ (gne hr_srh hr_dsf (by decide)))
  have m66 := m33.kept (oq _ (gne hr_srn hr_dsf (by decide)))
  have m67 := m2.kept (oq _ (gne hr_dti hr_dsf (by decide)))
  refine lv_aload_n hx hb dX8_copyFrom_30 rfl (lv_at hl 1 rfl) ?_
  refine tw_getM (v := .ref sso) hx hb hts bF2_X8 hown hK hT hr_p0 shc_11 rfl 2 (by decide) (ht_at2 hts 6 rfl) (fun _ h9 => h9) m48 dX8_copyFrom_31 ?_
  refine lv_iconst (v := 0) hx hb dX8_copyFrom_34 (by decide) ?_
  refine lv_aload_n hx hb dX8_copyFrom_35 rfl (lv_at hl 0 rfl) ?_
  refine tw_getM (v := .ref dso) hx hb hts bF2_X8 hown hK hT hr_o0 shc_91 rfl 2 (by decide) (ht_at2 hts 6 rfl) (fun _ h9 => h9) m38 dX8_copyFrom_36 ?_
  refine lv_iconst (v := 0) hx hb dX8_copyFrom_39 (by decide) ?_
  refine lv_bipush (v := 20) hx hb dX8_copyFrom_40 (by decide) ?_
  refine tw_copyE (ty := .int) hx hb (hml.trans hl.1.symm) hown (ht_at2 hts 1 rfl) (ht_at2 hts 2 rfl) (ht_at2 hts 3 rfl) (ht_at2 hts 4 rfl) hK hT hG hS hr_sso hr_dso shc_21 shc_73 rfl rfl (by decide) (by decide) (by decide) (by decide) (by decide) (by decide) (by decide) (fun _ _ h9 => by obtain ⟨x9, e9, _⟩ := h9; exact ⟨x9, e9, rfl⟩) (fun _ _ _ h9 => h9) (Nat.le_of_ble_eq_true rfl) (Nat.le_of_ble_eq_true rfl) dX8_copyFrom_42 (fun H locs hT oq ce68 hS => ?_)
  have hF := hF.ast hr_dso skc_73 oq (by decide)
  have m69 : ct H dso 20 sVO := fun i9 hi9 => (ce68 i9 (by have q8 : (20 : Int32).toNatClampNeg = 20 := (by decide); omega)).trans (m61 i9 hi9)
  have m73 := (el_kept (oq _ (gne hr_o0 hr_dso (by decide)))).trans m39
  have m74 := (el_kept (oq _ (gne hr_o0 hr_dso (by decide)))).trans m40
  have m75 := (el_kept (oq _ (gne hr_dwi hr_dso (by decide)))).trans m41
  have m76 := (el_kept (oq _ (gne hr_dwi hr_dso (by decide)))).trans m42
  have m77 := (el_kept (oq _ (gne hr_o0 hr_dso (by decide)))).trans m43
  have m78 := (el_kept (oq _ (gne hr_dra hr_dso (by decide)))).trans m44
  have m79 := (el_kept (oq _ (gne hr_dra hr_dso (by decide)))).trans m45
  have m83 := (el_kept (oq _ (gne hr_p0 hr_dso (by decide)))).trans m49
  have m84 := (el_kept (oq _ (gne hr_p0 hr_dso (by decide)))).trans m50
  have m85 := (el_kept (oq _ (gne hr_p0 hr_dso (by decide)))).trans m51
  have m86 := (el_kept (oq _ (gne hr_swi hr_dso (by decide)))).trans m52
  have m87 := (el_kept (oq _ (gne hr_swi hr_dso (by decide)))).trans m53
  have m88 := (el_kept (oq _ (gne hr_swi hr_dso (by decide)))).trans m54
  have m89 := (el_kept (oq _ (gne hr_p0 hr_dso (by decide)))).trans m55
  have m90 := (el_kept (oq _ (gne hr_sra hr_dso (by decide)))).trans m56
  have m91 := (el_kept (oq _ (gne hr_sra hr_dso (by decide)))).trans m57
  have m92 := (el_kept (oq _ (gne hr_sra hr_dso (by decide)))).trans m58
  have m96 := m62.kept (oq _ (gne hr_ssm hr_dso (by decide)))
  have m97 := m63.kept (oq _ (gne hr_swh hr_dso (by decide)))
  have m98 := m64.kept (oq _ (gne hr_swn hr_dso (by decide)))
  have m99 := m65.kept (oq _ (gne hr_srh hr_dso (by decide)))
  have m100 := m66.kept (oq _ (gne hr_srn hr_dso (by decide)))
  have m101 := m67.kept (oq _ (gne hr_dti hr_dso (by decide)))
  have m102 := m35.kept (oq _ (gne hr_dsf hr_dso (by decide)))
  refine lv_aload_n hx hb dX8_copyFrom_45 rfl (lv_at hl 1 rfl) ?_
  refine tw_getM (v := .ref ssm) hx hb hts bF2_X8 hown hK hT hr_p0 shc_11 rfl 3 (by decide) (ht_at2 hts 7 rfl) (fun _ h9 => h9) m83 dX8_copyFrom_46 ?_
  refine lv_iconst (v := 0) hx hb dX8_copyFrom_49 (by decide) ?_
  refine lv_aload_n hx hb dX8_copyFrom_50 rfl (lv_at hl 0 rfl) ?_
  refine tw_getM (v := .ref dsm) hx hb hts bF2_X8 hown hK hT hr_o0 shc_91 rfl 3 (by decide) (ht_at2 hts 7 rfl) (fun _ h9 => h9) m73 dX8_copyFrom_51 ?_
  refine lv_iconst (v := 0) hx hb dX8_copyFrom_54 (by decide) ?_
  refine lv_bipush (v := 20) hx hb dX8_copyFrom_55 (by decide) ?_
  refine tw_copyE (ty := .int) hx hb (hml.trans hl.1.symm) hown (ht_at2 hts 1 rfl) (ht_at2 hts 2 rfl) (ht_at2 hts 3 rfl) (ht_at2 hts 4 rfl) hK hT hG hS hr_ssm hr_dsm shc_22 shc_74 rfl rfl (by decide) (by decide) (by decide) (by decide) (by decide) (by decide) (by decide) (fun _ _ h9 => by obtain ⟨x9, e9, _⟩ := h9; exact ⟨x9, e9, rfl⟩) (fun _ _ _ h9 => h9) (Nat.le_of_ble_eq_true rfl) (Nat.le_of_ble_eq_true rfl) dX8_copyFrom_57 (fun H locs hT oq ce103 hS => ?_)
  have hF := hF.ast hr_dsm skc_74 oq (by decide)
  have m104 : ct H dsm 20 sVM := fun i9 hi9 => (ce103 i9 (by have q8 : (20 : Int32).toNatClampNeg = 20 := (by decide); omega)).trans (m96 i9 hi9)
  have m109 := (el_kept (oq _ (gne hr_o0 hr_dsm (by decide)))).trans m74
  have m110 := (el_kept (oq _ (gne hr_dwi hr_dsm (by decide)))).trans m75
  have m111 := (el_kept (oq _ (gne hr_dwi hr_dsm (by decide)))).trans m76
  have m112 := (el_kept (oq _ (gne hr_o0 hr_dsm (by decide)))).trans m77
  have m113 := (el_kept (oq _ (gne hr_dra hr_dsm (by decide)))).trans m78
  have m114 := (el_kept (oq _ (gne hr_dra hr_dsm (by decide)))).trans m79
  have m119 := (el_kept (oq _ (gne hr_p0 hr_dsm (by decide)))).trans m84
  have m120 := (el_kept (oq _ (gne hr_p0 hr_dsm (by decide)))).trans m85
  have m121 := (el_kept (oq _ (gne hr_swi hr_dsm (by decide)))).trans m86
  have m122 := (el_kept (oq _ (gne hr_swi hr_dsm (by decide)))).trans m87
  have m123 := (el_kept (oq _ (gne hr_swi hr_dsm (by decide)))).trans m88
  have m124 := (el_kept (oq _ (gne hr_p0 hr_dsm (by decide)))).trans m89
  have m125 := (el_kept (oq _ (gne hr_sra hr_dsm (by decide)))).trans m90
  have m126 := (el_kept (oq _ (gne hr_sra hr_dsm (by decide)))).trans m91
  have m127 := (el_kept (oq _ (gne hr_sra hr_dsm (by decide)))).trans m92
  have m132 := m97.kept (oq _ (gne hr_swh hr_dsm (by decide)))
  have m133 := m98.kept (oq _ (gne hr_swn hr_dsm (by decide)))
  have m134 := m99.kept (oq _ (gne hr_srh hr_dsm (by decide)))
  have m135 := m100.kept (oq _ (gne hr_srn hr_dsm (by decide)))
  have m136 := m101.kept (oq _ (gne hr_dti hr_dsm (by decide)))
  have m137 := m102.kept (oq _ (gne hr_dsf hr_dsm (by decide)))
  have m138 := m69.kept (oq _ (gne hr_dso hr_dsm (by decide)))
  refine lv_aload_n hx hb dX8_copyFrom_60 rfl (lv_at hl 0 rfl) ?_
  refine tw_getM (v := .ref dwi) hx hb hts bF2_X8 hown hK hT hr_o0 shc_91 rfl 4 (by decide) (ht_at2 hts 8 rfl) (fun _ h9 => h9) m109 dX8_copyFrom_61 ?_
  refine lv_aload_n hx hb dX8_copyFrom_64 rfl (lv_at hl 1 rfl) ?_
  refine tw_getM (v := .ref swi) hx hb hts bF2_X8 hown hK hT hr_p0 shc_11 rfl 4 (by decide) (ht_at2 hts 8 rfl) (fun _ h9 => h9) m120 dX8_copyFrom_65 ?_
  have hFc := gA_free hG hA hS
  refine va_callv (va_runV (As := [.ref swi]) (rest := []) ⟨hx, hb, hml, hown, hts⟩ (c_cpW9_iY l dC dI kA adK adV G H nC nS dwi swi dwh dwn swh swn snw sVH sVN hT hr_dwi hr_swi m110 hr_dwh m111 hr_dwn m121 hr_swh m122 hr_swn m123 (by have q8 := ti_all snw; omega) m132 m133 (by omega) (by omega)) (cwV 1 hts (goodIn_app (goodIn_r _ [15, 16, 17, 18] rfl (by decide +kernel)) (goodIn_ca (goodIn_r _ [10, 11, 12, 3, 4, 5, 13, 14] rfl (by decide +kernel)) (bs2_in _ _))) rfl rfl rfl (by decide +kernel) ⟨(Nat.le_of_ble_eq_true rfl), (Nat.le_of_ble_eq_true rfl)⟩) ⟨fun a U g mk q => by obtain ⟨q0, q1, qK, qE⟩ := q; exact ⟨q0, q1, va_K.moved (u := U) (U := U.calling g mk a) (Vm.Alike.refl U.vm) qK, EVC.blind g mk a qE⟩, gH_rc hK hT hr_dwi shc_133 rfl, fun U hU hW => ⟨rfl, hU, va_K.moved hW.alike hK, hE.call hS hFc hU hW⟩⟩ rfl rfl hl.1 rfl (lv_room (Nat.le_of_ble_eq_true rfl)) dX8_copyFrom_68 ⟨(Nat.le_of_ble_eq_true rfl), (Nat.le_of_ble_eq_true rfl)⟩) hS (fun q _ h => hFc q h) hFc (fun u t H locs ht hvm hw140 hB _ _ hS => ?_)
  obtain ⟨u141, rfl⟩ : ∃ z, z = u := ⟨_, rfl⟩
  obtain ⟨hT, hF1, m142, m143, m144⟩ := hB
  rw [ht] at hT hF1 m142 m143 m144
  have m152 := (hF1.fld hr_o0 skc_91 (k := 5) (by decide) (by decide)).trans m112
  have m153 := (hF1.fld hr_dra skc_92 (k := 0) (by decide) (by decide)).trans m113
  have m154 := (hF1.fld hr_dra skc_92 (k := 1) (by decide) (by decide)).trans m114
  have m159 := (hF1.fld hr_p0 skc_11 (k := 6) (by decide) (by decide)).trans m119
  have m164 := (hF1.fld hr_p0 skc_11 (k := 5) (by decide) (by decide)).trans m124
  have m165 := (hF1.fld hr_sra skc_12 (k := 0) (by decide) (by decide)).trans m125
  have m166 := (hF1.fld hr_sra skc_12 (k := 1) (by decide) (by decide)).trans m126
  have m167 := (hF1.fld hr_sra skc_12 (k := 2) (by decide) (by decide)).trans m127
  have m174 := m134.kept (hF1.arr hr_srh skc_23 (by decide))
  have m175 := m135.kept (hF1.arr hr_srn skc_24 (by decide))
  have m176 := m136.kept (hF1.arr hr_dti skc_71 (by decide))
  have m177 := m137.kept (hF1.arr hr_dsf skc_72 (by decide))
  have m178 := m138.kept (hF1.arr hr_dso skc_73 (by decide))
  have m179 := m104.kept (hF1.arr hr_dsm skc_74 (by decide))
  have hF := hF.more hF1 (by decide)
  try dsimp only at hw140
  have hf180 := hw140
  refine lv_aload_n hx hb dX8_copyFrom_71 rfl (lv_at hl 0 rfl) ?_
  refine tw_getM (v := .ref dra) hx hb hts bF2_X8 hown hK hT hr_o0 shc_91 rfl 5 (by decide) (ht_at2 hts 18 rfl) (fun _ h9 => h9) m152 dX8_copyFrom_72 ?_
  refine lv_aload_n hx hb dX8_copyFrom_75 rfl (lv_at hl 1 rfl) ?_
  refine tw_getM (v := .ref sra) hx hb hts bF2_X8 hown hK hT hr_p0 shc_11 rfl 5 (by decide) (ht_at2 hts 18 rfl) (fun _ h9 => h9) m164 dX8_copyFrom_76 ?_
  have hFc := gA_free hG hA hS
  refine va_callv (va_runV (As := [.ref sra]) (rest := []) ⟨hx, hb, hml, hown, hts⟩ (c_cpX9_iY l dC dI kA adK adV G H nC nS dra sra drh drn srh srn snr sVR sVQ hT hr_dra hr_sra m153 hr_drh m154 hr_drn m165 hr_srh m166 hr_srn m167 (by have q8 := ti_all snr; omega) m174 m175 (by omega) (by omega)) (cwV 1 hts (goodIn_app (goodIn_r _ [15, 16, 17, 18] rfl (by decide +kernel)) (goodIn_ca (goodIn_r _ [10, 11, 12, 3, 4, 5, 13, 14] rfl (by decide +kernel)) (bs2_in _ _))) rfl rfl rfl (by decide +kernel) ⟨(Nat.le_of_ble_eq_true rfl), (Nat.le_of_ble_eq_true rfl)⟩) ⟨fun a U g mk q => by obtain ⟨q0, q1, qK, qE⟩ := q; exact ⟨q0, q1, va_K.moved (u := U) (U := U.calling g mk a) (Vm.Alike.refl U.vm) qK, EVC.blind g mk a qE⟩, gH_rc hK hT hr_dra shc_92 rfl, fun U hU hW => ⟨rfl, hU, va_K.moved hW.alike hK, hE.call hS hFc hU hW⟩⟩ rfl rfl hl.1 rfl (lv_room (Nat.le_of_ble_eq_true rfl)) dX8_copyFrom_79 ⟨(Nat.le_of_ble_eq_true rfl), (Nat.le_of_ble_eq_true rfl)⟩) hS (fun q _ h => hFc q h) hFc (fun u t H locs ht hvm hw182 hB _ _ hS => ?_)
  obtain ⟨u183, rfl⟩ : ∃ z, z = u := ⟨_, rfl⟩
  obtain ⟨hT, hF1, m184, m185, m186⟩ := hB
  rw [ht] at hT hF1 m184 m185 m186
  have m201 := (hF1.fld hr_p0 skc_11 (k := 6) (by decide) (by decide)).trans m159
  have m218 := m176.kept (hF1.arr hr_dti skc_71 (by decide))
  have m219 := m177.kept (hF1.arr hr_dsf skc_72 (by decide))
  have m220 := m178.kept (hF1.arr hr_dso skc_73 (by decide))
  have m221 := m179.kept (hF1.arr hr_dsm skc_74 (by decide))
  have m222 := (hF1.fld hr_dwi skc_133 (k := 2) (by decide) (by decide)).trans m142
  have m223 := m143.kept (hF1.arr hr_dwh skc_134 (by decide))
  have m224 := m144.kept (hF1.arr hr_dwn skc_135 (by decide))
  have hF := hF.more hF1 (by decide)
  try dsimp only at hw182
  have hf225 := hw182
  refine lv_aload_n hx hb dX8_copyFrom_82 rfl (lv_at hl 0 rfl) ?_
  refine lv_aload_n hx hb dX8_copyFrom_83 rfl (lv_at hl 1 rfl) ?_
  refine tw_getM (v := .int sns) hx hb hts bF2_X8 hown hK hT hr_p0 shc_11 rfl 6 (by decide) (ht_at2 hts 19 rfl) (fun _ h9 => h9) m201 dX8_copyFrom_84 ?_
  refine tw_put (v := .int sns) (ty := .int) hx hb hts bF2_X8 tyX8 tyX8_ok nmX8 hown hK hT hG hS hr_o0 shc_91 rfl 6 (by decide) (ht_at2 hts 19 rfl) (fun _ h9 => h9) rfl (by decide +kernel) rfl rfl (gl_at rfl (gi_of (show sns.toInt = sns.toInt from rfl) (by omega) (by omega))) dX8_copyFrom_87 (fun H locs hT oq m226 oj hS => ?_)
  have hF := hF.put hr_o0 skc_91 oq oj (by decide)
  have m258 := m218.kept (oq _ (gne hr_dti hr_o0 (by decide)))
  have m259 := m219.kept (oq _ (gne hr_dsf hr_o0 (by decide)))
  have m260 := m220.kept (oq _ (gne hr_dso hr_o0 (by decide)))
  have m261 := m221.kept (oq _ (gne hr_dsm hr_o0 (by decide)))
  have m262 := (el_kept (oq _ (gne hr_dwi hr_o0 (by decide)))).trans m222
  have m263 := m223.kept (oq _ (gne hr_dwh hr_o0 (by decide)))
  have m264 := m224.kept (oq _ (gne hr_dwn hr_o0 (by decide)))
  have m265 := (el_kept (oq _ (gne hr_dra hr_o0 (by decide)))).trans m184
  have m266 := m185.kept (oq _ (gne hr_drh hr_o0 (by decide)))
  have m267 := m186.kept (oq _ (gne hr_drn hr_o0 (by decide)))
  exact W.vret hx hb hr (fun t ht hW => ⟨⟨(sns, u141, u183), rfl, (by exact (by omega)), by (try dsimp only); rw [ht]; exact ⟨hT, hF, m226, m262, m265, m258, m259, m260, m261, m263, m264, m266, m267⟩⟩, hS.F ht⟩) hS.2.2 dX8_copyFrom_90
def w_c_cpX8_lY : List Cond := .code yX8_copyFrom cX8_copyFrom 2 none :: (HAppend.hAppend (α := List Cond) (β := List Cond) (γ := List Cond) [.fieldLink RX8 9 "SeaLand$Sky" "tides" "[I", .methodLink RX8 63 arraycopyName, .native arraycopyName, .static arraycopyName, .initialized "java/lang/System", .fieldLink RX8 15 "SeaLand$Sky" "stormFrom" "[I", .fieldLink RX8 18 "SeaLand$Sky" "stormTo" "[I", .fieldLink RX8 21 "SeaLand$Sky" "stormMore" "[I", .fieldLink RX8 27 "SeaLand$Sky" "wind" "LSeaLand$Tellings;", .code yX9_copyFrom cX9_copyFrom 2 none, .fieldLink RX9 9 "SeaLand$Tellings" "hours" "[I", .methodLink RX9 23 arraycopyName, .fieldLink RX9 15 "SeaLand$Tellings" "numbers" "[I", .fieldLink RX9 18 "SeaLand$Tellings" "told" "I", .methodLink RX8 69 yX9_copyFrom, .instanceMethod yX9_copyFrom, .selects RX9 yX9_copyFrom yX9_copyFrom, .initialized RX9, .fieldLink RX8 31 "SeaLand$Sky" "rain" "LSeaLand$Tellings;", .fieldLink RX8 34 "SeaLand$Sky" "storms" "I"] bs2)
set_option maxHeartbeats 4000000 in
set_option maxRecDepth 100000 in
theorem c_cpX8_lY (l : Launch) (dC : Nat → ClassId) (dI : Nat → Nat → Nat) (kA : Nat → ClassId) (adK adV : Nat → Nat) (G : gT) (H0 : Heap) (nC nS : Int) (o0 : Nat) (p0 : Nat) (dti : Nat) (dsf : Nat) (dso : Nat) (dsm : Nat) (dwi : Nat) (dwh : Nat) (dwn : Nat) (dra : Nat) (drh : Nat) (drn : Nat) (sti : Nat) (ssf : Nat) (sso : Nat) (ssm : Nat) (sns : Int32) (swi : Nat) (swh : Nat) (swn : Nat) (snw : Int32) (sra : Nat) (srh : Nat) (srn : Nat) (snr : Int32) (sVT : Nat → Int32) (sVF : Nat → Int32) (sVO : Nat → Int32) (sVM : Nat → Int32) (sVH : Nat → Int32) (sVN : Nat → Int32) (sVR : Nat → Int32) (sVQ : Nat → Int32)  (hT : gH (dC, dI) kA (SHc nC nS) G H0) (hr_o0 : G o0 = some 11) (hr_p0 : G p0 = some 91) (hm_dti : el H0 o0 (dI 11 0) = some (.ref dti)) (hr_dti : G dti = some 19) (hm_dsf : el H0 o0 (dI 11 1) = some (.ref dsf)) (hr_dsf : G dsf = some 20) (hm_dso : el H0 o0 (dI 11 2) = some (.ref dso)) (hr_dso : G dso = some 21) (hm_dsm : el H0 o0 (dI 11 3) = some (.ref dsm)) (hr_dsm : G dsm = some 22) (hm_dwi : el H0 o0 (dI 11 4) = some (.ref dwi)) (hr_dwi : G dwi = some 130) (hm_dwh : el H0 dwi (dI 12 0) = some (.ref dwh)) (hr_dwh : G dwh = some 131) (hm_dwn : el H0 dwi (dI 12 1) = some (.ref dwn)) (hr_dwn : G dwn = some 132) (hm_dra : el H0 o0 (dI 11 5) = some (.ref dra)) (hr_dra : G dra = some 12) (hm_drh : el H0 dra (dI 12 0) = some (.ref drh)) (hr_drh : G drh = some 23) (hm_drn : el H0 dra (dI 12 1) = some (.ref drn)) (hr_drn : G drn = some 24) (hm_sti : el H0 p0 (dI 11 0) = some (.ref sti)) (hr_sti : G sti = some 71) (hm_ssf : el H0 p0 (dI 11 1) = some (.ref ssf)) (hr_ssf : G ssf = some 72) (hm_sso : el H0 p0 (dI 11 2) = some (.ref sso)) (hr_sso : G sso = some 73) (hm_ssm : el H0 p0 (dI 11 3) = some (.ref ssm)) (hr_ssm : G ssm = some 74) (hm_sns : el H0 p0 (dI 11 6) = some (.int sns)) (hm_swi : el H0 p0 (dI 11 4) = some (.ref swi)) (hr_swi : G swi = some 133) (hm_swh : el H0 swi (dI 12 0) = some (.ref swh)) (hr_swh : G swh = some 134) (hm_swn : el H0 swi (dI 12 1) = some (.ref swn)) (hr_swn : G swn = some 135) (hm_snw : el H0 swi (dI 12 2) = some (.int snw)) (hm_sra : el H0 p0 (dI 11 5) = some (.ref sra)) (hr_sra : G sra = some 92) (hm_srh : el H0 sra (dI 12 0) = some (.ref srh)) (hr_srh : G srh = some 75) (hm_srn : el H0 sra (dI 12 1) = some (.ref srn)) (hr_srn : G srn = some 76) (hm_snr : el H0 sra (dI 12 2) = some (.int snr)) (hq0 : 0 ≤ sns.toInt ∧ sns.toInt ≤ 20) (hq1 : 0 ≤ snw.toInt ∧ snw.toInt ≤ 60) (hq2 : 0 ≤ snr.toInt ∧ snr.toInt ≤ 60) (hc_sVT : ct H0 sti 12 sVT) (hc_sVF : ct H0 ssf 20 sVF) (hc_sVO : ct H0 sso 20 sVO) (hc_sVM : ct H0 ssm 20 sVM) (hc_sVH : ct H0 swh 60 sVH) (hc_sVN : ct H0 swn 60 sVN) (hc_sVR : ct H0 srh 60 sVR) (hc_sVQ : ct H0 srn 60 sVQ) (hgC : 0 ≤ nC ∧ nC ≤ 40) (hgS : 0 ≤ nS ∧ nS ≤ 60) : Met l yX8_copyFrom w_c_cpX8_lY ({ frames := 3, cells := 0, slots := 0, locals := 81 }) (va_Pc [.ref o0, .ref p0] (fun U => U.heap = H0 ∧ va_K (dC, dI) vwCl (tyl kA) U ∧ EVC adK adV (gA G H0.size) U U.heap)) (va_Qv (fun (u : Int32 × Int32 × Int32) => match u with | (dns, dnw, dnr) => (dns.toInt = sns.toInt ∧ dnw.toInt = snw.toInt ∧ dnr.toInt = snr.toInt)) (fun (u : Int32 × Int32 × Int32) (t : State) => match u with | (dns, dnw, dnr) => gH (dC, dI) kA (SHc nC nS) G t.heap ∧ gF (dC, dI) SKc G ([(11, 6), (12, 2), (19, 0), (20, 0), (21, 0), (22, 0), (23, 0), (24, 0), (130, 2), (131, 0), (132, 0)] : List (Nat × Nat)) H0 t.heap ∧ el t.heap o0 (dI 11 6) = some (.int dns) ∧ el t.heap dwi (dI 12 2) = some (.int dnw) ∧ el t.heap dra (dI 12 2) = some (.int dnr) ∧ ct t.heap dti 12 sVT ∧ ct t.heap dsf 20 sVF ∧ ct t.heap dso 20 sVO ∧ ct t.heap dsm 20 sVM ∧ ct t.heap dwh 60 sVH ∧ ct t.heap dwn 60 sVN ∧ ct t.heap drh 60 sVR ∧ ct t.heap drn 60 sVQ) (gA G H0.size)) 0 0 (gA G H0.size) := by
  refine Met.ofW (cc := cX8_copyFrom) (maxL := 2) (ret := none) (by decide) rfl ?_
  intro p e s m args below meth c s₁ B hml hv
  obtain ⟨rfl, hH0, hK, hE⟩ := hv
  have hx := B.exec
  have hb := B.bytes
  have hr := B.returns
  have hts := atoms_spec (ws := w_c_cpX8_lY) B.pre
  have hown : s.vm.findClass RX8 = some m.cls := findClass_of_methodNamed B.named
  have hlocks := B.notSynchronized
  subst hH0
  generalize hAe : gA G s.heap.size = A at hE ⊢
  have hA : ∀ q : Nat, s.heap.size ≤ q → A q := fun q h => by rw [← hAe]; exact Or.inr h
  have hG := gA_of hAe
  have hS : va_S A s.heap s.heap [] := va_S.rf
  have hF : gF (dC, dI) SKc G ([(11, 6), (12, 2), (19, 0), (20, 0), (21, 0), (22, 0), (23, 0), (24, 0), (130, 2), (131, 0), (132, 0)] : List (Nat × Nat)) s.heap s.heap := gF.rf
  have hl := lv_entry ([.ref o0, .ref p0]) (n := 2) (Nat.le_of_ble_eq_true rfl)
  rw [lg_entry_eq]
  generalize (lg_sl ([.ref o0, .ref p0]) ++ List.replicate (2 - (lg_sl ([.ref o0, .ref p0])).length) Slot.unset).toArray = ls at hl ⊢
  have hl : lv_has ls 2 [(0, .ref o0), (1, .ref p0)] := hl
  refine lv_aload_n hx hb dX8_copyFrom_0 rfl (lv_at hl 1 rfl) ?_
  refine tw_getM (v := .ref sti) hx hb hts bF2_X8 hown hK hT hr_p0 shc_91 rfl 0 (by decide) (ht_at2 hts 0 rfl) (fun _ h9 => h9) hm_sti dX8_copyFrom_1 ?_
  refine lv_iconst (v := 0) hx hb dX8_copyFrom_4 (by decide) ?_
  refine lv_aload_n hx hb dX8_copyFrom_5 rfl (lv_at hl 0 rfl) ?_
  refine tw_getM (v := .ref dti) hx hb hts bF2_X8 hown hK hT hr_o0 shc_11 rfl 0 (by decide) (ht_at2 hts 0 rfl) (fun _ h9 => h9) hm_dti dX8_copyFrom_6 ?_
  refine lv_iconst (v := 0) hx hb dX8_copyFrom_9 (by decide) ?_
  refine lv_bipush (v := 12) hx hb dX8_copyFrom_10 (by decide) ?_
  refine tw_copyE (ty := .int) hx hb (hml.trans hl.1.symm) hown (ht_at2 hts 1 rfl) (ht_at2 hts 2 rfl) (ht_at2 hts 3 rfl) (ht_at2 hts 4 rfl) hK hT hG hS hr_sti hr_dti shc_71 shc_19 rfl rfl (by decide) (by decide) (by decide) (by decide) (by decide) (by decide) (by decide) (fun _ _ h9 => by obtain ⟨x9, e9, _⟩ := h9; exact ⟨x9, e9, rfl⟩) (fun _ _ _ h9 => h9) (Nat.le_of_ble_eq_true rfl) (Nat.le_of_ble_eq_true rfl) dX8_copyFrom_12 (fun H locs hT oq ce1 hS => ?_)
  have hF := hF.ast hr_dti skc_19 oq (by decide)
  have m2 : ct H dti 12 sVT := fun i9 hi9 => (ce1 i9 (by have q8 : (12 : Int32).toNatClampNeg = 12 := (by decide); omega)).trans (hc_sVT i9 hi9)
  have m4 := (el_kept (oq _ (gne hr_o0 hr_dti (by decide)))).trans hm_dsf
  have m5 := (el_kept (oq _ (gne hr_o0 hr_dti (by decide)))).trans hm_dso
  have m6 := (el_kept (oq _ (gne hr_o0 hr_dti (by decide)))).trans hm_dsm
  have m7 := (el_kept (oq _ (gne hr_o0 hr_dti (by decide)))).trans hm_dwi
  have m8 := (el_kept (oq _ (gne hr_dwi hr_dti (by decide)))).trans hm_dwh
  have m9 := (el_kept (oq _ (gne hr_dwi hr_dti (by decide)))).trans hm_dwn
  have m10 := (el_kept (oq _ (gne hr_o0 hr_dti (by decide)))).trans hm_dra
  have m11 := (el_kept (oq _ (gne hr_dra hr_dti (by decide)))).trans hm_drh
  have m12 := (el_kept (oq _ (gne hr_dra hr_dti (by decide)))).trans hm_drn
  have m14 := (el_kept (oq _ (gne hr_p0 hr_dti (by decide)))).trans hm_ssf
  have m15 := (el_kept (oq _ (gne hr_p0 hr_dti (by decide)))).trans hm_sso
  have m16 := (el_kept (oq _ (gne hr_p0 hr_dti (by decide)))).trans hm_ssm
  have m17 := (el_kept (oq _ (gne hr_p0 hr_dti (by decide)))).trans hm_sns
  have m18 := (el_kept (oq _ (gne hr_p0 hr_dti (by decide)))).trans hm_swi
  have m19 := (el_kept (oq _ (gne hr_swi hr_dti (by decide)))).trans hm_swh
  have m20 := (el_kept (oq _ (gne hr_swi hr_dti (by decide)))).trans hm_swn
  have m21 := (el_kept (oq _ (gne hr_swi hr_dti (by decide)))).trans hm_snw
  have m22 := (el_kept (oq _ (gne hr_p0 hr_dti (by decide)))).trans hm_sra
  have m23 := (el_kept (oq _ (gne hr_sra hr_dti (by decide)))).trans hm_srh
  have m24 := (el_kept (oq _ (gne hr_sra hr_dti (by decide)))).trans hm_srn
  have m25 := (el_kept (oq _ (gne hr_sra hr_dti (by decide)))).trans hm_snr
  have m27 := hc_sVF.kept (oq _ (gne hr_ssf hr_dti (by decide)))
  have m28 := hc_sVO.kept (oq _ (gne hr_sso hr_dti (by decide)))
  have m29 := hc_sVM.kept (oq _ (gne hr_ssm hr_dti (by decide)))
  have m30 := hc_sVH.kept (oq _ (gne hr_swh hr_dti (by decide)))
  have m31 := hc_sVN.kept (oq _ (gne hr_swn hr_dti (by decide)))
  have m32 := hc_sVR.kept (oq _ (gne hr_srh hr_dti (by decide)))
  have m33 := hc_sVQ.kept (oq _ (gne hr_srn hr_dti (by decide)))
  refine lv_aload_n hx hb dX8_copyFrom_15 rfl (lv_at hl 1 rfl) ?_
  refine tw_getM (v := .ref ssf) hx hb hts bF2_X8 hown hK hT hr_p0 shc_91 rfl 1 (by decide) (ht_at2 hts 5 rfl) (fun _ h9 => h9) m14 dX8_copyFrom_16 ?_
  refine lv_iconst (v := 0) hx hb dX8_copyFrom_19 (by decide) ?_
  refine lv_aload_n hx hb dX8_copyFrom_20 rfl (lv_at hl 0 rfl) ?_
  refine tw_getM (v := .ref dsf) hx hb hts bF2_X8 hown hK hT hr_o0 shc_11 rfl 1 (by decide) (ht_at2 hts 5 rfl) (fun _ h9 => h9) m4 dX8_copyFrom_21 ?_
  refine lv_iconst (v := 0) hx hb dX8_copyFrom_24 (by decide) ?_
  refine lv_bipush (v := 20) hx hb dX8_copyFrom_25 (by decide) ?_
  refine tw_copyE (ty := .int) hx hb (hml.trans hl.1.symm) hown (ht_at2 hts 1 rfl) (ht_at2 hts 2 rfl) (ht_at2 hts 3 rfl) (ht_at2 hts 4 rfl) hK hT hG hS hr_ssf hr_dsf shc_72 shc_20 rfl rfl (by decide) (by decide) (by decide) (by decide) (by decide) (by decide) (by decide) (fun _ _ h9 => by obtain ⟨x9, e9, _⟩ := h9; exact ⟨x9, e9, rfl⟩) (fun _ _ _ h9 => h9) (Nat.le_of_ble_eq_true rfl) (Nat.le_of_ble_eq_true rfl) dX8_copyFrom_27 (fun H locs hT oq ce34 hS => ?_)
  have hF := hF.ast hr_dsf skc_20 oq (by decide)
  have m35 : ct H dsf 20 sVF := fun i9 hi9 => (ce34 i9 (by have q8 : (20 : Int32).toNatClampNeg = 20 := (by decide); omega)).trans (m27 i9 hi9)
  have m38 := (el_kept (oq _ (gne hr_o0 hr_dsf (by decide)))).trans m5
  have m39 := (el_kept (oq _ (gne hr_o0 hr_dsf (by decide)))).trans m6
  have m40 := (el_kept (oq _ (gne hr_o0 hr_dsf (by decide)))).trans m7
  have m41 := (el_kept (oq _ (gne hr_dwi hr_dsf (by decide)))).trans m8
  have m42 := (el_kept (oq _ (gne hr_dwi hr_dsf (by decide)))).trans m9
  have m43 := (el_kept (oq _ (gne hr_o0 hr_dsf (by decide)))).trans m10
  have m44 := (el_kept (oq _ (gne hr_dra hr_dsf (by decide)))).trans m11
  have m45 := (el_kept (oq _ (gne hr_dra hr_dsf (by decide)))).trans m12
  have m48 := (el_kept (oq _ (gne hr_p0 hr_dsf (by decide)))).trans m15
  have m49 := (el_kept (oq _ (gne hr_p0 hr_dsf (by decide)))).trans m16
  have m50 := (el_kept (oq _ (gne hr_p0 hr_dsf (by decide)))).trans m17
  have m51 := (el_kept (oq _ (gne hr_p0 hr_dsf (by decide)))).trans m18
  have m52 := (el_kept (oq _ (gne hr_swi hr_dsf (by decide)))).trans m19
  have m53 := (el_kept (oq _ (gne hr_swi hr_dsf (by decide)))).trans m20
  have m54 := (el_kept (oq _ (gne hr_swi hr_dsf (by decide)))).trans m21
  have m55 := (el_kept (oq _ (gne hr_p0 hr_dsf (by decide)))).trans m22
  have m56 := (el_kept (oq _ (gne hr_sra hr_dsf (by decide)))).trans m23
  have m57 := (el_kept (oq _ (gne hr_sra hr_dsf (by decide)))).trans m24
  have m58 := (el_kept (oq _ (gne hr_sra hr_dsf (by decide)))).trans m25
  have m61 := m28.kept (oq _ (gne hr_sso hr_dsf (by decide)))
  have m62 := m29.kept (oq _ (gne hr_ssm hr_dsf (by decide)))
  have m63 := m30.kept (oq _ (gne hr_swh hr_dsf (by decide)))
  have m64 := m31.kept (oq _ (gne hr_swn hr_dsf (by decide)))
  have m65 := m32.kept (oq _ (gne hr_srh hr_dsf (by decide)))
  have m66 := m33.kept (oq _ (gne hr_srn hr_dsf (by decide)))
  have m67 := m2.kept (oq _ (gne hr_dti hr_dsf (by decide)))
  refine lv_aload_n hx hb dX8_copyFrom_30 rfl (lv_at hl 1 rfl) ?_
  refine tw_getM (v := .ref sso) hx hb hts bF2_X8 hown hK hT hr_p0 shc_91 rfl 2 (by decide) (ht_at2 hts 6 rfl) (fun _ h9 => h9) m48 dX8_copyFrom_31 ?_
  refine lv_iconst (v := 0) hx hb dX8_copyFrom_34 (by decide) ?_
  refine lv_aload_n hx hb dX8_copyFrom_35 rfl (lv_at hl 0 rfl) ?_
  refine tw_getM (v := .ref dso) hx hb hts bF2_X8 hown hK hT hr_o0 shc_11 rfl 2 (by decide) (ht_at2 hts 6 rfl) (fun _ h9 => h9) m38 dX8_copyFrom_36 ?_
  refine lv_iconst (v := 0) hx hb dX8_copyFrom_39 (by decide) ?_
  refine lv_bipush (v := 20) hx hb dX8_copyFrom_40 (by decide) ?_
  refine tw_copyE (ty := .int) hx hb (hml.trans hl.1.symm) hown (ht_at2 hts 1 rfl) (ht_at2 hts 2 rfl) (ht_at2 hts 3 rfl) (ht_at2 hts 4 rfl) hK hT hG hS hr_sso hr_dso shc_73 shc_21 rfl rfl (by decide) (by decide) (by decide) (by decide) (by decide) (by decide) (by decide) (fun _ _ h9 => by obtain ⟨x9, e9, _⟩ := h9; exact ⟨x9, e9, rfl⟩) (fun _ _ _ h9 => h9) (Nat.le_of_ble_eq_true rfl) (Nat.le_of_ble_eq_true rfl) dX8_copyFrom_42 (fun H locs hT oq ce68 hS => ?_)
  have hF := hF.ast hr_dso skc_21 oq (by decide)
  have m69 : ct H dso 20 sVO := fun i9 hi9 => (ce68 i9 (by have q8 : (20 : Int32).toNatClampNeg = 20 := (by decide); omega)).trans (m61 i9 hi9)
  have m73 := (el_kept (oq _ (gne hr_o0 hr_dso (by decide)))).trans m39
  have m74 := (el_kept (oq _ (gne hr_o0 hr_dso (by decide)))).trans m40
  have m75 := (el_kept (oq _ (gne hr_dwi hr_dso (by decide)))).trans m41
  have m76 := (el_kept (oq _ (gne hr_dwi hr_dso (by decide)))).trans m42
  have m77 := (el_kept (oq _ (gne hr_o0 hr_dso (by decide)))).trans m43
  have m78 := (el_kept (oq _ (gne hr_dra hr_dso (by decide)))).trans m44
  have m79 := (el_kept (oq _ (gne hr_dra hr_dso (by decide)))).trans m45
  have m83 := (el_kept (oq _ (gne hr_p0 hr_dso (by decide)))).trans m49
  have m84 := (el_kept (oq _ (gne hr_p0 hr_dso (by decide)))).trans m50
  have m85 := (el_kept (oq _ (gne hr_p0 hr_dso (by decide)))).trans m51
  have m86 := (el_kept (oq _ (gne hr_swi hr_dso (by decide)))).trans m52
  have m87 := (el_kept (oq _ (gne hr_swi hr_dso (by decide)))).trans m53
  have m88 := (el_kept (oq _ (gne hr_swi hr_dso (by decide)))).trans m54
  have m89 := (el_kept (oq _ (gne hr_p0 hr_dso (by decide)))).trans m55
  have m90 := (el_kept (oq _ (gne hr_sra hr_dso (by decide)))).trans m56
  have m91 := (el_kept (oq _ (gne hr_sra hr_dso (by decide)))).trans m57
  have m92 := (el_kept (oq _ (gne hr_sra hr_dso (by decide)))).trans m58
  have m96 := m62.kept (oq _ (gne hr_ssm hr_dso (by decide)))
  have m97 := m63.kept (oq _ (gne hr_swh hr_dso (by decide)))
  have m98 := m64.kept (oq _ (gne hr_swn hr_dso (by decide)))
  have m99 := m65.kept (oq _ (gne hr_srh hr_dso (by decide)))
  have m100 := m66.kept (oq _ (gne hr_srn hr_dso (by decide)))
  have m101 := m67.kept (oq _ (gne hr_dti hr_dso (by decide)))
  have m102 := m35.kept (oq _ (gne hr_dsf hr_dso (by decide)))
  refine lv_aload_n hx hb dX8_copyFrom_45 rfl (lv_at hl 1 rfl) ?_
  refine tw_getM (v := .ref ssm) hx hb hts bF2_X8 hown hK hT hr_p0 shc_91 rfl 3 (by decide) (ht_at2 hts 7 rfl) (fun _ h9 => h9) m83 dX8_copyFrom_46 ?_
  refine lv_iconst (v := 0) hx hb dX8_copyFrom_49 (by decide) ?_
  refine lv_aload_n hx hb dX8_copyFrom_50 rfl (lv_at hl 0 rfl) ?_
  refine tw_getM (v := .ref dsm) hx hb hts bF2_X8 hown hK hT hr_o0 shc_11 rfl 3 (by decide) (ht_at2 hts 7 rfl) (fun _ h9 => h9) m73 dX8_copyFrom_51 ?_
  refine lv_iconst (v := 0) hx hb dX8_copyFrom_54 (by decide) ?_
  refine lv_bipush (v := 20) hx hb dX8_copyFrom_55 (by decide) ?_
  refine tw_copyE (ty := .int) hx hb (hml.trans hl.1.symm) hown (ht_at2 hts 1 rfl) (ht_at2 hts 2 rfl) (ht_at2 hts 3 rfl) (ht_at2 hts 4 rfl) hK hT hG hS hr_ssm hr_dsm shc_74 shc_22 rfl rfl (by decide) (by decide) (by decide) (by decide) (by decide) (by decide) (by decide) (fun _ _ h9 => by obtain ⟨x9, e9, _⟩ := h9; exact ⟨x9, e9, rfl⟩) (fun _ _ _ h9 => h9) (Nat.le_of_ble_eq_true rfl) (Nat.le_of_ble_eq_true rfl) dX8_copyFrom_57 (fun H locs hT oq ce103 hS => ?_)
  have hF := hF.ast hr_dsm skc_22 oq (by decide)
  have m104 : ct H dsm 20 sVM := fun i9 hi9 => (ce103 i9 (by have q8 : (20 : Int32).toNatClampNeg = 20 := (by decide); omega)).trans (m96 i9 hi9)
  have m109 := (el_kept (oq _ (gne hr_o0 hr_dsm (by decide)))).trans m74
  have m110 := (el_kept (oq _ (gne hr_dwi hr_dsm (by decide)))).trans m75
  have m111 := (el_kept (oq _ (gne hr_dwi hr_dsm (by decide)))).trans m76
  have m112 := (el_kept (oq _ (gne hr_o0 hr_dsm (by decide)))).trans m77
  have m113 := (el_kept (oq _ (gne hr_dra hr_dsm (by decide)))).trans m78
  have m114 := (el_kept (oq _ (gne hr_dra hr_dsm (by decide)))).trans m79
  have m119 := (el_kept (oq _ (gne hr_p0 hr_dsm (by decide)))).trans m84
  have m120 := (el_kept (oq _ (gne hr_p0 hr_dsm (by decide)))).trans m85
  have m121 := (el_kept (oq _ (gne hr_swi hr_dsm (by decide)))).trans m86
  have m122 := (el_kept (oq _ (gne hr_swi hr_dsm (by decide)))).trans m87
  have m123 := (el_kept (oq _ (gne hr_swi hr_dsm (by decide)))).trans m88
  have m124 := (el_kept (oq _ (gne hr_p0 hr_dsm (by decide)))).trans m89
  have m125 := (el_kept (oq _ (gne hr_sra hr_dsm (by decide)))).trans m90
  have m126 := (el_kept (oq _ (gne hr_sra hr_dsm (by decide)))).trans m91
  have m127 := (el_kept (oq _ (gne hr_sra hr_dsm (by decide)))).trans m92
  have m132 := m97.kept (oq _ (gne hr_swh hr_dsm (by decide)))
  have m133 := m98.kept (oq _ (gne hr_swn hr_dsm (by decide)))
  have m134 := m99.kept (oq _ (gne hr_srh hr_dsm (by decide)))
  have m135 := m100.kept (oq _ (gne hr_srn hr_dsm (by decide)))
  have m136 := m101.kept (oq _ (gne hr_dti hr_dsm (by decide)))
  have m137 := m102.kept (oq _ (gne hr_dsf hr_dsm (by decide)))
  have m138 := m69.kept (oq _ (gne hr_dso hr_dsm (by decide)))
  refine lv_aload_n hx hb dX8_copyFrom_60 rfl (lv_at hl 0 rfl) ?_
  refine tw_getM (v := .ref dwi) hx hb hts bF2_X8 hown hK hT hr_o0 shc_11 rfl 4 (by decide) (ht_at2 hts 8 rfl) (fun _ h9 => h9) m109 dX8_copyFrom_61 ?_
  refine lv_aload_n hx hb dX8_copyFrom_64 rfl (lv_at hl 1 rfl) ?_
  refine tw_getM (v := .ref swi) hx hb hts bF2_X8 hown hK hT hr_p0 shc_91 rfl 4 (by decide) (ht_at2 hts 8 rfl) (fun _ h9 => h9) m120 dX8_copyFrom_65 ?_
  have hFc := gA_free hG hA hS
  refine va_callv (va_runV (As := [.ref swi]) (rest := []) ⟨hx, hb, hml, hown, hts⟩ (c_cpW9_lY l dC dI kA adK adV G H nC nS dwi swi dwh dwn swh swn snw sVH sVN hT hr_dwi hr_swi m110 hr_dwh m111 hr_dwn m121 hr_swh m122 hr_swn m123 (by have q8 := ti_all snw; omega) m132 m133 (by omega) (by omega)) (cwV 1 hts (goodIn_app (goodIn_r _ [15, 16, 17, 18] rfl (by decide +kernel)) (goodIn_ca (goodIn_r _ [10, 11, 12, 3, 4, 5, 13, 14] rfl (by decide +kernel)) (bs2_in _ _))) rfl rfl rfl (by decide +kernel) ⟨(Nat.le_of_ble_eq_true rfl), (Nat.le_of_ble_eq_true rfl)⟩) ⟨fun a U g mk q => by obtain ⟨q0, q1, qK, qE⟩ := q; exact ⟨q0, q1, va_K.moved (u := U) (U := U.calling g mk a) (Vm.Alike.refl U.vm) qK, EVC.blind g mk a qE⟩, gH_rc hK hT hr_dwi shc_130 rfl, fun U hU hW => ⟨rfl, hU, va_K.moved hW.alike hK, hE.call hS hFc hU hW⟩⟩ rfl rfl hl.1 rfl (lv_room (Nat.le_of_ble_eq_true rfl)) dX8_copyFrom_68 ⟨(Nat.le_of_ble_eq_true rfl), (Nat.le_of_ble_eq_true rfl)⟩) hS (fun q _ h => hFc q h) hFc (fun u t H locs ht hvm hw140 hB _ _ hS => ?_)
  obtain ⟨u141, rfl⟩ : ∃ z, z = u := ⟨_, rfl⟩
  obtain ⟨hT, hF1, m142, m143, m144⟩ := hB
  rw [ht] at hT hF1 m142 m143 m144
  have m152 := (hF1.fld hr_o0 skc_11 (k := 5) (by decide) (by decide)).trans m112
  have m153 := (hF1.fld hr_dra skc_12 (k := 0) (by decide) (by decide)).trans m113
  have m154 := (hF1.fld hr_dra skc_12 (k := 1) (by decide) (by decide)).trans m114
  have m159 := (hF1.fld hr_p0 skc_91 (k := 6) (by decide) (by decide)).trans m119
  have m164 := (hF1.fld hr_p0 skc_91 (k := 5) (by decide) (by decide)).trans m124
  have m165 := (hF1.fld hr_sra skc_92 (k := 0) (by decide) (by decide)).trans m125
  have m166 := (hF1.fld hr_sra skc_92 (k := 1) (by decide) (by decide)).trans m126
  have m167 := (hF1.fld hr_sra skc_92 (k := 2) (by decide) (by decide)).trans m127
  have m174 := m134.kept (hF1.arr hr_srh skc_75 (by decide))
  have m175 := m135.kept (hF1.arr hr_srn skc_76 (by decide))
  have m176 := m136.kept (hF1.arr hr_dti skc_19 (by decide))
  have m177 := m137.kept (hF1.arr hr_dsf skc_20 (by decide))
  have m178 := m138.kept (hF1.arr hr_dso skc_21 (by decide))
  have m179 := m104.kept (hF1.arr hr_dsm skc_22 (by decide))
  have hF := hF.more hF1 (by decide)
  try dsimp only at hw140
  have hf180 := hw140
  refine lv_aload_n hx hb dX8_copyFrom_71 rfl (lv_at hl 0 rfl) ?_
  refine tw_getM (v := .ref dra) hx hb hts bF2_X8 hown hK hT hr_o0 shc_11 rfl 5 (by decide) (ht_at2 hts 18 rfl) (fun _ h9 => h9) m152 dX8_copyFrom_72 ?_
  refine lv_aload_n hx hb dX8_copyFrom_75 rfl (lv_at hl 1 rfl) ?_
  refine tw_getM (v := .ref sra) hx hb hts bF2_X8 hown hK hT hr_p0 shc_91 rfl 5 (by decide) (ht_at2 hts 18 rfl) (fun _ h9 => h9) m164 dX8_copyFrom_76 ?_
  have hFc := gA_free hG hA hS
  refine va_callv (va_runV (As := [.ref sra]) (rest := []) ⟨hx, hb, hml, hown, hts⟩ (c_cpX9_lY l dC dI kA adK adV G H nC nS dra sra drh drn srh srn snr sVR sVQ hT hr_dra hr_sra m153 hr_drh m154 hr_drn m165 hr_srh m166 hr_srn m167 (by have q8 := ti_all snr; omega) m174 m175 (by omega) (by omega)) (cwV 1 hts (goodIn_app (goodIn_r _ [15, 16, 17, 18] rfl (by decide +kernel)) (goodIn_ca (goodIn_r _ [10, 11, 12, 3, 4, 5, 13, 14] rfl (by decide +kernel)) (bs2_in _ _))) rfl rfl rfl (by decide +kernel) ⟨(Nat.le_of_ble_eq_true rfl), (Nat.le_of_ble_eq_true rfl)⟩) ⟨fun a U g mk q => by obtain ⟨q0, q1, qK, qE⟩ := q; exact ⟨q0, q1, va_K.moved (u := U) (U := U.calling g mk a) (Vm.Alike.refl U.vm) qK, EVC.blind g mk a qE⟩, gH_rc hK hT hr_dra shc_12 rfl, fun U hU hW => ⟨rfl, hU, va_K.moved hW.alike hK, hE.call hS hFc hU hW⟩⟩ rfl rfl hl.1 rfl (lv_room (Nat.le_of_ble_eq_true rfl)) dX8_copyFrom_79 ⟨(Nat.le_of_ble_eq_true rfl), (Nat.le_of_ble_eq_true rfl)⟩) hS (fun q _ h => hFc q h) hFc (fun u t H locs ht hvm hw182 hB _ _ hS => ?_)
  obtain ⟨u183, rfl⟩ : ∃ z, z = u := ⟨_, rfl⟩
  obtain ⟨hT, hF1, m184, m185, m186⟩ := hB
  rw [ht] at hT hF1 m184 m185 m186
  have m201 := (hF1.fld hr_p0 skc_91 (k := 6) (by decide) (by decide)).trans m159
  have m218 := m176.kept (hF1.arr hr_dti skc_19 (by decide))
  have m219 := m177.kept (hF1.arr hr_dsf skc_20 (by decide))
  have m220 := m178.kept (hF1.arr hr_dso skc_21 (by decide))
  have m221 := m179.kept (hF1.arr hr_dsm skc_22 (by decide))
  have m222 := (hF1.fld hr_dwi skc_130 (k := 2) (by decide) (by decide)).trans m142
  have m223 := m143.kept (hF1.arr hr_dwh skc_131 (by decide))
  have m224 := m144.kept (hF1.arr hr_dwn skc_132 (by decide))
  have hF := hF.more hF1 (by decide)
  try dsimp only at hw182
  have hf225 := hw182
  refine lv_aload_n hx hb dX8_copyFrom_82 rfl (lv_at hl 0 rfl) ?_
  refine lv_aload_n hx hb dX8_copyFrom_83 rfl (lv_at hl 1 rfl) ?_
  refine tw_getM (v := .int sns) hx hb hts bF2_X8 hown hK hT hr_p0 shc_91 rfl 6 (by decide) (ht_at2 hts 19 rfl) (fun _ h9 => h9) m201 dX8_copyFrom_84 ?_
  refine tw_put (v := .int sns) (ty := .int) hx hb hts bF2_X8 tyX8 tyX8_ok nmX8 hown hK hT hG hS hr_o0 shc_11 rfl 6 (by decide) (ht_at2 hts 19 rfl) (fun _ h9 => h9) rfl (by decide +kernel) rfl rfl (gl_at rfl (gi_of (show sns.toInt = sns.toInt from rfl) (by omega) (by omega))) dX8_copyFrom_87 (fun H locs hT oq m226 oj hS => ?_)
  have hF := hF.put hr_o0 skc_11 oq oj (by decide)
  have m258 := m218.kept (oq _ (gne hr_dti hr_o0 (by decide)))
  have m259 := m219.kept (oq _ (gne hr_dsf hr_o0 (by decide)))
  have m260 := m220.kept (oq _ (gne hr_dso hr_o0 (by decide)))
  have m261 := m221.kept (oq _ (gne hr_dsm hr_o0 (by decide)))
  have m262 := (el_kept (oq _ (gne hr_dwi hr_o0 (by decide)))).trans m222
  have m263 := m223.kept (oq _ (gne hr_dwh hr_o0 (by decide)))
  have m264 := m224.kept (oq _ (gne hr_dwn hr_o0 (by decide)))
  have m265 := (el_kept (oq _ (gne hr_dra hr_o0 (by decide)))).trans m184
  have m266 := m185.kept (oq _ (gne hr_drh hr_o0 (by decide)))
  have m267 := m186.kept (oq _ (gne hr_drn hr_o0 (by decide)))
  exact W.vret hx hb hr (fun t ht hW => ⟨⟨(sns, u141, u183), rfl, (by exact (by omega)), by (try dsimp only); rw [ht]; exact ⟨hT, hF, m226, m262, m265, m258, m259, m260, m261, m263, m264, m266, m267⟩⟩, hS.F ht⟩) hS.2.2 dX8_copyFrom_90
def w_c_cpX3_iY : List Cond := .code yX3_copyFrom cX3_copyFrom 3 none :: (HAppend.hAppend (α := List Cond) (β := List Cond) (γ := List Cond) [.fieldLink RX3 12 "SeaLand$Lake" "sky" "LSeaLand$Sky;", .code yX8_copyFrom cX8_copyFrom 2 none, .fieldLink RX8 9 "SeaLand$Sky" "tides" "[I", .methodLink RX8 63 arraycopyName, .native arraycopyName, .static arraycopyName, .initialized "java/lang/System", .fieldLink RX8 15 "SeaLand$Sky" "stormFrom" "[I", .fieldLink RX8 18 "SeaLand$Sky" "stormTo" "[I", .fieldLink RX8 21 "SeaLand$Sky" "stormMore" "[I", .fieldLink RX8 27 "SeaLand$Sky" "wind" "LSeaLand$Tellings;", .code yX9_copyFrom cX9_copyFrom 2 none, .fieldLink RX9 9 "SeaLand$Tellings" "hours" "[I", .methodLink RX9 23 arraycopyName, .fieldLink RX9 15 "SeaLand$Tellings" "numbers" "[I", .fieldLink RX9 18 "SeaLand$Tellings" "told" "I", .methodLink RX8 69 yX9_copyFrom, .instanceMethod yX9_copyFrom, .selects RX9 yX9_copyFrom yX9_copyFrom, .initialized RX9, .fieldLink RX8 31 "SeaLand$Sky" "rain" "LSeaLand$Tellings;", .fieldLink RX8 34 "SeaLand$Sky" "storms" "I", .methodLink RX3 175 yX8_copyFrom, .instanceMethod yX8_copyFrom, .selects RX8 yX8_copyFrom yX8_copyFrom, .initialized RX8, .fieldLink RX3 21 "SeaLand$Lake" "ground" "LSeaLand$Ground;", .code yX2_copyFrom cX2_copyFrom 2 none, .fieldLink RX2 9 "SeaLand$Ground" "isLand" "[Z", .methodLink RX2 95 arraycopyName, .fieldLink RX2 15 "SeaLand$Ground" "height" "[I", .fieldLink RX2 19 "SeaLand$Ground" "soil" "[I", .fieldLink RX2 22 "SeaLand$Ground" "ditch" "[I", .fieldLink RX2 25 "SeaLand$Ground" "water" "[I", .fieldLink RX2 28 "SeaLand$Ground" "salt" "[I", .fieldLink RX2 31 "SeaLand$Ground" "dry" "[I", .fieldLink RX2 34 "SeaLand$Ground" "wet" "[I", .fieldLink RX2 54 "SeaLand$Ground" "rained" "I", .fieldLink RX2 57 "SeaLand$Ground" "cameIn" "I", .fieldLink RX2 64 "SeaLand$Ground" "wentOut" "I", .fieldLink RX2 50 "SeaLand$Ground" "toldMore" "I", .methodLink RX3 179 yX2_copyFrom, .instanceMethod yX2_copyFrom, .selects RX2 yX2_copyFrom yX2_copyFrom, .initialized RX2, .fieldLink RX3 47 "SeaLand$Lake" "built" "I", .fieldLink RX3 32 "SeaLand$Lake" "hour" "I", .fieldLink RX3 27 "SeaLand$Lake" "works" "[LSeaLand$Work;", .code yX10_copyFrom cX10_copyFrom 2 none, .fieldLink RX10 9 "SeaLand$Work" "thick" "[I", .methodLink RX10 60 arraycopyName, .fieldLink RX10 15 "SeaLand$Work" "clay" "[I", .fieldLink RX10 18 "SeaLand$Work" "kind" "I", .fieldLink RX10 22 "SeaLand$Work" "square" "I", .fieldLink RX10 25 "SeaLand$Work" "to" "I", .fieldLink RX10 28 "SeaLand$Work" "size" "I", .fieldLink RX10 31 "SeaLand$Work" "width" "I", .fieldLink RX10 34 "SeaLand$Work" "layers" "I", .fieldLink RX10 37 "SeaLand$Work" "coal" "I", .fieldLink RX10 40 "SeaLand$Work" "on" "Z", .fieldLink RX10 44 "SeaLand$Work" "latest" "I", .fieldLink RX10 47 "SeaLand$Work" "total" "I", .methodLink RX3 182 yX10_copyFrom, .instanceMethod yX10_copyFrom, .selects RX10 yX10_copyFrom yX10_copyFrom, .initialized RX10] bs2)
set_option maxHeartbeats 4000000 in
set_option maxRecDepth 100000 in
theorem c_cpX3_iY (l : Launch) (dC : Nat → ClassId) (dI : Nat → Nat → Nat) (kA : Nat → ClassId) (adK adV : Nat → Nat) (G : gT) (H0 : Heap) (nC nS : Int) (o0 : Nat) (p0 : Nat) (dsk : Nat) (dti : Nat) (dsf : Nat) (dso : Nat) (dsm : Nat) (dwi : Nat) (dwh : Nat) (dwn : Nat) (dra : Nat) (drh : Nat) (drn : Nat) (sho : Int32) (ssk : Nat) (sti : Nat) (ssf : Nat) (sso : Nat) (ssm : Nat) (sns : Int32) (swi : Nat) (swh : Nat) (swn : Nat) (snw : Int32) (sra : Nat) (srh : Nat) (srn : Nat) (snr : Int32) (sVT : Nat → Int32) (sVF : Nat → Int32) (sVO : Nat → Int32) (sVM : Nat → Int32) (sVH : Nat → Int32) (sVN : Nat → Int32) (sVR : Nat → Int32) (sVQ : Nat → Int32)  (hT : gH (dC, dI) kA (SHc nC nS) G H0) (hr_o0 : G o0 = some 90) (hr_p0 : G p0 = some 6) (hm_dsk : el H0 o0 (dI 6 0) = some (.ref dsk)) (hr_dsk : G dsk = some 91) (hm_dti : el H0 dsk (dI 11 0) = some (.ref dti)) (hr_dti : G dti = some 71) (hm_dsf : el H0 dsk (dI 11 1) = some (.ref dsf)) (hr_dsf : G dsf = some 72) (hm_dso : el H0 dsk (dI 11 2) = some (.ref dso)) (hr_dso : G dso = some 73) (hm_dsm : el H0 dsk (dI 11 3) = some (.ref dsm)) (hr_dsm : G dsm = some 74) (hm_dwi : el H0 dsk (dI 11 4) = some (.ref dwi)) (hr_dwi : G dwi = some 133) (hm_dwh : el H0 dwi (dI 12 0) = some (.ref dwh)) (hr_dwh : G dwh = some 134) (hm_dwn : el H0 dwi (dI 12 1) = some (.ref dwn)) (hr_dwn : G dwn = some 135) (hm_dra : el H0 dsk (dI 11 5) = some (.ref dra)) (hr_dra : G dra = some 92) (hm_drh : el H0 dra (dI 12 0) = some (.ref drh)) (hr_drh : G drh = some 75) (hm_drn : el H0 dra (dI 12 1) = some (.ref drn)) (hr_drn : G drn = some 76) (hm_sho : el H0 p0 (dI 6 4) = some (.int sho)) (hm_ssk : el H0 p0 (dI 6 0) = some (.ref ssk)) (hr_ssk : G ssk = some 11) (hm_sti : el H0 ssk (dI 11 0) = some (.ref sti)) (hr_sti : G sti = some 19) (hm_ssf : el H0 ssk (dI 11 1) = some (.ref ssf)) (hr_ssf : G ssf = some 20) (hm_sso : el H0 ssk (dI 11 2) = some (.ref sso)) (hr_sso : G sso = some 21) (hm_ssm : el H0 ssk (dI 11 3) = some (.ref ssm)) (hr_ssm : G ssm = some 22) (hm_sns : el H0 ssk (dI 11 6) = some (.int sns)) (hm_swi : el H0 ssk (dI 11 4) = some (.ref swi)) (hr_swi : G swi = some 130) (hm_swh : el H0 swi (dI 12 0) = some (.ref swh)) (hr_swh : G swh = some 131) (hm_swn : el H0 swi (dI 12 1) = some (.ref swn)) (hr_swn : G swn = some 132) (hm_snw : el H0 swi (dI 12 2) = some (.int snw)) (hm_sra : el H0 ssk (dI 11 5) = some (.ref sra)) (hr_sra : G sra = some 12) (hm_srh : el H0 sra (dI 12 0) = some (.ref srh)) (hr_srh : G srh = some 23) (hm_srn : el H0 sra (dI 12 1) = some (.ref srn)) (hr_srn : G srn = some 24) (hm_snr : el H0 sra (dI 12 2) = some (.int snr)) (hq0 : 0 ≤ sho.toInt ∧ sho.toInt ≤ 40000) (hq1 : 0 ≤ sns.toInt ∧ sns.toInt ≤ 20) (hq2 : 0 ≤ snw.toInt ∧ snw.toInt ≤ 60) (hq3 : 0 ≤ snr.toInt ∧ snr.toInt ≤ 60) (hc_sVT : ct H0 sti 12 sVT) (hc_sVF : ct H0 ssf 20 sVF) (hc_sVO : ct H0 sso 20 sVO) (hc_sVM : ct H0 ssm 20 sVM) (hc_sVH : ct H0 swh 60 sVH) (hc_sVN : ct H0 swn 60 sVN) (hc_sVR : ct H0 srh 60 sVR) (hc_sVQ : ct H0 srn 60 sVQ) (hgC : 0 ≤ nC ∧ nC ≤ 40) (hgS : 0 ≤ nS ∧ nS ≤ 60) : Met l yX3_copyFrom w_c_cpX3_iY ({ frames := 4, cells := 0, slots := 0, locals := 102 }) (va_Pc [.ref o0, .ref p0] (fun U => U.heap = H0 ∧ va_K (dC, dI) vwCl (tyl kA) U ∧ EVC adK adV (gA G H0.size) U U.heap)) (va_Qv (fun (u : Int32 × Int32 × Int32 × Int32) => match u with | (dho, dns, dnw, dnr) => (dho.toInt = sho.toInt ∧ dns.toInt = sns.toInt ∧ dnw.toInt = snw.toInt ∧ dnr.toInt = snr.toInt)) (fun (u : Int32 × Int32 × Int32 × Int32) (t : State) => match u with | (dho, dns, dnw, dnr) => gH (dC, dI) kA (SHc nC nS) G t.heap ∧ gF (dC, dI) SKc G ([(71, 0), (72, 0), (73, 0), (74, 0), (75, 0), (76, 0), (77, 0), (78, 0), (79, 0), (80, 0), (81, 0), (82, 0), (83, 0), (84, 0), (88, 0), (89, 0), (90, 3), (90, 4), (91, 6), (92, 2), (93, 11), (93, 12), (93, 13), (93, 14), (94, 2), (94, 3), (94, 4), (94, 5), (94, 6), (94, 7), (94, 8), (94, 9), (94, 10), (94, 11), (133, 2), (134, 0), (135, 0)] : List (Nat × Nat)) H0 t.heap ∧ el t.heap o0 (dI 6 4) = some (.int dho) ∧ el t.heap dsk (dI 11 6) = some (.int dns) ∧ el t.heap dwi (dI 12 2) = some (.int dnw) ∧ el t.heap dra (dI 12 2) = some (.int dnr) ∧ ct t.heap dti 12 sVT ∧ ct t.heap dsf 20 sVF ∧ ct t.heap dso 20 sVO ∧ ct t.heap dsm 20 sVM ∧ ct t.heap dwh 60 sVH ∧ ct t.heap dwn 60 sVN ∧ ct t.heap drh 60 sVR ∧ ct t.heap drn 60 sVQ) (gA G H0.size)) 0 0 (gA G H0.size) := by
  refine Met.ofW (cc := cX3_copyFrom) (maxL := 3) (ret := none) (by decide) rfl ?_
  intro p e s m args below meth c s₁ B hml hv
  obtain ⟨rfl, hH0, hK, hE⟩ := hv
  have hx := B.exec
  have hb := B.bytes
  have hr := B.returns
  have hts := atoms_spec (ws := w_c_cpX3_iY) B.pre
  have hown : s.vm.findClass RX3 = some m.cls := findClass_of_methodNamed B.named
  have hlocks := B.notSynchronized
  subst hH0
  generalize hAe : gA G s.heap.size = A at hE ⊢
  have hA : ∀ q : Nat, s.heap.size ≤ q → A q := fun q h => by rw [← hAe]; exact Or.inr h
  have hG := gA_of hAe
  have hS : va_S A s.heap s.heap [] := va_S.rf
  have hF : gF (dC, dI) SKc G ([(71, 0), (72, 0), (73, 0), (74, 0), (75, 0), (76, 0), (77, 0), (78, 0), (79, 0), (80, 0), (81, 0), (82, 0), (83, 0), (84, 0), (88, 0), (89, 0), (90, 3), (90, 4), (91, 6), (92, 2), (93, 11), (93, 12), (93, 13), (93, 14), (94, 2), (94, 3), (94, 4), (94, 5), (94, 6), (94, 7), (94, 8), (94, 9), (94, 10), (94, 11), (133, 2), (134, 0), (135, 0)] : List (Nat × Nat)) s.heap s.heap := gF.rf
  have hl := lv_entry ([.ref o0, .ref p0]) (n := 3) (Nat.le_of_ble_eq_true rfl)
  rw [lg_entry_eq]
  generalize (lg_sl ([.ref o0, .ref p0]) ++ List.replicate (3 - (lg_sl ([.ref o0, .ref p0])).length) Slot.unset).toArray = ls at hl ⊢
  have hl : lv_has ls 3 [(0, .ref o0), (1, .ref p0)] := hl
  refine lv_aload_n hx hb dX3_copyFrom_0 rfl (lv_at hl 0 rfl) ?_
  refine tw_getM (v := .ref dsk) hx hb hts bF2_X3 hown hK hT hr_o0 shc_90 rfl 0 (by decide) (ht_at2 hts 0 rfl) (fun _ h9 => h9) hm_dsk dX3_copyFrom_1 ?_
  refine lv_aload_n hx hb dX3_copyFrom_4 rfl (lv_at hl 1 rfl) ?_
  refine tw_getM (v := .ref ssk) hx hb hts bF2_X3 hown hK hT hr_p0 shc_6 rfl 0 (by decide) (ht_at2 hts 0 rfl) (fun _ h9 => h9) hm_ssk dX3_copyFrom_5 ?_
  have hFc := gA_free hG hA hS
  refine va_callv (va_runV (As := [.ref ssk]) (rest := []) ⟨hx, hb, hml, hown, hts⟩ (c_cpX8_iY l dC dI kA adK adV G s.heap nC nS dsk ssk dti dsf dso dsm dwi dwh dwn dra drh drn sti ssf sso ssm sns swi swh swn snw sra srh srn snr sVT sVF sVO sVM sVH sVN sVR sVQ hT hr_dsk hr_ssk hm_dti hr_dti hm_dsf hr_dsf hm_dso hr_dso hm_dsm hr_dsm hm_dwi hr_dwi hm_dwh hr_dwh hm_dwn hr_dwn hm_dra hr_dra hm_drh hr_drh hm_drn hr_drn hm_sti hr_sti hm_ssf hr_ssf hm_sso hr_sso hm_ssm hr_ssm hm_sns hm_swi hr_swi hm_swh hr_swh hm_swn hr_swn hm_snw hm_sra hr_sra hm_srh hr_srh hm_srn hr_srn hm_snr (by have q8 := ti_all sns; omega) (by have q8 := ti_all snw; omega) (by have q8 := ti_all snr; omega) hc_sVT hc_sVF hc_sVO hc_sVM hc_sVH hc_sVN hc_sVR hc_sVQ (by omega) (by omega)) (cwV 1 hts (goodIn_app (goodIn_r _ [23, 24, 25, 26] rfl (by decide +kernel)) (goodIn_ca (goodIn_r _ [2, 3, 4, 5, 6, 7, 8, 9, 10, 11, 12, 13, 14, 15, 16, 17, 18, 19, 20, 21, 22] rfl (by decide +kernel)) (bs2_in _ _))) rfl rfl rfl (by decide +kernel) ⟨(Nat.le_of_ble_eq_true rfl), (Nat.le_of_ble_eq_true rfl)⟩) ⟨fun a U g mk q => by obtain ⟨q0, q1, qK, qE⟩ := q; exact ⟨q0, q1, va_K.moved (u := U) (U := U.calling g mk a) (Vm.Alike.refl U.vm) qK, EVC.blind g mk a qE⟩, gH_rc hK hT hr_dsk shc_91 rfl, fun U hU hW => ⟨rfl, hU, va_K.moved hW.alike hK, hE.call hS hFc hU hW⟩⟩ rfl rfl hl.1 rfl (lv_room (Nat.le_of_ble_eq_true rfl)) dX3_copyFrom_8 ⟨(Nat.le_of_ble_eq_true rfl), (Nat.le_of_ble_eq_true rfl)⟩) hS (fun q _ h => hFc q h) hFc (fun u t H locs ht hvm hw2 hB _ _ hS => ?_)
  obtain ⟨u3, u4, u5⟩ := u
  obtain ⟨hT, hF1, m6, m7, m8, m9, m10, m11, m12, m13, m14, m15, m16⟩ := hB
  rw [ht] at hT hF1 m6 m7 m8 m9 m10 m11 m12 m13 m14 m15 m16
  have m17 := (hF1.fld hr_o0 skc_90 (k := 0) (by decide) (by decide)).trans hm_dsk
  have m18 := (hF1.fld hr_dsk skc_91 (k := 0) (by decide) (by decide)).trans hm_dti
  have m19 := (hF1.fld hr_dsk skc_91 (k := 1) (by decide) (by decide)).trans hm_dsf
  have m20 := (hF1.fld hr_dsk skc_91 (k := 2) (by decide) (by decide)).trans hm_dso
  have m21 := (hF1.fld hr_dsk skc_91 (k := 3) (by decide) (by decide)).trans hm_dsm
  have m22 := (hF1.fld hr_dsk skc_91 (k := 4) (by decide) (by decide)).trans hm_dwi
  have m23 := (hF1.fld hr_dwi skc_133 (k := 0) (by decide) (by decide)).trans hm_dwh
  have m24 := (hF1.fld hr_dwi skc_133 (k := 1) (by decide) (by decide)).trans hm_dwn
  have m25 := (hF1.fld hr_dsk skc_91 (k := 5) (by decide) (by decide)).trans hm_dra
  have m26 := (hF1.fld hr_dra skc_92 (k := 0) (by decide) (by decide)).trans hm_drh
  have m27 := (hF1.fld hr_dra skc_92 (k := 1) (by decide) (by decide)).trans hm_drn
  have m28 := (hF1.fld hr_p0 skc_6 (k := 4) (by decide) (by decide)).trans hm_sho
  have m29 := (hF1.fld hr_p0 skc_6 (k := 0) (by decide) (by decide)).trans hm_ssk
  have m30 := (hF1.fld hr_ssk skc_11 (k := 0) (by decide) (by decide)).trans hm_sti
  have m31 := (hF1.fld hr_ssk skc_11 (k := 1) (by decide) (by decide)).trans hm_ssf
  have m32 := (hF1.fld hr_ssk skc_11 (k := 2) (by decide) (by decide)).trans hm_sso
  have m33 := (hF1.fld hr_ssk skc_11 (k := 3) (by decide) (by decide)).trans hm_ssm
  have m34 := (hF1.fld hr_ssk skc_11 (k := 6) (by decide) (by decide)).trans hm_sns
  have m35 := (hF1.fld hr_ssk skc_11 (k := 4) (by decide) (by decide)).trans hm_swi
  have m36 := (hF1.fld hr_swi skc_130 (k := 0) (by decide) (by decide)).trans hm_swh
  have m37 := (hF1.fld hr_swi skc_130 (k := 1) (by decide) (by decide)).trans hm_swn
  have m38 := (hF1.fld hr_swi skc_130 (k := 2) (by decide) (by decide)).trans hm_snw
  have m39 := (hF1.fld hr_ssk skc_11 (k := 5) (by decide) (by decide)).trans hm_sra
  have m40 := (hF1.fld hr_sra skc_12 (k := 0) (by decide) (by decide)).trans hm_srh
  have m41 := (hF1.fld hr_sra skc_12 (k := 1) (by decide) (by decide)).trans hm_srn
  have m42 := (hF1.fld hr_sra skc_12 (k := 2) (by decide) (by decide)).trans hm_snr
  have m43 := hc_sVT.kept (hF1.arr hr_sti skc_19 (by decide))
  have m44 := hc_sVF.kept (hF1.arr hr_ssf skc_20 (by decide))
  have m45 := hc_sVO.kept (hF1.arr hr_sso skc_21 (by decide))
  have m46 := hc_sVM.kept (hF1.arr hr_ssm skc_22 (by decide))
  have m47 := hc_sVH.kept (hF1.arr hr_swh skc_131 (by decide))
  have m48 := hc_sVN.kept (hF1.arr hr_swn skc_132 (by decide))
  have m49 := hc_sVR.kept (hF1.arr hr_srh skc_23 (by decide))
  have m50 := hc_sVQ.kept (hF1.arr hr_srn skc_24 (by decide))
  have hF := hF.more hF1 (by decide)
  try dsimp only at hw2
  have hf51 := hw2
  refine lv_aload_n hx hb dX3_copyFrom_11 rfl (lv_at hl 0 rfl) ?_
  refine tw_get hx hb hts bF2_X3 hown hK hT hr_o0 shc_90 rfl 1 (by decide) (ht_at2 hts 26 rfl) (fun _ h9 => h9) dX3_copyFrom_12 (fun v9 m52 h9 => ?_)
  obtain ⟨b53, rfl, hg54⟩ := h9 _ rfl
  refine lv_aload_n hx hb dX3_copyFrom_15 rfl (lv_at hl 1 rfl) ?_
  refine tw_get hx hb hts bF2_X3 hown hK hT hr_p0 shc_6 rfl 1 (by decide) (ht_at2 hts 26 rfl) (fun _ h9 => h9) dX3_copyFrom_16 (fun v9 m55 h9 => ?_)
  obtain ⟨b56, rfl, hg57⟩ := h9 _ rfl
  have hFc := gA_free hG hA hS
  refine va_callv (va_runV (As := [.ref b56]) (rest := []) ⟨hx, hb, hml, hown, hts⟩ (c_copyG_i l dC dI kA adK adV G H nC nS b53 b56 hT hg54 hg57 (by omega) (by omega)) (cwV 1 hts (goodIn_app (goodIn_r _ [42, 43, 44, 45] rfl (by decide +kernel)) (goodIn_ca (goodIn_r _ [28, 29, 30, 5, 6, 7, 31, 32, 33, 34, 35, 36, 37, 38, 39, 40, 41] rfl (by decide +kernel)) (bs2_in _ _))) rfl rfl rfl (by decide +kernel) ⟨(Nat.le_of_ble_eq_true rfl), (Nat.le_of_ble_eq_true rfl)⟩) ⟨fun a U g mk q => by obtain ⟨q0, q1, qK, qE⟩ := q; exact ⟨q0, q1, va_K.moved (u := U) (U := U.calling g mk a) (Vm.Alike.refl U.vm) qK, EVC.blind g mk a qE⟩, gH_rc hK hT hg54 shc_93 rfl, fun U hU hW => ⟨rfl, hU, va_K.moved hW.alike hK, hE.call hS hFc hU hW⟩⟩ rfl rfl hl.1 rfl (lv_room (Nat.le_of_ble_eq_true rfl)) dX3_copyFrom_19 ⟨(Nat.le_of_ble_eq_true rfl), (Nat.le_of_ble_eq_true rfl)⟩) hS (fun q _ h => hFc q h) hFc (fun u t H locs ht hvm hw59 hB _ _ hS => ?_)
  obtain ⟨hT, hF1⟩ := hB
  rw [ht] at hT hF1
  have m60 := (hF1.fld hr_o0 skc_90 (k := 0) (by decide) (by decide)).trans m17
  have m61 := (hF1.fld hr_dsk skc_91 (k := 0) (by decide) (by decide)).trans m18
  have m62 := (hF1.fld hr_dsk skc_91 (k := 1) (by decide) (by decide)).trans m19
  have m63 := (hF1.fld hr_dsk skc_91 (k := 2) (by decide) (by decide)).trans m20
  have m64 := (hF1.fld hr_dsk skc_91 (k := 3) (by decide) (by decide)).trans m21
  have m65 := (hF1.fld hr_dsk skc_91 (k := 4) (by decide) (by decide)).trans m22
  have m66 := (hF1.fld hr_dwi skc_133 (k := 0) (by decide) (by decide)).trans m23
  have m67 := (hF1.fld hr_dwi skc_133 (k := 1) (by decide) (by decide)).trans m24
  have m68 := (hF1.fld hr_dsk skc_91 (k := 5) (by decide) (by decide)).trans m25
  have m69 := (hF1.fld hr_dra skc_92 (k := 0) (by decide) (by decide)).trans m26
  have m70 := (hF1.fld hr_dra skc_92 (k := 1) (by decide) (by decide)).trans m27
  have m71 := (hF1.fld hr_p0 skc_6 (k := 4) (by decide) (by decide)).trans m28
  have m72 := (hF1.fld hr_p0 skc_6 (k := 0) (by decide) (by decide)).trans m29
  have m73 := (hF1.fld hr_ssk skc_11 (k := 0) (by decide) (by decide)).trans m30
  have m74 := (hF1.fld hr_ssk skc_11 (k := 1) (by decide) (by decide)).trans m31
  have m75 := (hF1.fld hr_ssk skc_11 (k := 2) (by decide) (by decide)).trans m32
  have m76 := (hF1.fld hr_ssk skc_11 (k := 3) (by decide) (by decide)).trans m33
  have m77 := (hF1.fld hr_ssk skc_11 (k := 6) (by decide) (by decide)).trans m34
  have m78 := (hF1.fld hr_ssk skc_11 (k := 4) (by decide) (by decide)).trans m35
  have m79 := (hF1.fld hr_swi skc_130 (k := 0) (by decide) (by decide)).trans m36
  have m80 := (hF1.fld hr_swi skc_130 (k := 1) (by decide) (by decide)).trans m37
  have m81 := (hF1.fld hr_swi skc_130 (k := 2) (by decide) (by decide)).trans m38
  have m82 := (hF1.fld hr_ssk skc_11 (k := 5) (by decide) (by decide)).trans m39
  have m83 := (hF1.fld hr_sra skc_12 (k := 0) (by decide) (by decide)).trans m40
  have m84 := (hF1.fld hr_sra skc_12 (k := 1) (by decide) (by decide)).trans m41
  have m85 := (hF1.fld hr_sra skc_12 (k := 2) (by decide) (by decide)).trans m42
  have m86 := m43.kept (hF1.arr hr_sti skc_19 (by decide))
  have m87 := m44.kept (hF1.arr hr_ssf skc_20 (by decide))
  have m88 := m45.kept (hF1.arr hr_sso skc_21 (by decide))
  have m89 := m46.kept (hF1.arr hr_ssm skc_22 (by decide))
  have m90 := m47.kept (hF1.arr hr_swh skc_131 (by decide))
  have m91 := m48.kept (hF1.arr hr_swn skc_132 (by decide))
  have m92 := m49.kept (hF1.arr hr_srh skc_23 (by decide))
  have m93 := m50.kept (hF1.arr hr_srn skc_24 (by decide))
  have m94 := (hF1.fld hr_dsk skc_91 (k := 6) (by decide) (by decide)).trans m6
  have m95 := (hF1.fld hr_dwi skc_133 (k := 2) (by decide) (by decide)).trans m7
  have m96 := (hF1.fld hr_dra skc_92 (k := 2) (by decide) (by decide)).trans m8
  have m97 := m9.kept (hF1.arr hr_dti skc_71 (by decide))
  have m98 := m10.kept (hF1.arr hr_dsf skc_72 (by decide))
  have m99 := m11.kept (hF1.arr hr_dso skc_73 (by decide))
  have m100 := m12.kept (hF1.arr hr_dsm skc_74 (by decide))
  have m101 := m13.kept (hF1.arr hr_dwh skc_134 (by decide))
  have m102 := m14.kept (hF1.arr hr_dwn skc_135 (by decide))
  have m103 := m15.kept (hF1.arr hr_drh skc_75 (by decide))
  have m104 := m16.kept (hF1.arr hr_drn skc_76 (by decide))
  have m105 := (hF1.fld hr_o0 skc_90 (k := 1) (by decide) (by decide)).trans m52
  have m106 := (hF1.fld hr_p0 skc_6 (k := 1) (by decide) (by decide)).trans m55
  have hF := hF.more hF1 (by decide)
  try dsimp only at hw59
  refine lv_iconst (v := 0) hx hb dX3_copyFrom_22 (by decide) ?_
  refine lv_istore_n (lv' := [(2, .int 0), (0, .ref o0), (1, .ref p0)]) hx hb dX3_copyFrom_23 rfl hl (by decide) rfl (fun ls hl => ?_)
  have jn452 : ∀ (z400 : Int32), ∀ (z449 : Int32), ((0 ≤ z400.toInt ∧ z400.toInt ≤ 30) ∧ (0 ≤ z449.toInt ∧ z449.toInt ≤ 30)) → ∀ (H : Heap) (locs : List Loc), gH (dC, dI) kA (SHc nC nS) G H → gF (dC, dI) SKc G ([(71, 0), (72, 0), (73, 0), (74, 0), (75, 0), (76, 0), (77, 0), (78, 0), (79, 0), (80, 0), (81, 0), (82, 0), (83, 0), (84, 0), (88, 0), (89, 0), (90, 3), (90, 4), (91, 6), (92, 2), (93, 11), (93, 12), (93, 13), (93, 14), (94, 2), (94, 3), (94, 4), (94, 5), (94, 6), (94, 7), (94, 8), (94, 9), (94, 10), (94, 11), (133, 2), (134, 0), (135, 0)] : List (Nat × Nat)) s.heap H → va_S A s.heap H locs → ct H sti 12 sVT → ct H ssf 20 sVF → ct H sso 20 sVO → ct H ssm 20 sVM → ct H swh 60 sVH → ct H swn 60 sVN → ct H srh 60 sVR → ct H srn 60 sVQ → ct H dti 12 sVT → ct H dsf 20 sVF → ct H dso 20 sVO → ct H dsm 20 sVM → ct H dwh 60 sVH → ct H dwn 60 sVN → ct H drh 60 sVR → ct H drn 60 sVQ → el H o0 (dI 6 0) = some (.ref dsk) → el H dsk (dI 11 0) = some (.ref dti) → el H dsk (dI 11 1) = some (.ref dsf) → el H dsk (dI 11 2) = some (.ref dso) → el H dsk (dI 11 3) = some (.ref dsm) → el H dsk (dI 11 4) = some (.ref dwi) → el H dwi (dI 12 0) = some (.ref dwh) → el H dwi (dI 12 1) = some (.ref dwn) → el H dsk (dI 11 5) = some (.ref dra) → el H dra (dI 12 0) = some (.ref drh) → el H dra (dI 12 1) = some (.ref drn) → el H p0 (dI 6 4) = some (.int sho) → el H p0 (dI 6 0) = some (.ref ssk) → el H ssk (dI 11 0) = some (.ref sti) → el H ssk (dI 11 1) = some (.ref ssf) → el H ssk (dI 11 2) = some (.ref sso) → el H ssk (dI 11 3) = some (.ref ssm) → el H ssk (dI 11 6) = some (.int sns) → el H ssk (dI 11 4) = some (.ref swi) → el H swi (dI 12 0) = some (.ref swh) → el H swi (dI 12 1) = some (.ref swn) → el H swi (dI 12 2) = some (.int snw) → el H ssk (dI 11 5) = some (.ref sra) → el H sra (dI 12 0) = some (.ref srh) → el H sra (dI 12 1) = some (.ref srn) → el H sra (dI 12 2) = some (.int snr) → el H dsk (dI 11 6) = some (.int u3) → el H dwi (dI 12 2) = some (.int u4) → el H dra (dI 12 2) = some (.int u5) → el H o0 (dI 6 1) = some (.ref b53) → el H p0 (dI 6 1) = some (.ref b56) → el H p0 (dI 6 3) = some (.int z449) → ∀ ls : Array Slot, lv_has ls 3 [(2, .int z400), (0, .ref o0), (1, .ref p0)] → W p l e (headSpec w_c_cpX3_iY ({ frames := 4, cells := 0, slots := 0, locals := 102 })).room s m #[.ref o0, .ref p0] below meth c H locs 0 0 (MQ below (va_Qv (fun (u : Int32 × Int32 × Int32 × Int32) => match u with | (dho, dns, dnw, dnr) => (dho.toInt = sho.toInt ∧ dns.toInt = sns.toInt ∧ dnw.toInt = snw.toInt ∧ dnr.toInt = snr.toInt)) (fun (u : Int32 × Int32 × Int32 × Int32) (t : State) => match u with | (dho, dns, dnw, dnr) => gH (dC, dI) kA (SHc nC nS) G t.heap ∧ gF (dC, dI) SKc G ([(71, 0), (72, 0), (73, 0), (74, 0), (75, 0), (76, 0), (77, 0), (78, 0), (79, 0), (80, 0), (81, 0), (82, 0), (83, 0), (84, 0), (88, 0), (89, 0), (90, 3), (90, 4), (91, 6), (92, 2), (93, 11), (93, 12), (93, 13), (93, 14), (94, 2), (94, 3), (94, 4), (94, 5), (94, 6), (94, 7), (94, 8), (94, 9), (94, 10), (94, 11), (133, 2), (134, 0), (135, 0)] : List (Nat × Nat)) s.heap t.heap ∧ el t.heap o0 (dI 6 4) = some (.int dho) ∧ el t.heap dsk (dI 11 6) = some (.int dns) ∧ el t.heap dwi (dI 12 2) = some (.int dnw) ∧ el t.heap dra (dI 12 2) = some (.int dnr) ∧ ct t.heap dti 12 sVT ∧ ct t.heap dsf 20 sVF ∧ ct t.heap dso 20 sVO ∧ ct t.heap dsm 20 sVM ∧ ct t.heap dwh 60 sVH ∧ ct t.heap dwn 60 sVN ∧ ct t.heap drh 60 sVR ∧ ct t.heap drn 60 sVQ) A) #[.ref o0, .ref p0] s 0 0 A) (F0 m 53 ls []) := by
    intro z400 z449 ⟨h401, h450⟩ H locs hT hF hS m402 m403 m404 m405 m406 m407 m408 m409 m410 m411 m412 m413 m414 m415 m416 m417 m418 m419 m420 m421 m422 m423 m424 m425 m426 m427 m428 m429 m430 m431 m432 m433 m434 m435 m436 m437 m438 m439 m440 m441 m442 m443 m444 m445 m446 m447 m448 m451 ls hl
    refine lv_aload_n hx hb dX3_copyFrom_53 rfl (lv_at hl 1 rfl) ?_
    refine lv_aload_n hx hb dX3_copyFrom_54 rfl (lv_at hl 2 rfl) ?_
    refine tw_getM (v := .int z449) hx hb hts bF2_X3 hown hK hT hr_p0 shc_6 rfl 3 (by decide) (ht_at2 hts 45 rfl) (fun _ h9 => h9) m451 dX3_copyFrom_55 ?_
    refine tw_put (v := .int z449) (ty := .int) hx hb hts bF2_X3 tyX3 tyX3_ok nmX3 hown hK hT hG hS hr_o0 shc_90 rfl 3 (by decide) (ht_at2 hts 45 rfl) (fun _ h9 => h9) rfl (by decide +kernel) rfl rfl (gl_at rfl (gi_of (show z449.toInt = z449.toInt from rfl) (by omega) (by omega))) dX3_copyFrom_58 (fun H locs hT oq m453 oj hS => ?_)
    have hF := hF.put hr_o0 skc_90 oq oj (by decide)
    have m462 := m410.kept (oq _ (gne hr_dti hr_o0 (by decide)))
    have m463 := m411.kept (oq _ (gne hr_dsf hr_o0 (by decide)))
    have m464 := m412.kept (oq _ (gne hr_dso hr_o0 (by decide)))
    have m465 := m413.kept (oq _ (gne hr_dsm hr_o0 (by decide)))
    have m466 := m414.kept (oq _ (gne hr_dwh hr_o0 (by decide)))
    have m467 := m415.kept (oq _ (gne hr_dwn hr_o0 (by decide)))
    have m468 := m416.kept (oq _ (gne hr_drh hr_o0 (by decide)))
    have m469 := m417.kept (oq _ (gne hr_drn hr_o0 (by decide)))
    have m481 := (el_kept (oq _ (gne hr_p0 hr_o0 (by decide)))).trans m429
    have m496 := (el_kept (oq _ (gne hr_dsk hr_o0 (by decide)))).trans m444
    have m497 := (el_kept (oq _ (gne hr_dwi hr_o0 (by decide)))).trans m445
    have m498 := (el_kept (oq _ (gne hr_dra hr_o0 (by decide)))).trans m446
    refine lv_aload_n hx hb dX3_copyFrom_61 rfl (lv_at hl 1 rfl) ?_
    refine lv_aload_n hx hb dX3_copyFrom_62 rfl (lv_at hl 2 rfl) ?_
    refine tw_getM (v := .int sho) hx hb hts bF2_X3 hown hK hT hr_p0 shc_6 rfl 4 (by decide) (ht_at2 hts 46 rfl) (fun _ h9 => h9) m481 dX3_copyFrom_63 ?_
    refine tw_put (v := .int sho) (ty := .int) hx hb hts bF2_X3 tyX3 tyX3_ok nmX3 hown hK hT hG hS hr_o0 shc_90 rfl 4 (by decide) (ht_at2 hts 46 rfl) (fun _ h9 => h9) rfl (by decide +kernel) rfl rfl (gl_at rfl (gi_of (show sho.toInt = sho.toInt from rfl) (by omega) (by omega))) dX3_copyFrom_66 (fun H locs hT oq m502 oj hS => ?_)
    have hF := hF.put hr_o0 skc_90 oq oj (by decide)
    have m511 := m462.kept (oq _ (gne hr_dti hr_o0 (by decide)))
    have m512 := m463.kept (oq _ (gne hr_dsf hr_o0 (by decide)))
    have m513 := m464.kept (oq _ (gne hr_dso hr_o0 (by decide)))
    have m514 := m465.kept (oq _ (gne hr_dsm hr_o0 (by decide)))
    have m515 := m466.kept (oq _ (gne hr_dwh hr_o0 (by decide)))
    have m516 := m467.kept (oq _ (gne hr_dwn hr_o0 (by decide)))
    have m517 := m468.kept (oq _ (gne hr_drh hr_o0 (by decide)))
    have m518 := m469.kept (oq _ (gne hr_drn hr_o0 (by decide)))
    have m545 := (el_kept (oq _ (gne hr_dsk hr_o0 (by decide)))).trans m496
    have m546 := (el_kept (oq _ (gne hr_dwi hr_o0 (by decide)))).trans m497
    have m547 := (el_kept (oq _ (gne hr_dra hr_o0 (by decide)))).trans m498
    exact W.vret hx hb hr (fun t ht hW => ⟨⟨(sho, u3, u4, u5), rfl, (by exact (by omega)), by (try dsimp only); rw [ht]; exact ⟨hT, hF, m502, m545, m546, m547, m511, m512, m513, m514, m515, m516, m517, m518⟩⟩, hS.F ht⟩) hS.2.2 dX3_copyFrom_69
  have key552 : ∀ (n552 i107 : Nat), i107 + n552 = 30 → 0 ≤ i107 → ∀ (H : Heap) (locs : List Loc), gH (dC, dI) kA (SHc nC nS) G H → gF (dC, dI) SKc G ([(71, 0), (72, 0), (73, 0), (74, 0), (75, 0), (76, 0), (77, 0), (78, 0), (79, 0), (80, 0), (81, 0), (82, 0), (83, 0), (84, 0), (88, 0), (89, 0), (90, 3), (90, 4), (91, 6), (92, 2), (93, 11), (93, 12), (93, 13), (93, 14), (94, 2), (94, 3), (94, 4), (94, 5), (94, 6), (94, 7), (94, 8), (94, 9), (94, 10), (94, 11), (133, 2), (134, 0), (135, 0)] : List (Nat × Nat)) s.heap H → va_S A s.heap H locs → ct H sti 12 sVT → ct H ssf 20 sVF → ct H sso 20 sVO → ct H ssm 20 sVM → ct H swh 60 sVH → ct H swn 60 sVN → ct H srh 60 sVR → ct H srn 60 sVQ → ct H dti 12 sVT → ct H dsf 20 sVF → ct H dso 20 sVO → ct H dsm 20 sVM → ct H dwh 60 sVH → ct H dwn 60 sVN → ct H drh 60 sVR → ct H drn 60 sVQ → el H o0 (dI 6 0) = some (.ref dsk) → el H dsk (dI 11 0) = some (.ref dti) → el H dsk (dI 11 1) = some (.ref dsf) → el H dsk (dI 11 2) = some (.ref dso) → el H dsk (dI 11 3) = some (.ref dsm) → el H dsk (dI 11 4) = some (.ref dwi) → el H dwi (dI 12 0) = some (.ref dwh) → el H dwi (dI 12 1) = some (.ref dwn) → el H dsk (dI 11 5) = some (.ref dra) → el H dra (dI 12 0) = some (.ref drh) → el H dra (dI 12 1) = some (.ref drn) → el H p0 (dI 6 4) = some (.int sho) → el H p0 (dI 6 0) = some (.ref ssk) → el H ssk (dI 11 0) = some (.ref sti) → el H ssk (dI 11 1) = some (.ref ssf) → el H ssk (dI 11 2) = some (.ref sso) → el H ssk (dI 11 3) = some (.ref ssm) → el H ssk (dI 11 6) = some (.int sns) → el H ssk (dI 11 4) = some (.ref swi) → el H swi (dI 12 0) = some (.ref swh) → el H swi (dI 12 1) = some (.ref swn) → el H swi (dI 12 2) = some (.int snw) → el H ssk (dI 11 5) = some (.ref sra) → el H sra (dI 12 0) = some (.ref srh) → el H sra (dI 12 1) = some (.ref srn) → el H sra (dI 12 2) = some (.int snr) → el H dsk (dI 11 6) = some (.int u3) → el H dwi (dI 12 2) = some (.int u4) → el H dra (dI 12 2) = some (.int u5) → el H o0 (dI 6 1) = some (.ref b53) → el H p0 (dI 6 1) = some (.ref b56) → ∀ ls : Array Slot, lv_has ls 3 [(2, .int (nI i107)), (0, .ref o0), (1, .ref p0)] → W p l e (headSpec w_c_cpX3_iY ({ frames := 4, cells := 0, slots := 0, locals := 102 })).room s m #[.ref o0, .ref p0] below meth c H locs 0 0 (MQ below (va_Qv (fun (u : Int32 × Int32 × Int32 × Int32) => match u with | (dho, dns, dnw, dnr) => (dho.toInt = sho.toInt ∧ dns.toInt = sns.toInt ∧ dnw.toInt = snw.toInt ∧ dnr.toInt = snr.toInt)) (fun (u : Int32 × Int32 × Int32 × Int32) (t : State) => match u with | (dho, dns, dnw, dnr) => gH (dC, dI) kA (SHc nC nS) G t.heap ∧ gF (dC, dI) SKc G ([(71, 0), (72, 0), (73, 0), (74, 0), (75, 0), (76, 0), (77, 0), (78, 0), (79, 0), (80, 0), (81, 0), (82, 0), (83, 0), (84, 0), (88, 0), (89, 0), (90, 3), (90, 4), (91, 6), (92, 2), (93, 11), (93, 12), (93, 13), (93, 14), (94, 2), (94, 3), (94, 4), (94, 5), (94, 6), (94, 7), (94, 8), (94, 9), (94, 10), (94, 11), (133, 2), (134, 0), (135, 0)] : List (Nat × Nat)) s.heap t.heap ∧ el t.heap o0 (dI 6 4) = some (.int dho) ∧ el t.heap dsk (dI 11 6) = some (.int dns) ∧ el t.heap dwi (dI 12 2) = some (.int dnw) ∧ el t.heap dra (dI 12 2) = some (.int dnr) ∧ ct t.heap dti 12 sVT ∧ ct t.heap dsf 20 sVF ∧ ct t.heap dso 20 sVO ∧ ct t.heap dsm 20 sVM ∧ ct t.heap dwh 60 sVH ∧ ct t.heap dwn 60 sVN ∧ ct t.heap drh 60 sVR ∧ ct t.heap drn 60 sVQ) A) #[.ref o0, .ref p0] s 0 0 A) (F0 m 24 ls []) := by
    intro n552
    induction n552 with
    | zero =>
      intro i107 hn552 hlo553  H locs hT hF hS m108 m109 m110 m111 m112 m113 m114 m115 m116 m117 m118 m119 m120 m121 m122 m123 m124 m125 m126 m127 m128 m129 m130 m131 m132 m133 m134 m135 m136 m137 m138 m139 m140 m141 m142 m143 m144 m145 m146 m147 m148 m149 m150 m151 m152 m153 m154 ls hl
      obtain rfl : 30 = i107 := by omega
      refine lv_iload_n hx hb dX3_copyFrom_24 rfl (lv_at hl 0 rfl) ?_
      refine lv_aload_n hx hb dX3_copyFrom_25 rfl (lv_at hl 2 rfl) ?_
      refine tw_get hx hb hts bF2_X3 hown hK hT hr_p0 shc_6 rfl 3 (by decide) (ht_at2 hts 45 rfl) (fun _ h9 => h9) dX3_copyFrom_26 (fun v9 m554 h9 => ?_)
      obtain ⟨x555, rfl, gx555, kx555⟩ := h9 _ rfl
      refine lv_icmp_ge (tgt := 53) hx hb dX3_copyFrom_29 (by decide) (fun c556 => ?_) (fun c556 => (by exfalso; have q9 : ((30 : Nat) : Int) < x555.toInt := ti_nle c556 rfl (nI_toInt (by omega)); omega))
      have t557 : x555.toInt ≤ ((30 : Nat) : Int) := ti_le c556 rfl (nI_toInt (by omega))
      exact jn452 (nI 30) x555 ⟨(rg_t (a := ((30 : Nat) : Int)) (nI_toInt (by omega)) (by omega) (by omega)), (by have q8 := ti_all x555; omega)⟩ _ _ hT hF hS m108 m109 m110 m111 m112 m113 m114 m115 m116 m117 m118 m119 m120 m121 m122 m123 m124 m125 m126 m127 m128 m129 m130 m131 m132 m133 m134 m135 m136 m137 m138 m139 m140 m141 m142 m143 m144 m145 m146 m147 m148 m149 m150 m151 m152 m153 m154 m554 ls (lv_sub hl [0, 1, 2] rfl)
    | succ n552 ih552 =>
      intro i107 hn552 hlo553  H locs hT hF hS m108 m109 m110 m111 m112 m113 m114 m115 m116 m117 m118 m119 m120 m121 m122 m123 m124 m125 m126 m127 m128 m129 m130 m131 m132 m133 m134 m135 m136 m137 m138 m139 m140 m141 m142 m143 m144 m145 m146 m147 m148 m149 m150 m151 m152 m153 m154 ls hl
      have hlt557 : i107 < 30 := by omega
      refine lv_iload_n hx hb dX3_copyFrom_24 rfl (lv_at hl 0 rfl) ?_
      refine lv_aload_n hx hb dX3_copyFrom_25 rfl (lv_at hl 2 rfl) ?_
      refine tw_get hx hb hts bF2_X3 hown hK hT hr_p0 shc_6 rfl 3 (by decide) (ht_at2 hts 45 rfl) (fun _ h9 => h9) dX3_copyFrom_26 (fun v9 m558 h9 => ?_)
      obtain ⟨x559, rfl, gx559, kx559⟩ := h9 _ rfl
      refine lv_icmp_ge (tgt := 53) hx hb dX3_copyFrom_29 (by decide) (fun c560 => ?_) (fun c560 => ?_)
      · have t561 : x559.toInt ≤ ((i107 : Nat) : Int) := ti_le c560 rfl (nI_toInt (by omega))
        exact jn452 (nI i107) x559 ⟨(rg_t (a := ((i107 : Nat) : Int)) (nI_toInt (by omega)) (by omega) (by omega)), (by have q8 := ti_all x559; omega)⟩ _ _ hT hF hS m108 m109 m110 m111 m112 m113 m114 m115 m116 m117 m118 m119 m120 m121 m122 m123 m124 m125 m126 m127 m128 m129 m130 m131 m132 m133 m134 m135 m136 m137 m138 m139 m140 m141 m142 m143 m144 m145 m146 m147 m148 m149 m150 m151 m152 m153 m154 m558 ls (lv_sub hl [0, 1, 2] rfl)
      · have t562 : ((i107 : Nat) : Int) < x559.toInt := ti_nle c560 rfl (nI_toInt (by omega))
        refine lv_aload_n hx hb dX3_copyFrom_32 rfl (lv_at hl 1 rfl) ?_
        refine tw_get hx hb hts bF2_X3 hown hK hT hr_o0 shc_90 rfl 2 (by decide) (ht_at2 hts 47 rfl) (fun _ h9 => h9) dX3_copyFrom_33 (fun v9 m563 h9 => ?_)
        obtain ⟨b564, rfl, hg565⟩ := h9 _ rfl
        refine lv_iload_n hx hb dX3_copyFrom_36 rfl (lv_at hl 0 rfl) ?_
        refine tw_aald (i := (nI i107)) hx hb hK hT hg565 shc_70 rfl (vp_in_nI (by omega) (by decide)) dX3_copyFrom_37 (fun v9 m566 h9 => ?_)
        obtain ⟨b567, rfl, hg568⟩ := h9
        refine lv_aload_n hx hb dX3_copyFrom_38 rfl (lv_at hl 2 rfl) ?_
        refine tw_get hx hb hts bF2_X3 hown hK hT hr_p0 shc_6 rfl 2 (by decide) (ht_at2 hts 47 rfl) (fun _ h9 => h9) dX3_copyFrom_39 (fun v9 m569 h9 => ?_)
        obtain ⟨b570, rfl, hg571⟩ := h9 _ rfl
        refine lv_iload_n hx hb dX3_copyFrom_42 rfl (lv_at hl 0 rfl) ?_
        refine tw_aald (i := (nI i107)) hx hb hK hT hg571 shc_18 rfl (vp_in_nI (by omega) (by decide)) dX3_copyFrom_43 (fun v9 m572 h9 => ?_)
        obtain ⟨b573, rfl, hg574⟩ := h9
        have hFc := gA_free hG hA hS
        refine va_callv (va_runV (As := [.ref b573]) (rest := []) ⟨hx, hb, hml, hown, hts⟩ (c_copyW_i l dC dI kA adK adV G H nC nS b567 b573 hT hg568 hg574 (by omega) (by omega)) (cwV 1 hts (goodIn_app (goodIn_r _ [63, 64, 65, 66] rfl (by decide +kernel)) (goodIn_ca (goodIn_r _ [49, 50, 51, 5, 6, 7, 52, 53, 54, 55, 56, 57, 58, 59, 60, 61, 62] rfl (by decide +kernel)) (bs2_in _ _))) rfl rfl rfl (by decide +kernel) ⟨(Nat.le_of_ble_eq_true rfl), (Nat.le_of_ble_eq_true rfl)⟩) ⟨fun a U g mk q => by obtain ⟨q0, q1, qK, qE⟩ := q; exact ⟨q0, q1, va_K.moved (u := U) (U := U.calling g mk a) (Vm.Alike.refl U.vm) qK, EVC.blind g mk a qE⟩, gH_rc hK hT hg568 shc_94 rfl, fun U hU hW => ⟨rfl, hU, va_K.moved hW.alike hK, hE.call hS hFc hU hW⟩⟩ rfl rfl hl.1 rfl (lv_room (Nat.le_of_ble_eq_true rfl)) dX3_copyFrom_44 ⟨(Nat.le_of_ble_eq_true rfl), (Nat.le_of_ble_eq_true rfl)⟩) hS (fun q _ h => hFc q h) hFc (fun u t H locs ht hvm hw576 hB _ _ hS => ?_)
        obtain ⟨hT, hF1⟩ := hB
        rw [ht] at hT hF1
        have m577 := m108.kept (hF1.arr hr_sti skc_19 (by decide))
        have m578 := m109.kept (hF1.arr hr_ssf skc_20 (by decide))
        have m579 := m110.kept (hF1.arr hr_sso skc_21 (by decide))
        have m580 := m111.kept (hF1.arr hr_ssm skc_22 (by decide))
        have m581 := m112.kept (hF1.arr hr_swh skc_131 (by decide))
        have m582 := m113.kept (hF1.arr hr_swn skc_132 (by decide))
        have m583 := m114.kept (hF1.arr hr_srh skc_23 (by decide))
        have m584 := m115.kept (hF1.arr hr_srn skc_24 (by decide))
        have m585 := m116.kept (hF1.arr hr_dti skc_71 (by decide))
        have m586 := m117.kept (hF1.arr hr_dsf skc_72 (by decide))
        have m587 := m118.kept (hF1.arr hr_dso skc_73 (by decide))
        have m588 := m119.kept (hF1.arr hr_dsm skc_74 (by decide))
        have m589 := m120.kept (hF1.arr hr_dwh skc_134 (by decide))
        have m590 := m121.kept (hF1.arr hr_dwn skc_135 (by decide))
        have m591 := m122.kept (hF1.arr hr_drh skc_75 (by decide))
        have m592 := m123.kept (hF1.arr hr_drn skc_76 (by decide))
        have m593 := (hF1.fld hr_o0 skc_90 (k := 0) (by decide) (by decide)).trans m124
        have m594 := (hF1.fld hr_dsk skc_91 (k := 0) (by decide) (by decide)).trans m125
        have m595 := (hF1.fld hr_dsk skc_91 (k := 1) (by decide) (by decide)).trans m126
        have m596 := (hF1.fld hr_dsk skc_91 (k := 2) (by decide) (by decide)).trans m127
        have m597 := (hF1.fld hr_dsk skc_91 (k := 3) (by decide) (by decide)).trans m128
        have m598 := (hF1.fld hr_dsk skc_91 (k := 4) (by decide) (by decide)).trans m129
        have m599 := (hF1.fld hr_dwi skc_133 (k := 0) (by decide) (by decide)).trans m130
        have m600 := (hF1.fld hr_dwi skc_133 (k := 1) (by decide) (by decide)).trans m131
        have m601 := (hF1.fld hr_dsk skc_91 (k := 5) (by decide) (by decide)).trans m132
        have m602 := (hF1.fld hr_dra skc_92 (k := 0) (by decide) (by decide)).trans m133
        have m603 := (hF1.fld hr_dra skc_92 (k := 1) (by decide) (by decide)).trans m134
        have m604 := (hF1.fld hr_p0 skc_6 (k := 4) (by decide) (by decide)).trans m135
        have m605 := (hF1.fld hr_p0 skc_6 (k := 0) (by decide) (by decide)).trans m136
        have m606 := (hF1.fld hr_ssk skc_11 (k := 0) (by decide) (by decide)).trans m137
        have m607 := (hF1.fld hr_ssk skc_11 (k := 1) (by decide) (by decide)).trans m138
        have m608 := (hF1.fld hr_ssk skc_11 (k := 2) (by decide) (by decide)).trans m139
        have m609 := (hF1.fld hr_ssk skc_11 (k := 3) (by decide) (by decide)).trans m140
        have m610 := (hF1.fld hr_ssk skc_11 (k := 6) (by decide) (by decide)).trans m141
        have m611 := (hF1.fld hr_ssk skc_11 (k := 4) (by decide) (by decide)).trans m142
        have m612 := (hF1.fld hr_swi skc_130 (k := 0) (by decide) (by decide)).trans m143
        have m613 := (hF1.fld hr_swi skc_130 (k := 1) (by decide) (by decide)).trans m144
        have m614 := (hF1.fld hr_swi skc_130 (k := 2) (by decide) (by decide)).trans m145
        have m615 := (hF1.fld hr_ssk skc_11 (k := 5) (by decide) (by decide)).trans m146
        have m616 := (hF1.fld hr_sra skc_12 (k := 0) (by decide) (by decide)).trans m147
        have m617 := (hF1.fld hr_sra skc_12 (k := 1) (by decide) (by decide)).trans m148
        have m618 := (hF1.fld hr_sra skc_12 (k := 2) (by decide) (by decide)).trans m149
        have m619 := (hF1.fld hr_dsk skc_91 (k := 6) (by decide) (by decide)).trans m150
        have m620 := (hF1.fld hr_dwi skc_133 (k := 2) (by decide) (by decide)).trans m151
        have m621 := (hF1.fld hr_dra skc_92 (k := 2) (by decide) (by decide)).trans m152
        have m622 := (hF1.fld hr_o0 skc_90 (k := 1) (by decide) (by decide)).trans m153
        have m623 := (hF1.fld hr_p0 skc_6 (k := 1) (by decide) (by decide)).trans m154
        have hF := hF.more hF1 (by decide)
        try dsimp only at hw576
        refine lv_iinc (v := nI (i107 + 1)) (lv' := [(2, .int (nI (i107 + 1))), (0, .ref o0), (1, .ref p0)]) hx hb dX3_copyFrom_47 hl (k := 0) rfl (nI_add i107 1) (by decide) rfl (fun ls hl => ?_)
        refine lv_goto (tgt := 24) hx hb dX3_copyFrom_50 (by decide) ?_
        exact ih552 (i107 + 1) (by omega) (by omega) _ _ hT hF hS m577 m578 m579 m580 m581 m582 m583 m584 m585 m586 m587 m588 m589 m590 m591 m592 m593 m594 m595 m596 m597 m598 m599 m600 m601 m602 m603 m604 m605 m606 m607 m608 m609 m610 m611 m612 m613 m614 m615 m616 m617 m618 m619 m620 m621 m622 m623 ls (lv_sub hl [0, 1, 2] rfl)
  exact key552 (30 - 0) 0 (by omega) (Nat.le_refl _) _ _ hT hF hS m86 m87 m88 m89 m90 m91 m92 m93 m97 m98 m99 m100 m101 m102 m103 m104 m60 m61 m62 m63 m64 m65 m66 m67 m68 m69 m70 m71 m72 m73 m74 m75 m76 m77 m78 m79 m80 m81 m82 m83 m84 m85 m94 m95 m96 m105 m106 ls (lv_sub hl [0, 1, 2] rfl)
def w_c_cpX3_lY : List Cond := .code yX3_copyFrom cX3_copyFrom 3 none :: (HAppend.hAppend (α := List Cond) (β := List Cond) (γ := List Cond) [.fieldLink RX3 12 "SeaLand$Lake" "sky" "LSeaLand$Sky;", .code yX8_copyFrom cX8_copyFrom 2 none, .fieldLink RX8 9 "SeaLand$Sky" "tides" "[I", .methodLink RX8 63 arraycopyName, .native arraycopyName, .static arraycopyName, .initialized "java/lang/System", .fieldLink RX8 15 "SeaLand$Sky" "stormFrom" "[I", .fieldLink RX8 18 "SeaLand$Sky" "stormTo" "[I", .fieldLink RX8 21 "SeaLand$Sky" "stormMore" "[I", .fieldLink RX8 27 "SeaLand$Sky" "wind" "LSeaLand$Tellings;", .code yX9_copyFrom cX9_copyFrom 2 none, .fieldLink RX9 9 "SeaLand$Tellings" "hours" "[I", .methodLink RX9 23 arraycopyName, .fieldLink RX9 15 "SeaLand$Tellings" "numbers" "[I", .fieldLink RX9 18 "SeaLand$Tellings" "told" "I", .methodLink RX8 69 yX9_copyFrom, .instanceMethod yX9_copyFrom, .selects RX9 yX9_copyFrom yX9_copyFrom, .initialized RX9, .fieldLink RX8 31 "SeaLand$Sky" "rain" "LSeaLand$Tellings;", .fieldLink RX8 34 "SeaLand$Sky" "storms" "I", .methodLink RX3 175 yX8_copyFrom, .instanceMethod yX8_copyFrom, .selects RX8 yX8_copyFrom yX8_copyFrom, .initialized RX8, .fieldLink RX3 21 "SeaLand$Lake" "ground" "LSeaLand$Ground;", .code yX2_copyFrom cX2_copyFrom 2 none, .fieldLink RX2 9 "SeaLand$Ground" "isLand" "[Z", .methodLink RX2 95 arraycopyName, .fieldLink RX2 15 "SeaLand$Ground" "height" "[I", .fieldLink RX2 19 "SeaLand$Ground" "soil" "[I", .fieldLink RX2 22 "SeaLand$Ground" "ditch" "[I", .fieldLink RX2 25 "SeaLand$Ground" "water" "[I", .fieldLink RX2 28 "SeaLand$Ground" "salt" "[I", .fieldLink RX2 31 "SeaLand$Ground" "dry" "[I", .fieldLink RX2 34 "SeaLand$Ground" "wet" "[I", .fieldLink RX2 54 "SeaLand$Ground" "rained" "I", .fieldLink RX2 57 "SeaLand$Ground" "cameIn" "I", .fieldLink RX2 64 "SeaLand$Ground" "wentOut" "I", .fieldLink RX2 50 "SeaLand$Ground" "toldMore" "I", .methodLink RX3 179 yX2_copyFrom, .instanceMethod yX2_copyFrom, .selects RX2 yX2_copyFrom yX2_copyFrom, .initialized RX2, .fieldLink RX3 47 "SeaLand$Lake" "built" "I", .fieldLink RX3 32 "SeaLand$Lake" "hour" "I", .fieldLink RX3 27 "SeaLand$Lake" "works" "[LSeaLand$Work;", .code yX10_copyFrom cX10_copyFrom 2 none, .fieldLink RX10 9 "SeaLand$Work" "thick" "[I", .methodLink RX10 60 arraycopyName, .fieldLink RX10 15 "SeaLand$Work" "clay" "[I", .fieldLink RX10 18 "SeaLand$Work" "kind" "I", .fieldLink RX10 22 "SeaLand$Work" "square" "I", .fieldLink RX10 25 "SeaLand$Work" "to" "I", .fieldLink RX10 28 "SeaLand$Work" "size" "I", .fieldLink RX10 31 "SeaLand$Work" "width" "I", .fieldLink RX10 34 "SeaLand$Work" "layers" "I", .fieldLink RX10 37 "SeaLand$Work" "coal" "I", .fieldLink RX10 40 "SeaLand$Work" "on" "Z", .fieldLink RX10 44 "SeaLand$Work" "latest" "I", .fieldLink RX10 47 "SeaLand$Work" "total" "I", .methodLink RX3 182 yX10_copyFrom, .instanceMethod yX10_copyFrom, .selects RX10 yX10_copyFrom yX10_copyFrom, .initialized RX10] bs2)
set_option maxHeartbeats 4000000 in
set_option maxRecDepth 100000 in
theorem c_cpX3_lY (l : Launch) (dC : Nat → ClassId) (dI : Nat → Nat → Nat) (kA : Nat → ClassId) (adK adV : Nat → Nat) (G : gT) (H0 : Heap) (nC nS : Int) (o0 : Nat) (p0 : Nat) (dsk : Nat) (dti : Nat) (dsf : Nat) (dso : Nat) (dsm : Nat) (dwi : Nat) (dwh : Nat) (dwn : Nat) (dra : Nat) (drh : Nat) (drn : Nat) (sho : Int32) (ssk : Nat) (sti : Nat) (ssf : Nat) (sso : Nat) (ssm : Nat) (sns : Int32) (swi : Nat) (swh : Nat) (swn : Nat) (snw : Int32) (sra : Nat) (srh : Nat) (srn : Nat) (snr : Int32) (sVT : Nat → Int32) (sVF : Nat → Int32) (sVO : Nat → Int32) (sVM : Nat → Int32) (sVH : Nat → Int32) (sVN : Nat → Int32) (sVR : Nat → Int32) (sVQ : Nat → Int32)  (hT : gH (dC, dI) kA (SHc nC nS) G H0) (hr_o0 : G o0 = some 6) (hr_p0 : G p0 = some 90) (hm_dsk : el H0 o0 (dI 6 0) = some (.ref dsk)) (hr_dsk : G dsk = some 11) (hm_dti : el H0 dsk (dI 11 0) = some (.ref dti)) (hr_dti : G dti = some 19) (hm_dsf : el H0 dsk (dI 11 1) = some (.ref dsf)) (hr_dsf : G dsf = some 20) (hm_dso : el H0 dsk (dI 11 2) = some (.ref dso)) (hr_dso : G dso = some 21) (hm_dsm : el H0 dsk (dI 11 3) = some (.ref dsm)) (hr_dsm : G dsm = some 22) (hm_dwi : el H0 dsk (dI 11 4) = some (.ref dwi)) (hr_dwi : G dwi = some 130) (hm_dwh : el H0 dwi (dI 12 0) = some (.ref dwh)) (hr_dwh : G dwh = some 131) (hm_dwn : el H0 dwi (dI 12 1) = some (.ref dwn)) (hr_dwn : G dwn = some 132) (hm_dra : el H0 dsk (dI 11 5) = some (.ref dra)) (hr_dra : G dra = some 12) (hm_drh : el H0 dra (dI 12 0) = some (.ref drh)) (hr_drh : G drh = some 23) (hm_drn : el H0 dra (dI 12 1) = some (.ref drn)) (hr_drn : G drn = some 24) (hm_sho : el H0 p0 (dI 6 4) = some (.int sho)) (hm_ssk : el H0 p0 (dI 6 0) = some (.ref ssk)) (hr_ssk : G ssk = some 91) (hm_sti : el H0 ssk (dI 11 0) = some (.ref sti)) (hr_sti : G sti = some 71) (hm_ssf : el H0 ssk (dI 11 1) = some (.ref ssf)) (hr_ssf : G ssf = some 72) (hm_sso : el H0 ssk (dI 11 2) = some (.ref sso)) (hr_sso : G sso = some 73) (hm_ssm : el H0 ssk (dI 11 3) = some (.ref ssm)) (hr_ssm : G ssm = some 74) (hm_sns : el H0 ssk (dI 11 6) = some (.int sns)) (hm_swi : el H0 ssk (dI 11 4) = some (.ref swi)) (hr_swi : G swi = some 133) (hm_swh : el H0 swi (dI 12 0) = some (.ref swh)) (hr_swh : G swh = some 134) (hm_swn : el H0 swi (dI 12 1) = some (.ref swn)) (hr_swn : G swn = some 135) (hm_snw : el H0 swi (dI 12 2) = some (.int snw)) (hm_sra : el H0 ssk (dI 11 5) = some (.ref sra)) (hr_sra : G sra = some 92) (hm_srh : el H0 sra (dI 12 0) = some (.ref srh)) (hr_srh : G srh = some 75) (hm_srn : el H0 sra (dI 12 1) = some (.ref srn)) (hr_srn : G srn = some 76) (hm_snr : el H0 sra (dI 12 2) = some (.int snr)) (hq0 : 0 ≤ sho.toInt ∧ sho.toInt ≤ 40000) (hq1 : 0 ≤ sns.toInt ∧ sns.toInt ≤ 20) (hq2 : 0 ≤ snw.toInt ∧ snw.toInt ≤ 60) (hq3 : 0 ≤ snr.toInt ∧ snr.toInt ≤ 60) (hc_sVT : ct H0 sti 12 sVT) (hc_sVF : ct H0 ssf 20 sVF) (hc_sVO : ct H0 sso 20 sVO) (hc_sVM : ct H0 ssm 20 sVM) (hc_sVH : ct H0 swh 60 sVH) (hc_sVN : ct H0 swn 60 sVN) (hc_sVR : ct H0 srh 60 sVR) (hc_sVQ : ct H0 srn 60 sVQ) (hgC : 0 ≤ nC ∧ nC ≤ 40) (hgS : 0 ≤ nS ∧ nS ≤ 60) : Met l yX3_copyFrom w_c_cpX3_lY ({ frames := 4, cells := 0, slots := 0, locals := 102 }) (va_Pc [.ref o0, .ref p0] (fun U => U.heap = H0 ∧ va_K (dC, dI) vwCl (tyl kA) U ∧ EVC adK adV (gA G H0.size) U U.heap)) (va_Qv (fun (u : Int32 × Int32 × Int32 × Int32) => match u with | (dho, dns, dnw, dnr) => (dho.toInt = sho.toInt ∧ dns.toInt = sns.toInt ∧ dnw.toInt = snw.toInt ∧ dnr.toInt = snr.toInt)) (fun (u : Int32 × Int32 × Int32 × Int32) (t : State) => match u with | (dho, dns, dnw, dnr) => gH (dC, dI) kA (SHc nC nS) G t.heap ∧ gF (dC, dI) SKc G ([(5, 11), (5, 12), (5, 13), (5, 14), (6, 3), (6, 4), (11, 6), (12, 2), (13, 2), (13, 3), (13, 4), (13, 5), (13, 6), (13, 7), (13, 8), (13, 9), (13, 10), (13, 11), (19, 0), (20, 0), (21, 0), (22, 0), (23, 0), (24, 0), (25, 0), (26, 0), (27, 0), (28, 0), (29, 0), (30, 0), (31, 0), (32, 0), (36, 0), (37, 0), (130, 2), (131, 0), (132, 0)] : List (Nat × Nat)) H0 t.heap ∧ el t.heap o0 (dI 6 4) = some (.int dho) ∧ el t.heap dsk (dI 11 6) = some (.int dns) ∧ el t.heap dwi (dI 12 2) = some (.int dnw) ∧ el t.heap dra (dI 12 2) = some (.int dnr) ∧ ct t.heap dti 12 sVT ∧ ct t.heap dsf 20 sVF ∧ ct t.heap dso 20 sVO ∧ ct t.heap dsm 20 sVM ∧ ct t.heap dwh 60 sVH ∧ ct t.heap dwn 60 sVN ∧ ct t.heap drh 60 sVR ∧ ct t.heap drn 60 sVQ) (gA G H0.size)) 0 0 (gA G H0.size) := by
  refine Met.ofW (cc := cX3_copyFrom) (maxL := 3) (ret := none) (by decide) rfl ?_
  intro p e s m args below meth c s₁ B hml hv
  obtain ⟨rfl, hH0, hK, hE⟩ := hv
  have hx := B.exec
  have hb := B.bytes
  have hr := B.returns
  have hts := atoms_spec (ws := w_c_cpX3_lY) B.pre
  have hown : s.vm.findClass RX3 = some m.cls := findClass_of_methodNamed B.named
  have hlocks := B.notSynchronized
  subst hH0
  generalize hAe : gA G s.heap.size = A at hE ⊢
  have hA : ∀ q : Nat, s.heap.size ≤ q → A q := fun q h => by rw [← hAe]; exact Or.inr h
  have hG := gA_of hAe
  have hS : va_S A s.heap s.heap [] := va_S.rf
  have hF : gF (dC, dI) SKc G ([(5, 11), (5, 12), (5, 13), (5, 14), (6, 3), (6, 4), (11, 6), (12, 2), (13, 2), (13, 3), (13, 4), (13, 5), (13, 6), (13, 7), (13, 8), (13, 9), (13, 10), (13, 11), (19, 0), (20, 0), (21, 0), (22, 0), (23, 0), (24, 0), (25, 0), (26, 0), (27, 0), (28, 0), (29, 0), (30, 0), (31, 0), (32, 0), (36, 0), (37, 0), (130, 2), (131, 0), (132, 0)] : List (Nat × Nat)) s.heap s.heap := gF.rf
  have hl := lv_entry ([.ref o0, .ref p0]) (n := 3) (Nat.le_of_ble_eq_true rfl)
  rw [lg_entry_eq]
  generalize (lg_sl ([.ref o0, .ref p0]) ++ List.replicate (3 - (lg_sl ([.ref o0, .ref p0])).length) Slot.unset).toArray = ls at hl ⊢
  have hl : lv_has ls 3 [(0, .ref o0), (1, .ref p0)] := hl
  refine lv_aload_n hx hb dX3_copyFrom_0 rfl (lv_at hl 0 rfl) ?_
  refine tw_getM (v := .ref dsk) hx hb hts bF2_X3 hown hK hT hr_o0 shc_6 rfl 0 (by decide) (ht_at2 hts 0 rfl) (fun _ h9 => h9) hm_dsk dX3_copyFrom_1 ?_
  refine lv_aload_n hx hb dX3_copyFrom_4 rfl (lv_at hl 1 rfl) ?_
  refine tw_getM (v := .ref ssk) hx hb hts bF2_X3 hown hK hT hr_p0 shc_90 rfl 0 (by decide) (ht_at2 hts 0 rfl) (fun _ h9 => h9) hm_ssk dX3_copyFrom_5 ?_
  have hFc := gA_free hG hA hS
  refine va_callv (va_runV (As := [.ref ssk]) (rest := []) ⟨hx, hb, hml, hown, hts⟩ (c_cpX8_lY l dC dI kA adK adV G s.heap nC nS dsk ssk dti dsf dso dsm dwi dwh dwn dra drh drn sti ssf sso ssm sns swi swh swn snw sra srh srn snr sVT sVF sVO sVM sVH sVN sVR sVQ hT hr_dsk hr_ssk hm_dti hr_dti hm_dsf hr_dsf hm_dso hr_dso hm_dsm hr_dsm hm_dwi hr_dwi hm_dwh hr_dwh hm_dwn hr_dwn hm_dra hr_dra hm_drh hr_drh hm_drn hr_drn hm_sti hr_sti hm_ssf hr_ssf hm_sso hr_sso hm_ssm hr_ssm hm_sns hm_swi hr_swi hm_swh hr_swh hm_swn hr_swn hm_snw hm_sra hr_sra hm_srh hr_srh hm_srn hr_srn hm_snr (by have q8 := ti_all sns; omega) (by have q8 := ti_all snw; omega) (by have q8 := ti_all snr; omega) hc_sVT hc_sVF hc_sVO hc_sVM hc_sVH hc_sVN hc_sVR hc_sVQ (by omega) (by omega)) (cwV 1 hts (goodIn_app (goodIn_r _ [23, 24, 25, 26] rfl (by decide +kernel)) (goodIn_ca (goodIn_r _ [2, 3, 4, 5, 6, 7, 8, 9, 10, 11, 12, 13, 14, 15, 16, 17, 18, 19, 20, 21, 22] rfl (by decide +kernel)) (bs2_in _ _))) rfl rfl rfl (by decide +kernel) ⟨(Nat.le_of_ble_eq_true rfl), (Nat.le_of_ble_eq_true rfl)⟩) ⟨fun a U g mk q => by obtain ⟨q0, q1, qK, qE⟩ := q; exact ⟨q0, q1, va_K.moved (u := U) (U := U.calling g mk a) (Vm.Alike.refl U.vm) qK, EVC.blind g mk a qE⟩, gH_rc hK hT hr_dsk shc_11 rfl, fun U hU hW => ⟨rfl, hU, va_K.moved hW.alike hK, hE.call hS hFc hU hW⟩⟩ rfl rfl hl.1 rfl (lv_room (Nat.le_of_ble_eq_true rfl)) dX3_copyFrom_8 ⟨(Nat.le_of_ble_eq_true rfl), (Nat.le_of_ble_eq_true rfl)⟩) hS (fun q _ h => hFc q h) hFc (fun u t H locs ht hvm hw2 hB _ _ hS => ?_)
  obtain ⟨u3, u4, u5⟩ := u
  obtain ⟨hT, hF1, m6, m7, m8, m9, m10, m11, m12, m13, m14, m15, m16⟩ := hB
  rw [ht] at hT hF1 m6 m7 m8 m9 m10 m11 m12 m13 m14 m15 m16
  have m17 := (hF1.fld hr_o0 skc_6 (k := 0) (by decide) (by decide)).trans hm_dsk
  have m18 := (hF1.fld hr_dsk skc_11 (k := 0) (by decide) (by decide)).trans hm_dti
  have m19 := (hF1.fld hr_dsk skc_11 (k := 1) (by decide) (by decide)).trans hm_dsf
  have m20 := (hF1.fld hr_dsk skc_11 (k := 2) (by decide) (by decide)).trans hm_dso
  have m21 := (hF1.fld hr_dsk skc_11 (k := 3) (by decide) (by decide)).trans hm_dsm
  have m22 := (hF1.fld hr_dsk skc_11 (k := 4) (by decide) (by decide)).trans hm_dwi
  have m23 := (hF1.fld hr_dwi skc_130 (k := 0) (by decide) (by decide)).trans hm_dwh
  have m24 := (hF1.fld hr_dwi skc_130 (k := 1) (by decide) (by decide)).trans hm_dwn
  have m25 := (hF1.fld hr_dsk skc_11 (k := 5) (by decide) (by decide)).trans hm_dra
  have m26 := (hF1.fld hr_dra skc_12 (k := 0) (by decide) (by decide)).trans hm_drh
  have m27 := (hF1.fld hr_dra skc_12 (k := 1) (by decide) (by decide)).trans hm_drn
  have m28 := (hF1.fld hr_p0 skc_90 (k := 4) (by decide) (by decide)).trans hm_sho
  have m29 := (hF1.fld hr_p0 skc_90 (k := 0) (by decide) (by decide)).trans hm_ssk
  have m30 := (hF1.fld hr_ssk skc_91 (k := 0) (by decide) (by decide)).trans hm_sti
  have m31 := (hF1.fld hr_ssk skc_91 (k := 1) (by decide) (by decide)).trans hm_ssf
  have m32 := (hF1.fld hr_ssk skc_91 (k := 2) (by decide) (by decide)).trans hm_sso
  have m33 := (hF1.fld hr_ssk skc_91 (k := 3) (by decide) (by decide)).trans hm_ssm
  have m34 := (hF1.fld hr_ssk skc_91 (k := 6) (by decide) (by decide)).trans hm_sns
  have m35 := (hF1.fld hr_ssk skc_91 (k := 4) (by decide) (by decide)).trans hm_swi
  have m36 := (hF1.fld hr_swi skc_133 (k := 0) (by decide) (by decide)).trans hm_swh
  have m37 := (hF1.fld hr_swi skc_133 (k := 1) (by decide) (by decide)).trans hm_swn
  have m38 := (hF1.fld hr_swi skc_133 (k := 2) (by decide) (by decide)).trans hm_snw
  have m39 := (hF1.fld hr_ssk skc_91 (k := 5) (by decide) (by decide)).trans hm_sra
  have m40 := (hF1.fld hr_sra skc_92 (k := 0) (by decide) (by decide)).trans hm_srh
  have m41 := (hF1.fld hr_sra skc_92 (k := 1) (by decide) (by decide)).trans hm_srn
  have m42 := (hF1.fld hr_sra skc_92 (k := 2) (by decide) (by decide)).trans hm_snr
  have m43 := hc_sVT.kept (hF1.arr hr_sti skc_71 (by decide))
  have m44 := hc_sVF.kept (hF1.arr hr_ssf skc_72 (by decide))
  have m45 := hc_sVO.kept (hF1.arr hr_sso skc_73 (by decide))
  have m46 := hc_sVM.kept (hF1.arr hr_ssm skc_74 (by decide))
  have m47 := hc_sVH.kept (hF1.arr hr_swh skc_134 (by decide))
  have m48 := hc_sVN.kept (hF1.arr hr_swn skc_135 (by decide))
  have m49 := hc_sVR.kept (hF1.arr hr_srh skc_75 (by decide))
  have m50 := hc_sVQ.kept (hF1.arr hr_srn skc_76 (by decide))
  have hF := hF.more hF1 (by decide)
  try dsimp only at hw2
  have hf51 := hw2
  refine lv_aload_n hx hb dX3_copyFrom_11 rfl (lv_at hl 0 rfl) ?_
  refine tw_get hx hb hts bF2_X3 hown hK hT hr_o0 shc_6 rfl 1 (by decide) (ht_at2 hts 26 rfl) (fun _ h9 => h9) dX3_copyFrom_12 (fun v9 m52 h9 => ?_)
  obtain ⟨b53, rfl, hg54⟩ := h9 _ rfl
  refine lv_aload_n hx hb dX3_copyFrom_15 rfl (lv_at hl 1 rfl) ?_
  refine tw_get hx hb hts bF2_X3 hown hK hT hr_p0 shc_90 rfl 1 (by decide) (ht_at2 hts 26 rfl) (fun _ h9 => h9) dX3_copyFrom_16 (fun v9 m55 h9 => ?_)
  obtain ⟨b56, rfl, hg57⟩ := h9 _ rfl
  have hFc := gA_free hG hA hS
  refine va_callv (va_runV (As := [.ref b56]) (rest := []) ⟨hx, hb, hml, hown, hts⟩ (c_copyG_l l dC dI kA adK adV G H nC nS b53 b56 hT hg54 hg57 (by omega) (by omega)) (cwV 1 hts (goodIn_app (goodIn_r _ [42, 43, 44, 45] rfl (by decide +kernel)) (goodIn_ca (goodIn_r _ [28, 29, 30, 5, 6, 7, 31, 32, 33, 34, 35, 36, 37, 38, 39, 40, 41] rfl (by decide +kernel)) (bs2_in _ _))) rfl rfl rfl (by decide +kernel) ⟨(Nat.le_of_ble_eq_true rfl), (Nat.le_of_ble_eq_true rfl)⟩) ⟨fun a U g mk q => by obtain ⟨q0, q1, qK, qE⟩ := q; exact ⟨q0, q1, va_K.moved (u := U) (U := U.calling g mk a) (Vm.Alike.refl U.vm) qK, EVC.blind g mk a qE⟩, gH_rc hK hT hg54 shc_5 rfl, fun U hU hW => ⟨rfl, hU, va_K.moved hW.alike hK, hE.call hS hFc hU hW⟩⟩ rfl rfl hl.1 rfl (lv_room (Nat.le_of_ble_eq_true rfl)) dX3_copyFrom_19 ⟨(Nat.le_of_ble_eq_true rfl), (Nat.le_of_ble_eq_true rfl)⟩) hS (fun q _ h => hFc q h) hFc (fun u t H locs ht hvm hw59 hB _ _ hS => ?_)
  obtain ⟨hT, hF1⟩ := hB
  rw [ht] at hT hF1
  have m60 := (hF1.fld hr_o0 skc_6 (k := 0) (by decide) (by decide)).trans m17
  have m61 := (hF1.fld hr_dsk skc_11 (k := 0) (by decide) (by decide)).trans m18
  have m62 := (hF1.fld hr_dsk skc_11 (k := 1) (by decide) (by decide)).trans m19
  have m63 := (hF1.fld hr_dsk skc_11 (k := 2) (by decide) (by decide)).trans m20
  have m64 := (hF1.fld hr_dsk skc_11 (k := 3) (by decide) (by decide)).trans m21
  have m65 := (hF1.fld hr_dsk skc_11 (k := 4) (by decide) (by decide)).trans m22
  have m66 := (hF1.fld hr_dwi skc_130 (k := 0) (by decide) (by decide)).trans m23
  have m67 := (hF1.fld hr_dwi skc_130 (k := 1) (by decide) (by decide)).trans m24
  have m68 := (hF1.fld hr_dsk skc_11 (k := 5) (by decide) (by decide)).trans m25
  have m69 := (hF1.fld hr_dra skc_12 (k := 0) (by decide) (by decide)).trans m26
  have m70 := (hF1.fld hr_dra skc_12 (k := 1) (by decide) (by decide)).trans m27
  have m71 := (hF1.fld hr_p0 skc_90 (k := 4) (by decide) (by decide)).trans m28
  have m72 := (hF1.fld hr_p0 skc_90 (k := 0) (by decide) (by decide)).trans m29
  have m73 := (hF1.fld hr_ssk skc_91 (k := 0) (by decide) (by decide)).trans m30
  have m74 := (hF1.fld hr_ssk skc_91 (k := 1) (by decide) (by decide)).trans m31
  have m75 := (hF1.fld hr_ssk skc_91 (k := 2) (by decide) (by decide)).trans m32
  have m76 := (hF1.fld hr_ssk skc_91 (k := 3) (by decide) (by decide)).trans m33
  have m77 := (hF1.fld hr_ssk skc_91 (k := 6) (by decide) (by decide)).trans m34
  have m78 := (hF1.fld hr_ssk skc_91 (k := 4) (by decide) (by decide)).trans m35
  have m79 := (hF1.fld hr_swi skc_133 (k := 0) (by decide) (by decide)).trans m36
  have m80 := (hF1.fld hr_swi skc_133 (k := 1) (by decide) (by decide)).trans m37
  have m81 := (hF1.fld hr_swi skc_133 (k := 2) (by decide) (by decide)).trans m38
  have m82 := (hF1.fld hr_ssk skc_91 (k := 5) (by decide) (by decide)).trans m39
  have m83 := (hF1.fld hr_sra skc_92 (k := 0) (by decide) (by decide)).trans m40
  have m84 := (hF1.fld hr_sra skc_92 (k := 1) (by decide) (by decide)).trans m41
  have m85 := (hF1.fld hr_sra skc_92 (k := 2) (by decide) (by decide)).trans m42
  have m86 := m43.kept (hF1.arr hr_sti skc_71 (by decide))
  have m87 := m44.kept (hF1.arr hr_ssf skc_72 (by decide))
  have m88 := m45.kept (hF1.arr hr_sso skc_73 (by decide))
  have m89 := m46.kept (hF1.arr hr_ssm skc_74 (by decide))
  have m90 := m47.kept (hF1.arr hr_swh skc_134 (by decide))
  have m91 := m48.kept (hF1.arr hr_swn skc_135 (by decide))
  have m92 := m49.kept (hF1.arr hr_srh skc_75 (by decide))
  have m93 := m50.kept (hF1.arr hr_srn skc_76 (by decide))
  have m94 := (hF1.fld hr_dsk skc_11 (k := 6) (by decide) (by decide)).trans m6
  have m95 := (hF1.fld hr_dwi skc_130 (k := 2) (by decide) (by decide)).trans m7
  have m96 := (hF1.fld hr_dra skc_12 (k := 2) (by decide) (by decide)).trans m8
  have m97 := m9.kept (hF1.arr hr_dti skc_19 (by decide))
  have m98 := m10.kept (hF1.arr hr_dsf skc_20 (by decide))
  have m99 := m11.kept (hF1.arr hr_dso skc_21 (by decide))
  have m100 := m12.kept (hF1.arr hr_dsm skc_22 (by decide))
  have m101 := m13.kept (hF1.arr hr_dwh skc_131 (by decide))
  have m102 := m14.kept (hF1.arr hr_dwn skc_132 (by decide))
  have m103 := m15.kept (hF1.arr hr_drh skc_23 (by decide))
  have m104 := m16.kept (hF1.arr hr_drn skc_24 (by decide))
  have m105 := (hF1.fld hr_o0 skc_6 (k := 1) (by decide) (by decide)).trans m52
  have m106 := (hF1.fld hr_p0 skc_90 (k := 1) (by decide) (by decide)).trans m55
  have hF := hF.more hF1 (by decide)
  try dsimp only at hw59
  refine lv_iconst (v := 0) hx hb dX3_copyFrom_22 (by decide) ?_
  refine lv_istore_n (lv' := [(2, .int 0), (0, .ref o0), (1, .ref p0)]) hx hb dX3_copyFrom_23 rfl hl (by decide) rfl (fun ls hl => ?_)
  have jn452 : ∀ (z400 : Int32), ∀ (z449 : Int32), ((0 ≤ z400.toInt ∧ z400.toInt ≤ 30) ∧ (0 ≤ z449.toInt ∧ z449.toInt ≤ 30)) → ∀ (H : Heap) (locs : List Loc), gH (dC, dI) kA (SHc nC nS) G H → gF (dC, dI) SKc G ([(5, 11), (5, 12), (5, 13), (5, 14), (6, 3), (6, 4), (11, 6), (12, 2), (13, 2), (13, 3), (13, 4), (13, 5), (13, 6), (13, 7), (13, 8), (13, 9), (13, 10), (13, 11), (19, 0), (20, 0), (21, 0), (22, 0), (23, 0), (24, 0), (25, 0), (26, 0), (27, 0), (28, 0), (29, 0), (30, 0), (31, 0), (32, 0), (36, 0), (37, 0), (130, 2), (131, 0), (132, 0)] : List (Nat × Nat)) s.heap H → va_S A s.heap H locs → ct H sti 12 sVT → ct H ssf 20 sVF → ct H sso 20 sVO → ct H ssm 20 sVM → ct H swh 60 sVH → ct H swn 60 sVN → ct H srh 60 sVR → ct H srn 60 sVQ → ct H dti 12 sVT → ct H dsf 20 sVF → ct H dso 20 sVO → ct H dsm 20 sVM → ct H dwh 60 sVH → ct H dwn 60 sVN → ct H drh 60 sVR → ct H drn 60 sVQ → el H o0 (dI 6 0) = some (.ref dsk) → el H dsk (dI 11 0) = some (.ref dti) → el H dsk (dI 11 1) = some (.ref dsf) → el H dsk (dI 11 2) = some (.ref dso) → el H dsk (dI 11 3) = some (.ref dsm) → el H dsk (dI 11 4) = some (.ref dwi) → el H dwi (dI 12 0) = some (.ref dwh) → el H dwi (dI 12 1) = some (.ref dwn) → el H dsk (dI 11 5) = some (.ref dra) → el H dra (dI 12 0) = some (.ref drh) → el H dra (dI 12 1) = some (.ref drn) → el H p0 (dI 6 4) = some (.int sho) → el H p0 (dI 6 0) = some (.ref ssk) → el H ssk (dI 11 0) = some (.ref sti) → el H ssk (dI 11 1) = some (.ref ssf) → el H ssk (dI 11 2) = some (.ref sso) → el H ssk (dI 11 3) = some (.ref ssm) → el H ssk (dI 11 6) = some (.int sns) → el H ssk (dI 11 4) = some (.ref swi) → el H swi (dI 12 0) = some (.ref swh) → el H swi (dI 12 1) = some (.ref swn) → el H swi (dI 12 2) = some (.int snw) → el H ssk (dI 11 5) = some (.ref sra) → el H sra (dI 12 0) = some (.ref srh) → el H sra (dI 12 1) = some (.ref srn) → el H sra (dI 12 2) = some (.int snr) → el H dsk (dI 11 6) = some (.int u3) → el H dwi (dI 12 2) = some (.int u4) → el H dra (dI 12 2) = some (.int u5) → el H o0 (dI 6 1) = some (.ref b53) → el H p0 (dI 6 1) = some (.ref b56) → el H p0 (dI 6 3) = some (.int z449) → ∀ ls : Array Slot, lv_has ls 3 [(2, .int z400), (0, .ref o0), (1, .ref p0)] → W p l e (headSpec w_c_cpX3_lY ({ frames := 4, cells := 0, slots := 0, locals := 102 })).room s m #[.ref o0, .ref p0] below meth c H locs 0 0 (MQ below (va_Qv (fun (u : Int32 × Int32 × Int32 × Int32) => match u with | (dho, dns, dnw, dnr) => (dho.toInt = sho.toInt ∧ dns.toInt = sns.toInt ∧ dnw.toInt = snw.toInt ∧ dnr.toInt = snr.toInt)) (fun (u : Int32 × Int32 × Int32 × Int32) (t : State) => match u with | (dho, dns, dnw, dnr) => gH (dC, dI) kA (SHc nC nS) G t.heap ∧ gF (dC, dI) SKc G ([(5, 11), (5, 12), (5, 13), (5, 14), (6, 3), (6, 4), (11, 6), (12, 2), (13, 2), (13, 3), (13, 4), (13, 5), (13, 6), (13, 7), (13, 8), (13, 9), (13, 10), (13, 11), (19, 0), (20, 0), (21, 0), (22, 0), (23, 0), (24, 0), (25, 0), (26, 0), (27, 0), (28, 0), (29, 0), (30, 0), (31, 0), (32, 0), (36, 0), (37, 0), (130, 2), (131, 0), (132, 0)] : List (Nat × Nat)) s.heap t.heap ∧ el t.heap o0 (dI 6 4) = some (.int dho) ∧ el t.heap dsk (dI 11 6) = some (.int dns) ∧ el t.heap dwi (dI 12 2) = some (.int dnw) ∧ el t.heap dra (dI 12 2) = some (.int dnr) ∧ ct t.heap dti 12 sVT ∧ ct t.heap dsf 20 sVF ∧ ct t.heap dso 20 sVO ∧ ct t.heap dsm 20 sVM ∧ ct t.heap dwh 60 sVH ∧ ct t.heap dwn 60 sVN ∧ ct t.heap drh 60 sVR ∧ ct t.heap drn 60 sVQ) A) #[.ref o0, .ref p0] s 0 0 A) (F0 m 53 ls []) := by
    intro z400 z449 ⟨h401, h450⟩ H locs hT hF hS m402 m403 m404 m405 m406 m407 m408 m409 m410 m411 m412 m413 m414 m415 m416 m417 m418 m419 m420 m421 m422 m423 m424 m425 m426 m427 m428 m429 m430 m431 m432 m433 m434 m435 m436 m437 m438 m439 m440 m441 m442 m443 m444 m445 m446 m447 m448 m451 ls hl
    refine lv_aload_n hx hb dX3_copyFrom_53 rfl (lv_at hl 1 rfl) ?_
    refine lv_aload_n hx hb dX3_copyFrom_54 rfl (lv_at hl 2 rfl) ?_
    refine tw_getM (v := .int z449) hx hb hts bF2_X3 hown hK hT hr_p0 shc_90 rfl 3 (by decide) (ht_at2 hts 45 rfl) (fun _ h9 => h9) m451 dX3_copyFrom_55 ?_
    refine tw_put (v := .int z449) (ty := .int) hx hb hts bF2_X3 tyX3 tyX3_ok nmX3 hown hK hT hG hS hr_o0 shc_6 rfl 3 (by decide) (ht_at2 hts 45 rfl) (fun _ h9 => h9) rfl (by decide +kernel) rfl rfl (gl_at rfl (gi_of (show z449.toInt = z449.toInt from rfl) (by omega) (by omega))) dX3_copyFrom_58 (fun H locs hT oq m453 oj hS => ?_)
    have hF := hF.put hr_o0 skc_6 oq oj (by decide)
    have m462 := m410.kept (oq _ (gne hr_dti hr_o0 (by decide)))
    have m463 := m411.kept (oq _ (gne hr_dsf hr_o0 (by decide)))
    have m464 := m412.kept (oq _ (gne hr_dso hr_o0 (by decide)))
    have m465 := m413.kept (oq _ (gne hr_dsm hr_o0 (by decide)))
    have m466 := m414.kept (oq _ (gne hr_dwh hr_o0 (by decide)))
    have m467 := m415.kept (oq _ (gne hr_dwn hr_o0 (by decide)))
    have m468 := m416.kept (oq _ (gne hr_drh hr_o0 (by decide)))
    have m469 := m417.kept (oq _ (gne hr_drn hr_o0 (by decide)))
    have m481 := (el_kept (oq _ (gne hr_p0 hr_o0 (by decide)))).trans m429
    have m496 := (el_kept (oq _ (gne hr_dsk hr_o0 (by decide)))).trans m444
    have m497 := (el_kept (oq _ (gne hr_dwi hr_o0 (by decide)))).trans m445
    have m498 := (el_kept (oq _ (gne hr_dra hr_o0 (by decide)))).trans m446
    refine lv_aload_n hx hb dX3_copyFrom_61 rfl (lv_at hl 1 rfl) ?_
    refine lv_aload_n hx hb dX3_copyFrom_62 rfl (lv_at hl 2 rfl) ?_
    refine tw_getM (v := .int sho) hx hb hts bF2_X3 hown hK hT hr_p0 shc_90 rfl 4 (by decide) (ht_at2 hts 46 rfl) (fun _ h9 => h9) m481 dX3_copyFrom_63 ?_
    refine tw_put (v := .int sho) (ty := .int) hx hb hts bF2_X3 tyX3 tyX3_ok nmX3 hown hK hT hG hS hr_o0 shc_6 rfl 4 (by decide) (ht_at2 hts 46 rfl) (fun _ h9 => h9) rfl (by decide +kernel) rfl rfl (gl_at rfl (gi_of (show sho.toInt = sho.toInt from rfl) (by omega) (by omega))) dX3_copyFrom_66 (fun H locs hT oq m502 oj hS => ?_)
    have hF := hF.put hr_o0 skc_6 oq oj (by decide)
    have m511 := m462.kept (oq _ (gne hr_dti hr_o0 (by decide)))
    have m512 := m463.kept (oq _ (gne hr_dsf hr_o0 (by decide)))
    have m513 := m464.kept (oq _ (gne hr_dso hr_o0 (by decide)))
    have m514 := m465.kept (oq _ (gne hr_dsm hr_o0 (by decide)))
    have m515 := m466.kept (oq _ (gne hr_dwh hr_o0 (by decide)))
    have m516 := m467.kept (oq _ (gne hr_dwn hr_o0 (by decide)))
    have m517 := m468.kept (oq _ (gne hr_drh hr_o0 (by decide)))
    have m518 := m469.kept (oq _ (gne hr_drn hr_o0 (by decide)))
    have m545 := (el_kept (oq _ (gne hr_dsk hr_o0 (by decide)))).trans m496
    have m546 := (el_kept (oq _ (gne hr_dwi hr_o0 (by decide)))).trans m497
    have m547 := (el_kept (oq _ (gne hr_dra hr_o0 (by decide)))).trans m498
    exact W.vret hx hb hr (fun t ht hW => ⟨⟨(sho, u3, u4, u5), rfl, (by exact (by omega)), by (try dsimp only); rw [ht]; exact ⟨hT, hF, m502, m545, m546, m547, m511, m512, m513, m514, m515, m516, m517, m518⟩⟩, hS.F ht⟩) hS.2.2 dX3_copyFrom_69
  have key552 : ∀ (n552 i107 : Nat), i107 + n552 = 30 → 0 ≤ i107 → ∀ (H : Heap) (locs : List Loc), gH (dC, dI) kA (SHc nC nS) G H → gF (dC, dI) SKc G ([(5, 11), (5, 12), (5, 13), (5, 14), (6, 3), (6, 4), (11, 6), (12, 2), (13, 2), (13, 3), (13, 4), (13, 5), (13, 6), (13, 7), (13, 8), (13, 9), (13, 10), (13, 11), (19, 0), (20, 0), (21, 0), (22, 0), (23, 0), (24, 0), (25, 0), (26, 0), (27, 0), (28, 0), (29, 0), (30, 0), (31, 0), (32, 0), (36, 0), (37, 0), (130, 2), (131, 0), (132, 0)] : List (Nat × Nat)) s.heap H → va_S A s.heap H locs → ct H sti 12 sVT → ct H ssf 20 sVF → ct H sso 20 sVO → ct H ssm 20 sVM → ct H swh 60 sVH → ct H swn 60 sVN → ct H srh 60 sVR → ct H srn 60 sVQ → ct H dti 12 sVT → ct H dsf 20 sVF → ct H dso 20 sVO → ct H dsm 20 sVM → ct H dwh 60 sVH → ct H dwn 60 sVN → ct H drh 60 sVR → ct H drn 60 sVQ → el H o0 (dI 6 0) = some (.ref dsk) → el H dsk (dI 11 0) = some (.ref dti) → el H dsk (dI 11 1) = some (.ref dsf) → el H dsk (dI 11 2) = some (.ref dso) → el H dsk (dI 11 3) = some (.ref dsm) → el H dsk (dI 11 4) = some (.ref dwi) → el H dwi (dI 12 0) = some (.ref dwh) → el H dwi (dI 12 1) = some (.ref dwn) → el H dsk (dI 11 5) = some (.ref dra) → el H dra (dI 12 0) = some (.ref drh) → el H dra (dI 12 1) = some (.ref drn) → el H p0 (dI 6 4) = some (.int sho) → el H p0 (dI 6 0) = some (.ref ssk) → el H ssk (dI 11 0) = some (.ref sti) → el H ssk (dI 11 1) = some (.ref ssf) → el H ssk (dI 11 2) = some (.ref sso) → el H ssk (dI 11 3) = some (.ref ssm) → el H ssk (dI 11 6) = some (.int sns) → el H ssk (dI 11 4) = some (.ref swi) → el H swi (dI 12 0) = some (.ref swh) → el H swi (dI 12 1) = some (.ref swn) → el H swi (dI 12 2) = some (.int snw) → el H ssk (dI 11 5) = some (.ref sra) → el H sra (dI 12 0) = some (.ref srh) → el H sra (dI 12 1) = some (.ref srn) → el H sra (dI 12 2) = some (.int snr) → el H dsk (dI 11 6) = some (.int u3) → el H dwi (dI 12 2) = some (.int u4) → el H dra (dI 12 2) = some (.int u5) → el H o0 (dI 6 1) = some (.ref b53) → el H p0 (dI 6 1) = some (.ref b56) → ∀ ls : Array Slot, lv_has ls 3 [(2, .int (nI i107)), (0, .ref o0), (1, .ref p0)] → W p l e (headSpec w_c_cpX3_lY ({ frames := 4, cells := 0, slots := 0, locals := 102 })).room s m #[.ref o0, .ref p0] below meth c H locs 0 0 (MQ below (va_Qv (fun (u : Int32 × Int32 × Int32 × Int32) => match u with | (dho, dns, dnw, dnr) => (dho.toInt = sho.toInt ∧ dns.toInt = sns.toInt ∧ dnw.toInt = snw.toInt ∧ dnr.toInt = snr.toInt)) (fun (u : Int32 × Int32 × Int32 × Int32) (t : State) => match u with | (dho, dns, dnw, dnr) => gH (dC, dI) kA (SHc nC nS) G t.heap ∧ gF (dC, dI) SKc G ([(5, 11), (5, 12), (5, 13), (5, 14), (6, 3), (6, 4), (11, 6), (12, 2), (13, 2), (13, 3), (13, 4), (13, 5), (13, 6), (13, 7), (13, 8), (13, 9), (13, 10), (13, 11), (19, 0), (20, 0), (21, 0), (22, 0), (23, 0), (24, 0), (25, 0), (26, 0), (27, 0), (28, 0), (29, 0), (30, 0), (31, 0), (32, 0), (36, 0), (37, 0), (130, 2), (131, 0), (132, 0)] : List (Nat × Nat)) s.heap t.heap ∧ el t.heap o0 (dI 6 4) = some (.int dho) ∧ el t.heap dsk (dI 11 6) = some (.int dns) ∧ el t.heap dwi (dI 12 2) = some (.int dnw) ∧ el t.heap dra (dI 12 2) = some (.int dnr) ∧ ct t.heap dti 12 sVT ∧ ct t.heap dsf 20 sVF ∧ ct t.heap dso 20 sVO ∧ ct t.heap dsm 20 sVM ∧ ct t.heap dwh 60 sVH ∧ ct t.heap dwn 60 sVN ∧ ct t.heap drh 60 sVR ∧ ct t.heap drn 60 sVQ) A) #[.ref o0, .ref p0] s 0 0 A) (F0 m 24 ls []) := by
    intro n552
    induction n552 with
    | zero =>
      intro i107 hn552 hlo553  H locs hT hF hS m108 m109 m110 m111 m112 m113 m114 m115 m116 m117 m118 m119 m120 m121 m122 m123 m124 m125 m126 m127 m128 m129 m130 m131 m132 m133 m134 m135 m136 m137 m138 m139 m140 m141 m142 m143 m144 m145 m146 m147 m148 m149 m150 m151 m152 m153 m154 ls hl
      obtain rfl : 30 = i107 := by omega
      refine lv_iload_n hx hb dX3_copyFrom_24 rfl (lv_at hl 0 rfl) ?_
      refine lv_aload_n hx hb dX3_copyFrom_25 rfl (lv_at hl 2 rfl) ?_
      refine tw_get hx hb hts bF2_X3 hown hK hT hr_p0 shc_90 rfl 3 (by decide) (ht_at2 hts 45 rfl) (fun _ h9 => h9) dX3_copyFrom_26 (fun v9 m554 h9 => ?_)
      obtain ⟨x555, rfl, gx555, kx555⟩ := h9 _ rfl
      refine lv_icmp_ge (tgt := 53) hx hb dX3_copyFrom_29 (by decide) (fun c556 => ?_) (fun c556 => (by exfalso; have q9 : ((30 : Nat) : Int) < x555.toInt := ti_nle c556 rfl (nI_toInt (by omega)); omega))
      have t557 : x555.toInt ≤ ((30 : Nat) : Int) := ti_le c556 rfl (nI_toInt (by omega))
      exact jn452 (nI 30) x555 ⟨(rg_t (a := ((30 : Nat) : Int)) (nI_toInt (by omega)) (by omega) (by omega)), (by have q8 := ti_all x555; omega)⟩ _ _ hT hF hS m108 m109 m110 m111 m112 m113 m114 m115 m116 m117 m118 m119 m120 m121 m122 m123 m124 m125 m126 m127 m128 m129 m130 m131 m132 m133 m134 m135 m136 m137 m138 m139 m140 m141 m142 m143 m144 m145 m146 m147 m148 m149 m150 m151 m152 m153 m154 m554 ls (lv_sub hl [0, 1, 2] rfl)
    | succ n552 ih552 =>
      intro i107 hn552 hlo553  H locs hT hF hS m108 m109 m110 m111 m112 m113 m114 m115 m116 m117 m118 m119 m120 m121 m122 m123 m124 m125 m126 m127 m128 m129 m130 m131 m132 m133 m134 m135 m136 m137 m138 m139 m140 m141 m142 m143 m144 m145 m146 m147 m148 m149 m150 m151 m152 m153 m154 ls hl
      have hlt557 : i107 < 30 := by omega
      refine lv_iload_n hx hb dX3_copyFrom_24 rfl (lv_at hl 0 rfl) ?_
      refine lv_aload_n hx hb dX3_copyFrom_25 rfl (lv_at hl 2 rfl) ?_
      refine tw_get hx hb hts bF2_X3 hown hK hT hr_p0 shc_90 rfl 3 (by decide) (ht_at2 hts 45 rfl) (fun _ h9 => h9) dX3_copyFrom_26 (fun v9 m558 h9 => ?_)
      obtain ⟨x559, rfl, gx559, kx559⟩ := h9 _ rfl
      refine lv_icmp_ge (tgt := 53) hx hb dX3_copyFrom_29 (by decide) (fun c560 => ?_) (fun c560 => ?_)
      · have t561 : x559.toInt ≤ ((i107 : Nat) : Int) := ti_le c560 rfl (nI_toInt (by omega))
        exact jn452 (nI i107) x559 ⟨(rg_t (a := ((i107 : Nat) : Int)) (nI_toInt (by omega)) (by omega) (by omega)), (by have q8 := ti_all x559; omega)⟩ _ _ hT hF hS m108 m109 m110 m111 m112 m113 m114 m115 m116 m117 m118 m119 m120 m121 m122 m123 m124 m125 m126 m127 m128 m129 m130 m131 m132 m133 m134 m135 m136 m137 m138 m139 m140 m141 m142 m143 m144 m145 m146 m147 m148 m149 m150 m151 m152 m153 m154 m558 ls (lv_sub hl [0, 1, 2] rfl)
      · have t562 : ((i107 : Nat) : Int) < x559.toInt := ti_nle c560 rfl (nI_toInt (by omega))
        refine lv_aload_n hx hb dX3_copyFrom_32 rfl (lv_at hl 1 rfl) ?_
        refine tw_get hx hb hts bF2_X3 hown hK hT hr_o0 shc_6 rfl 2 (by decide) (ht_at2 hts 47 rfl) (fun _ h9 => h9) dX3_copyFrom_33 (fun v9 m563 h9 => ?_)
        obtain ⟨b564, rfl, hg565⟩ := h9 _ rfl
        refine lv_iload_n hx hb dX3_copyFrom_36 rfl (lv_at hl 0 rfl) ?_
        refine tw_aald (i := (nI i107)) hx hb hK hT hg565 shc_18 rfl (vp_in_nI (by omega) (by decide)) dX3_copyFrom_37 (fun v9 m566 h9 => ?_)
        obtain ⟨b567, rfl, hg568⟩ := h9
        refine lv_aload_n hx hb dX3_copyFrom_38 rfl (lv_at hl 2 rfl) ?_
        refine tw_get hx hb hts bF2_X3 hown hK hT hr_p0 shc_90 rfl 2 (by decide) (ht_at2 hts 47 rfl) (fun _ h9 => h9) dX3_copyFrom_39 (fun v9 m569 h9 => ?_)
        obtain ⟨b570, rfl, hg571⟩ := h9 _ rfl
        refine lv_iload_n hx hb dX3_copyFrom_42 rfl (lv_at hl 0 rfl) ?_
        refine tw_aald (i := (nI i107)) hx hb hK hT hg571 shc_70 rfl (vp_in_nI (by omega) (by decide)) dX3_copyFrom_43 (fun v9 m572 h9 => ?_)
        obtain ⟨b573, rfl, hg574⟩ := h9
        have hFc := gA_free hG hA hS
        refine va_callv (va_runV (As := [.ref b573]) (rest := []) ⟨hx, hb, hml, hown, hts⟩ (c_copyW_l l dC dI kA adK adV G H nC nS b567 b573 hT hg568 hg574 (by omega) (by omega)) (cwV 1 hts (goodIn_app (goodIn_r _ [63, 64, 65, 66] rfl (by decide +kernel)) (goodIn_ca (goodIn_r _ [49, 50, 51, 5, 6, 7, 52, 53, 54, 55, 56, 57, 58, 59, 60, 61, 62] rfl (by decide +kernel)) (bs2_in _ _))) rfl rfl rfl (by decide +kernel) ⟨(Nat.le_of_ble_eq_true rfl), (Nat.le_of_ble_eq_true rfl)⟩) ⟨fun a U g mk q => by obtain ⟨q0, q1, qK, qE⟩ := q; exact ⟨q0, q1, va_K.moved (u := U) (U := U.calling g mk a) (Vm.Alike.refl U.vm) qK, EVC.blind g mk a qE⟩, gH_rc hK hT hg568 shc_13 rfl, fun U hU hW => ⟨rfl, hU, va_K.moved hW.alike hK, hE.call hS hFc hU hW⟩⟩ rfl rfl hl.1 rfl (lv_room (Nat.le_of_ble_eq_true rfl)) dX3_copyFrom_44 ⟨(Nat.le_of_ble_eq_true rfl), (Nat.le_of_ble_eq_true rfl)⟩) hS (fun q _ h => hFc q h) hFc (fun u t H locs ht hvm hw576 hB _ _ hS => ?_)
        obtain ⟨hT, hF1⟩ := hB
        rw [ht] at hT hF1
        have m577 := m108.kept (hF1.arr hr_sti skc_71 (by decide))
        have m578 := m109.kept (hF1.arr hr_ssf skc_72 (by decide))
        have m579 := m110.kept (hF1.arr hr_sso skc_73 (by decide))
        have m580 := m111.kept (hF1.arr hr_ssm skc_74 (by decide))
        have m581 := m112.kept (hF1.arr hr_swh skc_134 (by decide))
        have m582 := m113.kept (hF1.arr hr_swn skc_135 (by decide))
        have m583 := m114.kept (hF1.arr hr_srh skc_75 (by decide))
        have m584 := m115.kept (hF1.arr hr_srn skc_76 (by decide))
        have m585 := m116.kept (hF1.arr hr_dti skc_19 (by decide))
        have m586 := m117.kept (hF1.arr hr_dsf skc_20 (by decide))
        have m587 := m118.kept (hF1.arr hr_dso skc_21 (by decide))
        have m588 := m119.kept (hF1.arr hr_dsm skc_22 (by decide))
        have m589 := m120.kept (hF1.arr hr_dwh skc_131 (by decide))
        have m590 := m121.kept (hF1.arr hr_dwn skc_132 (by decide))
        have m591 := m122.kept (hF1.arr hr_drh skc_23 (by decide))
        have m592 := m123.kept (hF1.arr hr_drn skc_24 (by decide))
        have m593 := (hF1.fld hr_o0 skc_6 (k := 0) (by decide) (by decide)).trans m124
        have m594 := (hF1.fld hr_dsk skc_11 (k := 0) (by decide) (by decide)).trans m125
        have m595 := (hF1.fld hr_dsk skc_11 (k := 1) (by decide) (by decide)).trans m126
        have m596 := (hF1.fld hr_dsk skc_11 (k := 2) (by decide) (by decide)).trans m127
        have m597 := (hF1.fld hr_dsk skc_11 (k := 3) (by decide) (by decide)).trans m128
        have m598 := (hF1.fld hr_dsk skc_11 (k := 4) (by decide) (by decide)).trans m129
        have m599 := (hF1.fld hr_dwi skc_130 (k := 0) (by decide) (by decide)).trans m130
        have m600 := (hF1.fld hr_dwi skc_130 (k := 1) (by decide) (by decide)).trans m131
        have m601 := (hF1.fld hr_dsk skc_11 (k := 5) (by decide) (by decide)).trans m132
        have m602 := (hF1.fld hr_dra skc_12 (k := 0) (by decide) (by decide)).trans m133
        have m603 := (hF1.fld hr_dra skc_12 (k := 1) (by decide) (by decide)).trans m134
        have m604 := (hF1.fld hr_p0 skc_90 (k := 4) (by decide) (by decide)).trans m135
        have m605 := (hF1.fld hr_p0 skc_90 (k := 0) (by decide) (by decide)).trans m136
        have m606 := (hF1.fld hr_ssk skc_91 (k := 0) (by decide) (by decide)).trans m137
        have m607 := (hF1.fld hr_ssk skc_91 (k := 1) (by decide) (by decide)).trans m138
        have m608 := (hF1.fld hr_ssk skc_91 (k := 2) (by decide) (by decide)).trans m139
        have m609 := (hF1.fld hr_ssk skc_91 (k := 3) (by decide) (by decide)).trans m140
        have m610 := (hF1.fld hr_ssk skc_91 (k := 6) (by decide) (by decide)).trans m141
        have m611 := (hF1.fld hr_ssk skc_91 (k := 4) (by decide) (by decide)).trans m142
        have m612 := (hF1.fld hr_swi skc_133 (k := 0) (by decide) (by decide)).trans m143
        have m613 := (hF1.fld hr_swi skc_133 (k := 1) (by decide) (by decide)).trans m144
        have m614 := (hF1.fld hr_swi skc_133 (k := 2) (by decide) (by decide)).trans m145
        have m615 := (hF1.fld hr_ssk skc_91 (k := 5) (by decide) (by decide)).trans m146
        have m616 := (hF1.fld hr_sra skc_92 (k := 0) (by decide) (by decide)).trans m147
        have m617 := (hF1.fld hr_sra skc_92 (k := 1) (by decide) (by decide)).trans m148
        have m618 := (hF1.fld hr_sra skc_92 (k := 2) (by decide) (by decide)).trans m149
        have m619 := (hF1.fld hr_dsk skc_11 (k := 6) (by decide) (by decide)).trans m150
        have m620 := (hF1.fld hr_dwi skc_130 (k := 2) (by decide) (by decide)).trans m151
        have m621 := (hF1.fld hr_dra skc_12 (k := 2) (by decide) (by decide)).trans m152
        have m622 := (hF1.fld hr_o0 skc_6 (k := 1) (by decide) (by decide)).trans m153
        have m623 := (hF1.fld hr_p0 skc_90 (k := 1) (by decide) (by decide)).trans m154
        have hF := hF.more hF1 (by decide)
        try dsimp only at hw576
        refine lv_iinc (v := nI (i107 + 1)) (lv' := [(2, .int (nI (i107 + 1))), (0, .ref o0), (1, .ref p0)]) hx hb dX3_copyFrom_47 hl (k := 0) rfl (nI_add i107 1) (by decide) rfl (fun ls hl => ?_)
        refine lv_goto (tgt := 24) hx hb dX3_copyFrom_50 (by decide) ?_
        exact ih552 (i107 + 1) (by omega) (by omega) _ _ hT hF hS m577 m578 m579 m580 m581 m582 m583 m584 m585 m586 m587 m588 m589 m590 m591 m592 m593 m594 m595 m596 m597 m598 m599 m600 m601 m602 m603 m604 m605 m606 m607 m608 m609 m610 m611 m612 m613 m614 m615 m616 m617 m618 m619 m620 m621 m622 m623 ls (lv_sub hl [0, 1, 2] rfl)
  exact key552 (30 - 0) 0 (by omega) (Nat.le_refl _) _ _ hT hF hS m86 m87 m88 m89 m90 m91 m92 m93 m97 m98 m99 m100 m101 m102 m103 m104 m60 m61 m62 m63 m64 m65 m66 m67 m68 m69 m70 m71 m72 m73 m74 m75 m76 m77 m78 m79 m80 m81 m82 m83 m84 m85 m94 m95 m96 m105 m106 ls (lv_sub hl [0, 1, 2] rfl)
def w_c_backY : List Cond := .code yX11_back cX11_back 1 (some .boolean) :: (HAppend.hAppend (α := List Cond) (β := List Cond) (γ := List Cond) [.fieldLink RX11 505 "SeaLand" "image" "LSeaLand$Lake;", .fieldLink RX11 16 "SeaLand" "lake" "LSeaLand$Lake;", .code yX3_copyFrom cX3_copyFrom 3 none, .fieldLink RX3 12 "SeaLand$Lake" "sky" "LSeaLand$Sky;", .code yX8_copyFrom cX8_copyFrom 2 none, .fieldLink RX8 9 "SeaLand$Sky" "tides" "[I", .methodLink RX8 63 arraycopyName, .native arraycopyName, .static arraycopyName, .initialized "java/lang/System", .fieldLink RX8 15 "SeaLand$Sky" "stormFrom" "[I", .fieldLink RX8 18 "SeaLand$Sky" "stormTo" "[I", .fieldLink RX8 21 "SeaLand$Sky" "stormMore" "[I", .fieldLink RX8 27 "SeaLand$Sky" "wind" "LSeaLand$Tellings;", .code yX9_copyFrom cX9_copyFrom 2 none, .fieldLink RX9 9 "SeaLand$Tellings" "hours" "[I", .methodLink RX9 23 arraycopyName, .fieldLink RX9 15 "SeaLand$Tellings" "numbers" "[I", .fieldLink RX9 18 "SeaLand$Tellings" "told" "I", .methodLink RX8 69 yX9_copyFrom, .instanceMethod yX9_copyFrom, .selects RX9 yX9_copyFrom yX9_copyFrom, .initialized RX9, .fieldLink RX8 31 "SeaLand$Sky" "rain" "LSeaLand$Tellings;", .fieldLink RX8 34 "SeaLand$Sky" "storms" "I", .methodLink RX3 175 yX8_copyFrom, .instanceMethod yX8_copyFrom, .selects RX8 yX8_copyFrom yX8_copyFrom, .initialized RX8, .fieldLink RX3 21 "SeaLand$Lake" "ground" "LSeaLand$Ground;", .code yX2_copyFrom cX2_copyFrom 2 none, .fieldLink RX2 9 "SeaLand$Ground" "isLand" "[Z", .methodLink RX2 95 arraycopyName, .fieldLink RX2 15 "SeaLand$Ground" "height" "[I", .fieldLink RX2 19 "SeaLand$Ground" "soil" "[I", .fieldLink RX2 22 "SeaLand$Ground" "ditch" "[I", .fieldLink RX2 25 "SeaLand$Ground" "water" "[I", .fieldLink RX2 28 "SeaLand$Ground" "salt" "[I", .fieldLink RX2 31 "SeaLand$Ground" "dry" "[I", .fieldLink RX2 34 "SeaLand$Ground" "wet" "[I", .fieldLink RX2 54 "SeaLand$Ground" "rained" "I", .fieldLink RX2 57 "SeaLand$Ground" "cameIn" "I", .fieldLink RX2 64 "SeaLand$Ground" "wentOut" "I", .fieldLink RX2 50 "SeaLand$Ground" "toldMore" "I", .methodLink RX3 179 yX2_copyFrom, .instanceMethod yX2_copyFrom, .selects RX2 yX2_copyFrom yX2_copyFrom, .initialized RX2, .fieldLink RX3 47 "SeaLand$Lake" "built" "I", .fieldLink RX3 32 "SeaLand$Lake" "hour" "I", .fieldLink RX3 27 "SeaLand$Lake" "works" "[LSeaLand$Work;", .code yX10_copyFrom cX10_copyFrom 2 none, .fieldLink RX10 9 "SeaLand$Work" "thick" "[I", .methodLink RX10 60 arraycopyName, .fieldLink RX10 15 "SeaLand$Work" "clay" "[I", .fieldLink RX10 18 "SeaLand$Work" "kind" "I", .fieldLink RX10 22 "SeaLand$Work" "square" "I", .fieldLink RX10 25 "SeaLand$Work" "to" "I", .fieldLink RX10 28 "SeaLand$Work" "size" "I", .fieldLink RX10 31 "SeaLand$Work" "width" "I", .fieldLink RX10 34 "SeaLand$Work" "layers" "I", .fieldLink RX10 37 "SeaLand$Work" "coal" "I", .fieldLink RX10 40 "SeaLand$Work" "on" "Z", .fieldLink RX10 44 "SeaLand$Work" "latest" "I", .fieldLink RX10 47 "SeaLand$Work" "total" "I", .methodLink RX3 182 yX10_copyFrom, .instanceMethod yX10_copyFrom, .selects RX10 yX10_copyFrom yX10_copyFrom, .initialized RX10, .methodLink RX11 508 yX3_copyFrom, .instanceMethod yX3_copyFrom, .selects RX3 yX3_copyFrom yX3_copyFrom, .initialized RX3, .fieldLink RX11 23 "SeaLand" "rows" "LSeaLand$Rows;", .code yX6_forget cX6_forget 1 none, .fieldLink RX6 18 "SeaLand$Rows" "kept" "I", .fieldLink RX6 22 "SeaLand$Rows" "oldest" "I", .methodLink RX11 76 yX6_forget, .instanceMethod yX6_forget, .selects RX6 yX6_forget yX6_forget, .initialized RX6] bs2)
set_option maxHeartbeats 4000000 in
set_option maxRecDepth 100000 in
theorem c_backY (l : Launch) (dC : Nat → ClassId) (dI : Nat → Nat → Nat) (kA : Nat → ClassId) (adK adV : Nat → Nat) (G : gT) (H0 : Heap) (nC nS : Int) (o0 : Nat) (lk : Nat) (ho : Int32) (sk : Nat) (ti : Nat) (sf : Nat) (so : Nat) (sm : Nat) (ns : Int32) (wi : Nat) (wh : Nat) (wn : Nat) (nw : Int32) (ra : Nat) (rh : Nat) (rn : Nat) (nr : Int32) (VT : Nat → Int32) (VF : Nat → Int32) (VO : Nat → Int32) (VM : Nat → Int32) (VH : Nat → Int32) (VN : Nat → Int32) (VR : Nat → Int32) (VQ : Nat → Int32) (im xiho xins xinw xinr : Int) (iVT iVF iVO iVM iVH iVN iVR iVQ : Nat → Int32) (hT : gH (dC, dI) kA (SHc nC nS) G H0) (hr_o0 : G o0 = some 14) (hm_lk : el H0 o0 (dI 14 1) = some (.ref lk)) (hr_lk : G lk = some 6) (hm_ho : el H0 lk (dI 6 4) = some (.int ho)) (hm_sk : el H0 lk (dI 6 0) = some (.ref sk)) (hr_sk : G sk = some 11) (hm_ti : el H0 sk (dI 11 0) = some (.ref ti)) (hr_ti : G ti = some 19) (hm_sf : el H0 sk (dI 11 1) = some (.ref sf)) (hr_sf : G sf = some 20) (hm_so : el H0 sk (dI 11 2) = some (.ref so)) (hr_so : G so = some 21) (hm_sm : el H0 sk (dI 11 3) = some (.ref sm)) (hr_sm : G sm = some 22) (hm_ns : el H0 sk (dI 11 6) = some (.int ns)) (hm_wi : el H0 sk (dI 11 4) = some (.ref wi)) (hr_wi : G wi = some 130) (hm_wh : el H0 wi (dI 12 0) = some (.ref wh)) (hr_wh : G wh = some 131) (hm_wn : el H0 wi (dI 12 1) = some (.ref wn)) (hr_wn : G wn = some 132) (hm_nw : el H0 wi (dI 12 2) = some (.int nw)) (hm_ra : el H0 sk (dI 11 5) = some (.ref ra)) (hr_ra : G ra = some 12) (hm_rh : el H0 ra (dI 12 0) = some (.ref rh)) (hr_rh : G rh = some 23) (hm_rn : el H0 ra (dI 12 1) = some (.ref rn)) (hr_rn : G rn = some 24) (hm_nr : el H0 ra (dI 12 2) = some (.int nr)) (hq0 : 0 ≤ ho.toInt ∧ ho.toInt ≤ 40000) (hq1 : 0 ≤ ns.toInt ∧ ns.toInt ≤ 20) (hq2 : 0 ≤ nw.toInt ∧ nw.toInt ≤ 60) (hq3 : 0 ≤ nr.toInt ∧ nr.toInt ≤ 60) (hV : ∀ b, el H0 o0 (dI 14 6) = some (.ref b) → im = 1 ∧ ∃ (isk iti isf iso ism iwi iwh iwn ira irh irn : Nat) (iho ins inw inr : Int32), el H0 b (dI 6 4) = some (.int iho) ∧ iho.toInt = xiho ∧ (0 ≤ iho.toInt ∧ iho.toInt ≤ 40000) ∧ el H0 b (dI 6 0) = some (.ref isk) ∧ G isk = some 91 ∧ el H0 isk (dI 11 0) = some (.ref iti) ∧ G iti = some 71 ∧ ct H0 iti 12 iVT ∧ el H0 isk (dI 11 1) = some (.ref isf) ∧ G isf = some 72 ∧ ct H0 isf 20 iVF ∧ el H0 isk (dI 11 2) = some (.ref iso) ∧ G iso = some 73 ∧ ct H0 iso 20 iVO ∧ el H0 isk (dI 11 3) = some (.ref ism) ∧ G ism = some 74 ∧ ct H0 ism 20 iVM ∧ el H0 isk (dI 11 6) = some (.int ins) ∧ ins.toInt = xins ∧ (0 ≤ ins.toInt ∧ ins.toInt ≤ 20) ∧ el H0 isk (dI 11 4) = some (.ref iwi) ∧ G iwi = some 133 ∧ el H0 iwi (dI 12 0) = some (.ref iwh) ∧ G iwh = some 134 ∧ ct H0 iwh 60 iVH ∧ el H0 iwi (dI 12 1) = some (.ref iwn) ∧ G iwn = some 135 ∧ ct H0 iwn 60 iVN ∧ el H0 iwi (dI 12 2) = some (.int inw) ∧ inw.toInt = xinw ∧ (0 ≤ inw.toInt ∧ inw.toInt ≤ 60) ∧ el H0 isk (dI 11 5) = some (.ref ira) ∧ G ira = some 92 ∧ el H0 ira (dI 12 0) = some (.ref irh) ∧ G irh = some 75 ∧ ct H0 irh 60 iVR ∧ el H0 ira (dI 12 1) = some (.ref irn) ∧ G irn = some 76 ∧ ct H0 irn 60 iVQ ∧ el H0 ira (dI 12 2) = some (.int inr) ∧ inr.toInt = xinr ∧ (0 ≤ inr.toInt ∧ inr.toInt ≤ 60)) (hN0 : el H0 o0 (dI 14 6) = some .null → im = 0) (hc_VT : ct H0 ti 12 VT) (hc_VF : ct H0 sf 20 VF) (hc_VO : ct H0 so 20 VO) (hc_VM : ct H0 sm 20 VM) (hc_VH : ct H0 wh 60 VH) (hc_VN : ct H0 wn 60 VN) (hc_VR : ct H0 rh 60 VR) (hc_VQ : ct H0 rn 60 VQ) (hgC : 0 ≤ nC ∧ nC ≤ 40) (hgS : 0 ≤ nS ∧ nS ≤ 60) : Met l yX11_back w_c_backY ({ frames := 5, cells := 0, slots := 0, locals := 124 }) (va_Pc [.ref o0] (fun U => U.heap = H0 ∧ va_K (dC, dI) vwCl (tyl kA) U ∧ EVC adK adV (gA G H0.size) U U.heap)) (va_Qi (fun (r : Int32) (u : Int32 × Int32 × Int32 × Int32 × (Nat → Int32) × (Nat → Int32) × (Nat → Int32) × (Nat → Int32) × (Nat → Int32) × (Nat → Int32) × (Nat → Int32) × (Nat → Int32)) => match u with | (ho1, ns1, nw1, nr1, VT1, VF1, VO1, VM1, VH1, VN1, VR1, VQ1) => (0 ≤ r.toInt ∧ r.toInt ≤ 1) ∧ ((im = 1 ∧ xiho ≤ ho.toInt ∧ r.toInt = 1 ∧ ho1.toInt = xiho ∧ ns1.toInt = xins ∧ nw1.toInt = xinw ∧ nr1.toInt = xinr ∧ VT1 = iVT ∧ VF1 = iVF ∧ VO1 = iVO ∧ VM1 = iVM ∧ VH1 = iVH ∧ VN1 = iVN ∧ VR1 = iVR ∧ VQ1 = iVQ) ∨ ((im = 0 ∨ ho.toInt < xiho) ∧ r.toInt = 0 ∧ ho1.toInt = ho.toInt ∧ ns1.toInt = ns.toInt ∧ nw1.toInt = nw.toInt ∧ nr1.toInt = nr.toInt ∧ VT1 = VT ∧ VF1 = VF ∧ VO1 = VO ∧ VM1 = VM ∧ VH1 = VH ∧ VN1 = VN ∧ VR1 = VR ∧ VQ1 = VQ))) (fun (u : Int32 × Int32 × Int32 × Int32 × (Nat → Int32) × (Nat → Int32) × (Nat → Int32) × (Nat → Int32) × (Nat → Int32) × (Nat → Int32) × (Nat → Int32) × (Nat → Int32)) (t : State) => match u with | (ho1, ns1, nw1, nr1, VT1, VF1, VO1, VM1, VH1, VN1, VR1, VQ1) => gH (dC, dI) kA (SHc nC nS) G t.heap ∧ gF (dC, dI) SKc G ([(5, 11), (5, 12), (5, 13), (5, 14), (6, 3), (6, 4), (9, 2), (9, 3), (11, 6), (12, 2), (13, 2), (13, 3), (13, 4), (13, 5), (13, 6), (13, 7), (13, 8), (13, 9), (13, 10), (13, 11), (19, 0), (20, 0), (21, 0), (22, 0), (23, 0), (24, 0), (25, 0), (26, 0), (27, 0), (28, 0), (29, 0), (30, 0), (31, 0), (32, 0), (36, 0), (37, 0), (130, 2), (131, 0), (132, 0)] : List (Nat × Nat)) H0 t.heap ∧ el t.heap lk (dI 6 4) = some (.int ho1) ∧ el t.heap sk (dI 11 6) = some (.int ns1) ∧ el t.heap wi (dI 12 2) = some (.int nw1) ∧ el t.heap ra (dI 12 2) = some (.int nr1) ∧ ct t.heap ti 12 VT1 ∧ ct t.heap sf 20 VF1 ∧ ct t.heap so 20 VO1 ∧ ct t.heap sm 20 VM1 ∧ ct t.heap wh 60 VH1 ∧ ct t.heap wn 60 VN1 ∧ ct t.heap rh 60 VR1 ∧ ct t.heap rn 60 VQ1) (gA G H0.size)) 0 0 (gA G H0.size) := by
  refine Met.ofW (cc := cX11_back) (maxL := 1) (ret := (some .boolean)) (by decide) rfl ?_
  intro p e s m args below meth c s₁ B hml hv
  obtain ⟨rfl, hH0, hK, hE⟩ := hv
  have hx := B.exec
  have hb := B.bytes
  have hr := B.returns
  have hts := atoms_spec (ws := w_c_backY) B.pre
  have hown : s.vm.findClass RX11 = some m.cls := findClass_of_methodNamed B.named
  have hlocks := B.notSynchronized
  subst hH0
  generalize hAe : gA G s.heap.size = A at hE ⊢
  have hA : ∀ q : Nat, s.heap.size ≤ q → A q := fun q h => by rw [← hAe]; exact Or.inr h
  have hG := gA_of hAe
  have hS : va_S A s.heap s.heap [] := va_S.rf
  have hF : gF (dC, dI) SKc G ([(5, 11), (5, 12), (5, 13), (5, 14), (6, 3), (6, 4), (9, 2), (9, 3), (11, 6), (12, 2), (13, 2), (13, 3), (13, 4), (13, 5), (13, 6), (13, 7), (13, 8), (13, 9), (13, 10), (13, 11), (19, 0), (20, 0), (21, 0), (22, 0), (23, 0), (24, 0), (25, 0), (26, 0), (27, 0), (28, 0), (29, 0), (30, 0), (31, 0), (32, 0), (36, 0), (37, 0), (130, 2), (131, 0), (132, 0)] : List (Nat × Nat)) s.heap s.heap := gF.rf
  have hl := lv_entry ([.ref o0]) (n := 1) (Nat.le_of_ble_eq_true rfl)
  rw [lg_entry_eq]
  generalize (lg_sl ([.ref o0]) ++ List.replicate (1 - (lg_sl ([.ref o0])).length) Slot.unset).toArray = ls at hl ⊢
  have hl : lv_has ls 1 [(0, .ref o0)] := hl
  refine lv_aload_n hx hb dX11_back_0 rfl (lv_at hl 0 rfl) ?_
  refine tw_get hx hb hts bF2_X11 hown hK hT hr_o0 shc_14 rfl 6 (by decide) (ht_at2 hts 0 rfl) (fun _ h9 => h9) dX11_back_1 (fun v9 m1 h9 => ?_)
  obtain ⟨r9, rfl, hn9⟩ := h9 _ rfl
  rcases r9 with _ | b2
  · refine W.eq (g2 := F0 m 4 ls [.null]) rfl ?_
    have hi9 := hN0 m1
    refine lv_ifnullN (tgt := 24) hx hb dX11_back_4 (by decide) ?_
    refine lv_iconst (v := 0) hx hb dX11_back_24 (by decide) ?_
    exact W.zret (v := 0) hx hb hr (by decide) (fun t ht hW => ⟨⟨0, (ho, ns, nw, nr, VT, VF, VO, VM, VH, VN, VR, VQ), rfl, (by exact ⟨(rg_t (a := 0) (by decide) (by first | decide | omega) (by first | decide | omega)), (Or.inr ⟨by omega, by decide, by omega, by omega, by omega, by omega, rfl, rfl, rfl, rfl, rfl, rfl, rfl, rfl⟩)⟩), by (try dsimp only); rw [ht]; exact ⟨hT, hF, hm_ho, hm_ns, hm_nw, hm_nr, hc_VT, hc_VF, hc_VO, hc_VM, hc_VH, hc_VN, hc_VR, hc_VQ⟩⟩, hS.F ht⟩) hS.2.2 dX11_back_25
  · refine W.eq (g2 := F0 m 4 ls [.ref b2]) rfl ?_
    have hg3 := hn9 b2 rfl
    obtain ⟨hi9, isk, iti, isf, iso, ism, iwi, iwh, iwn, ira, irh, irn, iho, ins, inw, inr, jm_iho, je_iho, jb_iho, jm_isk, jr_isk, jm_iti, jr_iti, jc_iVT, jm_isf, jr_isf, jc_iVF, jm_iso, jr_iso, jc_iVO, jm_ism, jr_ism, jc_iVM, jm_ins, je_ins, jb_ins, jm_iwi, jr_iwi, jm_iwh, jr_iwh, jc_iVH, jm_iwn, jr_iwn, jc_iVN, jm_inw, je_inw, jb_inw, jm_ira, jr_ira, jm_irh, jr_irh, jc_iVR, jm_irn, jr_irn, jc_iVQ, jm_inr, je_inr, jb_inr⟩ := hV _ m1
    refine lv_ifnull hx hb dX11_back_4 ?_
    refine lv_aload_n hx hb dX11_back_7 rfl (lv_at hl 0 rfl) ?_
    refine tw_getM (v := .ref b2) hx hb hts bF2_X11 hown hK hT hr_o0 shc_14 rfl 6 (by decide) (ht_at2 hts 0 rfl) (fun _ h9 => h9) m1 dX11_back_8 ?_
    refine tw_getNM (v := .int iho) hx hb hts bF2_X3 hown hK hT hg3 shc_90 rfl 4 (by decide) (hE.nw 0 rfl) (fun _ h9 => h9) jm_iho dX11_back_11 ?_
    refine lv_aload_n hx hb dX11_back_14 rfl (lv_at hl 0 rfl) ?_
    refine tw_getM (v := .ref lk) hx hb hts bF2_X11 hown hK hT hr_o0 shc_14 rfl 1 (by decide) (ht_at2 hts 1 rfl) (fun _ h9 => h9) hm_lk dX11_back_15 ?_
    refine tw_getNM (v := .int ho) hx hb hts bF2_X3 hown hK hT hr_lk shc_6 rfl 4 (by decide) (hE.nw 0 rfl) (fun _ h9 => h9) hm_ho dX11_back_18 ?_
    refine lv_icmp_le (tgt := 26) hx hb dX11_back_21 (by decide) (fun c4 => ?_) (fun c4 => ?_)
    · have t5 : iho.toInt ≤ ho.toInt := ti_le c4 rfl rfl
      refine lv_aload_n hx hb dX11_back_26 rfl (lv_at hl 0 rfl) ?_
      refine tw_getM (v := .ref lk) hx hb hts bF2_X11 hown hK hT hr_o0 shc_14 rfl 1 (by decide) (ht_at2 hts 1 rfl) (fun _ h9 => h9) hm_lk dX11_back_27 ?_
      refine lv_aload_n hx hb dX11_back_30 rfl (lv_at hl 0 rfl) ?_
      refine tw_getM (v := .ref b2) hx hb hts bF2_X11 hown hK hT hr_o0 shc_14 rfl 6 (by decide) (ht_at2 hts 0 rfl) (fun _ h9 => h9) m1 dX11_back_31 ?_
      have hFc := gA_free hG hA hS
      refine va_callv (va_runV (As := [.ref b2]) (rest := []) ⟨hx, hb, hml, hown, hts⟩ (c_cpX3_lY l dC dI kA adK adV G s.heap nC nS lk b2 sk ti sf so sm wi wh wn ra rh rn iho isk iti isf iso ism ins iwi iwh iwn inw ira irh irn inr iVT iVF iVO iVM iVH iVN iVR iVQ hT hr_lk hg3 hm_sk hr_sk hm_ti hr_ti hm_sf hr_sf hm_so hr_so hm_sm hr_sm hm_wi hr_wi hm_wh hr_wh hm_wn hr_wn hm_ra hr_ra hm_rh hr_rh hm_rn hr_rn jm_iho jm_isk jr_isk jm_iti jr_iti jm_isf jr_isf jm_iso jr_iso jm_ism jr_ism jm_ins jm_iwi jr_iwi jm_iwh jr_iwh jm_iwn jr_iwn jm_inw jm_ira jr_ira jm_irh jr_irh jm_irn jr_irn jm_inr (by have q8 := ti_all iho; omega) (by have q8 := ti_all ins; omega) (by have q8 := ti_all inw; omega) (by have q8 := ti_all inr; omega) jc_iVT jc_iVF jc_iVO jc_iVM jc_iVH jc_iVN jc_iVR jc_iVQ (by omega) (by omega)) (cwV 1 hts (goodIn_app (goodIn_r _ [70, 71, 72, 73] rfl (by decide +kernel)) (goodIn_ca (goodIn_r _ [3, 4, 5, 6, 7, 8, 9, 10, 11, 12, 13, 14, 15, 16, 17, 18, 19, 20, 21, 22, 23, 24, 25, 26, 27, 28, 29, 30, 31, 32, 33, 34, 35, 36, 37, 38, 39, 40, 41, 42, 43, 44, 45, 46, 47, 48, 49, 50, 51, 52, 53, 54, 55, 56, 57, 58, 59, 60, 61, 62, 63, 64, 65, 66, 67, 68, 69] rfl (by decide +kernel)) (bs2_in _ _))) rfl rfl rfl (by decide +kernel) ⟨(Nat.le_of_ble_eq_true rfl), (Nat.le_of_ble_eq_true rfl)⟩) ⟨fun a U g mk q => by obtain ⟨q0, q1, qK, qE⟩ := q; exact ⟨q0, q1, va_K.moved (u := U) (U := U.calling g mk a) (Vm.Alike.refl U.vm) qK, EVC.blind g mk a qE⟩, gH_rc hK hT hr_lk shc_6 rfl, fun U hU hW => ⟨rfl, hU, va_K.moved hW.alike hK, hE.call hS hFc hU hW⟩⟩ rfl rfl hl.1 rfl (lv_room (Nat.le_of_ble_eq_true rfl)) dX11_back_34 ⟨(Nat.le_of_ble_eq_true rfl), (Nat.le_of_ble_eq_true rfl)⟩) hS (fun q _ h => hFc q h) hFc (fun u t H locs ht hvm hw7 hB _ _ hS => ?_)
      obtain ⟨u8, u9, u10, u11⟩ := u
      obtain ⟨hT, hF1, m12, m13, m14, m15, m16, m17, m18, m19, m20, m21, m22, m23⟩ := hB
      rw [ht] at hT hF1 m12 m13 m14 m15 m16 m17 m18 m19 m20 m21 m22 m23
      have hF := hF.more hF1 (by decide)
      try dsimp only at hw7
      have hf72 := hw7
      refine lv_aload_n hx hb dX11_back_37 rfl (lv_at hl 0 rfl) ?_
      refine tw_get hx hb hts bF2_X11 hown hK hT hr_o0 shc_14 rfl 2 (by decide) (ht_at2 hts 73 rfl) (fun _ h9 => h9) dX11_back_38 (fun v9 m73 h9 => ?_)
      obtain ⟨b74, rfl, hg75⟩ := h9 _ rfl
      have hFc := gA_free hG hA hS
      refine va_callv (va_runV (As := []) (rest := []) ⟨hx, hb, hml, hown, hts⟩ (c_forget l dC dI kA adK adV G H nC nS b74 hT hg75 (by omega) (by omega)) (cwV 0 hts (goodIn_app (goodIn_r _ [78, 79, 80, 81] rfl (by decide +kernel)) (goodIn_ca (goodIn_r _ [75, 76, 77] rfl (by decide +kernel)) (bs2_in _ _))) rfl rfl rfl (by decide +kernel) ⟨(Nat.le_of_ble_eq_true rfl), (Nat.le_of_ble_eq_true rfl)⟩) ⟨fun a U g mk q => by obtain ⟨q0, q1, qK, qE⟩ := q; exact ⟨q0, q1, va_K.moved (u := U) (U := U.calling g mk a) (Vm.Alike.refl U.vm) qK, EVC.blind g mk a qE⟩, gH_rc hK hT hg75 shc_9 rfl, fun U hU hW => ⟨rfl, hU, va_K.moved hW.alike hK, hE.call hS hFc hU hW⟩⟩ rfl rfl hl.1 rfl (lv_room (Nat.le_of_ble_eq_true rfl)) dX11_back_41 ⟨(Nat.le_of_ble_eq_true rfl), (Nat.le_of_ble_eq_true rfl)⟩) hS (fun q _ h => hFc q h) hFc (fun u t H locs ht hvm hw77 hB _ _ hS => ?_)
      obtain ⟨hT, hF1⟩ := hB
      rw [ht] at hT hF1
      have m114 := (hF1.fld hr_lk skc_6 (k := 4) (by decide) (by decide)).trans m12
      have m115 := (hF1.fld hr_sk skc_11 (k := 6) (by decide) (by decide)).trans m13
      have m116 := (hF1.fld hr_wi skc_130 (k := 2) (by decide) (by decide)).trans m14
      have m117 := (hF1.fld hr_ra skc_12 (k := 2) (by decide) (by decide)).trans m15
      have m118 := m16.kept (hF1.arr hr_ti skc_19 (by decide))
      have m119 := m17.kept (hF1.arr hr_sf skc_20 (by decide))
      have m120 := m18.kept (hF1.arr hr_so skc_21 (by decide))
      have m121 := m19.kept (hF1.arr hr_sm skc_22 (by decide))
      have m122 := m20.kept (hF1.arr hr_wh skc_131 (by decide))
      have m123 := m21.kept (hF1.arr hr_wn skc_132 (by decide))
      have m124 := m22.kept (hF1.arr hr_rh skc_23 (by decide))
      have m125 := m23.kept (hF1.arr hr_rn skc_24 (by decide))
      have hF := hF.more hF1 (by decide)
      try dsimp only at hw77
      refine lv_iconst (v := 1) hx hb dX11_back_44 (by decide) ?_
      exact W.zret (v := 1) hx hb hr (by decide) (fun t ht hW => ⟨⟨1, (u8, u9, u10, u11, iVT, iVF, iVO, iVM, iVH, iVN, iVR, iVQ), rfl, (by exact ⟨(rg_t (a := 1) (by decide) (by first | decide | omega) (by first | decide | omega)), (Or.inl ⟨by omega, by omega, by decide, by omega, by omega, by omega, by omega, rfl, rfl, rfl, rfl, rfl, rfl, rfl, rfl⟩)⟩), by (try dsimp only); rw [ht]; exact ⟨hT, hF, m114, m115, m116, m117, m118, m119, m120, m121, m122, m123, m124, m125⟩⟩, hS.F ht⟩) hS.2.2 dX11_back_45
    · have t127 : ho.toInt < iho.toInt := ti_nle c4 rfl rfl
      refine lv_iconst (v := 0) hx hb dX11_back_24 (by decide) ?_
      exact W.zret (v := 0) hx hb hr (by decide) (fun t ht hW => ⟨⟨0, (ho, ns, nw, nr, VT, VF, VO, VM, VH, VN, VR, VQ), rfl, (by exact ⟨(rg_t (a := 0) (by decide) (by first | decide | omega) (by first | decide | omega)), (Or.inr ⟨by omega, by decide, by omega, by omega, by omega, by omega, rfl, rfl, rfl, rfl, rfl, rfl, rfl, rfl⟩)⟩), by (try dsimp only); rw [ht]; exact ⟨hT, hF, hm_ho, hm_ns, hm_nw, hm_nr, hc_VT, hc_VF, hc_VO, hc_VM, hc_VH, hc_VN, hc_VR, hc_VQ⟩⟩, hS.F ht⟩) hS.2.2 dX11_back_25
def w_c_keepY : List Cond := .code yX11_keep cX11_keep 1 (some .boolean) :: (HAppend.hAppend (α := List Cond) (β := List Cond) (γ := List Cond) [.fieldLink RX11 16 "SeaLand" "lake" "LSeaLand$Lake;", .fieldLink RX11 505 "SeaLand" "image" "LSeaLand$Lake;", .classLink RX11 13 RX3, .instantiable RX3 5, .initialized RX3, .code yX3_init cX3_init 2 none, .methodLink RX3 3 objectInit, .instanceMethod objectInit, .code objectInit ⟨#[0xb1]⟩ 1 none, .classLink RX3 9 RX8, .instantiable RX8 7, .initialized RX8, .code yX8_init cX8_init 1 none, .methodLink RX8 3 objectInit, .arrayClass .int, .fieldLink RX8 9 "SeaLand$Sky" "tides" "[I", .fieldLink RX8 15 "SeaLand$Sky" "stormFrom" "[I", .fieldLink RX8 18 "SeaLand$Sky" "stormTo" "[I", .fieldLink RX8 21 "SeaLand$Sky" "stormMore" "[I", .classLink RX8 24 RX9, .instantiable RX9 3, .initialized RX9, .code yX9_init cX9_init 1 none, .methodLink RX9 3 objectInit, .fieldLink RX9 9 "SeaLand$Tellings" "hours" "[I", .fieldLink RX9 15 "SeaLand$Tellings" "numbers" "[I", .instanceMethod yX9_init, .fieldLink RX8 27 "SeaLand$Sky" "wind" "LSeaLand$Tellings;", .fieldLink RX8 31 "SeaLand$Sky" "rain" "LSeaLand$Tellings;", .instanceMethod yX8_init, .fieldLink RX3 12 "SeaLand$Lake" "sky" "LSeaLand$Sky;", .classLink RX3 18 RX2, .instantiable RX2 15, .initialized RX2, .code yX2_init cX2_init 1 none, .methodLink RX2 3 objectInit, .arrayClass .boolean, .fieldLink RX2 9 "SeaLand$Ground" "isLand" "[Z", .fieldLink RX2 15 "SeaLand$Ground" "height" "[I", .fieldLink RX2 19 "SeaLand$Ground" "soil" "[I", .fieldLink RX2 22 "SeaLand$Ground" "ditch" "[I", .fieldLink RX2 25 "SeaLand$Ground" "water" "[I", .fieldLink RX2 28 "SeaLand$Ground" "salt" "[I", .fieldLink RX2 31 "SeaLand$Ground" "dry" "[I", .fieldLink RX2 34 "SeaLand$Ground" "wet" "[I", .fieldLink RX2 37 "SeaLand$Ground" "ditchTo" "[I", .fieldLink RX2 40 "SeaLand$Ground" "ditchWater" "[I", .fieldLink RX2 43 "SeaLand$Ground" "ditchSalt" "[I", .instanceMethod yX2_init, .fieldLink RX3 21 "SeaLand$Lake" "ground" "LSeaLand$Ground;", .classLink RX3 25 RX10, .fieldLink RX3 27 "SeaLand$Lake" "works" "[LSeaLand$Work;", .instantiable RX10 12, .initialized RX10, .code yX10_init cX10_init 1 none, .methodLink RX10 3 objectInit, .fieldLink RX10 9 "SeaLand$Work" "thick" "[I", .fieldLink RX10 15 "SeaLand$Work" "clay" "[I", .instanceMethod yX10_init, .methodLink RX11 15 yX3_init, .instanceMethod yX3_init, .code yX3_copyFrom cX3_copyFrom 3 none, .code yX8_copyFrom cX8_copyFrom 2 none, .methodLink RX8 63 arraycopyName, .native arraycopyName, .static arraycopyName, .initialized "java/lang/System", .code yX9_copyFrom cX9_copyFrom 2 none, .methodLink RX9 23 arraycopyName, .fieldLink RX9 18 "SeaLand$Tellings" "told" "I", .methodLink RX8 69 yX9_copyFrom, .instanceMethod yX9_copyFrom, .selects RX9 yX9_copyFrom yX9_copyFrom, .fieldLink RX8 34 "SeaLand$Sky" "storms" "I", .methodLink RX3 175 yX8_copyFrom, .instanceMethod yX8_copyFrom, .selects RX8 yX8_copyFrom yX8_copyFrom, .code yX2_copyFrom cX2_copyFrom 2 none, .methodLink RX2 95 arraycopyName, .fieldLink RX2 54 "SeaLand$Ground" "rained" "I", .fieldLink RX2 57 "SeaLand$Ground" "cameIn" "I", .fieldLink RX2 64 "SeaLand$Ground" "wentOut" "I", .fieldLink RX2 50 "SeaLand$Ground" "toldMore" "I", .methodLink RX3 179 yX2_copyFrom, .instanceMethod yX2_copyFrom, .selects RX2 yX2_copyFrom yX2_copyFrom, .fieldLink RX3 47 "SeaLand$Lake" "built" "I", .fieldLink RX3 32 "SeaLand$Lake" "hour" "I", .code yX10_copyFrom cX10_copyFrom 2 none, .methodLink RX10 60 arraycopyName, .fieldLink RX10 18 "SeaLand$Work" "kind" "I", .fieldLink RX10 22 "SeaLand$Work" "square" "I", .fieldLink RX10 25 "SeaLand$Work" "to" "I", .fieldLink RX10 28 "SeaLand$Work" "size" "I", .fieldLink RX10 31 "SeaLand$Work" "width" "I", .fieldLink RX10 34 "SeaLand$Work" "layers" "I", .fieldLink RX10 37 "SeaLand$Work" "coal" "I", .fieldLink RX10 40 "SeaLand$Work" "on" "Z", .fieldLink RX10 44 "SeaLand$Work" "latest" "I", .fieldLink RX10 47 "SeaLand$Work" "total" "I", .methodLink RX3 182 yX10_copyFrom, .instanceMethod yX10_copyFrom, .selects RX10 yX10_copyFrom yX10_copyFrom, .methodLink RX11 508 yX3_copyFrom, .instanceMethod yX3_copyFrom, .selects RX3 yX3_copyFrom yX3_copyFrom] bs2)
set_option maxHeartbeats 4000000 in
set_option maxRecDepth 100000 in
theorem c_keepY (l : Launch) (dC : Nat → ClassId) (dI : Nat → Nat → Nat) (kA : Nat → ClassId) (adK adV : Nat → Nat) (G : gT) (H0 : Heap) (nC nS : Int) (o0 : Nat) (lk sk ti sf so sm wi wh wn ra rh rn : Nat) (ho ns nw nr : Int32) (VT VF VO VM VH VN VR VQ : Nat → Int32) (hT : gH (dC, dI) kA (SHc nC nS) G H0) (hr_o0 : G o0 = some 14) (hm_lk : el H0 o0 (dI 14 1) = some (.ref lk)) (hr_lk : G lk = some 6) (hm_ho : el H0 lk (dI 6 4) = some (.int ho)) (hm_sk : el H0 lk (dI 6 0) = some (.ref sk)) (hr_sk : G sk = some 11) (hm_ti : el H0 sk (dI 11 0) = some (.ref ti)) (hr_ti : G ti = some 19) (hm_sf : el H0 sk (dI 11 1) = some (.ref sf)) (hr_sf : G sf = some 20) (hm_so : el H0 sk (dI 11 2) = some (.ref so)) (hr_so : G so = some 21) (hm_sm : el H0 sk (dI 11 3) = some (.ref sm)) (hr_sm : G sm = some 22) (hm_ns : el H0 sk (dI 11 6) = some (.int ns)) (hm_wi : el H0 sk (dI 11 4) = some (.ref wi)) (hr_wi : G wi = some 130) (hm_wh : el H0 wi (dI 12 0) = some (.ref wh)) (hr_wh : G wh = some 131) (hm_wn : el H0 wi (dI 12 1) = some (.ref wn)) (hr_wn : G wn = some 132) (hm_nw : el H0 wi (dI 12 2) = some (.int nw)) (hm_ra : el H0 sk (dI 11 5) = some (.ref ra)) (hr_ra : G ra = some 12) (hm_rh : el H0 ra (dI 12 0) = some (.ref rh)) (hr_rh : G rh = some 23) (hm_rn : el H0 ra (dI 12 1) = some (.ref rn)) (hr_rn : G rn = some 24) (hm_nr : el H0 ra (dI 12 2) = some (.int nr)) (hq0 : 0 ≤ ho.toInt ∧ ho.toInt ≤ 40000) (hq1 : 0 ≤ ns.toInt ∧ ns.toInt ≤ 20) (hq2 : 0 ≤ nw.toInt ∧ nw.toInt ≤ 60) (hq3 : 0 ≤ nr.toInt ∧ nr.toInt ≤ 60) (hc_VT : ct H0 ti 12 VT) (hc_VF : ct H0 sf 20 VF) (hc_VO : ct H0 so 20 VO) (hc_VM : ct H0 sm 20 VM) (hc_VH : ct H0 wh 60 VH) (hc_VN : ct H0 wn 60 VN) (hc_VR : ct H0 rh 60 VR) (hc_VQ : ct H0 rn 60 VQ) (hgC : 0 ≤ nC ∧ nC ≤ 40) (hgS : 0 ≤ nS ∧ nS ≤ 60) : Met l yX11_keep w_c_keepY ({ frames := 5, cells := 115, slots := 2151, locals := 124 }) (va_Pc [.ref o0] (fun U => U.heap = H0 ∧ va_K (dC, dI) vwCl (tyl kA) U ∧ EVC adK adV (gA G H0.size) U U.heap ∧ AO U)) (va_Qi (fun (r : Int32) (u : gT × Int × Int) => (0 ≤ r.toInt ∧ r.toInt ≤ 1) ∧ ((r.toInt = 0 ∧ ho.toInt = 0) ∨ (r.toInt = 1 ∧ ho.toInt ≠ 0))) (fun (u : gT × Int × Int) (t : State) => match u with | (G1, n1, n2) => gH (dC, dI) kA (SHc n1 n2) G1 t.heap ∧ gF (dC, dI) SKc G ([(14, 6), (71, 0), (72, 0), (73, 0), (74, 0), (75, 0), (76, 0), (77, 0), (78, 0), (79, 0), (80, 0), (81, 0), (82, 0), (83, 0), (84, 0), (88, 0), (89, 0), (90, 3), (90, 4), (91, 6), (92, 2), (93, 11), (93, 12), (93, 13), (93, 14), (94, 2), (94, 3), (94, 4), (94, 5), (94, 6), (94, 7), (94, 8), (94, 9), (94, 10), (94, 11), (133, 2), (134, 0), (135, 0)] : List (Nat × Nat)) H0 t.heap ∧ gZ ([70, 71, 72, 73, 74, 75, 76, 77, 78, 79, 80, 81, 82, 83, 84, 85, 86, 87, 88, 89, 90, 91, 92, 93, 94, 120, 121, 122, 123, 124, 125, 133, 134, 135, 137] : List Nat) H0.size G G1 ∧ (0 ≤ n1 ∧ n1 ≤ 40) ∧ (0 ≤ n2 ∧ n2 ≤ 60) ∧ ((ho.toInt = 0 ∧ t.heap = H0) ∨ (ho.toInt ≠ 0 ∧ ∃ (ilk isk iti isf iso ism iwi iwh iwn ira irh irn : Nat) (iho ins inw inr : Int32), el t.heap o0 (dI 14 6) = some (.ref ilk) ∧ G1 ilk = some 90 ∧ el t.heap ilk (dI 6 4) = some (.int iho) ∧ iho.toInt = ho.toInt ∧ el t.heap ilk (dI 6 0) = some (.ref isk) ∧ G1 isk = some 91 ∧ el t.heap isk (dI 11 0) = some (.ref iti) ∧ G1 iti = some 71 ∧ ct t.heap iti 12 VT ∧ el t.heap isk (dI 11 1) = some (.ref isf) ∧ G1 isf = some 72 ∧ ct t.heap isf 20 VF ∧ el t.heap isk (dI 11 2) = some (.ref iso) ∧ G1 iso = some 73 ∧ ct t.heap iso 20 VO ∧ el t.heap isk (dI 11 3) = some (.ref ism) ∧ G1 ism = some 74 ∧ ct t.heap ism 20 VM ∧ el t.heap isk (dI 11 6) = some (.int ins) ∧ ins.toInt = ns.toInt ∧ el t.heap isk (dI 11 4) = some (.ref iwi) ∧ G1 iwi = some 133 ∧ el t.heap iwi (dI 12 0) = some (.ref iwh) ∧ G1 iwh = some 134 ∧ ct t.heap iwh 60 VH ∧ el t.heap iwi (dI 12 1) = some (.ref iwn) ∧ G1 iwn = some 135 ∧ ct t.heap iwn 60 VN ∧ el t.heap iwi (dI 12 2) = some (.int inw) ∧ inw.toInt = nw.toInt ∧ el t.heap isk (dI 11 5) = some (.ref ira) ∧ G1 ira = some 92 ∧ el t.heap ira (dI 12 0) = some (.ref irh) ∧ G1 irh = some 75 ∧ ct t.heap irh 60 VR ∧ el t.heap ira (dI 12 1) = some (.ref irn) ∧ G1 irn = some 76 ∧ ct t.heap irn 60 VQ ∧ el t.heap ira (dI 12 2) = some (.int inr) ∧ inr.toInt = nr.toInt))) (gA G H0.size)) 115 2151 (gA G H0.size) := by
  refine Met.ofW (cc := cX11_keep) (maxL := 1) (ret := (some .boolean)) (by decide) rfl ?_
  intro p e s m args below meth c s₁ B hml hv
  obtain ⟨rfl, hH0, hK, hE, hAO⟩ := hv
  have hx := B.exec
  have hb := B.bytes
  have hr := B.returns
  have hts := atoms_spec (ws := w_c_keepY) B.pre
  have hown : s.vm.findClass RX11 = some m.cls := findClass_of_methodNamed B.named
  have hlocks := B.notSynchronized
  subst hH0
  generalize hAe : gA G s.heap.size = A at hE ⊢
  have hA : ∀ q : Nat, s.heap.size ≤ q → A q := fun q h => by rw [← hAe]; exact Or.inr h
  have hG := gA_of hAe
  have hS : va_S A s.heap s.heap [] := va_S.rf
  have hF : gF (dC, dI) SKc G ([(14, 6), (71, 0), (72, 0), (73, 0), (74, 0), (75, 0), (76, 0), (77, 0), (78, 0), (79, 0), (80, 0), (81, 0), (82, 0), (83, 0), (84, 0), (88, 0), (89, 0), (90, 3), (90, 4), (91, 6), (92, 2), (93, 11), (93, 12), (93, 13), (93, 14), (94, 2), (94, 3), (94, 4), (94, 5), (94, 6), (94, 7), (94, 8), (94, 9), (94, 10), (94, 11), (133, 2), (134, 0), (135, 0)] : List (Nat × Nat)) s.heap s.heap := gF.rf
  have hl := lv_entry ([.ref o0]) (n := 1) (Nat.le_of_ble_eq_true rfl)
  rw [lg_entry_eq]
  generalize (lg_sl ([.ref o0]) ++ List.replicate (1 - (lg_sl ([.ref o0])).length) Slot.unset).toArray = ls at hl ⊢
  have hl : lv_has ls 1 [(0, .ref o0)] := hl
  have hG0 := hG
  have hZ : gZ ([70, 71, 72, 73, 74, 75, 76, 77, 78, 79, 80, 81, 82, 83, 84, 85, 86, 87, 88, 89, 90, 91, 92, 93, 94, 120, 121, 122, 123, 124, 125, 133, 134, 135, 137] : List Nat) s.heap.size G G := gZ.rf hT
  refine lv_aload_n hx hb dX11_keep_0 rfl (lv_at hl 0 rfl) ?_
  refine tw_getM (v := .ref lk) hx hb hts bF2_X11 hown hK hT hr_o0 shc_14 rfl 1 (by decide) (ht_at2 hts 0 rfl) (fun _ h9 => h9) hm_lk dX11_keep_1 ?_
  refine tw_getNM (v := .int ho) hx hb hts bF2_X3 hown hK hT hr_lk shc_6 rfl 4 (by decide) (hE.nw 0 rfl) (fun _ h9 => h9) hm_ho dX11_keep_4 ?_
  refine lv_if_ne (tgt := 12) hx hb dX11_keep_7 (by decide) (fun c1 => ?_) (fun c1 => ?_)
  · have t2 : ho.toInt ≠ 0 := ti_ne c1 rfl (by decide)
    refine lv_aload_n hx hb dX11_keep_12 rfl (lv_at hl 0 rfl) ?_
    refine tw_get hx hb hts bF2_X11 hown hK hT hr_o0 shc_14 rfl 6 (by decide) (ht_at2 hts 1 rfl) (fun _ h9 => h9) dX11_keep_13 (fun v9 m3 h9 => ?_)
    obtain ⟨r9, rfl, hn9⟩ := h9 _ rfl
    rcases r9 with _ | b4
    · refine W.eq (g2 := F0 m 16 ls [.null]) rfl ?_
      refine lv_ifnonnullN hx hb dX11_keep_16 ?_
      refine lv_aload_n hx hb dX11_keep_19 rfl (lv_at hl 0 rfl) ?_
      have hz9 := hS.1
      refine tw_new hx hb hts bF2_X3 tyX3 tyX3_ok hown (ht_at2 hts 2 rfl) (ht_at2 hts 3 rfl) (ht_at2 hts 4 rfl) hK mon_c hT hS hG hA (shc_120) rfl nd_120 (Nat.le_of_ble_eq_true rfl) (Nat.le_of_ble_eq_true rfl) dX11_keep_20 (fun q6 G1 H hq9 eG hz1 hz2 hT hx9 hG hm9 hS => ?_)
      have hn_q6 : s.heap.size ≤ q6 := Nat.le_trans hz9 (Nat.le_of_eq hz2)
      have hF := hF.same (fun a t h => (hx9 _ _ (hZ.1 a t h)).2)
      have hZ := hZ.new hn_q6 eG hx9 (by decide)
      have m7 := (el_kept (hx9 _ _ hr_o0).2).trans hm_lk
      have m8 := (el_kept (hx9 _ _ hr_lk).2).trans hm_ho
      have m9 := (el_kept (hx9 _ _ hr_lk).2).trans hm_sk
      have m10 := (el_kept (hx9 _ _ hr_sk).2).trans hm_ti
      have m11 := (el_kept (hx9 _ _ hr_sk).2).trans hm_sf
      have m12 := (el_kept (hx9 _ _ hr_sk).2).trans hm_so
      have m13 := (el_kept (hx9 _ _ hr_sk).2).trans hm_sm
      have m14 := (el_kept (hx9 _ _ hr_sk).2).trans hm_ns
      have m15 := (el_kept (hx9 _ _ hr_sk).2).trans hm_wi
      have m16 := (el_kept (hx9 _ _ hr_wi).2).trans hm_wh
      have m17 := (el_kept (hx9 _ _ hr_wi).2).trans hm_wn
      have m18 := (el_kept (hx9 _ _ hr_wi).2).trans hm_nw
      have m19 := (el_kept (hx9 _ _ hr_sk).2).trans hm_ra
      have m20 := (el_kept (hx9 _ _ hr_ra).2).trans hm_rh
      have m21 := (el_kept (hx9 _ _ hr_ra).2).trans hm_rn
      have m22 := (el_kept (hx9 _ _ hr_ra).2).trans hm_nr
      have m23 := hc_VT.kept (hx9 _ _ hr_ti).2
      have m24 := hc_VF.kept (hx9 _ _ hr_sf).2
      have m25 := hc_VO.kept (hx9 _ _ hr_so).2
      have m26 := hc_VM.kept (hx9 _ _ hr_sm).2
      have m27 := hc_VH.kept (hx9 _ _ hr_wh).2
      have m28 := hc_VN.kept (hx9 _ _ hr_wn).2
      have m29 := hc_VR.kept (hx9 _ _ hr_rh).2
      have m30 := hc_VQ.kept (hx9 _ _ hr_rn).2
      have hg32 := (hx9 _ _ hr_o0).1
      have hg33 := (hx9 _ _ hr_lk).1
      have hg34 := (hx9 _ _ hr_sk).1
      have hg35 := (hx9 _ _ hr_ti).1
      have hg36 := (hx9 _ _ hr_sf).1
      have hg37 := (hx9 _ _ hr_so).1
      have hg38 := (hx9 _ _ hr_sm).1
      have hg39 := (hx9 _ _ hr_wi).1
      have hg40 := (hx9 _ _ hr_wh).1
      have hg41 := (hx9 _ _ hr_wn).1
      have hg42 := (hx9 _ _ hr_ra).1
      have hg43 := (hx9 _ _ hr_rh).1
      have hg44 := (hx9 _ _ hr_rn).1
      have hg45 : G1 q6 = some 120 := by rw [eG]; exact gU_at
      refine lv_dup hx hb dX11_keep_23 rfl ?_
      have hFc := gA_free hG hA hS
      have hz9 := hS.1
      refine va_callv (va_runI (As := []) (rest := [.ref q6, .ref o0]) ⟨hx, hb, hml, hown, hts⟩ (n_I3 l dC dI kA adK adV G1 H nC nS q6 hT hg45 (by omega) (by omega)) (cwI 0 hts (goodIn_ca (goodIn_r _ [6, 7, 8, 9, 10, 11, 12, 13, 14, 15, 16, 17, 18, 19, 20, 21, 22, 23, 24, 25, 26, 27, 28, 29, 30, 31, 32, 33, 34, 35, 36, 37, 38, 39, 40, 41, 42, 43, 44, 45, 46, 47, 48, 49, 50, 51, 52, 53, 54, 55, 56, 57, 58, 59] rfl (by decide +kernel)) (bs2_in _ _)) rfl rfl rfl (ht_at2 hts 4 rfl) (ht_at2 hts 59 rfl) (ht_at2 hts 60 rfl) rfl (by decide +kernel) ⟨(Nat.le_of_ble_eq_true rfl), (Nat.le_of_ble_eq_true rfl)⟩) ⟨fun a U g mk q => by obtain ⟨q0, q1, qK, qE, qA⟩ := q; exact ⟨q0, q1, va_K.moved (u := U) (U := U.calling g mk a) (Vm.Alike.refl U.vm) qK, EVC.blind g mk a qE, AO.blind g mk a qA⟩, fun U hU hW => ⟨rfl, hU, va_K.moved hW.alike hK, hE.call hS hFc hU hW, hAO.call hW⟩⟩ rfl rfl hl.1 rfl (lv_room (Nat.le_of_ble_eq_true rfl)) dX11_keep_24 ⟨(Nat.le_of_ble_eq_true rfl), (Nat.le_of_ble_eq_true rfl)⟩) hS (fun q _ h => hFc q h) hFc (fun G2 t H locs ht hvm _ hB _ _ hS => ?_)
      (try dsimp only at hB); rw [ht] at hB; obtain ⟨hT, hg46, hY1⟩ := hB
      have hF := hF.same (hZ.kept hn_q6 hY1)
      have hZ := hZ.call hn_q6 hY1 hz9 (by decide)
      have hG := hZ.A hG0 hA
      have m47 := (el_kept (hY1.1 _ _ (gne hg32 hg45 (by decide)) hg32).2).trans m7
      have m48 := (el_kept (hY1.1 _ _ (gne hg33 hg45 (by decide)) hg33).2).trans m8
      have m49 := (el_kept (hY1.1 _ _ (gne hg33 hg45 (by decide)) hg33).2).trans m9
      have m50 := (el_kept (hY1.1 _ _ (gne hg34 hg45 (by decide)) hg34).2).trans m10
      have m51 := (el_kept (hY1.1 _ _ (gne hg34 hg45 (by decide)) hg34).2).trans m11
      have m52 := (el_kept (hY1.1 _ _ (gne hg34 hg45 (by decide)) hg34).2).trans m12
      have m53 := (el_kept (hY1.1 _ _ (gne hg34 hg45 (by decide)) hg34).2).trans m13
      have m54 := (el_kept (hY1.1 _ _ (gne hg34 hg45 (by decide)) hg34).2).trans m14
      have m55 := (el_kept (hY1.1 _ _ (gne hg34 hg45 (by decide)) hg34).2).trans m15
      have m56 := (el_kept (hY1.1 _ _ (gne hg39 hg45 (by decide)) hg39).2).trans m16
      have m57 := (el_kept (hY1.1 _ _ (gne hg39 hg45 (by decide)) hg39).2).trans m17
      have m58 := (el_kept (hY1.1 _ _ (gne hg39 hg45 (by decide)) hg39).2).trans m18
      have m59 := (el_kept (hY1.1 _ _ (gne hg34 hg45 (by decide)) hg34).2).trans m19
      have m60 := (el_kept (hY1.1 _ _ (gne hg42 hg45 (by decide)) hg42).2).trans m20
      have m61 := (el_kept (hY1.1 _ _ (gne hg42 hg45 (by decide)) hg42).2).trans m21
      have m62 := (el_kept (hY1.1 _ _ (gne hg42 hg45 (by decide)) hg42).2).trans m22
      have m63 := m23.kept (hY1.1 _ _ (gne hg35 hg45 (by decide)) hg35).2
      have m64 := m24.kept (hY1.1 _ _ (gne hg36 hg45 (by decide)) hg36).2
      have m65 := m25.kept (hY1.1 _ _ (gne hg37 hg45 (by decide)) hg37).2
      have m66 := m26.kept (hY1.1 _ _ (gne hg38 hg45 (by decide)) hg38).2
      have m67 := m27.kept (hY1.1 _ _ (gne hg40 hg45 (by decide)) hg40).2
      have m68 := m28.kept (hY1.1 _ _ (gne hg41 hg45 (by decide)) hg41).2
      have m69 := m29.kept (hY1.1 _ _ (gne hg43 hg45 (by decide)) hg43).2
      have m70 := m30.kept (hY1.1 _ _ (gne hg44 hg45 (by decide)) hg44).2
      have hg72 := (hY1.1 _ _ (gne hg32 hg45 (by decide)) hg32).1
      have hg73 := (hY1.1 _ _ (gne hg33 hg45 (by decide)) hg33).1
      have hg74 := (hY1.1 _ _ (gne hg34 hg45 (by decide)) hg34).1
      have hg75 := (hY1.1 _ _ (gne hg35 hg45 (by decide)) hg35).1
      have hg76 := (hY1.1 _ _ (gne hg36 hg45 (by decide)) hg36).1
      have hg77 := (hY1.1 _ _ (gne hg37 hg45 (by decide)) hg37).1
      have hg78 := (hY1.1 _ _ (gne hg38 hg45 (by decide)) hg38).1
      have hg79 := (hY1.1 _ _ (gne hg39 hg45 (by decide)) hg39).1
      have hg80 := (hY1.1 _ _ (gne hg40 hg45 (by decide)) hg40).1
      have hg81 := (hY1.1 _ _ (gne hg41 hg45 (by decide)) hg41).1
      have hg82 := (hY1.1 _ _ (gne hg42 hg45 (by decide)) hg42).1
      have hg83 := (hY1.1 _ _ (gne hg43 hg45 (by decide)) hg43).1
      have hg84 := (hY1.1 _ _ (gne hg44 hg45 (by decide)) hg44).1
      refine tw_put (v := .ref q6) (ty := (.object "SeaLand$Lake")) hx hb hts bF2_X11 tyX11 tyX11_ok nmX11 hown hK hT hG hS hg72 shc_14 rfl 6 (by decide) (ht_at2 hts 1 rfl) (fun _ h9 => h9) rfl (by decide +kernel) rfl rfl (gl_at rfl ⟨some _, rfl, fun _ h => by cases h; exact hg46⟩) dX11_keep_27 (fun H locs hT oq m85 oj hS => ?_)
      have hF := gF.putX hZ.1 hF hg72 skc_14 oq oj (by decide)
      have m86 := (oj 1 (by decide) (by decide)).trans m47
      have m87 := (el_kept (oq _ (gne hg73 hg72 (by decide)))).trans m48
      have m88 := (el_kept (oq _ (gne hg73 hg72 (by decide)))).trans m49
      have m89 := (el_kept (oq _ (gne hg74 hg72 (by decide)))).trans m50
      have m90 := (el_kept (oq _ (gne hg74 hg72 (by decide)))).trans m51
      have m91 := (el_kept (oq _ (gne hg74 hg72 (by decide)))).trans m52
      have m92 := (el_kept (oq _ (gne hg74 hg72 (by decide)))).trans m53
      have m93 := (el_kept (oq _ (gne hg74 hg72 (by decide)))).trans m54
      have m94 := (el_kept (oq _ (gne hg74 hg72 (by decide)))).trans m55
      have m95 := (el_kept (oq _ (gne hg79 hg72 (by decide)))).trans m56
      have m96 := (el_kept (oq _ (gne hg79 hg72 (by decide)))).trans m57
      have m97 := (el_kept (oq _ (gne hg79 hg72 (by decide)))).trans m58
      have m98 := (el_kept (oq _ (gne hg74 hg72 (by decide)))).trans m59
      have m99 := (el_kept (oq _ (gne hg82 hg72 (by decide)))).trans m60
      have m100 := (el_kept (oq _ (gne hg82 hg72 (by decide)))).trans m61
      have m101 := (el_kept (oq _ (gne hg82 hg72 (by decide)))).trans m62
      have m102 := m63.kept (oq _ (gne hg75 hg72 (by decide)))
      have m103 := m64.kept (oq _ (gne hg76 hg72 (by decide)))
      have m104 := m65.kept (oq _ (gne hg77 hg72 (by decide)))
      have m105 := m66.kept (oq _ (gne hg78 hg72 (by decide)))
      have m106 := m67.kept (oq _ (gne hg80 hg72 (by decide)))
      have m107 := m68.kept (oq _ (gne hg81 hg72 (by decide)))
      have m108 := m69.kept (oq _ (gne hg83 hg72 (by decide)))
      have m109 := m70.kept (oq _ (gne hg84 hg72 (by decide)))
      refine lv_aload_n hx hb dX11_keep_30 rfl (lv_at hl 0 rfl) ?_
      refine tw_getM (v := .ref q6) hx hb hts bF2_X11 hown hK hT hg72 shc_14 rfl 6 (by decide) (ht_at2 hts 1 rfl) (fun _ h9 => h9) m85 dX11_keep_31 ?_
      refine lv_aload_n hx hb dX11_keep_34 rfl (lv_at hl 0 rfl) ?_
      refine tw_getM (v := .ref lk) hx hb hts bF2_X11 hown hK hT hg72 shc_14 rfl 1 (by decide) (ht_at2 hts 0 rfl) (fun _ h9 => h9) m86 dX11_keep_35 ?_
      obtain ⟨v9, m110, h9⟩ := gH_fld hT hg46 shc_90 (k := 0) (by decide)
      obtain ⟨b111, rfl, hg112⟩ := h9 _ rfl
      obtain ⟨v9, m113, h9⟩ := gH_fld hT hg112 shc_91 (k := 0) (by decide)
      obtain ⟨b114, rfl, hg115⟩ := h9 _ rfl
      obtain ⟨v9, m116, h9⟩ := gH_fld hT hg112 shc_91 (k := 1) (by decide)
      obtain ⟨b117, rfl, hg118⟩ := h9 _ rfl
      obtain ⟨v9, m119, h9⟩ := gH_fld hT hg112 shc_91 (k := 2) (by decide)
      obtain ⟨b120, rfl, hg121⟩ := h9 _ rfl
      obtain ⟨v9, m122, h9⟩ := gH_fld hT hg112 shc_91 (k := 3) (by decide)
      obtain ⟨b123, rfl, hg124⟩ := h9 _ rfl
      obtain ⟨v9, m125, h9⟩ := gH_fld hT hg112 shc_91 (k := 4) (by decide)
      obtain ⟨b126, rfl, hg127⟩ := h9 _ rfl
      obtain ⟨v9, m128, h9⟩ := gH_fld hT hg127 shc_133 (k := 0) (by decide)
      obtain ⟨b129, rfl, hg130⟩ := h9 _ rfl
      obtain ⟨v9, m131, h9⟩ := gH_fld hT hg127 shc_133 (k := 1) (by decide)
      obtain ⟨b132, rfl, hg133⟩ := h9 _ rfl
      obtain ⟨v9, m134, h9⟩ := gH_fld hT hg112 shc_91 (k := 5) (by decide)
      obtain ⟨b135, rfl, hg136⟩ := h9 _ rfl
      obtain ⟨v9, m137, h9⟩ := gH_fld hT hg136 shc_92 (k := 0) (by decide)
      obtain ⟨b138, rfl, hg139⟩ := h9 _ rfl
      obtain ⟨v9, m140, h9⟩ := gH_fld hT hg136 shc_92 (k := 1) (by decide)
      obtain ⟨b141, rfl, hg142⟩ := h9 _ rfl
      have hFc := gA_free hG hA hS
      refine va_callv (va_runV (As := [.ref lk]) (rest := []) ⟨hx, hb, hml, hown, hts⟩ (c_cpX3_iY l dC dI kA adK adV G2 H nC nS q6 lk b111 b114 b117 b120 b123 b126 b129 b132 b135 b138 b141 ho sk ti sf so sm ns wi wh wn nw ra rh rn nr VT VF VO VM VH VN VR VQ hT hg46 hg73 m110 hg112 m113 hg115 m116 hg118 m119 hg121 m122 hg124 m125 hg127 m128 hg130 m131 hg133 m134 hg136 m137 hg139 m140 hg142 m87 m88 hg74 m89 hg75 m90 hg76 m91 hg77 m92 hg78 m93 m94 hg79 m95 hg80 m96 hg81 m97 m98 hg82 m99 hg83 m100 hg84 m101 (by have q8 := ti_all ho; omega) (by have q8 := ti_all ns; omega) (by have q8 := ti_all nw; omega) (by have q8 := ti_all nr; omega) m102 m103 m104 m105 m106 m107 m108 m109 (by omega) (by omega)) (cwV 1 hts (goodIn_app (goodIn_r _ [104, 105, 106, 5] rfl (by decide +kernel)) (goodIn_ca (goodIn_r _ [62, 31, 63, 16, 64, 65, 66, 67, 17, 18, 19, 28, 68, 25, 69, 26, 70, 71, 72, 73, 22, 29, 74, 75, 76, 77, 12, 50, 78, 38, 79, 39, 40, 41, 42, 43, 44, 45, 80, 81, 82, 83, 84, 85, 86, 34, 87, 88, 52, 89, 57, 90, 58, 91, 92, 93, 94, 95, 96, 97, 98, 99, 100, 101, 102, 103, 54] rfl (by decide +kernel)) (bs2_in _ _))) rfl rfl rfl (by decide +kernel) ⟨(Nat.le_of_ble_eq_true rfl), (Nat.le_of_ble_eq_true rfl)⟩) ⟨fun a U g mk q => by obtain ⟨q0, q1, qK, qE⟩ := q; exact ⟨q0, q1, va_K.moved (u := U) (U := U.calling g mk a) (Vm.Alike.refl U.vm) qK, EVC.blind g mk a qE⟩, gH_rc hK hT hg46 shc_90 rfl, fun U hU hW => ⟨rfl, hU, va_K.moved hW.alike hK, hE.call hS hFc hU hW⟩⟩ rfl rfl hl.1 rfl (lv_room (Nat.le_of_ble_eq_true rfl)) dX11_keep_38 ⟨(Nat.le_of_ble_eq_true rfl), (Nat.le_of_ble_eq_true rfl)⟩) hS (fun q _ h => hFc q h) hFc (fun u t H locs ht hvm hw144 hB _ _ hS => ?_)
      obtain ⟨u145, u146, u147, u148⟩ := u
      obtain ⟨hT, hF1, m149, m150, m151, m152, m153, m154, m155, m156, m157, m158, m159, m160⟩ := hB
      rw [ht] at hT hF1 m149 m150 m151 m152 m153 m154 m155 m156 m157 m158 m159 m160
      have m185 := (hF1.fld hg72 skc_14 (k := 6) (by decide) (by decide)).trans m85
      have m186 := (hF1.fld hg46 skc_90 (k := 0) (by decide) (by decide)).trans m110
      have m187 := (hF1.fld hg112 skc_91 (k := 0) (by decide) (by decide)).trans m113
      have m188 := (hF1.fld hg112 skc_91 (k := 1) (by decide) (by decide)).trans m116
      have m189 := (hF1.fld hg112 skc_91 (k := 2) (by decide) (by decide)).trans m119
      have m190 := (hF1.fld hg112 skc_91 (k := 3) (by decide) (by decide)).trans m122
      have m191 := (hF1.fld hg112 skc_91 (k := 4) (by decide) (by decide)).trans m125
      have m192 := (hF1.fld hg127 skc_133 (k := 0) (by decide) (by decide)).trans m128
      have m193 := (hF1.fld hg127 skc_133 (k := 1) (by decide) (by decide)).trans m131
      have m194 := (hF1.fld hg112 skc_91 (k := 5) (by decide) (by decide)).trans m134
      have m195 := (hF1.fld hg136 skc_92 (k := 0) (by decide) (by decide)).trans m137
      have m196 := (hF1.fld hg136 skc_92 (k := 1) (by decide) (by decide)).trans m140
      have hF := hF.more (hF1.sub hZ.1) (by decide)
      try dsimp only at hw144
      have hf197 := hw144
      refine lv_iconst (v := 1) hx hb dX11_keep_41 (by decide) ?_
      exact W.zret (v := 1) hx hb hr (by decide) (fun t ht hW => ⟨⟨1, (G2, nC, nS), rfl, ⟨(rg_t (a := 1) (by decide) (by first | decide | omega) (by first | decide | omega)), by have : (1 : Int32).toInt = 1 := (by decide); omega⟩, by (try dsimp only); rw [ht]; exact ⟨hT, hF, hZ, (by omega), (by omega), Or.inr ⟨by omega, _, _, _, _, _, _, _, _, _, _, _, _, _, _, _, _, m185, hg46, m149, by omega, m186, hg112, m187, hg115, m153, m188, hg118, m154, m189, hg121, m155, m190, hg124, m156, m150, by omega, m191, hg127, m192, hg130, m157, m193, hg133, m158, m151, by omega, m194, hg136, m195, hg139, m159, m196, hg142, m160, m152, by omega⟩⟩⟩, hS.F ht⟩) hS.2.2 dX11_keep_42
    · refine W.eq (g2 := F0 m 16 ls [.ref b4]) rfl ?_
      have hg5 := hn9 b4 rfl
      refine lv_ifnonnull (tgt := 30) hx hb dX11_keep_16 (by decide) ?_
      refine lv_aload_n hx hb dX11_keep_30 rfl (lv_at hl 0 rfl) ?_
      refine tw_getM (v := .ref b4) hx hb hts bF2_X11 hown hK hT hr_o0 shc_14 rfl 6 (by decide) (ht_at2 hts 1 rfl) (fun _ h9 => h9) m3 dX11_keep_31 ?_
      refine lv_aload_n hx hb dX11_keep_34 rfl (lv_at hl 0 rfl) ?_
      refine tw_getM (v := .ref lk) hx hb hts bF2_X11 hown hK hT hr_o0 shc_14 rfl 1 (by decide) (ht_at2 hts 0 rfl) (fun _ h9 => h9) hm_lk dX11_keep_35 ?_
      obtain ⟨v9, m198, h9⟩ := gH_fld hT hg5 shc_90 (k := 0) (by decide)
      obtain ⟨b199, rfl, hg200⟩ := h9 _ rfl
      obtain ⟨v9, m201, h9⟩ := gH_fld hT hg200 shc_91 (k := 0) (by decide)
      obtain ⟨b202, rfl, hg203⟩ := h9 _ rfl
      obtain ⟨v9, m204, h9⟩ := gH_fld hT hg200 shc_91 (k := 1) (by decide)
      obtain ⟨b205, rfl, hg206⟩ := h9 _ rfl
      obtain ⟨v9, m207, h9⟩ := gH_fld hT hg200 shc_91 (k := 2) (by decide)
      obtain ⟨b208, rfl, hg209⟩ := h9 _ rfl
      obtain ⟨v9, m210, h9⟩ := gH_fld hT hg200 shc_91 (k := 3) (by decide)
      obtain ⟨b211, rfl, hg212⟩ := h9 _ rfl
      obtain ⟨v9, m213, h9⟩ := gH_fld hT hg200 shc_91 (k := 4) (by decide)
      obtain ⟨b214, rfl, hg215⟩ := h9 _ rfl
      obtain ⟨v9, m216, h9⟩ := gH_fld hT hg215 shc_133 (k := 0) (by decide)
      obtain ⟨b217, rfl, hg218⟩ := h9 _ rfl
      obtain ⟨v9, m219, h9⟩ := gH_fld hT hg215 shc_133 (k := 1) (by decide)
      obtain ⟨b220, rfl, hg221⟩ := h9 _ rfl
      obtain ⟨v9, m222, h9⟩ := gH_fld hT hg200 shc_91 (k := 5) (by decide)
      obtain ⟨b223, rfl, hg224⟩ := h9 _ rfl
      obtain ⟨v9, m225, h9⟩ := gH_fld hT hg224 shc_92 (k := 0) (by decide)
      obtain ⟨b226, rfl, hg227⟩ := h9 _ rfl
      obtain ⟨v9, m228, h9⟩ := gH_fld hT hg224 shc_92 (k := 1) (by decide)
      obtain ⟨b229, rfl, hg230⟩ := h9 _ rfl
      have hFc := gA_free hG hA hS
      refine va_callv (va_runV (As := [.ref lk]) (rest := []) ⟨hx, hb, hml, hown, hts⟩ (c_cpX3_iY l dC dI kA adK adV G s.heap nC nS b4 lk b199 b202 b205 b208 b211 b214 b217 b220 b223 b226 b229 ho sk ti sf so sm ns wi wh wn nw ra rh rn nr VT VF VO VM VH VN VR VQ hT hg5 hr_lk m198 hg200 m201 hg203 m204 hg206 m207 hg209 m210 hg212 m213 hg215 m216 hg218 m219 hg221 m222 hg224 m225 hg227 m228 hg230 hm_ho hm_sk hr_sk hm_ti hr_ti hm_sf hr_sf hm_so hr_so hm_sm hr_sm hm_ns hm_wi hr_wi hm_wh hr_wh hm_wn hr_wn hm_nw hm_ra hr_ra hm_rh hr_rh hm_rn hr_rn hm_nr (by have q8 := ti_all ho; omega) (by have q8 := ti_all ns; omega) (by have q8 := ti_all nw; omega) (by have q8 := ti_all nr; omega) hc_VT hc_VF hc_VO hc_VM hc_VH hc_VN hc_VR hc_VQ (by omega) (by omega)) (cwV 1 hts (goodIn_app (goodIn_r _ [104, 105, 106, 5] rfl (by decide +kernel)) (goodIn_ca (goodIn_r _ [62, 31, 63, 16, 64, 65, 66, 67, 17, 18, 19, 28, 68, 25, 69, 26, 70, 71, 72, 73, 22, 29, 74, 75, 76, 77, 12, 50, 78, 38, 79, 39, 40, 41, 42, 43, 44, 45, 80, 81, 82, 83, 84, 85, 86, 34, 87, 88, 52, 89, 57, 90, 58, 91, 92, 93, 94, 95, 96, 97, 98, 99, 100, 101, 102, 103, 54] rfl (by decide +kernel)) (bs2_in _ _))) rfl rfl rfl (by decide +kernel) ⟨(Nat.le_of_ble_eq_true rfl), (Nat.le_of_ble_eq_true rfl)⟩) ⟨fun a U g mk q => by obtain ⟨q0, q1, qK, qE⟩ := q; exact ⟨q0, q1, va_K.moved (u := U) (U := U.calling g mk a) (Vm.Alike.refl U.vm) qK, EVC.blind g mk a qE⟩, gH_rc hK hT hg5 shc_90 rfl, fun U hU hW => ⟨rfl, hU, va_K.moved hW.alike hK, hE.call hS hFc hU hW⟩⟩ rfl rfl hl.1 rfl (lv_room (Nat.le_of_ble_eq_true rfl)) dX11_keep_38 ⟨(Nat.le_of_ble_eq_true rfl), (Nat.le_of_ble_eq_true rfl)⟩) hS (fun q _ h => hFc q h) hFc (fun u t H locs ht hvm hw232 hB _ _ hS => ?_)
      obtain ⟨u233, u234, u235, u236⟩ := u
      obtain ⟨hT, hF1, m237, m238, m239, m240, m241, m242, m243, m244, m245, m246, m247, m248⟩ := hB
      rw [ht] at hT hF1 m237 m238 m239 m240 m241 m242 m243 m244 m245 m246 m247 m248
      have m273 := (hF1.fld hr_o0 skc_14 (k := 6) (by decide) (by decide)).trans m3
      have m274 := (hF1.fld hg5 skc_90 (k := 0) (by decide) (by decide)).trans m198
      have m275 := (hF1.fld hg200 skc_91 (k := 0) (by decide) (by decide)).trans m201
      have m276 := (hF1.fld hg200 skc_91 (k := 1) (by decide) (by decide)).trans m204
      have m277 := (hF1.fld hg200 skc_91 (k := 2) (by decide) (by decide)).trans m207
      have m278 := (hF1.fld hg200 skc_91 (k := 3) (by decide) (by decide)).trans m210
      have m279 := (hF1.fld hg200 skc_91 (k := 4) (by decide) (by decide)).trans m213
      have m280 := (hF1.fld hg215 skc_133 (k := 0) (by decide) (by decide)).trans m216
      have m281 := (hF1.fld hg215 skc_133 (k := 1) (by decide) (by decide)).trans m219
      have m282 := (hF1.fld hg200 skc_91 (k := 5) (by decide) (by decide)).trans m222
      have m283 := (hF1.fld hg224 skc_92 (k := 0) (by decide) (by decide)).trans m225
      have m284 := (hF1.fld hg224 skc_92 (k := 1) (by decide) (by decide)).trans m228
      have hF := hF.more (hF1.sub hZ.1) (by decide)
      try dsimp only at hw232
      have hf285 := hw232
      refine lv_iconst (v := 1) hx hb dX11_keep_41 (by decide) ?_
      refine W.widen (k := 115) (n := 2151) (by decide) (by decide) ?_
      exact W.zret (v := 1) hx hb hr (by decide) (fun t ht hW => ⟨⟨1, (G, nC, nS), rfl, ⟨(rg_t (a := 1) (by decide) (by first | decide | omega) (by first | decide | omega)), by have : (1 : Int32).toInt = 1 := (by decide); omega⟩, by (try dsimp only); rw [ht]; exact ⟨hT, hF, hZ, (by omega), (by omega), Or.inr ⟨by omega, _, _, _, _, _, _, _, _, _, _, _, _, _, _, _, _, m273, hg5, m237, by omega, m274, hg200, m275, hg203, m241, m276, hg206, m242, m277, hg209, m243, m278, hg212, m244, m238, by omega, m279, hg215, m280, hg218, m245, m281, hg221, m246, m239, by omega, m282, hg224, m283, hg227, m247, m284, hg230, m248, m240, by omega⟩⟩⟩, hS.F ht⟩) hS.2.2 dX11_keep_42
  · have t286 : ho.toInt = 0 := ti_eq c1 rfl (by decide)
    refine lv_iconst (v := 0) hx hb dX11_keep_10 (by decide) ?_
    refine W.widen (k := 115) (n := 2151) (by decide) (by decide) ?_
    exact W.zret (v := 0) hx hb hr (by decide) (fun t ht hW => ⟨⟨0, (G, nC, nS), rfl, ⟨(rg_t (a := 0) (by decide) (by first | decide | omega) (by first | decide | omega)), by have : (0 : Int32).toInt = 0 := (by decide); omega⟩, by (try dsimp only); rw [ht]; exact ⟨hT, hF, hZ, (by omega), (by omega), Or.inl ⟨by omega, rfl⟩⟩⟩, hS.F ht⟩) hS.2.2 dX11_keep_11
def w_c_tideY : List Cond := .code yX11_tide cX11_tide 3 none :: (HAppend.hAppend (α := List Cond) (β := List Cond) (γ := List Cond) [.code yX11_within cX11_within 3 (some .boolean), .methodLink RX11 58 yX11_within, .static yX11_within, .initialized RX11, .code yX11_needNumbers cX11_needNumbers 1 none, .classLink RX11 547 "java/lang/IllegalArgumentException", .initialized "java/lang/IllegalArgumentException", .methodLink RX11 62 yX11_needNumbers, .static yX11_needNumbers, .fieldLink RX11 23 "SeaLand" "rows" "LSeaLand$Rows;", .code yX6_forget cX6_forget 1 none, .fieldLink RX6 18 "SeaLand$Rows" "kept" "I", .fieldLink RX6 22 "SeaLand$Rows" "oldest" "I", .methodLink RX11 76 yX6_forget, .instanceMethod yX6_forget, .selects RX6 yX6_forget yX6_forget, .initialized RX6, .fieldLink RX11 16 "SeaLand" "lake" "LSeaLand$Lake;"] bs2)
set_option maxHeartbeats 4000000 in
set_option maxRecDepth 100000 in
theorem c_tideY (l : Launch) (hlt : l.stackTraces = false) (dC : Nat → ClassId) (dI : Nat → Nat → Nat) (kA : Nat → ClassId) (adK adV : Nat → Nat) (G : gT) (H0 : Heap) (nC nS : Int) (o0 : Nat) (p0 : Int32) (p1 : Int32) (lk : Nat) (sk : Nat) (ti : Nat) (VT : Nat → Int32)  (hT : gH (dC, dI) kA (SHc nC nS) G H0) (hr_o0 : G o0 = some 14) (hm_lk : el H0 o0 (dI 14 1) = some (.ref lk)) (hr_lk : G lk = some 6) (hm_sk : el H0 lk (dI 6 0) = some (.ref sk)) (hr_sk : G sk = some 11) (hm_ti : el H0 sk (dI 11 0) = some (.ref ti)) (hr_ti : G ti = some 19) (hc_VT : ct H0 ti 12 VT) (hgC : 0 ≤ nC ∧ nC ≤ 40) (hgS : 0 ≤ nS ∧ nS ≤ 60) : vx_Met l yX11_tide w_c_tideY ({ frames := 7, cells := 1, slots := 6, locals := 120 }) (va_Pc [.ref o0, .int p0, .int p1] (fun U => U.heap = H0 ∧ va_K (dC, dI) vwCl (tyl kA) U ∧ EVC adK adV (gA G H0.size) U U.heap)) (va_Qv (fun (u : Unit) => (tiC p0.toInt p1.toInt = 0)) (fun (_ : Unit) (t : State) => gH (dC, dI) kA (SHc nC nS) G t.heap ∧ gF (dC, dI) SKc G ([(9, 2), (9, 3), (19, 0)] : List (Nat × Nat)) H0 t.heap ∧ ct t.heap ti 12 (cu VT p0.toNatClampNeg p1)) (gA G H0.size)) (vx_X (fun _ : Unit => True) (fun E _ t => (E = "java/lang/IllegalArgumentException") ∧ ((E = "java/lang/IllegalArgumentException" ∧ tiC p0.toInt p1.toInt = 1)) ∧ gH (dC, dI) kA (SHc nC nS) G t.heap ∧ gF (dC, dI) SKc G ([(9, 2), (9, 3), (19, 0)] : List (Nat × Nat)) H0 t.heap ∧ ct t.heap ti 12 VT) (gA G H0.size)) 1 6 (gA G H0.size) := by
  refine vx_ofW (cc := cX11_tide) (maxL := 3) (ret := none) (by decide) rfl ?_
  intro p e s m args below meth c s₁ B hml hnt hv
  obtain ⟨rfl, hH0, hK, hE⟩ := hv
  have hx := B.exec
  have hb := B.bytes
  have hr := B.returns
  have hts := atoms_spec (ws := w_c_tideY) B.pre
  have hown : s.vm.findClass RX11 = some m.cls := findClass_of_methodNamed B.named
  have hlocks := B.notSynchronized
  subst hH0
  generalize hAe : gA G s.heap.size = A at hE ⊢
  have hA : ∀ q : Nat, s.heap.size ≤ q → A q := fun q h => by rw [← hAe]; exact Or.inr h
  have hG := gA_of hAe
  have hS : va_S A s.heap s.heap [] := va_S.rf
  have hF : gF (dC, dI) SKc G ([(9, 2), (9, 3), (19, 0)] : List (Nat × Nat)) s.heap s.heap := gF.rf
  have hl := lv_entry ([.ref o0, .int p0, .int p1]) (n := 3) (Nat.le_of_ble_eq_true rfl)
  rw [lg_entry_eq]
  generalize (lg_sl ([.ref o0, .int p0, .int p1]) ++ List.replicate (3 - (lg_sl ([.ref o0, .int p0, .int p1])).length) Slot.unset).toArray = ls at hl ⊢
  have hl : lv_has ls 3 [(0, .ref o0), (1, .int p0), (2, .int p1)] := hl
  refine lv_iload_n hx hb dX11_tide_0 rfl (lv_at hl 1 rfl) ?_
  refine lv_iconst (v := 0) hx hb dX11_tide_1 (by decide) ?_
  refine lv_bipush (v := 11) hx hb dX11_tide_2 (by decide) ?_
  have hFc := gA_free hG hA hS
  refine va_calli (va_runS (As := [.int p0, .int 0, .int 11]) (rest := []) ⟨hx, hb, hml, hown, hts⟩ (c_within l dC dI kA adK adV G s.heap nC nS p0 0 11 hT (by omega) (by omega)) (va_cwS 3 hts (goodIn_app (goodIn_r _ [2, 3, 4] rfl (by decide +kernel)) (goodIn_ca (goodIn_r _ [1] rfl (by decide +kernel)) (bs2_in _ _))) rfl rfl rfl (by decide +kernel) ⟨(Nat.le_of_ble_eq_true rfl), (Nat.le_of_ble_eq_true rfl)⟩) ⟨fun a U g mk q => by obtain ⟨q0, q1, qK, qE⟩ := q; exact ⟨q0, q1, va_K.moved (u := U) (U := U.calling g mk a) (Vm.Alike.refl U.vm) qK, EVC.blind g mk a qE⟩, fun U hU hW => ⟨rfl, hU, va_K.moved hW.alike hK, hE.call hS hFc hU hW⟩⟩ rfl rfl hl.1 rfl (lv_room (Nat.le_of_ble_eq_true rfl)) dX11_tide_4 ⟨(Nat.le_of_ble_eq_true rfl), (Nat.le_of_ble_eq_true rfl)⟩) hS (fun q _ h => hFc q h) hFc (fun r1 u t H locs ht hvm hw2 hB _ _ hS => ?_)
  obtain ⟨hT, hF1⟩ := hB
  rw [ht] at hT hF1
  have m3 := (hF1.fld hr_o0 skc_14 (k := 1) (by decide) (by decide)).trans hm_lk
  have m4 := (hF1.fld hr_lk skc_6 (k := 0) (by decide) (by decide)).trans hm_sk
  have m5 := (hF1.fld hr_sk skc_11 (k := 0) (by decide) (by decide)).trans hm_ti
  have m6 := hc_VT.kept (hF1.arr hr_ti skc_19 (by decide))
  have hF := hF.more hF1 (by decide)
  try dsimp only at hw2
  obtain ⟨h7, hi8, hi9⟩ := hw2
  refine lv_if_eq (tgt := 27) hx hb dX11_tide_7 (by decide) (fun c10 => ?_) (fun c10 => ?_)
  · have t11 : r1.toInt = 0 := ti_eq c10 rfl (by decide)
    have t12 : (0 : Int32).toInt = 0 := by decide
    have t13 : (11 : Int32).toInt = 11 := by decide
    have t14 : p0.toInt < (0 : Int32).toInt ∨ (11 : Int32).toInt < p0.toInt := hi9 c10
    refine lv_iconst (v := 0) hx hb dX11_tide_27 (by decide) ?_
    have hFc := gA_free hG hA hS
    refine vx_callN (vx_runS (As := [.int 0]) (rest := []) ⟨hx, hb, hml, hown, hts⟩ (c_needNumbers0 l hlt dC dI kA adK adV G H nC nS hT (by omega) (by omega)) (va_cwS 1 hts (goodIn_app (goodIn_r _ [8, 9, 4] rfl (by decide +kernel)) (goodIn_ca (goodIn_r _ [5, 6, 7] rfl (by decide +kernel)) (bs2_in _ _))) rfl rfl rfl (by decide +kernel) ⟨(Nat.le_of_ble_eq_true rfl), (Nat.le_of_ble_eq_true rfl)⟩) ⟨fun a U g mk q => by obtain ⟨q0, q1, qK, qE⟩ := q; exact ⟨q0, q1, va_K.moved (u := U) (U := U.calling g mk a) (Vm.Alike.refl U.vm) qK, EVC.blind g mk a qE⟩, fun U hU hW => ⟨rfl, hU, va_K.moved hW.alike hK, hE.call hS hFc hU hW⟩⟩ rfl rfl hl.1 rfl (lv_room (Nat.le_of_ble_eq_true rfl)) dX11_tide_28 ⟨(Nat.le_of_ble_eq_true rfl), (Nat.le_of_ble_eq_true rfl)⟩) hS hFc (fun q _ h => hFc q h) (fun E ce q9 u t H locs ht hvm _ hw16 _ _ hS hce hcv hcl => ?_)
    obtain ⟨hw16, hTx, hFx⟩ := hw16; rw [ht] at hTx hFx
    exact vx_out (fun x h => (hnt x h).elim) hlocks hce hcv hcl (fun t2 h2 hW => ⟨(), trivial, ⟨((fun h9 => h9) hw16), (⟨hw16, (by have := tiC_s p0.toInt p1.toInt; first | omega | exact hxf.elim)⟩), by rw [h2]; exact hTx, by rw [h2]; exact hF.more hFx (by decide), by rw [h2]; exact m6.kept (hFx.arr hr_ti skc_19 (by decide))⟩, hS.F h2⟩) hS.2.2 (by decide) (by decide)
  · have t17 : r1.toInt ≠ 0 := ti_ne c10 rfl (by decide)
    have t18 : (0 : Int32).toInt = 0 := by decide
    have t19 : (11 : Int32).toInt = 11 := by decide
    have t20 : (0 : Int32).toInt ≤ p0.toInt ∧ p0.toInt ≤ (11 : Int32).toInt := hi8 ((bit_of ⟨by omega, by omega⟩).resolve_left c10)
    refine lv_iload_n hx hb dX11_tide_10 rfl (lv_at hl 2 rfl) ?_
    refine lv_sipush (v := (-400)) hx hb dX11_tide_11 (by decide) ?_
    refine lv_sipush (v := 400) hx hb dX11_tide_14 (by decide) ?_
    have hFc := gA_free hG hA hS
    refine va_calli (va_runS (As := [.int p1, .int (-400), .int 400]) (rest := []) ⟨hx, hb, hml, hown, hts⟩ (c_within l dC dI kA adK adV G H nC nS p1 (-400) 400 hT (by omega) (by omega)) (va_cwS 3 hts (goodIn_app (goodIn_r _ [2, 3, 4] rfl (by decide +kernel)) (goodIn_ca (goodIn_r _ [1] rfl (by decide +kernel)) (bs2_in _ _))) rfl rfl rfl (by decide +kernel) ⟨(Nat.le_of_ble_eq_true rfl), (Nat.le_of_ble_eq_true rfl)⟩) ⟨fun a U g mk q => by obtain ⟨q0, q1, qK, qE⟩ := q; exact ⟨q0, q1, va_K.moved (u := U) (U := U.calling g mk a) (Vm.Alike.refl U.vm) qK, EVC.blind g mk a qE⟩, fun U hU hW => ⟨rfl, hU, va_K.moved hW.alike hK, hE.call hS hFc hU hW⟩⟩ rfl rfl hl.1 rfl (lv_room (Nat.le_of_ble_eq_true rfl)) dX11_tide_17 ⟨(Nat.le_of_ble_eq_true rfl), (Nat.le_of_ble_eq_true rfl)⟩) hS (fun q _ h => hFc q h) hFc (fun r21 u t H locs ht hvm hw22 hB _ _ hS => ?_)
    obtain ⟨hT, hF1⟩ := hB
    rw [ht] at hT hF1
    have m23 := (hF1.fld hr_o0 skc_14 (k := 1) (by decide) (by decide)).trans m3
    have m24 := (hF1.fld hr_lk skc_6 (k := 0) (by decide) (by decide)).trans m4
    have m25 := (hF1.fld hr_sk skc_11 (k := 0) (by decide) (by decide)).trans m5
    have m26 := m6.kept (hF1.arr hr_ti skc_19 (by decide))
    have hF := hF.more hF1 (by decide)
    try dsimp only at hw22
    obtain ⟨h27, hi28, hi29⟩ := hw22
    refine lv_if_eq (tgt := 27) hx hb dX11_tide_20 (by decide) (fun c30 => ?_) (fun c30 => ?_)
    · have t31 : r21.toInt = 0 := ti_eq c30 rfl (by decide)
      have t32 : (-400 : Int32).toInt = (-400) := by decide
      have t33 : (400 : Int32).toInt = 400 := by decide
      have t34 : p1.toInt < (-400 : Int32).toInt ∨ (400 : Int32).toInt < p1.toInt := hi29 c30
      refine lv_iconst (v := 0) hx hb dX11_tide_27 (by decide) ?_
      have hFc := gA_free hG hA hS
      refine vx_callN (vx_runS (As := [.int 0]) (rest := []) ⟨hx, hb, hml, hown, hts⟩ (c_needNumbers0 l hlt dC dI kA adK adV G H nC nS hT (by omega) (by omega)) (va_cwS 1 hts (goodIn_app (goodIn_r _ [8, 9, 4] rfl (by decide +kernel)) (goodIn_ca (goodIn_r _ [5, 6, 7] rfl (by decide +kernel)) (bs2_in _ _))) rfl rfl rfl (by decide +kernel) ⟨(Nat.le_of_ble_eq_true rfl), (Nat.le_of_ble_eq_true rfl)⟩) ⟨fun a U g mk q => by obtain ⟨q0, q1, qK, qE⟩ := q; exact ⟨q0, q1, va_K.moved (u := U) (U := U.calling g mk a) (Vm.Alike.refl U.vm) qK, EVC.blind g mk a qE⟩, fun U hU hW => ⟨rfl, hU, va_K.moved hW.alike hK, hE.call hS hFc hU hW⟩⟩ rfl rfl hl.1 rfl (lv_room (Nat.le_of_ble_eq_true rfl)) dX11_tide_28 ⟨(Nat.le_of_ble_eq_true rfl), (Nat.le_of_ble_eq_true rfl)⟩) hS hFc (fun q _ h => hFc q h) (fun E ce q9 u t H locs ht hvm _ hw36 _ _ hS hce hcv hcl => ?_)
      obtain ⟨hw36, hTx, hFx⟩ := hw36; rw [ht] at hTx hFx
      exact vx_out (fun x h => (hnt x h).elim) hlocks hce hcv hcl (fun t2 h2 hW => ⟨(), trivial, ⟨((fun h9 => h9) hw36), (⟨hw36, (by have := tiC_s p0.toInt p1.toInt; first | omega | exact hxf.elim)⟩), by rw [h2]; exact hTx, by rw [h2]; exact hF.more hFx (by decide), by rw [h2]; exact m26.kept (hFx.arr hr_ti skc_19 (by decide))⟩, hS.F h2⟩) hS.2.2 (by decide) (by decide)
    · have t37 : r21.toInt ≠ 0 := ti_ne c30 rfl (by decide)
      have t38 : (-400 : Int32).toInt = (-400) := by decide
      have t39 : (400 : Int32).toInt = 400 := by decide
      have t40 : (-400 : Int32).toInt ≤ p1.toInt ∧ p1.toInt ≤ (400 : Int32).toInt := hi28 ((bit_of ⟨by omega, by omega⟩).resolve_left c30)
      refine lv_iconst (v := 1) hx hb dX11_tide_23 (by decide) ?_
      refine lv_goto (tgt := 28) hx hb dX11_tide_24 (by decide) ?_
      have hFc := gA_free hG hA hS
      refine vx_callv (vx_runS (As := [.int 1]) (rest := []) ⟨hx, hb, hml, hown, hts⟩ (c_needNumbers1X l hlt dC dI kA adK adV G H nC nS hT (by omega) (by omega)) (va_cwS 1 hts (goodIn_app (goodIn_r _ [8, 9, 4] rfl (by decide +kernel)) (goodIn_ca (goodIn_r _ [5] rfl (by decide +kernel)) (bs2_in _ _))) rfl rfl rfl (by decide +kernel) ⟨(Nat.le_of_ble_eq_true rfl), (Nat.le_of_ble_eq_true rfl)⟩) ⟨fun a U g mk q => by obtain ⟨q0, q1, qK, qE⟩ := q; exact ⟨q0, q1, va_K.moved (u := U) (U := U.calling g mk a) (Vm.Alike.refl U.vm) qK, EVC.blind g mk a qE⟩, fun U hU hW => ⟨rfl, hU, va_K.moved hW.alike hK, hE.call hS hFc hU hW⟩⟩ rfl rfl hl.1 rfl (lv_room (Nat.le_of_ble_eq_true rfl)) dX11_tide_28 ⟨(Nat.le_of_ble_eq_true rfl), (Nat.le_of_ble_eq_true rfl)⟩) hS (fun q _ h => hFc q h) hFc (fun q _ h => hFc q h) (fun E ce q9 u t H locs ht hvm _ hw42 _ _ hS hce hcv hcl => ?_) (fun u t H locs ht hvm hw42 hB _ _ hS => ?_)
      · obtain ⟨hw42, hxf, hTx, hFx⟩ := hw42; rw [ht] at hTx hFx
        exact vx_out (fun x h => (hnt x h).elim) hlocks hce hcv hcl (fun t2 h2 hW => ⟨(), trivial, ⟨((fun h9 => h9) hw42), (⟨hw42, (by have := tiC_s p0.toInt p1.toInt; first | omega | exact hxf.elim)⟩), by rw [h2]; exact hTx, by rw [h2]; exact hF.more hFx (by decide), by rw [h2]; exact m26.kept (hFx.arr hr_ti skc_19 (by decide))⟩, hS.F h2⟩) hS.2.2 (by decide) (by decide)
      · obtain ⟨hT, hF1⟩ := hB
        rw [ht] at hT hF1
        have m43 := (hF1.fld hr_o0 skc_14 (k := 1) (by decide) (by decide)).trans m23
        have m44 := (hF1.fld hr_lk skc_6 (k := 0) (by decide) (by decide)).trans m24
        have m45 := (hF1.fld hr_sk skc_11 (k := 0) (by decide) (by decide)).trans m25
        have m46 := m26.kept (hF1.arr hr_ti skc_19 (by decide))
        have hF := hF.more hF1 (by decide)
        try dsimp only at hw42
        refine lv_aload_n hx hb dX11_tide_31 rfl (lv_at hl 0 rfl) ?_
        refine tw_get hx hb hts bF2_X11 hown hK hT hr_o0 shc_14 rfl 2 (by decide) (ht_at2 hts 9 rfl) (fun _ h9 => h9) dX11_tide_32 (fun v9 m47 h9 => ?_)
        obtain ⟨b48, rfl, hg49⟩ := h9 _ rfl
        have hFc := gA_free hG hA hS
        refine va_callv (va_runV (As := []) (rest := []) ⟨hx, hb, hml, hown, hts⟩ (c_forget l dC dI kA adK adV G H nC nS b48 hT hg49 (by omega) (by omega)) (cwV 0 hts (goodIn_app (goodIn_r _ [14, 15, 16, 17] rfl (by decide +kernel)) (goodIn_ca (goodIn_r _ [11, 12, 13] rfl (by decide +kernel)) (bs2_in _ _))) rfl rfl rfl (by decide +kernel) ⟨(Nat.le_of_ble_eq_true rfl), (Nat.le_of_ble_eq_true rfl)⟩) ⟨fun a U g mk q => by obtain ⟨q0, q1, qK, qE⟩ := q; exact ⟨q0, q1, va_K.moved (u := U) (U := U.calling g mk a) (Vm.Alike.refl U.vm) qK, EVC.blind g mk a qE⟩, gH_rc hK hT hg49 shc_9 rfl, fun U hU hW => ⟨rfl, hU, va_K.moved hW.alike hK, hE.call hS hFc hU hW⟩⟩ rfl rfl hl.1 rfl (lv_room (Nat.le_of_ble_eq_true rfl)) dX11_tide_35 ⟨(Nat.le_of_ble_eq_true rfl), (Nat.le_of_ble_eq_true rfl)⟩) hS (fun q _ h => hFc q h) hFc (fun u t H locs ht hvm hw51 hB _ _ hS => ?_)
        obtain ⟨hT, hF1⟩ := hB
        rw [ht] at hT hF1
        have m52 := (hF1.fld hr_o0 skc_14 (k := 1) (by decide) (by decide)).trans m43
        have m53 := (hF1.fld hr_lk skc_6 (k := 0) (by decide) (by decide)).trans m44
        have m54 := (hF1.fld hr_sk skc_11 (k := 0) (by decide) (by decide)).trans m45
        have m55 := m46.kept (hF1.arr hr_ti skc_19 (by decide))
        have hF := hF.more hF1 (by decide)
        try dsimp only at hw51
        refine lv_aload_n hx hb dX11_tide_38 rfl (lv_at hl 0 rfl) ?_
        refine tw_getM (v := .ref lk) hx hb hts bF2_X11 hown hK hT hr_o0 shc_14 rfl 1 (by decide) (ht_at2 hts 17 rfl) (fun _ h9 => h9) m52 dX11_tide_39 ?_
        refine tw_getNM (v := .ref sk) hx hb hts bF2_X3 hown hK hT hr_lk shc_6 rfl 0 (by decide) (hE.nw 3 rfl) (fun _ h9 => h9) m53 dX11_tide_42 ?_
        refine tw_getNM (v := .ref ti) hx hb hts bF2_X8 hown hK hT hr_sk shc_11 rfl 0 (by decide) (hE.nw 4 rfl) (fun _ h9 => h9) m54 dX11_tide_45 ?_
        refine lv_iload_n hx hb dX11_tide_48 rfl (lv_at hl 1 rfl) ?_
        refine lv_iload_n hx hb dX11_tide_49 rfl (lv_at hl 2 rfl) ?_
        refine tw_iast (i := p0) (x := p1) hx hb hK hT hG hS hr_ti shc_19 rfl (vin_t (a := p0.toInt) rfl (by omega) (by omega)) (gi_all _) dX11_tide_50 (fun H locs hT oq m57 oi hS => ?_)
        have hF := hF.ast hr_ti skc_19 oq (by decide)
        have m61 := m55.put m57 oi
        refine W.widen (k := 1) (n := 6) (by decide) (by decide) ?_
        exact vx_ret (W.vret hx hb hr (fun t ht hW => ⟨⟨(), rfl, (by exact (by have := tiC_s p0.toInt p1.toInt; omega)), by (try dsimp only); rw [ht]; exact ⟨hT, hF, m61⟩⟩, hS.F ht⟩) hS.2.2 dX11_tide_51)
def w_c_tellStormY : List Cond := .code yX8_tellStorm cX8_tellStorm 4 (some .int) :: (HAppend.hAppend (α := List Cond) (β := List Cond) (γ := List Cond) [.fieldLink RX8 15 "SeaLand$Sky" "stormFrom" "[I", .fieldLink RX8 34 "SeaLand$Sky" "storms" "I", .fieldLink RX8 18 "SeaLand$Sky" "stormTo" "[I", .fieldLink RX8 21 "SeaLand$Sky" "stormMore" "[I"] bs2)
set_option maxHeartbeats 4000000 in
set_option maxRecDepth 100000 in
theorem c_tellStormY (l : Launch) (dC : Nat → ClassId) (dI : Nat → Nat → Nat) (kA : Nat → ClassId) (adK adV : Nat → Nat) (G : gT) (H0 : Heap) (nC nS : Int) (o0 : Nat) (p0 : Int32) (p1 : Int32) (p2 : Int32) (sf : Nat) (so : Nat) (sm : Nat) (ns : Int32) (VF : Nat → Int32) (VO : Nat → Int32) (VM : Nat → Int32)  (hT : gH (dC, dI) kA (SHc nC nS) G H0) (hr_o0 : G o0 = some 11) (hm_sf : el H0 o0 (dI 11 1) = some (.ref sf)) (hr_sf : G sf = some 20) (hm_so : el H0 o0 (dI 11 2) = some (.ref so)) (hr_so : G so = some 21) (hm_sm : el H0 o0 (dI 11 3) = some (.ref sm)) (hr_sm : G sm = some 22) (hm_ns : el H0 o0 (dI 11 6) = some (.int ns)) (hq0 : 0 ≤ ns.toInt ∧ ns.toInt ≤ 19) (hc_VF : ct H0 sf 20 VF) (hc_VO : ct H0 so 20 VO) (hc_VM : ct H0 sm 20 VM) (hgC : 0 ≤ nC ∧ nC ≤ 40) (hgS : 0 ≤ nS ∧ nS ≤ 60) : Met l yX8_tellStorm w_c_tellStormY ({ frames := 0, cells := 0, slots := 0, locals := 0 }) (va_Pc [.ref o0, .int p0, .int p1, .int p2] (fun U => U.heap = H0 ∧ va_K (dC, dI) vwCl (tyl kA) U ∧ EVC adK adV (gA G H0.size) U U.heap)) (va_Qi (fun (r : Int32) (u : Int32) => (1 ≤ r.toInt ∧ r.toInt ≤ 20) ∧ (r.toInt = ns.toInt + 1 ∧ u.toInt = ns.toInt + 1)) (fun (ns1 : Int32) (t : State) => gH (dC, dI) kA (SHc nC nS) G t.heap ∧ gF (dC, dI) SKc G ([(11, 6), (20, 0), (21, 0), (22, 0)] : List (Nat × Nat)) H0 t.heap ∧ el t.heap o0 (dI 11 6) = some (.int ns1) ∧ ct t.heap sf 20 (cu VF ns.toNatClampNeg p0) ∧ ct t.heap so 20 (cu VO ns.toNatClampNeg p1) ∧ ct t.heap sm 20 (cu VM ns.toNatClampNeg p2)) (gA G H0.size)) 0 0 (gA G H0.size) := by
  refine Met.ofW (cc := cX8_tellStorm) (maxL := 4) (ret := (some .int)) (by decide) rfl ?_
  intro p e s m args below meth c s₁ B hml hv
  obtain ⟨rfl, hH0, hK, hE⟩ := hv
  have hx := B.exec
  have hb := B.bytes
  have hr := B.returns
  have hts := atoms_spec (ws := w_c_tellStormY) B.pre
  have hown : s.vm.findClass RX8 = some m.cls := findClass_of_methodNamed B.named
  have hlocks := B.notSynchronized
  subst hH0
  generalize hAe : gA G s.heap.size = A at hE ⊢
  have hA : ∀ q : Nat, s.heap.size ≤ q → A q := fun q h => by rw [← hAe]; exact Or.inr h
  have hG := gA_of hAe
  have hS : va_S A s.heap s.heap [] := va_S.rf
  have hF : gF (dC, dI) SKc G ([(11, 6), (20, 0), (21, 0), (22, 0)] : List (Nat × Nat)) s.heap s.heap := gF.rf
  have hl := lv_entry ([.ref o0, .int p0, .int p1, .int p2]) (n := 4) (Nat.le_of_ble_eq_true rfl)
  rw [lg_entry_eq]
  generalize (lg_sl ([.ref o0, .int p0, .int p1, .int p2]) ++ List.replicate (4 - (lg_sl ([.ref o0, .int p0, .int p1, .int p2])).length) Slot.unset).toArray = ls at hl ⊢
  have hl : lv_has ls 4 [(0, .ref o0), (1, .int p0), (2, .int p1), (3, .int p2)] := hl
  refine lv_aload_n hx hb dX8_tellStorm_0 rfl (lv_at hl 0 rfl) ?_
  refine tw_getM (v := .ref sf) hx hb hts bF2_X8 hown hK hT hr_o0 shc_11 rfl 1 (by decide) (ht_at2 hts 0 rfl) (fun _ h9 => h9) hm_sf dX8_tellStorm_1 ?_
  refine lv_aload_n hx hb dX8_tellStorm_4 rfl (lv_at hl 0 rfl) ?_
  refine tw_getM (v := .int ns) hx hb hts bF2_X8 hown hK hT hr_o0 shc_11 rfl 6 (by decide) (ht_at2 hts 1 rfl) (fun _ h9 => h9) hm_ns dX8_tellStorm_5 ?_
  refine lv_iload_n hx hb dX8_tellStorm_8 rfl (lv_at hl 1 rfl) ?_
  refine tw_iast (i := ns) (x := p0) hx hb hK hT hG hS hr_sf shc_20 rfl (vin_t (a := ns.toInt) rfl (by omega) (by omega)) (gi_all _) dX8_tellStorm_9 (fun H locs hT oq m1 oi hS => ?_)
  have hF := hF.ast hr_sf skc_20 oq (by decide)
  have m3 := (el_kept (oq _ (gne hr_o0 hr_sf (by decide)))).trans hm_so
  have m4 := (el_kept (oq _ (gne hr_o0 hr_sf (by decide)))).trans hm_sm
  have m5 := (el_kept (oq _ (gne hr_o0 hr_sf (by decide)))).trans hm_ns
  have m6 := hc_VF.put m1 oi
  have m7 := hc_VO.kept (oq _ (gne hr_so hr_sf (by decide)))
  have m8 := hc_VM.kept (oq _ (gne hr_sm hr_sf (by decide)))
  refine lv_aload_n hx hb dX8_tellStorm_10 rfl (lv_at hl 0 rfl) ?_
  refine tw_getM (v := .ref so) hx hb hts bF2_X8 hown hK hT hr_o0 shc_11 rfl 2 (by decide) (ht_at2 hts 2 rfl) (fun _ h9 => h9) m3 dX8_tellStorm_11 ?_
  refine lv_aload_n hx hb dX8_tellStorm_14 rfl (lv_at hl 0 rfl) ?_
  refine tw_getM (v := .int ns) hx hb hts bF2_X8 hown hK hT hr_o0 shc_11 rfl 6 (by decide) (ht_at2 hts 1 rfl) (fun _ h9 => h9) m5 dX8_tellStorm_15 ?_
  refine lv_iload_n hx hb dX8_tellStorm_18 rfl (lv_at hl 2 rfl) ?_
  refine tw_iast (i := ns) (x := p1) hx hb hK hT hG hS hr_so shc_21 rfl (vin_t (a := ns.toInt) rfl (by omega) (by omega)) (gi_all _) dX8_tellStorm_19 (fun H locs hT oq m9 oi hS => ?_)
  have hF := hF.ast hr_so skc_21 oq (by decide)
  have m12 := (el_kept (oq _ (gne hr_o0 hr_so (by decide)))).trans m4
  have m13 := (el_kept (oq _ (gne hr_o0 hr_so (by decide)))).trans m5
  have m14 := m6.kept (oq _ (gne hr_sf hr_so (by decide)))
  have m15 := m7.put m9 oi
  have m16 := m8.kept (oq _ (gne hr_sm hr_so (by decide)))
  refine lv_aload_n hx hb dX8_tellStorm_20 rfl (lv_at hl 0 rfl) ?_
  refine tw_getM (v := .ref sm) hx hb hts bF2_X8 hown hK hT hr_o0 shc_11 rfl 3 (by decide) (ht_at2 hts 3 rfl) (fun _ h9 => h9) m12 dX8_tellStorm_21 ?_
  refine lv_aload_n hx hb dX8_tellStorm_24 rfl (lv_at hl 0 rfl) ?_
  refine tw_getM (v := .int ns) hx hb hts bF2_X8 hown hK hT hr_o0 shc_11 rfl 6 (by decide) (ht_at2 hts 1 rfl) (fun _ h9 => h9) m13 dX8_tellStorm_25 ?_
  refine lv_iload_n hx hb dX8_tellStorm_28 rfl (lv_at hl 3 rfl) ?_
  refine tw_iast (i := ns) (x := p2) hx hb hK hT hG hS hr_sm shc_22 rfl (vin_t (a := ns.toInt) rfl (by omega) (by omega)) (gi_all _) dX8_tellStorm_29 (fun H locs hT oq m18 oi hS => ?_)
  have hF := hF.ast hr_sm skc_22 oq (by decide)
  have m22 := (el_kept (oq _ (gne hr_o0 hr_sm (by decide)))).trans m13
  have m23 := m14.kept (oq _ (gne hr_sf hr_sm (by decide)))
  have m24 := m15.kept (oq _ (gne hr_so hr_sm (by decide)))
  have m25 := m16.put m18 oi
  refine lv_aload_n hx hb dX8_tellStorm_30 rfl (lv_at hl 0 rfl) ?_
  refine lv_dup hx hb dX8_tellStorm_31 rfl ?_
  refine tw_getM (v := .int ns) hx hb hts bF2_X8 hown hK hT hr_o0 shc_11 rfl 6 (by decide) (ht_at2 hts 1 rfl) (fun _ h9 => h9) m22 dX8_tellStorm_32 ?_
  refine lv_iconst (v := 1) hx hb dX8_tellStorm_35 (by decide) ?_
  refine lv_iadd hx hb dX8_tellStorm_36 ?_
  refine lv_topi (fun x28 ex28 => ?_)
  have t29 : x28.toInt = ns.toInt + 1 := ti_add ex28 rfl (by decide) (by omega) (by omega)
  refine tw_put (v := .int x28) (ty := .int) hx hb hts bF2_X8 tyX8 tyX8_ok nmX8 hown hK hT hG hS hr_o0 shc_11 rfl 6 (by decide) (ht_at2 hts 1 rfl) (fun _ h9 => h9) rfl (by decide +kernel) rfl rfl (gl_at rfl (gi_of (show x28.toInt = x28.toInt from rfl) (by omega) (by omega))) dX8_tellStorm_37 (fun H locs hT oq m30 oj hS => ?_)
  have hF := hF.put hr_o0 skc_11 oq oj (by decide)
  have m34 := m23.kept (oq _ (gne hr_sf hr_o0 (by decide)))
  have m35 := m24.kept (oq _ (gne hr_so hr_o0 (by decide)))
  have m36 := m25.kept (oq _ (gne hr_sm hr_o0 (by decide)))
  refine lv_aload_n hx hb dX8_tellStorm_40 rfl (lv_at hl 0 rfl) ?_
  refine tw_getM (v := .int x28) hx hb hts bF2_X8 hown hK hT hr_o0 shc_11 rfl 6 (by decide) (ht_at2 hts 1 rfl) (fun _ h9 => h9) m30 dX8_tellStorm_41 ?_
  exact W.iret (v := x28) hx hb hr (fun t ht hW => ⟨⟨x28, x28, rfl, (by exact ⟨(by have q8 := ti_all x28; omega), (by omega)⟩), by (try dsimp only); rw [ht]; exact ⟨hT, hF, m30, m34, m35, m36⟩⟩, hS.F ht⟩) hS.2.2 dX8_tellStorm_44
def w_c_stormY : List Cond := .code yX11_storm cX11_storm 4 (some .int) :: (HAppend.hAppend (α := List Cond) (β := List Cond) (γ := List Cond) [.code yX11_needNumbers cX11_needNumbers 1 none, .classLink RX11 547 "java/lang/IllegalArgumentException", .initialized "java/lang/IllegalArgumentException", .methodLink RX11 62 yX11_needNumbers, .static yX11_needNumbers, .initialized RX11, .constant RX11 110 40000, .code yX11_within cX11_within 3 (some .boolean), .methodLink RX11 58 yX11_within, .static yX11_within, .fieldLink RX11 16 "SeaLand" "lake" "LSeaLand$Lake;", .fieldLink RX11 23 "SeaLand" "rows" "LSeaLand$Rows;", .code yX6_forget cX6_forget 1 none, .fieldLink RX6 18 "SeaLand$Rows" "kept" "I", .fieldLink RX6 22 "SeaLand$Rows" "oldest" "I", .methodLink RX11 76 yX6_forget, .instanceMethod yX6_forget, .selects RX6 yX6_forget yX6_forget, .initialized RX6, .code yX8_tellStorm cX8_tellStorm 4 (some .int), .fieldLink RX8 15 "SeaLand$Sky" "stormFrom" "[I", .fieldLink RX8 34 "SeaLand$Sky" "storms" "I", .fieldLink RX8 18 "SeaLand$Sky" "stormTo" "[I", .fieldLink RX8 21 "SeaLand$Sky" "stormMore" "[I", .methodLink RX11 114 yX8_tellStorm, .instanceMethod yX8_tellStorm, .selects RX8 yX8_tellStorm yX8_tellStorm, .initialized RX8] bs2)
set_option maxHeartbeats 4000000 in
set_option maxRecDepth 100000 in
theorem c_stormY (l : Launch) (hlt : l.stackTraces = false) (dC : Nat → ClassId) (dI : Nat → Nat → Nat) (kA : Nat → ClassId) (adK adV : Nat → Nat) (G : gT) (H0 : Heap) (nC nS : Int) (o0 : Nat) (p0 : Int32) (p1 : Int32) (p2 : Int32) (lk : Nat) (sk : Nat) (sf : Nat) (so : Nat) (sm : Nat) (ns : Int32) (VF : Nat → Int32) (VO : Nat → Int32) (VM : Nat → Int32)  (hT : gH (dC, dI) kA (SHc nC nS) G H0) (hr_o0 : G o0 = some 14) (hm_lk : el H0 o0 (dI 14 1) = some (.ref lk)) (hr_lk : G lk = some 6) (hm_sk : el H0 lk (dI 6 0) = some (.ref sk)) (hr_sk : G sk = some 11) (hm_sf : el H0 sk (dI 11 1) = some (.ref sf)) (hr_sf : G sf = some 20) (hm_so : el H0 sk (dI 11 2) = some (.ref so)) (hr_so : G so = some 21) (hm_sm : el H0 sk (dI 11 3) = some (.ref sm)) (hr_sm : G sm = some 22) (hm_ns : el H0 sk (dI 11 6) = some (.int ns)) (hq0 : 0 ≤ ns.toInt ∧ ns.toInt ≤ 20) (hc_VF : ct H0 sf 20 VF) (hc_VO : ct H0 so 20 VO) (hc_VM : ct H0 sm 20 VM) (hgC : 0 ≤ nC ∧ nC ≤ 40) (hgS : 0 ≤ nS ∧ nS ≤ 60) : vx_Met l yX11_storm w_c_stormY ({ frames := 7, cells := 1, slots := 6, locals := 120 }) (va_Pc [.ref o0, .int p0, .int p1, .int p2] (fun U => U.heap = H0 ∧ va_K (dC, dI) vwCl (tyl kA) U ∧ EVC adK adV (gA G H0.size) U U.heap)) (va_Qi (fun (r : Int32) (u : Int32 × (Nat → Int32) × (Nat → Int32) × (Nat → Int32)) => match u with | (ns1, VF1, VO1, VM1) => (-1 ≤ r.toInt ∧ r.toInt ≤ 20) ∧ (stC p0.toInt p1.toInt p2.toInt = 0) ∧ ((ns.toInt = 20 ∧ r.toInt = -1 ∧ ns1.toInt = ns.toInt ∧ VF1 = VF ∧ VO1 = VO ∧ VM1 = VM) ∨ (ns.toInt ≠ 20 ∧ r.toInt = ns.toInt + 1 ∧ ns1.toInt = ns.toInt + 1 ∧ VF1 = cu VF ns.toNatClampNeg p0 ∧ VO1 = cu VO ns.toNatClampNeg p1 ∧ VM1 = cu VM ns.toNatClampNeg p2))) (fun (u : Int32 × (Nat → Int32) × (Nat → Int32) × (Nat → Int32)) (t : State) => match u with | (ns1, VF1, VO1, VM1) => gH (dC, dI) kA (SHc nC nS) G t.heap ∧ gF (dC, dI) SKc G ([(9, 2), (9, 3), (11, 6), (20, 0), (21, 0), (22, 0)] : List (Nat × Nat)) H0 t.heap ∧ el t.heap sk (dI 11 6) = some (.int ns1) ∧ ct t.heap sf 20 VF1 ∧ ct t.heap so 20 VO1 ∧ ct t.heap sm 20 VM1) (gA G H0.size)) (vx_X (fun _ : Unit => True) (fun E _ t => (E = "java/lang/IllegalArgumentException") ∧ ((E = "java/lang/IllegalArgumentException" ∧ stC p0.toInt p1.toInt p2.toInt = 1)) ∧ gH (dC, dI) kA (SHc nC nS) G t.heap ∧ gF (dC, dI) SKc G ([(9, 2), (9, 3), (11, 6), (20, 0), (21, 0), (22, 0)] : List (Nat × Nat)) H0 t.heap ∧ el t.heap sk (dI 11 6) = some (.int ns) ∧ ct t.heap sf 20 VF ∧ ct t.heap so 20 VO ∧ ct t.heap sm 20 VM) (gA G H0.size)) 1 6 (gA G H0.size) := by
  refine vx_ofW (cc := cX11_storm) (maxL := 4) (ret := (some .int)) (by decide) rfl ?_
  intro p e s m args below meth c s₁ B hml hnt hv
  obtain ⟨rfl, hH0, hK, hE⟩ := hv
  have hx := B.exec
  have hb := B.bytes
  have hr := B.returns
  have hts := atoms_spec (ws := w_c_stormY) B.pre
  have hown : s.vm.findClass RX11 = some m.cls := findClass_of_methodNamed B.named
  have hlocks := B.notSynchronized
  subst hH0
  generalize hAe : gA G s.heap.size = A at hE ⊢
  have hA : ∀ q : Nat, s.heap.size ≤ q → A q := fun q h => by rw [← hAe]; exact Or.inr h
  have hG := gA_of hAe
  have hS : va_S A s.heap s.heap [] := va_S.rf
  have hF : gF (dC, dI) SKc G ([(9, 2), (9, 3), (11, 6), (20, 0), (21, 0), (22, 0)] : List (Nat × Nat)) s.heap s.heap := gF.rf
  have hl := lv_entry ([.ref o0, .int p0, .int p1, .int p2]) (n := 4) (Nat.le_of_ble_eq_true rfl)
  rw [lg_entry_eq]
  generalize (lg_sl ([.ref o0, .int p0, .int p1, .int p2]) ++ List.replicate (4 - (lg_sl ([.ref o0, .int p0, .int p1, .int p2])).length) Slot.unset).toArray = ls at hl ⊢
  have hl : lv_has ls 4 [(0, .ref o0), (1, .int p0), (2, .int p1), (3, .int p2)] := hl
  refine lv_iconst (v := 0) hx hb dX11_storm_0 (by decide) ?_
  refine lv_iload_n hx hb dX11_storm_1 rfl (lv_at hl 1 rfl) ?_
  have t1 : -2147483648 ≤ p0.toInt ∧ p0.toInt ≤ 2147483647 := ti_all p0
  refine lv_icmp_gt (tgt := 31) hx hb dX11_storm_2 (by decide) (fun c2 => ?_) (fun c2 => ?_)
  · have t3 : p0.toInt < 0 := ti_lt c2 rfl (by decide)
    refine lv_iconst (v := 0) hx hb dX11_storm_31 (by decide) ?_
    have hFc := gA_free hG hA hS
    refine vx_callN (vx_runS (As := [.int 0]) (rest := []) ⟨hx, hb, hml, hown, hts⟩ (c_needNumbers0 l hlt dC dI kA adK adV G s.heap nC nS hT (by omega) (by omega)) (va_cwS 1 hts (goodIn_app (goodIn_r _ [4, 5, 6] rfl (by decide +kernel)) (goodIn_ca (goodIn_r _ [1, 2, 3] rfl (by decide +kernel)) (bs2_in _ _))) rfl rfl rfl (by decide +kernel) ⟨(Nat.le_of_ble_eq_true rfl), (Nat.le_of_ble_eq_true rfl)⟩) ⟨fun a U g mk q => by obtain ⟨q0, q1, qK, qE⟩ := q; exact ⟨q0, q1, va_K.moved (u := U) (U := U.calling g mk a) (Vm.Alike.refl U.vm) qK, EVC.blind g mk a qE⟩, fun U hU hW => ⟨rfl, hU, va_K.moved hW.alike hK, hE.call hS hFc hU hW⟩⟩ rfl rfl hl.1 rfl (lv_room (Nat.le_of_ble_eq_true rfl)) dX11_storm_32 ⟨(Nat.le_of_ble_eq_true rfl), (Nat.le_of_ble_eq_true rfl)⟩) hS hFc (fun q _ h => hFc q h) (fun E ce q9 u t H locs ht hvm _ hw5 _ _ hS hce hcv hcl => ?_)
    obtain ⟨hw5, hTx, hFx⟩ := hw5; rw [ht] at hTx hFx
    exact vx_out (fun x h => (hnt x h).elim) hlocks hce hcv hcl (fun t2 h2 hW => ⟨(), trivial, ⟨((fun h9 => h9) hw5), (⟨hw5, (by have := stC_s p0.toInt p1.toInt p2.toInt; first | omega | exact hxf.elim)⟩), by rw [h2]; exact hTx, by rw [h2]; exact hF.more hFx (by decide), by rw [h2]; exact (hFx.fld hr_sk skc_11 (k := 6) (by decide) (by decide)).trans hm_ns, by rw [h2]; exact hc_VF.kept (hFx.arr hr_sf skc_20 (by decide)), by rw [h2]; exact hc_VO.kept (hFx.arr hr_so skc_21 (by decide)), by rw [h2]; exact hc_VM.kept (hFx.arr hr_sm skc_22 (by decide))⟩, hS.F h2⟩) hS.2.2 (by decide) (by decide)
  · have t6 : 0 ≤ p0.toInt := ti_nlt c2 rfl (by decide)
    refine lv_iload_n hx hb dX11_storm_5 rfl (lv_at hl 1 rfl) ?_
    refine lv_iload_n hx hb dX11_storm_6 rfl (lv_at hl 2 rfl) ?_
    have t7 : -2147483648 ≤ p1.toInt ∧ p1.toInt ≤ 2147483647 := ti_all p1
    refine lv_icmp_gt (tgt := 31) hx hb dX11_storm_7 (by decide) (fun c8 => ?_) (fun c8 => ?_)
    · have t9 : p1.toInt < p0.toInt := ti_lt c8 rfl rfl
      refine lv_iconst (v := 0) hx hb dX11_storm_31 (by decide) ?_
      have hFc := gA_free hG hA hS
      refine vx_callN (vx_runS (As := [.int 0]) (rest := []) ⟨hx, hb, hml, hown, hts⟩ (c_needNumbers0 l hlt dC dI kA adK adV G s.heap nC nS hT (by omega) (by omega)) (va_cwS 1 hts (goodIn_app (goodIn_r _ [4, 5, 6] rfl (by decide +kernel)) (goodIn_ca (goodIn_r _ [1, 2, 3] rfl (by decide +kernel)) (bs2_in _ _))) rfl rfl rfl (by decide +kernel) ⟨(Nat.le_of_ble_eq_true rfl), (Nat.le_of_ble_eq_true rfl)⟩) ⟨fun a U g mk q => by obtain ⟨q0, q1, qK, qE⟩ := q; exact ⟨q0, q1, va_K.moved (u := U) (U := U.calling g mk a) (Vm.Alike.refl U.vm) qK, EVC.blind g mk a qE⟩, fun U hU hW => ⟨rfl, hU, va_K.moved hW.alike hK, hE.call hS hFc hU hW⟩⟩ rfl rfl hl.1 rfl (lv_room (Nat.le_of_ble_eq_true rfl)) dX11_storm_32 ⟨(Nat.le_of_ble_eq_true rfl), (Nat.le_of_ble_eq_true rfl)⟩) hS hFc (fun q _ h => hFc q h) (fun E ce q9 u t H locs ht hvm _ hw11 _ _ hS hce hcv hcl => ?_)
      obtain ⟨hw11, hTx, hFx⟩ := hw11; rw [ht] at hTx hFx
      exact vx_out (fun x h => (hnt x h).elim) hlocks hce hcv hcl (fun t2 h2 hW => ⟨(), trivial, ⟨((fun h9 => h9) hw11), (⟨hw11, (by have := stC_s p0.toInt p1.toInt p2.toInt; first | omega | exact hxf.elim)⟩), by rw [h2]; exact hTx, by rw [h2]; exact hF.more hFx (by decide), by rw [h2]; exact (hFx.fld hr_sk skc_11 (k := 6) (by decide) (by decide)).trans hm_ns, by rw [h2]; exact hc_VF.kept (hFx.arr hr_sf skc_20 (by decide)), by rw [h2]; exact hc_VO.kept (hFx.arr hr_so skc_21 (by decide)), by rw [h2]; exact hc_VM.kept (hFx.arr hr_sm skc_22 (by decide))⟩, hS.F h2⟩) hS.2.2 (by decide) (by decide)
    · have t12 : p0.toInt ≤ p1.toInt := ti_nlt c8 rfl rfl
      refine lv_iload_n hx hb dX11_storm_10 rfl (lv_at hl 2 rfl) ?_
      refine lv_ldc (v := 40000) hx hb hown (ht_at2 hts 6 rfl) dX11_storm_11 ?_
      refine lv_icmp_gt (tgt := 31) hx hb dX11_storm_13 (by decide) (fun c13 => ?_) (fun c13 => ?_)
      · have t14 : 40000 < p1.toInt := ti_lt c13 (by decide) rfl
        refine lv_iconst (v := 0) hx hb dX11_storm_31 (by decide) ?_
        have hFc := gA_free hG hA hS
        refine vx_callN (vx_runS (As := [.int 0]) (rest := []) ⟨hx, hb, hml, hown, hts⟩ (c_needNumbers0 l hlt dC dI kA adK adV G s.heap nC nS hT (by omega) (by omega)) (va_cwS 1 hts (goodIn_app (goodIn_r _ [4, 5, 6] rfl (by decide +kernel)) (goodIn_ca (goodIn_r _ [1, 2, 3] rfl (by decide +kernel)) (bs2_in _ _))) rfl rfl rfl (by decide +kernel) ⟨(Nat.le_of_ble_eq_true rfl), (Nat.le_of_ble_eq_true rfl)⟩) ⟨fun a U g mk q => by obtain ⟨q0, q1, qK, qE⟩ := q; exact ⟨q0, q1, va_K.moved (u := U) (U := U.calling g mk a) (Vm.Alike.refl U.vm) qK, EVC.blind g mk a qE⟩, fun U hU hW => ⟨rfl, hU, va_K.moved hW.alike hK, hE.call hS hFc hU hW⟩⟩ rfl rfl hl.1 rfl (lv_room (Nat.le_of_ble_eq_true rfl)) dX11_storm_32 ⟨(Nat.le_of_ble_eq_true rfl), (Nat.le_of_ble_eq_true rfl)⟩) hS hFc (fun q _ h => hFc q h) (fun E ce q9 u t H locs ht hvm _ hw16 _ _ hS hce hcv hcl => ?_)
        obtain ⟨hw16, hTx, hFx⟩ := hw16; rw [ht] at hTx hFx
        exact vx_out (fun x h => (hnt x h).elim) hlocks hce hcv hcl (fun t2 h2 hW => ⟨(), trivial, ⟨((fun h9 => h9) hw16), (⟨hw16, (by have := stC_s p0.toInt p1.toInt p2.toInt; first | omega | exact hxf.elim)⟩), by rw [h2]; exact hTx, by rw [h2]; exact hF.more hFx (by decide), by rw [h2]; exact (hFx.fld hr_sk skc_11 (k := 6) (by decide) (by decide)).trans hm_ns, by rw [h2]; exact hc_VF.kept (hFx.arr hr_sf skc_20 (by decide)), by rw [h2]; exact hc_VO.kept (hFx.arr hr_so skc_21 (by decide)), by rw [h2]; exact hc_VM.kept (hFx.arr hr_sm skc_22 (by decide))⟩, hS.F h2⟩) hS.2.2 (by decide) (by decide)
      · have t17 : p1.toInt ≤ 40000 := ti_nlt c13 (by decide) rfl
        refine lv_iload_n hx hb dX11_storm_16 rfl (lv_at hl 3 rfl) ?_
        refine lv_iconst (v := 1) hx hb dX11_storm_17 (by decide) ?_
        refine lv_sipush (v := 500) hx hb dX11_storm_18 (by decide) ?_
        have hFc := gA_free hG hA hS
        refine va_calli (va_runS (As := [.int p2, .int 1, .int 500]) (rest := []) ⟨hx, hb, hml, hown, hts⟩ (c_within l dC dI kA adK adV G s.heap nC nS p2 1 500 hT (by omega) (by omega)) (va_cwS 3 hts (goodIn_app (goodIn_r _ [9, 10, 6] rfl (by decide +kernel)) (goodIn_ca (goodIn_r _ [8] rfl (by decide +kernel)) (bs2_in _ _))) rfl rfl rfl (by decide +kernel) ⟨(Nat.le_of_ble_eq_true rfl), (Nat.le_of_ble_eq_true rfl)⟩) ⟨fun a U g mk q => by obtain ⟨q0, q1, qK, qE⟩ := q; exact ⟨q0, q1, va_K.moved (u := U) (U := U.calling g mk a) (Vm.Alike.refl U.vm) qK, EVC.blind g mk a qE⟩, fun U hU hW => ⟨rfl, hU, va_K.moved hW.alike hK, hE.call hS hFc hU hW⟩⟩ rfl rfl hl.1 rfl (lv_room (Nat.le_of_ble_eq_true rfl)) dX11_storm_21 ⟨(Nat.le_of_ble_eq_true rfl), (Nat.le_of_ble_eq_true rfl)⟩) hS (fun q _ h => hFc q h) hFc (fun r18 u t H locs ht hvm hw19 hB _ _ hS => ?_)
        obtain ⟨hT, hF1⟩ := hB
        rw [ht] at hT hF1
        have m20 := (hF1.fld hr_o0 skc_14 (k := 1) (by decide) (by decide)).trans hm_lk
        have m21 := (hF1.fld hr_lk skc_6 (k := 0) (by decide) (by decide)).trans hm_sk
        have m22 := (hF1.fld hr_sk skc_11 (k := 1) (by decide) (by decide)).trans hm_sf
        have m23 := (hF1.fld hr_sk skc_11 (k := 2) (by decide) (by decide)).trans hm_so
        have m24 := (hF1.fld hr_sk skc_11 (k := 3) (by decide) (by decide)).trans hm_sm
        have m25 := (hF1.fld hr_sk skc_11 (k := 6) (by decide) (by decide)).trans hm_ns
        have m26 := hc_VF.kept (hF1.arr hr_sf skc_20 (by decide))
        have m27 := hc_VO.kept (hF1.arr hr_so skc_21 (by decide))
        have m28 := hc_VM.kept (hF1.arr hr_sm skc_22 (by decide))
        have hF := hF.more hF1 (by decide)
        try dsimp only at hw19
        obtain ⟨h29, hi30, hi31⟩ := hw19
        refine lv_if_eq (tgt := 31) hx hb dX11_storm_24 (by decide) (fun c32 => ?_) (fun c32 => ?_)
        · have t33 : r18.toInt = 0 := ti_eq c32 rfl (by decide)
          have t34 : (1 : Int32).toInt = 1 := by decide
          have t35 : (500 : Int32).toInt = 500 := by decide
          have t36 : p2.toInt < (1 : Int32).toInt ∨ (500 : Int32).toInt < p2.toInt := hi31 c32
          refine lv_iconst (v := 0) hx hb dX11_storm_31 (by decide) ?_
          have hFc := gA_free hG hA hS
          refine vx_callN (vx_runS (As := [.int 0]) (rest := []) ⟨hx, hb, hml, hown, hts⟩ (c_needNumbers0 l hlt dC dI kA adK adV G H nC nS hT (by omega) (by omega)) (va_cwS 1 hts (goodIn_app (goodIn_r _ [4, 5, 6] rfl (by decide +kernel)) (goodIn_ca (goodIn_r _ [1, 2, 3] rfl (by decide +kernel)) (bs2_in _ _))) rfl rfl rfl (by decide +kernel) ⟨(Nat.le_of_ble_eq_true rfl), (Nat.le_of_ble_eq_true rfl)⟩) ⟨fun a U g mk q => by obtain ⟨q0, q1, qK, qE⟩ := q; exact ⟨q0, q1, va_K.moved (u := U) (U := U.calling g mk a) (Vm.Alike.refl U.vm) qK, EVC.blind g mk a qE⟩, fun U hU hW => ⟨rfl, hU, va_K.moved hW.alike hK, hE.call hS hFc hU hW⟩⟩ rfl rfl hl.1 rfl (lv_room (Nat.le_of_ble_eq_true rfl)) dX11_storm_32 ⟨(Nat.le_of_ble_eq_true rfl), (Nat.le_of_ble_eq_true rfl)⟩) hS hFc (fun q _ h => hFc q h) (fun E ce q9 u t H locs ht hvm _ hw38 _ _ hS hce hcv hcl => ?_)
          obtain ⟨hw38, hTx, hFx⟩ := hw38; rw [ht] at hTx hFx
          exact vx_out (fun x h => (hnt x h).elim) hlocks hce hcv hcl (fun t2 h2 hW => ⟨(), trivial, ⟨((fun h9 => h9) hw38), (⟨hw38, (by have := stC_s p0.toInt p1.toInt p2.toInt; first | omega | exact hxf.elim)⟩), by rw [h2]; exact hTx, by rw [h2]; exact hF.more hFx (by decide), by rw [h2]; exact (hFx.fld hr_sk skc_11 (k := 6) (by decide) (by decide)).trans m25, by rw [h2]; exact m26.kept (hFx.arr hr_sf skc_20 (by decide)), by rw [h2]; exact m27.kept (hFx.arr hr_so skc_21 (by decide)), by rw [h2]; exact m28.kept (hFx.arr hr_sm skc_22 (by decide))⟩, hS.F h2⟩) hS.2.2 (by decide) (by decide)
        · have t39 : r18.toInt ≠ 0 := ti_ne c32 rfl (by decide)
          have t40 : (1 : Int32).toInt = 1 := by decide
          have t41 : (500 : Int32).toInt = 500 := by decide
          have t42 : (1 : Int32).toInt ≤ p2.toInt ∧ p2.toInt ≤ (500 : Int32).toInt := hi30 ((bit_of ⟨by omega, by omega⟩).resolve_left c32)
          refine lv_iconst (v := 1) hx hb dX11_storm_27 (by decide) ?_
          refine lv_goto (tgt := 32) hx hb dX11_storm_28 (by decide) ?_
          have hFc := gA_free hG hA hS
          refine vx_callv (vx_runS (As := [.int 1]) (rest := []) ⟨hx, hb, hml, hown, hts⟩ (c_needNumbers1X l hlt dC dI kA adK adV G H nC nS hT (by omega) (by omega)) (va_cwS 1 hts (goodIn_app (goodIn_r _ [4, 5, 6] rfl (by decide +kernel)) (goodIn_ca (goodIn_r _ [1] rfl (by decide +kernel)) (bs2_in _ _))) rfl rfl rfl (by decide +kernel) ⟨(Nat.le_of_ble_eq_true rfl), (Nat.le_of_ble_eq_true rfl)⟩) ⟨fun a U g mk q => by obtain ⟨q0, q1, qK, qE⟩ := q; exact ⟨q0, q1, va_K.moved (u := U) (U := U.calling g mk a) (Vm.Alike.refl U.vm) qK, EVC.blind g mk a qE⟩, fun U hU hW => ⟨rfl, hU, va_K.moved hW.alike hK, hE.call hS hFc hU hW⟩⟩ rfl rfl hl.1 rfl (lv_room (Nat.le_of_ble_eq_true rfl)) dX11_storm_32 ⟨(Nat.le_of_ble_eq_true rfl), (Nat.le_of_ble_eq_true rfl)⟩) hS (fun q _ h => hFc q h) hFc (fun q _ h => hFc q h) (fun E ce q9 u t H locs ht hvm _ hw44 _ _ hS hce hcv hcl => ?_) (fun u t H locs ht hvm hw44 hB _ _ hS => ?_)
          · obtain ⟨hw44, hxf, hTx, hFx⟩ := hw44; rw [ht] at hTx hFx
            exact vx_out (fun x h => (hnt x h).elim) hlocks hce hcv hcl (fun t2 h2 hW => ⟨(), trivial, ⟨((fun h9 => h9) hw44), (⟨hw44, (by have := stC_s p0.toInt p1.toInt p2.toInt; first | omega | exact hxf.elim)⟩), by rw [h2]; exact hTx, by rw [h2]; exact hF.more hFx (by decide), by rw [h2]; exact (hFx.fld hr_sk skc_11 (k := 6) (by decide) (by decide)).trans m25, by rw [h2]; exact m26.kept (hFx.arr hr_sf skc_20 (by decide)), by rw [h2]; exact m27.kept (hFx.arr hr_so skc_21 (by decide)), by rw [h2]; exact m28.kept (hFx.arr hr_sm skc_22 (by decide))⟩, hS.F h2⟩) hS.2.2 (by decide) (by decide)
          · obtain ⟨hT, hF1⟩ := hB
            rw [ht] at hT hF1
            have m45 := (hF1.fld hr_o0 skc_14 (k := 1) (by decide) (by decide)).trans m20
            have m46 := (hF1.fld hr_lk skc_6 (k := 0) (by decide) (by decide)).trans m21
            have m47 := (hF1.fld hr_sk skc_11 (k := 1) (by decide) (by decide)).trans m22
            have m48 := (hF1.fld hr_sk skc_11 (k := 2) (by decide) (by decide)).trans m23
            have m49 := (hF1.fld hr_sk skc_11 (k := 3) (by decide) (by decide)).trans m24
            have m50 := (hF1.fld hr_sk skc_11 (k := 6) (by decide) (by decide)).trans m25
            have m51 := m26.kept (hF1.arr hr_sf skc_20 (by decide))
            have m52 := m27.kept (hF1.arr hr_so skc_21 (by decide))
            have m53 := m28.kept (hF1.arr hr_sm skc_22 (by decide))
            have hF := hF.more hF1 (by decide)
            try dsimp only at hw44
            refine lv_aload_n hx hb dX11_storm_35 rfl (lv_at hl 0 rfl) ?_
            refine tw_getM (v := .ref lk) hx hb hts bF2_X11 hown hK hT hr_o0 shc_14 rfl 1 (by decide) (ht_at2 hts 10 rfl) (fun _ h9 => h9) m45 dX11_storm_36 ?_
            refine tw_getNM (v := .ref sk) hx hb hts bF2_X3 hown hK hT hr_lk shc_6 rfl 0 (by decide) (hE.nw 3 rfl) (fun _ h9 => h9) m46 dX11_storm_39 ?_
            refine tw_getNM (v := .int ns) hx hb hts bF2_X8 hown hK hT hr_sk shc_11 rfl 6 (by decide) (hE.nw 5 rfl) (fun _ h9 => h9) m50 dX11_storm_42 ?_
            refine lv_bipush (v := 20) hx hb dX11_storm_45 (by decide) ?_
            refine lv_icmp_ne (tgt := 52) hx hb dX11_storm_47 (by decide) (fun c54 => ?_) (fun c54 => ?_)
            · have t55 : ns.toInt ≠ 20 := ti_ne c54 rfl (by decide)
              refine lv_aload_n hx hb dX11_storm_52 rfl (lv_at hl 0 rfl) ?_
              refine tw_get hx hb hts bF2_X11 hown hK hT hr_o0 shc_14 rfl 2 (by decide) (ht_at2 hts 11 rfl) (fun _ h9 => h9) dX11_storm_53 (fun v9 m56 h9 => ?_)
              obtain ⟨b57, rfl, hg58⟩ := h9 _ rfl
              have hFc := gA_free hG hA hS
              refine va_callv (va_runV (As := []) (rest := []) ⟨hx, hb, hml, hown, hts⟩ (c_forget l dC dI kA adK adV G H nC nS b57 hT hg58 (by omega) (by omega)) (cwV 0 hts (goodIn_app (goodIn_r _ [16, 17, 18, 19] rfl (by decide +kernel)) (goodIn_ca (goodIn_r _ [13, 14, 15] rfl (by decide +kernel)) (bs2_in _ _))) rfl rfl rfl (by decide +kernel) ⟨(Nat.le_of_ble_eq_true rfl), (Nat.le_of_ble_eq_true rfl)⟩) ⟨fun a U g mk q => by obtain ⟨q0, q1, qK, qE⟩ := q; exact ⟨q0, q1, va_K.moved (u := U) (U := U.calling g mk a) (Vm.Alike.refl U.vm) qK, EVC.blind g mk a qE⟩, gH_rc hK hT hg58 shc_9 rfl, fun U hU hW => ⟨rfl, hU, va_K.moved hW.alike hK, hE.call hS hFc hU hW⟩⟩ rfl rfl hl.1 rfl (lv_room (Nat.le_of_ble_eq_true rfl)) dX11_storm_56 ⟨(Nat.le_of_ble_eq_true rfl), (Nat.le_of_ble_eq_true rfl)⟩) hS (fun q _ h => hFc q h) hFc (fun u t H locs ht hvm hw60 hB _ _ hS => ?_)
              obtain ⟨hT, hF1⟩ := hB
              rw [ht] at hT hF1
              have m61 := (hF1.fld hr_o0 skc_14 (k := 1) (by decide) (by decide)).trans m45
              have m62 := (hF1.fld hr_lk skc_6 (k := 0) (by decide) (by decide)).trans m46
              have m63 := (hF1.fld hr_sk skc_11 (k := 1) (by decide) (by decide)).trans m47
              have m64 := (hF1.fld hr_sk skc_11 (k := 2) (by decide) (by decide)).trans m48
              have m65 := (hF1.fld hr_sk skc_11 (k := 3) (by decide) (by decide)).trans m49
              have m66 := (hF1.fld hr_sk skc_11 (k := 6) (by decide) (by decide)).trans m50
              have m67 := m51.kept (hF1.arr hr_sf skc_20 (by decide))
              have m68 := m52.kept (hF1.arr hr_so skc_21 (by decide))
              have m69 := m53.kept (hF1.arr hr_sm skc_22 (by decide))
              have hF := hF.more hF1 (by decide)
              try dsimp only at hw60
              refine lv_aload_n hx hb dX11_storm_59 rfl (lv_at hl 0 rfl) ?_
              refine tw_getM (v := .ref lk) hx hb hts bF2_X11 hown hK hT hr_o0 shc_14 rfl 1 (by decide) (ht_at2 hts 10 rfl) (fun _ h9 => h9) m61 dX11_storm_60 ?_
              refine tw_getNM (v := .ref sk) hx hb hts bF2_X3 hown hK hT hr_lk shc_6 rfl 0 (by decide) (hE.nw 3 rfl) (fun _ h9 => h9) m62 dX11_storm_63 ?_
              refine lv_iload_n hx hb dX11_storm_66 rfl (lv_at hl 1 rfl) ?_
              refine lv_iload_n hx hb dX11_storm_67 rfl (lv_at hl 2 rfl) ?_
              refine lv_iload_n hx hb dX11_storm_68 rfl (lv_at hl 3 rfl) ?_
              have hFc := gA_free hG hA hS
              refine va_calli (va_runV (As := [.int p0, .int p1, .int p2]) (rest := []) ⟨hx, hb, hml, hown, hts⟩ (c_tellStormY l dC dI kA adK adV G H nC nS sk p0 p1 p2 sf so sm ns VF VO VM hT hr_sk m63 hr_sf m64 hr_so m65 hr_sm m66 (by have q8 := ti_all ns; omega) m67 m68 m69 (by omega) (by omega)) (cwV 3 hts (goodIn_app (goodIn_r _ [25, 26, 27, 28] rfl (by decide +kernel)) (goodIn_ca (goodIn_r _ [20, 21, 22, 23, 24] rfl (by decide +kernel)) (bs2_in _ _))) rfl rfl rfl (by decide +kernel) ⟨(Nat.le_of_ble_eq_true rfl), (Nat.le_of_ble_eq_true rfl)⟩) ⟨fun a U g mk q => by obtain ⟨q0, q1, qK, qE⟩ := q; exact ⟨q0, q1, va_K.moved (u := U) (U := U.calling g mk a) (Vm.Alike.refl U.vm) qK, EVC.blind g mk a qE⟩, gH_rc hK hT hr_sk shc_11 rfl, fun U hU hW => ⟨rfl, hU, va_K.moved hW.alike hK, hE.call hS hFc hU hW⟩⟩ rfl rfl hl.1 rfl (lv_room (Nat.le_of_ble_eq_true rfl)) dX11_storm_69 ⟨(Nat.le_of_ble_eq_true rfl), (Nat.le_of_ble_eq_true rfl)⟩) hS (fun q _ h => hFc q h) hFc (fun r71 u t H locs ht hvm hw72 hB _ _ hS => ?_)
              obtain ⟨u73, rfl⟩ : ∃ z, z = u := ⟨_, rfl⟩
              obtain ⟨hT, hF1, m74, m75, m76, m77⟩ := hB
              rw [ht] at hT hF1 m74 m75 m76 m77
              have hF := hF.more hF1 (by decide)
              try dsimp only at hw72
              obtain ⟨h88, hf89⟩ := hw72
              refine W.widen (k := 1) (n := 6) (by decide) (by decide) ?_
              exact vx_ret (W.iret (v := r71) hx hb hr (fun t ht hW => ⟨⟨r71, (u73, (cu VF ns.toNatClampNeg p0), (cu VO ns.toNatClampNeg p1), (cu VM ns.toNatClampNeg p2)), rfl, (by exact ⟨(by have q8 := ti_all r71; omega), (by have := stC_s p0.toInt p1.toInt p2.toInt; omega), (Or.inr ⟨by omega, by omega, by omega, rfl, rfl, rfl⟩)⟩), by (try dsimp only); rw [ht]; exact ⟨hT, hF, m74, m75, m76, m77⟩⟩, hS.F ht⟩) hS.2.2 dX11_storm_72)
            · have t90 : ns.toInt = 20 := ti_eq c54 rfl (by decide)
              refine lv_iconst (v := (-1)) hx hb dX11_storm_50 (by decide) ?_
              refine W.widen (k := 1) (n := 6) (by decide) (by decide) ?_
              exact vx_ret (W.iret (v := (-1)) hx hb hr (fun t ht hW => ⟨⟨(-1), (ns, VF, VO, VM), rfl, (by exact ⟨(rg_t (a := (-1)) (by decide) (by first | decide | omega) (by first | decide | omega)), (by have := stC_s p0.toInt p1.toInt p2.toInt; omega), (Or.inl ⟨by omega, by decide, by omega, rfl, rfl, rfl⟩)⟩), by (try dsimp only); rw [ht]; exact ⟨hT, hF, m50, m51, m52, m53⟩⟩, hS.F ht⟩) hS.2.2 dX11_storm_51)
def w_c_tellW9Y : List Cond := .code yX9_tell cX9_tell 4 (some .int) :: (HAppend.hAppend (α := List Cond) (β := List Cond) (γ := List Cond) [.fieldLink RX9 18 "SeaLand$Tellings" "told" "I", .fieldLink RX9 9 "SeaLand$Tellings" "hours" "[I", .fieldLink RX9 15 "SeaLand$Tellings" "numbers" "[I"] bs2)
set_option maxHeartbeats 4000000 in
set_option maxRecDepth 100000 in
theorem c_tellW9Y (l : Launch) (dC : Nat → ClassId) (dI : Nat → Nat → Nat) (kA : Nat → ClassId) (adK adV : Nat → Nat) (G : gT) (H0 : Heap) (nC nS : Int) (o0 : Nat) (p0 : Int32) (p1 : Int32) (wh : Nat) (wn : Nat) (nw : Int32) (VH : Nat → Int32) (VN : Nat → Int32)  (hT : gH (dC, dI) kA (SHc nC nS) G H0) (hr_o0 : G o0 = some 130) (hm_wh : el H0 o0 (dI 12 0) = some (.ref wh)) (hr_wh : G wh = some 131) (hm_wn : el H0 o0 (dI 12 1) = some (.ref wn)) (hr_wn : G wn = some 132) (hm_nw : el H0 o0 (dI 12 2) = some (.int nw)) (hq0 : 0 ≤ nw.toInt ∧ nw.toInt ≤ 59) (hc_VH : ct H0 wh 60 VH) (hc_VN : ct H0 wn 60 VN) (hgC : 0 ≤ nC ∧ nC ≤ 40) (hgS : 0 ≤ nS ∧ nS ≤ 60) : Met l yX9_tell w_c_tellW9Y ({ frames := 0, cells := 0, slots := 0, locals := 0 }) (va_Pc [.ref o0, .int p0, .int p1] (fun U => U.heap = H0 ∧ va_K (dC, dI) vwCl (tyl kA) U ∧ EVC adK adV (gA G H0.size) U U.heap)) (va_Qi (fun (r : Int32) (u : Int32) => (1 ≤ r.toInt ∧ r.toInt ≤ 60) ∧ (r.toInt = nw.toInt + 1 ∧ u.toInt = nw.toInt + 1)) (fun (nw1 : Int32) (t : State) => gH (dC, dI) kA (SHc nC nS) G t.heap ∧ gF (dC, dI) SKc G ([(130, 2), (131, 0), (132, 0)] : List (Nat × Nat)) H0 t.heap ∧ el t.heap o0 (dI 12 2) = some (.int nw1) ∧ ct t.heap wh 60 (cu (tlV VH p0 nw.toNatClampNeg) nw.toNatClampNeg p0) ∧ ct t.heap wn 60 (cu VN nw.toNatClampNeg p1)) (gA G H0.size)) 0 0 (gA G H0.size) := by
  refine Met.ofW (cc := cX9_tell) (maxL := 4) (ret := (some .int)) (by decide) rfl ?_
  intro p e s m args below meth c s₁ B hml hv
  obtain ⟨rfl, hH0, hK, hE⟩ := hv
  have hx := B.exec
  have hb := B.bytes
  have hr := B.returns
  have hts := atoms_spec (ws := w_c_tellW9Y) B.pre
  have hown : s.vm.findClass RX9 = some m.cls := findClass_of_methodNamed B.named
  have hlocks := B.notSynchronized
  subst hH0
  generalize hAe : gA G s.heap.size = A at hE ⊢
  have hA : ∀ q : Nat, s.heap.size ≤ q → A q := fun q h => by rw [← hAe]; exact Or.inr h
  have hG := gA_of hAe
  have hS : va_S A s.heap s.heap [] := va_S.rf
  have hF : gF (dC, dI) SKc G ([(130, 2), (131, 0), (132, 0)] : List (Nat × Nat)) s.heap s.heap := gF.rf
  have hl := lv_entry ([.ref o0, .int p0, .int p1]) (n := 4) (Nat.le_of_ble_eq_true rfl)
  rw [lg_entry_eq]
  generalize (lg_sl ([.ref o0, .int p0, .int p1]) ++ List.replicate (4 - (lg_sl ([.ref o0, .int p0, .int p1])).length) Slot.unset).toArray = ls at hl ⊢
  have hl : lv_has ls 4 [(0, .ref o0), (1, .int p0), (2, .int p1)] := hl
  refine lv_iconst (v := 0) hx hb dX9_tell_0 (by decide) ?_
  refine lv_istore_n (lv' := [(3, .int 0), (0, .ref o0), (1, .int p0), (2, .int p1)]) hx hb dX9_tell_1 rfl hl (by decide) rfl (fun ls hl => ?_)
  have key46 : ∀ (n46 i1 : Nat), i1 + n46 = 59 → 0 ≤ i1 → ((((i1 : Nat) : Int) ≤ nw.toInt)) → ∀ (H : Heap) (locs : List Loc), gH (dC, dI) kA (SHc nC nS) G H → gF (dC, dI) SKc G ([(130, 2), (131, 0), (132, 0)] : List (Nat × Nat)) s.heap H → va_S A s.heap H locs → ct H wh 60 (tlV VH p0 i1) → ct H wn 60 VN → el H o0 (dI 12 0) = some (.ref wh) → el H o0 (dI 12 1) = some (.ref wn) → el H o0 (dI 12 2) = some (.int nw) → ∀ ls : Array Slot, lv_has ls 4 [(3, .int (nI i1)), (0, .ref o0), (1, .int p0), (2, .int p1)] → W p l e (headSpec w_c_tellW9Y ({ frames := 0, cells := 0, slots := 0, locals := 0 })).room s m #[.ref o0, .int p0, .int p1] below meth c H locs 0 0 (MQ below (va_Qi (fun (r : Int32) (u : Int32) => (1 ≤ r.toInt ∧ r.toInt ≤ 60) ∧ (r.toInt = nw.toInt + 1 ∧ u.toInt = nw.toInt + 1)) (fun (nw1 : Int32) (t : State) => gH (dC, dI) kA (SHc nC nS) G t.heap ∧ gF (dC, dI) SKc G ([(130, 2), (131, 0), (132, 0)] : List (Nat × Nat)) s.heap t.heap ∧ el t.heap o0 (dI 12 2) = some (.int nw1) ∧ ct t.heap wh 60 (cu (tlV VH p0 nw.toNatClampNeg) nw.toNatClampNeg p0) ∧ ct t.heap wn 60 (cu VN nw.toNatClampNeg p1)) A) #[.ref o0, .int p0, .int p1] s 0 0 A) (F0 m 2 ls []) := by
    intro n46
    induction n46 with
    | zero =>
      intro i1 hn46 hlo47 hj7 H locs hT hF hS m2 m3 m4 m5 m6 ls hl
      obtain rfl : 59 = i1 := by omega
      refine lv_iload_n hx hb dX9_tell_2 rfl (lv_at hl 0 rfl) ?_
      refine lv_aload_n hx hb dX9_tell_3 rfl (lv_at hl 1 rfl) ?_
      refine tw_getM (v := .int nw) hx hb hts bF2_X9 hown hK hT hr_o0 shc_130 rfl 2 (by decide) (ht_at2 hts 0 rfl) (fun _ h9 => h9) m6 dX9_tell_4 ?_
      refine lv_icmp_ge (tgt := 33) hx hb dX9_tell_7 (by decide) (fun c48 => ?_) (fun c48 => (by exfalso; have q9 : ((59 : Nat) : Int) < nw.toInt := ti_nle c48 rfl (nI_toInt (by omega)); omega))
      have t49 : nw.toInt ≤ ((59 : Nat) : Int) := ti_le c48 rfl (nI_toInt (by omega))
      refine lv_aload_n hx hb dX9_tell_33 rfl (lv_at hl 1 rfl) ?_
      refine tw_getM (v := .ref wh) hx hb hts bF2_X9 hown hK hT hr_o0 shc_130 rfl 0 (by decide) (ht_at2 hts 1 rfl) (fun _ h9 => h9) m4 dX9_tell_34 ?_
      refine lv_aload_n hx hb dX9_tell_37 rfl (lv_at hl 1 rfl) ?_
      refine tw_getM (v := .int nw) hx hb hts bF2_X9 hown hK hT hr_o0 shc_130 rfl 2 (by decide) (ht_at2 hts 0 rfl) (fun _ h9 => h9) m6 dX9_tell_38 ?_
      refine lv_iload_n hx hb dX9_tell_41 rfl (lv_at hl 2 rfl) ?_
      refine tw_iast (i := nw) (x := p0) hx hb hK hT hG hS hr_wh shc_131 rfl (vin_t (a := nw.toInt) rfl (by omega) (by omega)) (gi_all _) dX9_tell_42 (fun H locs hT oq m50 oi hS => ?_)
      have hF := hF.ast hr_wh skc_131 oq (by decide)
      have m51 := m2.put m50 oi
      have m52 := m3.kept (oq _ (gne hr_wn hr_wh (by decide)))
      have m54 := (el_kept (oq _ (gne hr_o0 hr_wh (by decide)))).trans m5
      have m55 := (el_kept (oq _ (gne hr_o0 hr_wh (by decide)))).trans m6
      refine lv_aload_n hx hb dX9_tell_43 rfl (lv_at hl 1 rfl) ?_
      refine tw_getM (v := .ref wn) hx hb hts bF2_X9 hown hK hT hr_o0 shc_130 rfl 1 (by decide) (ht_at2 hts 2 rfl) (fun _ h9 => h9) m54 dX9_tell_44 ?_
      refine lv_aload_n hx hb dX9_tell_47 rfl (lv_at hl 1 rfl) ?_
      refine tw_getM (v := .int nw) hx hb hts bF2_X9 hown hK hT hr_o0 shc_130 rfl 2 (by decide) (ht_at2 hts 0 rfl) (fun _ h9 => h9) m55 dX9_tell_48 ?_
      refine lv_iload_n hx hb dX9_tell_51 rfl (lv_at hl 3 rfl) ?_
      refine tw_iast (i := nw) (x := p1) hx hb hK hT hG hS hr_wn shc_132 rfl (vin_t (a := nw.toInt) rfl (by omega) (by omega)) (gi_all _) dX9_tell_52 (fun H locs hT oq m56 oi hS => ?_)
      have hF := hF.ast hr_wn skc_132 oq (by decide)
      have m57 := m51.kept (oq _ (gne hr_wh hr_wn (by decide)))
      have m58 := m52.put m56 oi
      have m61 := (el_kept (oq _ (gne hr_o0 hr_wn (by decide)))).trans m55
      refine lv_aload_n hx hb dX9_tell_53 rfl (lv_at hl 1 rfl) ?_
      refine lv_dup hx hb dX9_tell_54 rfl ?_
      refine tw_getM (v := .int nw) hx hb hts bF2_X9 hown hK hT hr_o0 shc_130 rfl 2 (by decide) (ht_at2 hts 0 rfl) (fun _ h9 => h9) m61 dX9_tell_55 ?_
      refine lv_iconst (v := 1) hx hb dX9_tell_58 (by decide) ?_
      refine lv_iadd hx hb dX9_tell_59 ?_
      refine lv_topi (fun x63 ex63 => ?_)
      have t64 : x63.toInt = nw.toInt + 1 := ti_add ex63 rfl (by decide) (by omega) (by omega)
      refine tw_put (v := .int x63) (ty := .int) hx hb hts bF2_X9 tyX9 tyX9_ok nmX9 hown hK hT hG hS hr_o0 shc_130 rfl 2 (by decide) (ht_at2 hts 0 rfl) (fun _ h9 => h9) rfl (by decide +kernel) rfl rfl (gl_at rfl (gi_of (show x63.toInt = x63.toInt from rfl) (by omega) (by omega))) dX9_tell_60 (fun H locs hT oq m65 oj hS => ?_)
      have hF := hF.put hr_o0 skc_130 oq oj (by decide)
      have m66 := m57.kept (oq _ (gne hr_wh hr_o0 (by decide)))
      have m67 := m58.kept (oq _ (gne hr_wn hr_o0 (by decide)))
      refine lv_aload_n hx hb dX9_tell_63 rfl (lv_at hl 1 rfl) ?_
      refine tw_getM (v := .int x63) hx hb hts bF2_X9 hown hK hT hr_o0 shc_130 rfl 2 (by decide) (ht_at2 hts 0 rfl) (fun _ h9 => h9) m65 dX9_tell_64 ?_
      exact W.iret (v := x63) hx hb hr (fun t ht hW => ⟨⟨x63, x63, rfl, (by exact ⟨(by have q8 := ti_all x63; omega), (by omega)⟩), by (try dsimp only); rw [ht]; exact ⟨hT, hF, m65, (m66.ext (fun i9 _ => by rw [show 59 = nw.toNatClampNeg from by have q9 := tn_of (i := nw) rfl (by omega); omega])), m67⟩⟩, hS.F ht⟩) hS.2.2 dX9_tell_67
    | succ n46 ih46 =>
      intro i1 hn46 hlo47 hj7 H locs hT hF hS m2 m3 m4 m5 m6 ls hl
      have hlt71 : i1 < 59 := by omega
      refine lv_iload_n hx hb dX9_tell_2 rfl (lv_at hl 0 rfl) ?_
      refine lv_aload_n hx hb dX9_tell_3 rfl (lv_at hl 1 rfl) ?_
      refine tw_getM (v := .int nw) hx hb hts bF2_X9 hown hK hT hr_o0 shc_130 rfl 2 (by decide) (ht_at2 hts 0 rfl) (fun _ h9 => h9) m6 dX9_tell_4 ?_
      refine lv_icmp_ge (tgt := 33) hx hb dX9_tell_7 (by decide) (fun c72 => ?_) (fun c72 => ?_)
      · have t73 : nw.toInt ≤ ((i1 : Nat) : Int) := ti_le c72 rfl (nI_toInt (by omega))
        refine lv_aload_n hx hb dX9_tell_33 rfl (lv_at hl 1 rfl) ?_
        refine tw_getM (v := .ref wh) hx hb hts bF2_X9 hown hK hT hr_o0 shc_130 rfl 0 (by decide) (ht_at2 hts 1 rfl) (fun _ h9 => h9) m4 dX9_tell_34 ?_
        refine lv_aload_n hx hb dX9_tell_37 rfl (lv_at hl 1 rfl) ?_
        refine tw_getM (v := .int nw) hx hb hts bF2_X9 hown hK hT hr_o0 shc_130 rfl 2 (by decide) (ht_at2 hts 0 rfl) (fun _ h9 => h9) m6 dX9_tell_38 ?_
        refine lv_iload_n hx hb dX9_tell_41 rfl (lv_at hl 2 rfl) ?_
        refine tw_iast (i := nw) (x := p0) hx hb hK hT hG hS hr_wh shc_131 rfl (vin_t (a := nw.toInt) rfl (by omega) (by omega)) (gi_all _) dX9_tell_42 (fun H locs hT oq m74 oi hS => ?_)
        have hF := hF.ast hr_wh skc_131 oq (by decide)
        have m75 := m2.put m74 oi
        have m76 := m3.kept (oq _ (gne hr_wn hr_wh (by decide)))
        have m78 := (el_kept (oq _ (gne hr_o0 hr_wh (by decide)))).trans m5
        have m79 := (el_kept (oq _ (gne hr_o0 hr_wh (by decide)))).trans m6
        refine lv_aload_n hx hb dX9_tell_43 rfl (lv_at hl 1 rfl) ?_
        refine tw_getM (v := .ref wn) hx hb hts bF2_X9 hown hK hT hr_o0 shc_130 rfl 1 (by decide) (ht_at2 hts 2 rfl) (fun _ h9 => h9) m78 dX9_tell_44 ?_
        refine lv_aload_n hx hb dX9_tell_47 rfl (lv_at hl 1 rfl) ?_
        refine tw_getM (v := .int nw) hx hb hts bF2_X9 hown hK hT hr_o0 shc_130 rfl 2 (by decide) (ht_at2 hts 0 rfl) (fun _ h9 => h9) m79 dX9_tell_48 ?_
        refine lv_iload_n hx hb dX9_tell_51 rfl (lv_at hl 3 rfl) ?_
        refine tw_iast (i := nw) (x := p1) hx hb hK hT hG hS hr_wn shc_132 rfl (vin_t (a := nw.toInt) rfl (by omega) (by omega)) (gi_all _) dX9_tell_52 (fun H locs hT oq m80 oi hS => ?_)
        have hF := hF.ast hr_wn skc_132 oq (by decide)
        have m81 := m75.kept (oq _ (gne hr_wh hr_wn (by decide)))
        have m82 := m76.put m80 oi
        have m85 := (el_kept (oq _ (gne hr_o0 hr_wn (by decide)))).trans m79
        refine lv_aload_n hx hb dX9_tell_53 rfl (lv_at hl 1 rfl) ?_
        refine lv_dup hx hb dX9_tell_54 rfl ?_
        refine tw_getM (v := .int nw) hx hb hts bF2_X9 hown hK hT hr_o0 shc_130 rfl 2 (by decide) (ht_at2 hts 0 rfl) (fun _ h9 => h9) m85 dX9_tell_55 ?_
        refine lv_iconst (v := 1) hx hb dX9_tell_58 (by decide) ?_
        refine lv_iadd hx hb dX9_tell_59 ?_
        refine lv_topi (fun x87 ex87 => ?_)
        have t88 : x87.toInt = nw.toInt + 1 := ti_add ex87 rfl (by decide) (by omega) (by omega)
        refine tw_put (v := .int x87) (ty := .int) hx hb hts bF2_X9 tyX9 tyX9_ok nmX9 hown hK hT hG hS hr_o0 shc_130 rfl 2 (by decide) (ht_at2 hts 0 rfl) (fun _ h9 => h9) rfl (by decide +kernel) rfl rfl (gl_at rfl (gi_of (show x87.toInt = x87.toInt from rfl) (by omega) (by omega))) dX9_tell_60 (fun H locs hT oq m89 oj hS => ?_)
        have hF := hF.put hr_o0 skc_130 oq oj (by decide)
        have m90 := m81.kept (oq _ (gne hr_wh hr_o0 (by decide)))
        have m91 := m82.kept (oq _ (gne hr_wn hr_o0 (by decide)))
        refine lv_aload_n hx hb dX9_tell_63 rfl (lv_at hl 1 rfl) ?_
        refine tw_getM (v := .int x87) hx hb hts bF2_X9 hown hK hT hr_o0 shc_130 rfl 2 (by decide) (ht_at2 hts 0 rfl) (fun _ h9 => h9) m89 dX9_tell_64 ?_
        exact W.iret (v := x87) hx hb hr (fun t ht hW => ⟨⟨x87, x87, rfl, (by exact ⟨(by have q8 := ti_all x87; omega), (by omega)⟩), by (try dsimp only); rw [ht]; exact ⟨hT, hF, m89, (m90.ext (fun i9 _ => by rw [show i1 = nw.toNatClampNeg from by have q9 := tn_of (i := nw) rfl (by omega); omega])), m91⟩⟩, hS.F ht⟩) hS.2.2 dX9_tell_67
      · have t96 : ((i1 : Nat) : Int) < nw.toInt := ti_nle c72 rfl (nI_toInt (by omega))
        refine lv_aload_n hx hb dX9_tell_10 rfl (lv_at hl 1 rfl) ?_
        refine tw_getM (v := .ref wh) hx hb hts bF2_X9 hown hK hT hr_o0 shc_130 rfl 0 (by decide) (ht_at2 hts 1 rfl) (fun _ h9 => h9) m4 dX9_tell_11 ?_
        refine lv_iload_n hx hb dX9_tell_14 rfl (lv_at hl 0 rfl) ?_
        refine tw_iald (i := (nI i1)) hx hb hK hT hr_wh shc_131 rfl (vp_in_nI (by omega) (by decide)) dX9_tell_15 (fun v9 m97 h9 => ?_)
        obtain ⟨x98, rfl, gx98, kx98⟩ := h9
        have cx98 := m2.at m97 (by have q9 := tn_of (show (nI i1).toInt = ((i1 : Nat) : Int) from (nI_toInt (by omega))) (by omega); omega)
        refine lv_iload_n hx hb dX9_tell_16 rfl (lv_at hl 2 rfl) ?_
        have t99 : -2147483648 ≤ x98.toInt ∧ x98.toInt ≤ 2147483647 := ti_all x98
        have t100 : -2147483648 ≤ p0.toInt ∧ p0.toInt ≤ 2147483647 := ti_all p0
        refine lv_icmp_ne (tgt := 27) hx hb dX9_tell_17 (by decide) (fun c101 => ?_) (fun c101 => ?_)
        · have t102 : x98.toInt ≠ p0.toInt := ti_ne c101 rfl rfl
          refine lv_iinc (v := nI (i1 + 1)) (lv' := [(3, .int (nI (i1 + 1))), (0, .ref o0), (1, .int p0), (2, .int p1)]) hx hb dX9_tell_27 hl (k := 0) rfl (nI_add i1 1) (by decide) rfl (fun ls hl => ?_)
          refine lv_goto (tgt := 2) hx hb dX9_tell_30 (by decide) ?_
          exact ih46 (i1 + 1) (by omega) (by omega) (by omega) _ _ hT hF hS (m2.ext (fun _ _ => tl_no (fun e9 => by have e8 : VH i1 = x98 := (cx98.trans (by rw [tn_nI (by omega)]; exact tl_at)).symm; rw [e8] at e9; have := congrArg Int32.toInt e9; omega))) m3 m4 m5 m6 ls (lv_sub hl [0, 1, 2, 3] rfl)
        · have t103 : x98.toInt = p0.toInt := ti_eq c101 rfl rfl
          refine lv_aload_n hx hb dX9_tell_20 rfl (lv_at hl 1 rfl) ?_
          refine tw_getM (v := .ref wh) hx hb hts bF2_X9 hown hK hT hr_o0 shc_130 rfl 0 (by decide) (ht_at2 hts 1 rfl) (fun _ h9 => h9) m4 dX9_tell_21 ?_
          refine lv_iload_n hx hb dX9_tell_24 rfl (lv_at hl 0 rfl) ?_
          refine lv_iconst (v := (-1)) hx hb dX9_tell_25 (by decide) ?_
          refine tw_iast (i := (nI i1)) (x := (-1)) hx hb hK hT hG hS hr_wh shc_131 rfl (vp_in_nI (by omega) (by decide)) (gi_all _) dX9_tell_26 (fun H locs hT oq m104 oi hS => ?_)
          have hF := hF.ast hr_wh skc_131 oq (by decide)
          have m105 := m2.put m104 oi
          have m106 := m3.kept (oq _ (gne hr_wn hr_wh (by decide)))
          have m107 := (el_kept (oq _ (gne hr_o0 hr_wh (by decide)))).trans m4
          have m108 := (el_kept (oq _ (gne hr_o0 hr_wh (by decide)))).trans m5
          have m109 := (el_kept (oq _ (gne hr_o0 hr_wh (by decide)))).trans m6
          refine lv_iinc (v := nI (i1 + 1)) (lv' := [(3, .int (nI (i1 + 1))), (0, .ref o0), (1, .int p0), (2, .int p1)]) hx hb dX9_tell_27 hl (k := 0) rfl (nI_add i1 1) (by decide) rfl (fun ls hl => ?_)
          refine lv_goto (tgt := 2) hx hb dX9_tell_30 (by decide) ?_
          exact ih46 (i1 + 1) (by omega) (by omega) (by omega) _ _ hT hF hS (m105.ext (fun _ _ => by rw [tn_nI (by omega)]; exact tl_in (((cx98.trans (by rw [tn_nI (by omega)]; exact tl_at)).symm).trans (Int32.toInt_inj.mp (by omega))))) m106 m107 m108 m109 ls (lv_sub hl [0, 1, 2, 3] rfl)
  exact key46 (59 - 0) 0 (by omega) (Nat.le_refl _) (by omega) _ _ hT hF hS (hc_VH.ext (fun _ _ => tl_0)) hc_VN hm_wh hm_wn hm_nw ls (lv_sub hl [0, 1, 2, 3] rfl)
def w_c_tellX9Y : List Cond := .code yX9_tell cX9_tell 4 (some .int) :: (HAppend.hAppend (α := List Cond) (β := List Cond) (γ := List Cond) [.fieldLink RX9 18 "SeaLand$Tellings" "told" "I", .fieldLink RX9 9 "SeaLand$Tellings" "hours" "[I", .fieldLink RX9 15 "SeaLand$Tellings" "numbers" "[I"] bs2)
set_option maxHeartbeats 4000000 in
set_option maxRecDepth 100000 in
theorem c_tellX9Y (l : Launch) (dC : Nat → ClassId) (dI : Nat → Nat → Nat) (kA : Nat → ClassId) (adK adV : Nat → Nat) (G : gT) (H0 : Heap) (nC nS : Int) (o0 : Nat) (p0 : Int32) (p1 : Int32) (rh : Nat) (rn : Nat) (nr : Int32) (VR : Nat → Int32) (VQ : Nat → Int32)  (hT : gH (dC, dI) kA (SHc nC nS) G H0) (hr_o0 : G o0 = some 12) (hm_rh : el H0 o0 (dI 12 0) = some (.ref rh)) (hr_rh : G rh = some 23) (hm_rn : el H0 o0 (dI 12 1) = some (.ref rn)) (hr_rn : G rn = some 24) (hm_nr : el H0 o0 (dI 12 2) = some (.int nr)) (hq0 : 0 ≤ nr.toInt ∧ nr.toInt ≤ 59) (hc_VR : ct H0 rh 60 VR) (hc_VQ : ct H0 rn 60 VQ) (hgC : 0 ≤ nC ∧ nC ≤ 40) (hgS : 0 ≤ nS ∧ nS ≤ 60) : Met l yX9_tell w_c_tellX9Y ({ frames := 0, cells := 0, slots := 0, locals := 0 }) (va_Pc [.ref o0, .int p0, .int p1] (fun U => U.heap = H0 ∧ va_K (dC, dI) vwCl (tyl kA) U ∧ EVC adK adV (gA G H0.size) U U.heap)) (va_Qi (fun (r : Int32) (u : Int32) => (1 ≤ r.toInt ∧ r.toInt ≤ 60) ∧ (r.toInt = nr.toInt + 1 ∧ u.toInt = nr.toInt + 1)) (fun (nr1 : Int32) (t : State) => gH (dC, dI) kA (SHc nC nS) G t.heap ∧ gF (dC, dI) SKc G ([(12, 2), (23, 0), (24, 0)] : List (Nat × Nat)) H0 t.heap ∧ el t.heap o0 (dI 12 2) = some (.int nr1) ∧ ct t.heap rh 60 (cu (tlV VR p0 nr.toNatClampNeg) nr.toNatClampNeg p0) ∧ ct t.heap rn 60 (cu VQ nr.toNatClampNeg p1)) (gA G H0.size)) 0 0 (gA G H0.size) := by
  refine Met.ofW (cc := cX9_tell) (maxL := 4) (ret := (some .int)) (by decide) rfl ?_
  intro p e s m args below meth c s₁ B hml hv
  obtain ⟨rfl, hH0, hK, hE⟩ := hv
  have hx := B.exec
  have hb := B.bytes
  have hr := B.returns
  have hts := atoms_spec (ws := w_c_tellX9Y) B.pre
  have hown : s.vm.findClass RX9 = some m.cls := findClass_of_methodNamed B.named
  have hlocks := B.notSynchronized
  subst hH0
  generalize hAe : gA G s.heap.size = A at hE ⊢
  have hA : ∀ q : Nat, s.heap.size ≤ q → A q := fun q h => by rw [← hAe]; exact Or.inr h
  have hG := gA_of hAe
  have hS : va_S A s.heap s.heap [] := va_S.rf
  have hF : gF (dC, dI) SKc G ([(12, 2), (23, 0), (24, 0)] : List (Nat × Nat)) s.heap s.heap := gF.rf
  have hl := lv_entry ([.ref o0, .int p0, .int p1]) (n := 4) (Nat.le_of_ble_eq_true rfl)
  rw [lg_entry_eq]
  generalize (lg_sl ([.ref o0, .int p0, .int p1]) ++ List.replicate (4 - (lg_sl ([.ref o0, .int p0, .int p1])).length) Slot.unset).toArray = ls at hl ⊢
  have hl : lv_has ls 4 [(0, .ref o0), (1, .int p0), (2, .int p1)] := hl
  refine lv_iconst (v := 0) hx hb dX9_tell_0 (by decide) ?_
  refine lv_istore_n (lv' := [(3, .int 0), (0, .ref o0), (1, .int p0), (2, .int p1)]) hx hb dX9_tell_1 rfl hl (by decide) rfl (fun ls hl => ?_)
  have key46 : ∀ (n46 i1 : Nat), i1 + n46 = 59 → 0 ≤ i1 → ((((i1 : Nat) : Int) ≤ nr.toInt)) → ∀ (H : Heap) (locs : List Loc), gH (dC, dI) kA (SHc nC nS) G H → gF (dC, dI) SKc G ([(12, 2), (23, 0), (24, 0)] : List (Nat × Nat)) s.heap H → va_S A s.heap H locs → ct H rh 60 (tlV VR p0 i1) → ct H rn 60 VQ → el H o0 (dI 12 0) = some (.ref rh) → el H o0 (dI 12 1) = some (.ref rn) → el H o0 (dI 12 2) = some (.int nr) → ∀ ls : Array Slot, lv_has ls 4 [(3, .int (nI i1)), (0, .ref o0), (1, .int p0), (2, .int p1)] → W p l e (headSpec w_c_tellX9Y ({ frames := 0, cells := 0, slots := 0, locals := 0 })).room s m #[.ref o0, .int p0, .int p1] below meth c H locs 0 0 (MQ below (va_Qi (fun (r : Int32) (u : Int32) => (1 ≤ r.toInt ∧ r.toInt ≤ 60) ∧ (r.toInt = nr.toInt + 1 ∧ u.toInt = nr.toInt + 1)) (fun (nr1 : Int32) (t : State) => gH (dC, dI) kA (SHc nC nS) G t.heap ∧ gF (dC, dI) SKc G ([(12, 2), (23, 0), (24, 0)] : List (Nat × Nat)) s.heap t.heap ∧ el t.heap o0 (dI 12 2) = some (.int nr1) ∧ ct t.heap rh 60 (cu (tlV VR p0 nr.toNatClampNeg) nr.toNatClampNeg p0) ∧ ct t.heap rn 60 (cu VQ nr.toNatClampNeg p1)) A) #[.ref o0, .int p0, .int p1] s 0 0 A) (F0 m 2 ls []) := by
    intro n46
    induction n46 with
    | zero =>
      intro i1 hn46 hlo47 hj7 H locs hT hF hS m2 m3 m4 m5 m6 ls hl
      obtain rfl : 59 = i1 := by omega
      refine lv_iload_n hx hb dX9_tell_2 rfl (lv_at hl 0 rfl) ?_
      refine lv_aload_n hx hb dX9_tell_3 rfl (lv_at hl 1 rfl) ?_
      refine tw_getM (v := .int nr) hx hb hts bF2_X9 hown hK hT hr_o0 shc_12 rfl 2 (by decide) (ht_at2 hts 0 rfl) (fun _ h9 => h9) m6 dX9_tell_4 ?_
      refine lv_icmp_ge (tgt := 33) hx hb dX9_tell_7 (by decide) (fun c48 => ?_) (fun c48 => (by exfalso; have q9 : ((59 : Nat) : Int) < nr.toInt := ti_nle c48 rfl (nI_toInt (by omega)); omega))
      have t49 : nr.toInt ≤ ((59 : Nat) : Int) := ti_le c48 rfl (nI_toInt (by omega))
      refine lv_aload_n hx hb dX9_tell_33 rfl (lv_at hl 1 rfl) ?_
      refine tw_getM (v := .ref rh) hx hb hts bF2_X9 hown hK hT hr_o0 shc_12 rfl 0 (by decide) (ht_at2 hts 1 rfl) (fun _ h9 => h9) m4 dX9_tell_34 ?_
      refine lv_aload_n hx hb dX9_tell_37 rfl (lv_at hl 1 rfl) ?_
      refine tw_getM (v := .int nr) hx hb hts bF2_X9 hown hK hT hr_o0 shc_12 rfl 2 (by decide) (ht_at2 hts 0 rfl) (fun _ h9 => h9) m6 dX9_tell_38 ?_
      refine lv_iload_n hx hb dX9_tell_41 rfl (lv_at hl 2 rfl) ?_
      refine tw_iast (i := nr) (x := p0) hx hb hK hT hG hS hr_rh shc_23 rfl (vin_t (a := nr.toInt) rfl (by omega) (by omega)) (gi_all _) dX9_tell_42 (fun H locs hT oq m50 oi hS => ?_)
      have hF := hF.ast hr_rh skc_23 oq (by decide)
      have m51 := m2.put m50 oi
      have m52 := m3.kept (oq _ (gne hr_rn hr_rh (by decide)))
      have m54 := (el_kept (oq _ (gne hr_o0 hr_rh (by decide)))).trans m5
      have m55 := (el_kept (oq _ (gne hr_o0 hr_rh (by decide)))).trans m6
      refine lv_aload_n hx hb dX9_tell_43 rfl (lv_at hl 1 rfl) ?_
      refine tw_getM (v := .ref rn) hx hb hts bF2_X9 hown hK hT hr_o0 shc_12 rfl 1 (by decide) (ht_at2 hts 2 rfl) (fun _ h9 => h9) m54 dX9_tell_44 ?_
      refine lv_aload_n hx hb dX9_tell_47 rfl (lv_at hl 1 rfl) ?_
      refine tw_getM (v := .int nr) hx hb hts bF2_X9 hown hK hT hr_o0 shc_12 rfl 2 (by decide) (ht_at2 hts 0 rfl) (fun _ h9 => h9) m55 dX9_tell_48 ?_
      refine lv_iload_n hx hb dX9_tell_51 rfl (lv_at hl 3 rfl) ?_
      refine tw_iast (i := nr) (x := p1) hx hb hK hT hG hS hr_rn shc_24 rfl (vin_t (a := nr.toInt) rfl (by omega) (by omega)) (gi_all _) dX9_tell_52 (fun H locs hT oq m56 oi hS => ?_)
      have hF := hF.ast hr_rn skc_24 oq (by decide)
      have m57 := m51.kept (oq _ (gne hr_rh hr_rn (by decide)))
      have m58 := m52.put m56 oi
      have m61 := (el_kept (oq _ (gne hr_o0 hr_rn (by decide)))).trans m55
      refine lv_aload_n hx hb dX9_tell_53 rfl (lv_at hl 1 rfl) ?_
      refine lv_dup hx hb dX9_tell_54 rfl ?_
      refine tw_getM (v := .int nr) hx hb hts bF2_X9 hown hK hT hr_o0 shc_12 rfl 2 (by decide) (ht_at2 hts 0 rfl) (fun _ h9 => h9) m61 dX9_tell_55 ?_
      refine lv_iconst (v := 1) hx hb dX9_tell_58 (by decide) ?_
      refine lv_iadd hx hb dX9_tell_59 ?_
      refine lv_topi (fun x63 ex63 => ?_)
      have t64 : x63.toInt = nr.toInt + 1 := ti_add ex63 rfl (by decide) (by omega) (by omega)
      refine tw_put (v := .int x63) (ty := .int) hx hb hts bF2_X9 tyX9 tyX9_ok nmX9 hown hK hT hG hS hr_o0 shc_12 rfl 2 (by decide) (ht_at2 hts 0 rfl) (fun _ h9 => h9) rfl (by decide +kernel) rfl rfl (gl_at rfl (gi_of (show x63.toInt = x63.toInt from rfl) (by omega) (by omega))) dX9_tell_60 (fun H locs hT oq m65 oj hS => ?_)
      have hF := hF.put hr_o0 skc_12 oq oj (by decide)
      have m66 := m57.kept (oq _ (gne hr_rh hr_o0 (by decide)))
      have m67 := m58.kept (oq _ (gne hr_rn hr_o0 (by decide)))
      refine lv_aload_n hx hb dX9_tell_63 rfl (lv_at hl 1 rfl) ?_
      refine tw_getM (v := .int x63) hx hb hts bF2_X9 hown hK hT hr_o0 shc_12 rfl 2 (by decide) (ht_at2 hts 0 rfl) (fun _ h9 => h9) m65 dX9_tell_64 ?_
      exact W.iret (v := x63) hx hb hr (fun t ht hW => ⟨⟨x63, x63, rfl, (by exact ⟨(by have q8 := ti_all x63; omega), (by omega)⟩), by (try dsimp only); rw [ht]; exact ⟨hT, hF, m65, (m66.ext (fun i9 _ => by rw [show 59 = nr.toNatClampNeg from by have q9 := tn_of (i := nr) rfl (by omega); omega])), m67⟩⟩, hS.F ht⟩) hS.2.2 dX9_tell_67
    | succ n46 ih46 =>
      intro i1 hn46 hlo47 hj7 H locs hT hF hS m2 m3 m4 m5 m6 ls hl
      have hlt71 : i1 < 59 := by omega
      refine lv_iload_n hx hb dX9_tell_2 rfl (lv_at hl 0 rfl) ?_
      refine lv_aload_n hx hb dX9_tell_3 rfl (lv_at hl 1 rfl) ?_
      refine tw_getM (v := .int nr) hx hb hts bF2_X9 hown hK hT hr_o0 shc_12 rfl 2 (by decide) (ht_at2 hts 0 rfl) (fun _ h9 => h9) m6 dX9_tell_4 ?_
      refine lv_icmp_ge (tgt := 33) hx hb dX9_tell_7 (by decide) (fun c72 => ?_) (fun c72 => ?_)
      · have t73 : nr.toInt ≤ ((i1 : Nat) : Int) := ti_le c72 rfl (nI_toInt (by omega))
        refine lv_aload_n hx hb dX9_tell_33 rfl (lv_at hl 1 rfl) ?_
        refine tw_getM (v := .ref rh) hx hb hts bF2_X9 hown hK hT hr_o0 shc_12 rfl 0 (by decide) (ht_at2 hts 1 rfl) (fun _ h9 => h9) m4 dX9_tell_34 ?_
        refine lv_aload_n hx hb dX9_tell_37 rfl (lv_at hl 1 rfl) ?_
        refine tw_getM (v := .int nr) hx hb hts bF2_X9 hown hK hT hr_o0 shc_12 rfl 2 (by decide) (ht_at2 hts 0 rfl) (fun _ h9 => h9) m6 dX9_tell_38 ?_
        refine lv_iload_n hx hb dX9_tell_41 rfl (lv_at hl 2 rfl) ?_
        refine tw_iast (i := nr) (x := p0) hx hb hK hT hG hS hr_rh shc_23 rfl (vin_t (a := nr.toInt) rfl (by omega) (by omega)) (gi_all _) dX9_tell_42 (fun H locs hT oq m74 oi hS => ?_)
        have hF := hF.ast hr_rh skc_23 oq (by decide)
        have m75 := m2.put m74 oi
        have m76 := m3.kept (oq _ (gne hr_rn hr_rh (by decide)))
        have m78 := (el_kept (oq _ (gne hr_o0 hr_rh (by decide)))).trans m5
        have m79 := (el_kept (oq _ (gne hr_o0 hr_rh (by decide)))).trans m6
        refine lv_aload_n hx hb dX9_tell_43 rfl (lv_at hl 1 rfl) ?_
        refine tw_getM (v := .ref rn) hx hb hts bF2_X9 hown hK hT hr_o0 shc_12 rfl 1 (by decide) (ht_at2 hts 2 rfl) (fun _ h9 => h9) m78 dX9_tell_44 ?_
        refine lv_aload_n hx hb dX9_tell_47 rfl (lv_at hl 1 rfl) ?_
        refine tw_getM (v := .int nr) hx hb hts bF2_X9 hown hK hT hr_o0 shc_12 rfl 2 (by decide) (ht_at2 hts 0 rfl) (fun _ h9 => h9) m79 dX9_tell_48 ?_
        refine lv_iload_n hx hb dX9_tell_51 rfl (lv_at hl 3 rfl) ?_
        refine tw_iast (i := nr) (x := p1) hx hb hK hT hG hS hr_rn shc_24 rfl (vin_t (a := nr.toInt) rfl (by omega) (by omega)) (gi_all _) dX9_tell_52 (fun H locs hT oq m80 oi hS => ?_)
        have hF := hF.ast hr_rn skc_24 oq (by decide)
        have m81 := m75.kept (oq _ (gne hr_rh hr_rn (by decide)))
        have m82 := m76.put m80 oi
        have m85 := (el_kept (oq _ (gne hr_o0 hr_rn (by decide)))).trans m79
        refine lv_aload_n hx hb dX9_tell_53 rfl (lv_at hl 1 rfl) ?_
        refine lv_dup hx hb dX9_tell_54 rfl ?_
        refine tw_getM (v := .int nr) hx hb hts bF2_X9 hown hK hT hr_o0 shc_12 rfl 2 (by decide) (ht_at2 hts 0 rfl) (fun _ h9 => h9) m85 dX9_tell_55 ?_
        refine lv_iconst (v := 1) hx hb dX9_tell_58 (by decide) ?_
        refine lv_iadd hx hb dX9_tell_59 ?_
        refine lv_topi (fun x87 ex87 => ?_)
        have t88 : x87.toInt = nr.toInt + 1 := ti_add ex87 rfl (by decide) (by omega) (by omega)
        refine tw_put (v := .int x87) (ty := .int) hx hb hts bF2_X9 tyX9 tyX9_ok nmX9 hown hK hT hG hS hr_o0 shc_12 rfl 2 (by decide) (ht_at2 hts 0 rfl) (fun _ h9 => h9) rfl (by decide +kernel) rfl rfl (gl_at rfl (gi_of (show x87.toInt = x87.toInt from rfl) (by omega) (by omega))) dX9_tell_60 (fun H locs hT oq m89 oj hS => ?_)
        have hF := hF.put hr_o0 skc_12 oq oj (by decide)
        have m90 := m81.kept (oq _ (gne hr_rh hr_o0 (by decide)))
        have m91 := m82.kept (oq _ (gne hr_rn hr_o0 (by decide)))
        refine lv_aload_n hx hb dX9_tell_63 rfl (lv_at hl 1 rfl) ?_
        refine tw_getM (v := .int x87) hx hb hts bF2_X9 hown hK hT hr_o0 shc_12 rfl 2 (by decide) (ht_at2 hts 0 rfl) (fun _ h9 => h9) m89 dX9_tell_64 ?_
        exact W.iret (v := x87) hx hb hr (fun t ht hW => ⟨⟨x87, x87, rfl, (by exact ⟨(by have q8 := ti_all x87; omega), (by omega)⟩), by (try dsimp only); rw [ht]; exact ⟨hT, hF, m89, (m90.ext (fun i9 _ => by rw [show i1 = nr.toNatClampNeg from by have q9 := tn_of (i := nr) rfl (by omega); omega])), m91⟩⟩, hS.F ht⟩) hS.2.2 dX9_tell_67
      · have t96 : ((i1 : Nat) : Int) < nr.toInt := ti_nle c72 rfl (nI_toInt (by omega))
        refine lv_aload_n hx hb dX9_tell_10 rfl (lv_at hl 1 rfl) ?_
        refine tw_getM (v := .ref rh) hx hb hts bF2_X9 hown hK hT hr_o0 shc_12 rfl 0 (by decide) (ht_at2 hts 1 rfl) (fun _ h9 => h9) m4 dX9_tell_11 ?_
        refine lv_iload_n hx hb dX9_tell_14 rfl (lv_at hl 0 rfl) ?_
        refine tw_iald (i := (nI i1)) hx hb hK hT hr_rh shc_23 rfl (vp_in_nI (by omega) (by decide)) dX9_tell_15 (fun v9 m97 h9 => ?_)
        obtain ⟨x98, rfl, gx98, kx98⟩ := h9
        have cx98 := m2.at m97 (by have q9 := tn_of (show (nI i1).toInt = ((i1 : Nat) : Int) from (nI_toInt (by omega))) (by omega); omega)
        refine lv_iload_n hx hb dX9_tell_16 rfl (lv_at hl 2 rfl) ?_
        have t99 : -2147483648 ≤ x98.toInt ∧ x98.toInt ≤ 2147483647 := ti_all x98
        have t100 : -2147483648 ≤ p0.toInt ∧ p0.toInt ≤ 2147483647 := ti_all p0
        refine lv_icmp_ne (tgt := 27) hx hb dX9_tell_17 (by decide) (fun c101 => ?_) (fun c101 => ?_)
        · have t102 : x98.toInt ≠ p0.toInt := ti_ne c101 rfl rfl
          refine lv_iinc (v := nI (i1 + 1)) (lv' := [(3, .int (nI (i1 + 1))), (0, .ref o0), (1, .int p0), (2, .int p1)]) hx hb dX9_tell_27 hl (k := 0) rfl (nI_add i1 1) (by decide) rfl (fun ls hl => ?_)
          refine lv_goto (tgt := 2) hx hb dX9_tell_30 (by decide) ?_
          exact ih46 (i1 + 1) (by omega) (by omega) (by omega) _ _ hT hF hS (m2.ext (fun _ _ => tl_no (fun e9 => by have e8 : VR i1 = x98 := (cx98.trans (by rw [tn_nI (by omega)]; exact tl_at)).symm; rw [e8] at e9; have := congrArg Int32.toInt e9; omega))) m3 m4 m5 m6 ls (lv_sub hl [0, 1, 2, 3] rfl)
        · have t103 : x98.toInt = p0.toInt := ti_eq c101 rfl rfl
          refine lv_aload_n hx hb dX9_tell_20 rfl (lv_at hl 1 rfl) ?_
          refine tw_getM (v := .ref rh) hx hb hts bF2_X9 hown hK hT hr_o0 shc_12 rfl 0 (by decide) (ht_at2 hts 1 rfl) (fun _ h9 => h9) m4 dX9_tell_21 ?_
          refine lv_iload_n hx hb dX9_tell_24 rfl (lv_at hl 0 rfl) ?_
          refine lv_iconst (v := (-1)) hx hb dX9_tell_25 (by decide) ?_
          refine tw_iast (i := (nI i1)) (x := (-1)) hx hb hK hT hG hS hr_rh shc_23 rfl (vp_in_nI (by omega) (by decide)) (gi_all _) dX9_tell_26 (fun H locs hT oq m104 oi hS => ?_)
          have hF := hF.ast hr_rh skc_23 oq (by decide)
          have m105 := m2.put m104 oi
          have m106 := m3.kept (oq _ (gne hr_rn hr_rh (by decide)))
          have m107 := (el_kept (oq _ (gne hr_o0 hr_rh (by decide)))).trans m4
          have m108 := (el_kept (oq _ (gne hr_o0 hr_rh (by decide)))).trans m5
          have m109 := (el_kept (oq _ (gne hr_o0 hr_rh (by decide)))).trans m6
          refine lv_iinc (v := nI (i1 + 1)) (lv' := [(3, .int (nI (i1 + 1))), (0, .ref o0), (1, .int p0), (2, .int p1)]) hx hb dX9_tell_27 hl (k := 0) rfl (nI_add i1 1) (by decide) rfl (fun ls hl => ?_)
          refine lv_goto (tgt := 2) hx hb dX9_tell_30 (by decide) ?_
          exact ih46 (i1 + 1) (by omega) (by omega) (by omega) _ _ hT hF hS (m105.ext (fun _ _ => by rw [tn_nI (by omega)]; exact tl_in (((cx98.trans (by rw [tn_nI (by omega)]; exact tl_at)).symm).trans (Int32.toInt_inj.mp (by omega))))) m106 m107 m108 m109 ls (lv_sub hl [0, 1, 2, 3] rfl)
  exact key46 (59 - 0) 0 (by omega) (Nat.le_refl _) (by omega) _ _ hT hF hS (hc_VR.ext (fun _ _ => tl_0)) hc_VQ hm_rh hm_rn hm_nr ls (lv_sub hl [0, 1, 2, 3] rfl)
def w_c_weatherY : List Cond := .code yX11_weather cX11_weather 5 (some .int) :: (HAppend.hAppend (α := List Cond) (β := List Cond) (γ := List Cond) [.constant RX11 110 40000, .code yX11_within cX11_within 3 (some .boolean), .methodLink RX11 58 yX11_within, .static yX11_within, .initialized RX11, .code yX11_needNumbers cX11_needNumbers 1 none, .classLink RX11 547 "java/lang/IllegalArgumentException", .initialized "java/lang/IllegalArgumentException", .methodLink RX11 62 yX11_needNumbers, .static yX11_needNumbers, .fieldLink RX11 16 "SeaLand" "lake" "LSeaLand$Lake;", .fieldLink RX11 23 "SeaLand" "rows" "LSeaLand$Rows;", .code yX6_forget cX6_forget 1 none, .fieldLink RX6 18 "SeaLand$Rows" "kept" "I", .fieldLink RX6 22 "SeaLand$Rows" "oldest" "I", .methodLink RX11 76 yX6_forget, .instanceMethod yX6_forget, .selects RX6 yX6_forget yX6_forget, .initialized RX6, .code yX9_tell cX9_tell 4 (some .int), .fieldLink RX9 18 "SeaLand$Tellings" "told" "I", .fieldLink RX9 9 "SeaLand$Tellings" "hours" "[I", .fieldLink RX9 15 "SeaLand$Tellings" "numbers" "[I", .methodLink RX11 130 yX9_tell, .instanceMethod yX9_tell, .selects RX9 yX9_tell yX9_tell, .initialized RX9] bs2)
set_option maxHeartbeats 4000000 in
set_option maxRecDepth 100000 in
theorem c_weatherY (l : Launch) (hlt : l.stackTraces = false) (dC : Nat → ClassId) (dI : Nat → Nat → Nat) (kA : Nat → ClassId) (adK adV : Nat → Nat) (G : gT) (H0 : Heap) (nC nS : Int) (o0 : Nat) (p0 : Int32) (p1 : Int32) (p2 : Int32) (lk : Nat) (sk : Nat) (wi : Nat) (wh : Nat) (wn : Nat) (nw : Int32) (ra : Nat) (rh : Nat) (rn : Nat) (nr : Int32) (VH : Nat → Int32) (VN : Nat → Int32) (VR : Nat → Int32) (VQ : Nat → Int32)  (hT : gH (dC, dI) kA (SHc nC nS) G H0) (hr_o0 : G o0 = some 14) (hm_lk : el H0 o0 (dI 14 1) = some (.ref lk)) (hr_lk : G lk = some 6) (hm_sk : el H0 lk (dI 6 0) = some (.ref sk)) (hr_sk : G sk = some 11) (hm_wi : el H0 sk (dI 11 4) = some (.ref wi)) (hr_wi : G wi = some 130) (hm_wh : el H0 wi (dI 12 0) = some (.ref wh)) (hr_wh : G wh = some 131) (hm_wn : el H0 wi (dI 12 1) = some (.ref wn)) (hr_wn : G wn = some 132) (hm_nw : el H0 wi (dI 12 2) = some (.int nw)) (hm_ra : el H0 sk (dI 11 5) = some (.ref ra)) (hr_ra : G ra = some 12) (hm_rh : el H0 ra (dI 12 0) = some (.ref rh)) (hr_rh : G rh = some 23) (hm_rn : el H0 ra (dI 12 1) = some (.ref rn)) (hr_rn : G rn = some 24) (hm_nr : el H0 ra (dI 12 2) = some (.int nr)) (hq0 : 0 ≤ p0.toInt ∧ p0.toInt ≤ 1) (hq1 : 0 ≤ nw.toInt ∧ nw.toInt ≤ 60) (hq2 : 0 ≤ nr.toInt ∧ nr.toInt ≤ 60) (hc_VH : ct H0 wh 60 VH) (hc_VN : ct H0 wn 60 VN) (hc_VR : ct H0 rh 60 VR) (hc_VQ : ct H0 rn 60 VQ) (hgC : 0 ≤ nC ∧ nC ≤ 40) (hgS : 0 ≤ nS ∧ nS ≤ 60) : vx_Met l yX11_weather w_c_weatherY ({ frames := 7, cells := 1, slots := 6, locals := 120 }) (va_Pc [.ref o0, .int p0, .int p1, .int p2] (fun U => U.heap = H0 ∧ va_K (dC, dI) vwCl (tyl kA) U ∧ EVC adK adV (gA G H0.size) U U.heap)) (va_Qi (fun (r : Int32) (u : Int32 × Int32 × (Nat → Int32) × (Nat → Int32) × (Nat → Int32) × (Nat → Int32)) => match u with | (nw1, nr1, VH1, VN1, VR1, VQ1) => (-1 ≤ r.toInt ∧ r.toInt ≤ 60) ∧ (weC p0.toInt p1.toInt p2.toInt = 0) ∧ ((p0.toInt = 0 ∧ ((nw.toInt = 60 ∧ r.toInt = -1 ∧ nw1.toInt = nw.toInt ∧ nr1.toInt = nr.toInt ∧ VH1 = VH ∧ VN1 = VN ∧ VR1 = VR ∧ VQ1 = VQ) ∨ (nw.toInt ≠ 60 ∧ r.toInt = nw.toInt + 1 ∧ nw1.toInt = nw.toInt + 1 ∧ nr1.toInt = nr.toInt ∧ VH1 = cu (tlV VH p1 nw.toNatClampNeg) nw.toNatClampNeg p1 ∧ VN1 = cu VN nw.toNatClampNeg p2 ∧ VR1 = VR ∧ VQ1 = VQ))) ∨ (p0.toInt ≠ 0 ∧ ((nr.toInt = 60 ∧ r.toInt = -1 ∧ nw1.toInt = nw.toInt ∧ nr1.toInt = nr.toInt ∧ VH1 = VH ∧ VN1 = VN ∧ VR1 = VR ∧ VQ1 = VQ) ∨ (nr.toInt ≠ 60 ∧ r.toInt = nr.toInt + 1 ∧ nr1.toInt = nr.toInt + 1 ∧ nw1.toInt = nw.toInt ∧ VR1 = cu (tlV VR p1 nr.toNatClampNeg) nr.toNatClampNeg p1 ∧ VQ1 = cu VQ nr.toNatClampNeg p2 ∧ VH1 = VH ∧ VN1 = VN))))) (fun (u : Int32 × Int32 × (Nat → Int32) × (Nat → Int32) × (Nat → Int32) × (Nat → Int32)) (t : State) => match u with | (nw1, nr1, VH1, VN1, VR1, VQ1) => gH (dC, dI) kA (SHc nC nS) G t.heap ∧ gF (dC, dI) SKc G ([(9, 2), (9, 3), (12, 2), (23, 0), (24, 0), (130, 2), (131, 0), (132, 0)] : List (Nat × Nat)) H0 t.heap ∧ el t.heap wi (dI 12 2) = some (.int nw1) ∧ el t.heap ra (dI 12 2) = some (.int nr1) ∧ ct t.heap wh 60 VH1 ∧ ct t.heap wn 60 VN1 ∧ ct t.heap rh 60 VR1 ∧ ct t.heap rn 60 VQ1) (gA G H0.size)) (vx_X (fun _ : Unit => True) (fun E _ t => (E = "java/lang/IllegalArgumentException") ∧ ((E = "java/lang/IllegalArgumentException" ∧ weC p0.toInt p1.toInt p2.toInt = 1)) ∧ gH (dC, dI) kA (SHc nC nS) G t.heap ∧ gF (dC, dI) SKc G ([(9, 2), (9, 3), (12, 2), (23, 0), (24, 0), (130, 2), (131, 0), (132, 0)] : List (Nat × Nat)) H0 t.heap ∧ el t.heap wi (dI 12 2) = some (.int nw) ∧ el t.heap ra (dI 12 2) = some (.int nr) ∧ ct t.heap wh 60 VH ∧ ct t.heap wn 60 VN ∧ ct t.heap rh 60 VR ∧ ct t.heap rn 60 VQ) (gA G H0.size)) 1 6 (gA G H0.size) := by
  refine vx_ofW (cc := cX11_weather) (maxL := 5) (ret := (some .int)) (by decide) rfl ?_
  intro p e s m args below meth c s₁ B hml hnt hv
  obtain ⟨rfl, hH0, hK, hE⟩ := hv
  have hx := B.exec
  have hb := B.bytes
  have hr := B.returns
  have hts := atoms_spec (ws := w_c_weatherY) B.pre
  have hown : s.vm.findClass RX11 = some m.cls := findClass_of_methodNamed B.named
  have hlocks := B.notSynchronized
  subst hH0
  generalize hAe : gA G s.heap.size = A at hE ⊢
  have hA : ∀ q : Nat, s.heap.size ≤ q → A q := fun q h => by rw [← hAe]; exact Or.inr h
  have hG := gA_of hAe
  have hS : va_S A s.heap s.heap [] := va_S.rf
  have hF : gF (dC, dI) SKc G ([(9, 2), (9, 3), (12, 2), (23, 0), (24, 0), (130, 2), (131, 0), (132, 0)] : List (Nat × Nat)) s.heap s.heap := gF.rf
  have hl := lv_entry ([.ref o0, .int p0, .int p1, .int p2]) (n := 5) (Nat.le_of_ble_eq_true rfl)
  rw [lg_entry_eq]
  generalize (lg_sl ([.ref o0, .int p0, .int p1, .int p2]) ++ List.replicate (5 - (lg_sl ([.ref o0, .int p0, .int p1, .int p2])).length) Slot.unset).toArray = ls at hl ⊢
  have hl : lv_has ls 5 [(0, .ref o0), (1, .int p0), (2, .int p1), (3, .int p2)] := hl
  refine lv_iload_n hx hb dX11_weather_0 rfl (lv_at hl 2 rfl) ?_
  refine lv_iconst (v := 0) hx hb dX11_weather_1 (by decide) ?_
  refine lv_ldc (v := 40000) hx hb hown (ht_at2 hts 0 rfl) dX11_weather_2 ?_
  have hFc := gA_free hG hA hS
  refine va_calli (va_runS (As := [.int p1, .int 0, .int 40000]) (rest := []) ⟨hx, hb, hml, hown, hts⟩ (c_within l dC dI kA adK adV G s.heap nC nS p1 0 40000 hT (by omega) (by omega)) (va_cwS 3 hts (goodIn_app (goodIn_r _ [3, 4, 5] rfl (by decide +kernel)) (goodIn_ca (goodIn_r _ [2] rfl (by decide +kernel)) (bs2_in _ _))) rfl rfl rfl (by decide +kernel) ⟨(Nat.le_of_ble_eq_true rfl), (Nat.le_of_ble_eq_true rfl)⟩) ⟨fun a U g mk q => by obtain ⟨q0, q1, qK, qE⟩ := q; exact ⟨q0, q1, va_K.moved (u := U) (U := U.calling g mk a) (Vm.Alike.refl U.vm) qK, EVC.blind g mk a qE⟩, fun U hU hW => ⟨rfl, hU, va_K.moved hW.alike hK, hE.call hS hFc hU hW⟩⟩ rfl rfl hl.1 rfl (lv_room (Nat.le_of_ble_eq_true rfl)) dX11_weather_4 ⟨(Nat.le_of_ble_eq_true rfl), (Nat.le_of_ble_eq_true rfl)⟩) hS (fun q _ h => hFc q h) hFc (fun r1 u t H locs ht hvm hw2 hB _ _ hS => ?_)
  obtain ⟨hT, hF1⟩ := hB
  rw [ht] at hT hF1
  have m3 := (hF1.fld hr_o0 skc_14 (k := 1) (by decide) (by decide)).trans hm_lk
  have m4 := (hF1.fld hr_lk skc_6 (k := 0) (by decide) (by decide)).trans hm_sk
  have m5 := (hF1.fld hr_sk skc_11 (k := 4) (by decide) (by decide)).trans hm_wi
  have m6 := (hF1.fld hr_wi skc_130 (k := 0) (by decide) (by decide)).trans hm_wh
  have m7 := (hF1.fld hr_wi skc_130 (k := 1) (by decide) (by decide)).trans hm_wn
  have m8 := (hF1.fld hr_wi skc_130 (k := 2) (by decide) (by decide)).trans hm_nw
  have m9 := (hF1.fld hr_sk skc_11 (k := 5) (by decide) (by decide)).trans hm_ra
  have m10 := (hF1.fld hr_ra skc_12 (k := 0) (by decide) (by decide)).trans hm_rh
  have m11 := (hF1.fld hr_ra skc_12 (k := 1) (by decide) (by decide)).trans hm_rn
  have m12 := (hF1.fld hr_ra skc_12 (k := 2) (by decide) (by decide)).trans hm_nr
  have m13 := hc_VH.kept (hF1.arr hr_wh skc_131 (by decide))
  have m14 := hc_VN.kept (hF1.arr hr_wn skc_132 (by decide))
  have m15 := hc_VR.kept (hF1.arr hr_rh skc_23 (by decide))
  have m16 := hc_VQ.kept (hF1.arr hr_rn skc_24 (by decide))
  have hF := hF.more hF1 (by decide)
  try dsimp only at hw2
  obtain ⟨h17, hi18, hi19⟩ := hw2
  refine lv_if_eq (tgt := 41) hx hb dX11_weather_7 (by decide) (fun c20 => ?_) (fun c20 => ?_)
  · have t21 : r1.toInt = 0 := ti_eq c20 rfl (by decide)
    have t22 : (0 : Int32).toInt = 0 := by decide
    have t23 : (40000 : Int32).toInt = 40000 := by decide
    have t24 : p1.toInt < (0 : Int32).toInt ∨ (40000 : Int32).toInt < p1.toInt := hi19 c20
    refine lv_iconst (v := 0) hx hb dX11_weather_41 (by decide) ?_
    have hFc := gA_free hG hA hS
    refine vx_callN (vx_runS (As := [.int 0]) (rest := []) ⟨hx, hb, hml, hown, hts⟩ (c_needNumbers0 l hlt dC dI kA adK adV G H nC nS hT (by omega) (by omega)) (va_cwS 1 hts (goodIn_app (goodIn_r _ [9, 10, 5] rfl (by decide +kernel)) (goodIn_ca (goodIn_r _ [6, 7, 8] rfl (by decide +kernel)) (bs2_in _ _))) rfl rfl rfl (by decide +kernel) ⟨(Nat.le_of_ble_eq_true rfl), (Nat.le_of_ble_eq_true rfl)⟩) ⟨fun a U g mk q => by obtain ⟨q0, q1, qK, qE⟩ := q; exact ⟨q0, q1, va_K.moved (u := U) (U := U.calling g mk a) (Vm.Alike.refl U.vm) qK, EVC.blind g mk a qE⟩, fun U hU hW => ⟨rfl, hU, va_K.moved hW.alike hK, hE.call hS hFc hU hW⟩⟩ rfl rfl hl.1 rfl (lv_room (Nat.le_of_ble_eq_true rfl)) dX11_weather_42 ⟨(Nat.le_of_ble_eq_true rfl), (Nat.le_of_ble_eq_true rfl)⟩) hS hFc (fun q _ h => hFc q h) (fun E ce q9 u t H locs ht hvm _ hw26 _ _ hS hce hcv hcl => ?_)
    obtain ⟨hw26, hTx, hFx⟩ := hw26; rw [ht] at hTx hFx
    exact vx_out (fun x h => (hnt x h).elim) hlocks hce hcv hcl (fun t2 h2 hW => ⟨(), trivial, ⟨((fun h9 => h9) hw26), (⟨hw26, (by have := weC_s p0.toInt p1.toInt p2.toInt; first | omega | exact hxf.elim)⟩), by rw [h2]; exact hTx, by rw [h2]; exact hF.more hFx (by decide), by rw [h2]; exact (hFx.fld hr_wi skc_130 (k := 2) (by decide) (by decide)).trans m8, by rw [h2]; exact (hFx.fld hr_ra skc_12 (k := 2) (by decide) (by decide)).trans m12, by rw [h2]; exact m13.kept (hFx.arr hr_wh skc_131 (by decide)), by rw [h2]; exact m14.kept (hFx.arr hr_wn skc_132 (by decide)), by rw [h2]; exact m15.kept (hFx.arr hr_rh skc_23 (by decide)), by rw [h2]; exact m16.kept (hFx.arr hr_rn skc_24 (by decide))⟩, hS.F h2⟩) hS.2.2 (by decide) (by decide)
  · have t27 : r1.toInt ≠ 0 := ti_ne c20 rfl (by decide)
    have t28 : (0 : Int32).toInt = 0 := by decide
    have t29 : (40000 : Int32).toInt = 40000 := by decide
    have t30 : (0 : Int32).toInt ≤ p1.toInt ∧ p1.toInt ≤ (40000 : Int32).toInt := hi18 ((bit_of ⟨by omega, by omega⟩).resolve_left c20)
    refine lv_iload_n hx hb dX11_weather_10 rfl (lv_at hl 1 rfl) ?_
    refine lv_if_eq (tgt := 27) hx hb dX11_weather_11 (by decide) (fun c31 => ?_) (fun c31 => ?_)
    · have t32 : p0.toInt = 0 := ti_eq c31 rfl (by decide)
      refine lv_iload_n hx hb dX11_weather_27 rfl (lv_at hl 3 rfl) ?_
      refine lv_iconst (v := (-1)) hx hb dX11_weather_28 (by decide) ?_
      refine lv_bipush (v := 9) hx hb dX11_weather_29 (by decide) ?_
      have hFc := gA_free hG hA hS
      refine va_calli (va_runS (As := [.int p2, .int (-1), .int 9]) (rest := []) ⟨hx, hb, hml, hown, hts⟩ (c_within l dC dI kA adK adV G H nC nS p2 (-1) 9 hT (by omega) (by omega)) (va_cwS 3 hts (goodIn_app (goodIn_r _ [3, 4, 5] rfl (by decide +kernel)) (goodIn_ca (goodIn_r _ [2] rfl (by decide +kernel)) (bs2_in _ _))) rfl rfl rfl (by decide +kernel) ⟨(Nat.le_of_ble_eq_true rfl), (Nat.le_of_ble_eq_true rfl)⟩) ⟨fun a U g mk q => by obtain ⟨q0, q1, qK, qE⟩ := q; exact ⟨q0, q1, va_K.moved (u := U) (U := U.calling g mk a) (Vm.Alike.refl U.vm) qK, EVC.blind g mk a qE⟩, fun U hU hW => ⟨rfl, hU, va_K.moved hW.alike hK, hE.call hS hFc hU hW⟩⟩ rfl rfl hl.1 rfl (lv_room (Nat.le_of_ble_eq_true rfl)) dX11_weather_31 ⟨(Nat.le_of_ble_eq_true rfl), (Nat.le_of_ble_eq_true rfl)⟩) hS (fun q _ h => hFc q h) hFc (fun r33 u t H locs ht hvm hw34 hB _ _ hS => ?_)
      obtain ⟨hT, hF1⟩ := hB
      rw [ht] at hT hF1
      have m35 := (hF1.fld hr_o0 skc_14 (k := 1) (by decide) (by decide)).trans m3
      have m36 := (hF1.fld hr_lk skc_6 (k := 0) (by decide) (by decide)).trans m4
      have m37 := (hF1.fld hr_sk skc_11 (k := 4) (by decide) (by decide)).trans m5
      have m38 := (hF1.fld hr_wi skc_130 (k := 0) (by decide) (by decide)).trans m6
      have m39 := (hF1.fld hr_wi skc_130 (k := 1) (by decide) (by decide)).trans m7
      have m40 := (hF1.fld hr_wi skc_130 (k := 2) (by decide) (by decide)).trans m8
      have m44 := (hF1.fld hr_ra skc_12 (k := 2) (by decide) (by decide)).trans m12
      have m45 := m13.kept (hF1.arr hr_wh skc_131 (by decide))
      have m46 := m14.kept (hF1.arr hr_wn skc_132 (by decide))
      have m47 := m15.kept (hF1.arr hr_rh skc_23 (by decide))
      have m48 := m16.kept (hF1.arr hr_rn skc_24 (by decide))
      have hF := hF.more hF1 (by decide)
      try dsimp only at hw34
      obtain ⟨h49, hi50, hi51⟩ := hw34
      refine lv_if_eq (tgt := 41) hx hb dX11_weather_34 (by decide) (fun c52 => ?_) (fun c52 => ?_)
      · have t53 : r33.toInt = 0 := ti_eq c52 rfl (by decide)
        have t54 : (-1 : Int32).toInt = (-1) := by decide
        have t55 : (9 : Int32).toInt = 9 := by decide
        have t56 : p2.toInt < (-1 : Int32).toInt ∨ (9 : Int32).toInt < p2.toInt := hi51 c52
        refine lv_iconst (v := 0) hx hb dX11_weather_41 (by decide) ?_
        have hFc := gA_free hG hA hS
        refine vx_callN (vx_runS (As := [.int 0]) (rest := []) ⟨hx, hb, hml, hown, hts⟩ (c_needNumbers0 l hlt dC dI kA adK adV G H nC nS hT (by omega) (by omega)) (va_cwS 1 hts (goodIn_app (goodIn_r _ [9, 10, 5] rfl (by decide +kernel)) (goodIn_ca (goodIn_r _ [6, 7, 8] rfl (by decide +kernel)) (bs2_in _ _))) rfl rfl rfl (by decide +kernel) ⟨(Nat.le_of_ble_eq_true rfl), (Nat.le_of_ble_eq_true rfl)⟩) ⟨fun a U g mk q => by obtain ⟨q0, q1, qK, qE⟩ := q; exact ⟨q0, q1, va_K.moved (u := U) (U := U.calling g mk a) (Vm.Alike.refl U.vm) qK, EVC.blind g mk a qE⟩, fun U hU hW => ⟨rfl, hU, va_K.moved hW.alike hK, hE.call hS hFc hU hW⟩⟩ rfl rfl hl.1 rfl (lv_room (Nat.le_of_ble_eq_true rfl)) dX11_weather_42 ⟨(Nat.le_of_ble_eq_true rfl), (Nat.le_of_ble_eq_true rfl)⟩) hS hFc (fun q _ h => hFc q h) (fun E ce q9 u t H locs ht hvm _ hw58 _ _ hS hce hcv hcl => ?_)
        obtain ⟨hw58, hTx, hFx⟩ := hw58; rw [ht] at hTx hFx
        exact vx_out (fun x h => (hnt x h).elim) hlocks hce hcv hcl (fun t2 h2 hW => ⟨(), trivial, ⟨((fun h9 => h9) hw58), (⟨hw58, (by have := weC_s p0.toInt p1.toInt p2.toInt; first | omega | exact hxf.elim)⟩), by rw [h2]; exact hTx, by rw [h2]; exact hF.more hFx (by decide), by rw [h2]; exact (hFx.fld hr_wi skc_130 (k := 2) (by decide) (by decide)).trans m40, by rw [h2]; exact (hFx.fld hr_ra skc_12 (k := 2) (by decide) (by decide)).trans m44, by rw [h2]; exact m45.kept (hFx.arr hr_wh skc_131 (by decide)), by rw [h2]; exact m46.kept (hFx.arr hr_wn skc_132 (by decide)), by rw [h2]; exact m47.kept (hFx.arr hr_rh skc_23 (by decide)), by rw [h2]; exact m48.kept (hFx.arr hr_rn skc_24 (by decide))⟩, hS.F h2⟩) hS.2.2 (by decide) (by decide)
      · have t59 : r33.toInt ≠ 0 := ti_ne c52 rfl (by decide)
        have t60 : (-1 : Int32).toInt = (-1) := by decide
        have t61 : (9 : Int32).toInt = 9 := by decide
        have t62 : (-1 : Int32).toInt ≤ p2.toInt ∧ p2.toInt ≤ (9 : Int32).toInt := hi50 ((bit_of ⟨by omega, by omega⟩).resolve_left c52)
        refine lv_iconst (v := 1) hx hb dX11_weather_37 (by decide) ?_
        refine lv_goto (tgt := 42) hx hb dX11_weather_38 (by decide) ?_
        have hFc := gA_free hG hA hS
        refine vx_callv (vx_runS (As := [.int 1]) (rest := []) ⟨hx, hb, hml, hown, hts⟩ (c_needNumbers1X l hlt dC dI kA adK adV G H nC nS hT (by omega) (by omega)) (va_cwS 1 hts (goodIn_app (goodIn_r _ [9, 10, 5] rfl (by decide +kernel)) (goodIn_ca (goodIn_r _ [6] rfl (by decide +kernel)) (bs2_in _ _))) rfl rfl rfl (by decide +kernel) ⟨(Nat.le_of_ble_eq_true rfl), (Nat.le_of_ble_eq_true rfl)⟩) ⟨fun a U g mk q => by obtain ⟨q0, q1, qK, qE⟩ := q; exact ⟨q0, q1, va_K.moved (u := U) (U := U.calling g mk a) (Vm.Alike.refl U.vm) qK, EVC.blind g mk a qE⟩, fun U hU hW => ⟨rfl, hU, va_K.moved hW.alike hK, hE.call hS hFc hU hW⟩⟩ rfl rfl hl.1 rfl (lv_room (Nat.le_of_ble_eq_true rfl)) dX11_weather_42 ⟨(Nat.le_of_ble_eq_true rfl), (Nat.le_of_ble_eq_true rfl)⟩) hS (fun q _ h => hFc q h) hFc (fun q _ h => hFc q h) (fun E ce q9 u t H locs ht hvm _ hw64 _ _ hS hce hcv hcl => ?_) (fun u t H locs ht hvm hw64 hB _ _ hS => ?_)
        · obtain ⟨hw64, hxf, hTx, hFx⟩ := hw64; rw [ht] at hTx hFx
          exact vx_out (fun x h => (hnt x h).elim) hlocks hce hcv hcl (fun t2 h2 hW => ⟨(), trivial, ⟨((fun h9 => h9) hw64), (⟨hw64, (by have := weC_s p0.toInt p1.toInt p2.toInt; first | omega | exact hxf.elim)⟩), by rw [h2]; exact hTx, by rw [h2]; exact hF.more hFx (by decide), by rw [h2]; exact (hFx.fld hr_wi skc_130 (k := 2) (by decide) (by decide)).trans m40, by rw [h2]; exact (hFx.fld hr_ra skc_12 (k := 2) (by decide) (by decide)).trans m44, by rw [h2]; exact m45.kept (hFx.arr hr_wh skc_131 (by decide)), by rw [h2]; exact m46.kept (hFx.arr hr_wn skc_132 (by decide)), by rw [h2]; exact m47.kept (hFx.arr hr_rh skc_23 (by decide)), by rw [h2]; exact m48.kept (hFx.arr hr_rn skc_24 (by decide))⟩, hS.F h2⟩) hS.2.2 (by decide) (by decide)
        · obtain ⟨hT, hF1⟩ := hB
          rw [ht] at hT hF1
          have m65 := (hF1.fld hr_o0 skc_14 (k := 1) (by decide) (by decide)).trans m35
          have m66 := (hF1.fld hr_lk skc_6 (k := 0) (by decide) (by decide)).trans m36
          have m67 := (hF1.fld hr_sk skc_11 (k := 4) (by decide) (by decide)).trans m37
          have m68 := (hF1.fld hr_wi skc_130 (k := 0) (by decide) (by decide)).trans m38
          have m69 := (hF1.fld hr_wi skc_130 (k := 1) (by decide) (by decide)).trans m39
          have m70 := (hF1.fld hr_wi skc_130 (k := 2) (by decide) (by decide)).trans m40
          have m74 := (hF1.fld hr_ra skc_12 (k := 2) (by decide) (by decide)).trans m44
          have m75 := m45.kept (hF1.arr hr_wh skc_131 (by decide))
          have m76 := m46.kept (hF1.arr hr_wn skc_132 (by decide))
          have m77 := m47.kept (hF1.arr hr_rh skc_23 (by decide))
          have m78 := m48.kept (hF1.arr hr_rn skc_24 (by decide))
          have hF := hF.more hF1 (by decide)
          try dsimp only at hw64
          refine lv_iload_n hx hb dX11_weather_45 rfl (lv_at hl 1 rfl) ?_
          refine lv_if_eq (tgt := 62) hx hb dX11_weather_46 (by decide) (fun c79 => ?_) (fun c79 => (by exfalso; have q9 : p0.toInt ≠ 0 := ti_ne c79 rfl (by decide); omega))
          have t80 : p0.toInt = 0 := ti_eq c79 rfl (by decide)
          refine lv_aload_n hx hb dX11_weather_62 rfl (lv_at hl 0 rfl) ?_
          refine tw_getM (v := .ref lk) hx hb hts bF2_X11 hown hK hT hr_o0 shc_14 rfl 1 (by decide) (ht_at2 hts 10 rfl) (fun _ h9 => h9) m65 dX11_weather_63 ?_
          refine tw_getNM (v := .ref sk) hx hb hts bF2_X3 hown hK hT hr_lk shc_6 rfl 0 (by decide) (hE.nw 3 rfl) (fun _ h9 => h9) m66 dX11_weather_66 ?_
          refine tw_getNM (v := .ref wi) hx hb hts bF2_X8 hown hK hT hr_sk shc_11 rfl 4 (by decide) (hE.nw 7 rfl) (fun _ h9 => h9) m67 dX11_weather_69 ?_
          refine lv_astore (lv' := [(4, .ref wi), (0, .ref o0), (1, .int p0), (2, .int p1), (3, .int p2)]) hx hb dX11_weather_72 hl (by decide) rfl (fun ls hl => ?_)
          refine lv_aload hx hb dX11_weather_74 (lv_at hl 0 rfl) ?_
          refine tw_getNM (v := .int nw) hx hb hts bF2_X9 hown hK hT hr_wi shc_130 rfl 2 (by decide) (hE.nw 8 rfl) (fun _ h9 => h9) m70 dX11_weather_76 ?_
          refine lv_bipush (v := 60) hx hb dX11_weather_79 (by decide) ?_
          refine lv_icmp_ne (tgt := 86) hx hb dX11_weather_81 (by decide) (fun c81 => ?_) (fun c81 => ?_)
          · have t82 : nw.toInt ≠ 60 := ti_ne c81 rfl (by decide)
            refine lv_aload_n hx hb dX11_weather_86 rfl (lv_at hl 1 rfl) ?_
            refine tw_get hx hb hts bF2_X11 hown hK hT hr_o0 shc_14 rfl 2 (by decide) (ht_at2 hts 11 rfl) (fun _ h9 => h9) dX11_weather_87 (fun v9 m83 h9 => ?_)
            obtain ⟨b84, rfl, hg85⟩ := h9 _ rfl
            have hFc := gA_free hG hA hS
            refine va_callv (va_runV (As := []) (rest := []) ⟨hx, hb, hml, hown, hts⟩ (c_forget l dC dI kA adK adV G H nC nS b84 hT hg85 (by omega) (by omega)) (cwV 0 hts (goodIn_app (goodIn_r _ [16, 17, 18, 19] rfl (by decide +kernel)) (goodIn_ca (goodIn_r _ [13, 14, 15] rfl (by decide +kernel)) (bs2_in _ _))) rfl rfl rfl (by decide +kernel) ⟨(Nat.le_of_ble_eq_true rfl), (Nat.le_of_ble_eq_true rfl)⟩) ⟨fun a U g mk q => by obtain ⟨q0, q1, qK, qE⟩ := q; exact ⟨q0, q1, va_K.moved (u := U) (U := U.calling g mk a) (Vm.Alike.refl U.vm) qK, EVC.blind g mk a qE⟩, gH_rc hK hT hg85 shc_9 rfl, fun U hU hW => ⟨rfl, hU, va_K.moved hW.alike hK, hE.call hS hFc hU hW⟩⟩ rfl rfl hl.1 rfl (lv_room (Nat.le_of_ble_eq_true rfl)) dX11_weather_90 ⟨(Nat.le_of_ble_eq_true rfl), (Nat.le_of_ble_eq_true rfl)⟩) hS (fun q _ h => hFc q h) hFc (fun u t H locs ht hvm hw87 hB _ _ hS => ?_)
            obtain ⟨hT, hF1⟩ := hB
            rw [ht] at hT hF1
            have m91 := (hF1.fld hr_wi skc_130 (k := 0) (by decide) (by decide)).trans m68
            have m92 := (hF1.fld hr_wi skc_130 (k := 1) (by decide) (by decide)).trans m69
            have m93 := (hF1.fld hr_wi skc_130 (k := 2) (by decide) (by decide)).trans m70
            have m97 := (hF1.fld hr_ra skc_12 (k := 2) (by decide) (by decide)).trans m74
            have m98 := m75.kept (hF1.arr hr_wh skc_131 (by decide))
            have m99 := m76.kept (hF1.arr hr_wn skc_132 (by decide))
            have m100 := m77.kept (hF1.arr hr_rh skc_23 (by decide))
            have m101 := m78.kept (hF1.arr hr_rn skc_24 (by decide))
            have hF := hF.more hF1 (by decide)
            try dsimp only at hw87
            refine lv_aload hx hb dX11_weather_93 (lv_at hl 0 rfl) ?_
            refine lv_iload_n hx hb dX11_weather_95 rfl (lv_at hl 3 rfl) ?_
            refine lv_iload_n hx hb dX11_weather_96 rfl (lv_at hl 4 rfl) ?_
            have hFc := gA_free hG hA hS
            refine va_calli (va_runV (As := [.int p1, .int p2]) (rest := []) ⟨hx, hb, hml, hown, hts⟩ (c_tellW9Y l dC dI kA adK adV G H nC nS wi p1 p2 wh wn nw VH VN hT hr_wi m91 hr_wh m92 hr_wn m93 (by have q8 := ti_all nw; omega) m98 m99 (by omega) (by omega)) (cwV 2 hts (goodIn_app (goodIn_r _ [24, 25, 26, 27] rfl (by decide +kernel)) (goodIn_ca (goodIn_r _ [20, 21, 22, 23] rfl (by decide +kernel)) (bs2_in _ _))) rfl rfl rfl (by decide +kernel) ⟨(Nat.le_of_ble_eq_true rfl), (Nat.le_of_ble_eq_true rfl)⟩) ⟨fun a U g mk q => by obtain ⟨q0, q1, qK, qE⟩ := q; exact ⟨q0, q1, va_K.moved (u := U) (U := U.calling g mk a) (Vm.Alike.refl U.vm) qK, EVC.blind g mk a qE⟩, gH_rc hK hT hr_wi shc_130 rfl, fun U hU hW => ⟨rfl, hU, va_K.moved hW.alike hK, hE.call hS hFc hU hW⟩⟩ rfl rfl hl.1 rfl (lv_room (Nat.le_of_ble_eq_true rfl)) dX11_weather_97 ⟨(Nat.le_of_ble_eq_true rfl), (Nat.le_of_ble_eq_true rfl)⟩) hS (fun q _ h => hFc q h) hFc (fun r103 u t H locs ht hvm hw104 hB _ _ hS => ?_)
            obtain ⟨u105, rfl⟩ : ∃ z, z = u := ⟨_, rfl⟩
            obtain ⟨hT, hF1, m106, m107, m108⟩ := hB
            rw [ht] at hT hF1 m106 m107 m108
            have m118 := (hF1.fld hr_ra skc_12 (k := 2) (by decide) (by decide)).trans m97
            have m121 := m100.kept (hF1.arr hr_rh skc_23 (by decide))
            have m122 := m101.kept (hF1.arr hr_rn skc_24 (by decide))
            have hF := hF.more hF1 (by decide)
            try dsimp only at hw104
            obtain ⟨h124, hf125⟩ := hw104
            refine W.widen (k := 1) (n := 6) (by decide) (by decide) ?_
            exact vx_ret (W.iret (v := r103) hx hb hr (fun t ht hW => ⟨⟨r103, (u105, nr, (cu (tlV VH p1 nw.toNatClampNeg) nw.toNatClampNeg p1), (cu VN nw.toNatClampNeg p2), VR, VQ), rfl, (by exact ⟨(by have q8 := ti_all r103; omega), (by have := weC_s p0.toInt p1.toInt p2.toInt; omega), (by first | exact Or.inl ⟨by omega, Or.inr ⟨by omega, by omega, by omega, by omega, rfl, rfl, rfl, rfl⟩⟩ | exact Or.inr ⟨by omega, Or.inr ⟨by omega, by omega, by omega, by omega, rfl, rfl, rfl, rfl⟩⟩)⟩), by (try dsimp only); rw [ht]; exact ⟨hT, hF, m106, m118, m107, m108, m121, m122⟩⟩, hS.F ht⟩) hS.2.2 dX11_weather_100)
          · have t126 : nw.toInt = 60 := ti_eq c81 rfl (by decide)
            refine lv_iconst (v := (-1)) hx hb dX11_weather_84 (by decide) ?_
            refine W.widen (k := 1) (n := 6) (by decide) (by decide) ?_
            exact vx_ret (W.iret (v := (-1)) hx hb hr (fun t ht hW => ⟨⟨(-1), (nw, nr, VH, VN, VR, VQ), rfl, (by exact ⟨(rg_t (a := (-1)) (by decide) (by first | decide | omega) (by first | decide | omega)), (by have := weC_s p0.toInt p1.toInt p2.toInt; omega), (by first | exact Or.inl ⟨by omega, Or.inl ⟨by omega, by decide, by omega, by omega, rfl, rfl, rfl, rfl⟩⟩ | exact Or.inr ⟨by omega, Or.inl ⟨by omega, by decide, by omega, by omega, rfl, rfl, rfl, rfl⟩⟩)⟩), by (try dsimp only); rw [ht]; exact ⟨hT, hF, m70, m74, m75, m76, m77, m78⟩⟩, hS.F ht⟩) hS.2.2 dX11_weather_85)
    · have t127 : p0.toInt ≠ 0 := ti_ne c31 rfl (by decide)
      refine lv_iload_n hx hb dX11_weather_14 rfl (lv_at hl 3 rfl) ?_
      refine lv_iconst (v := 0) hx hb dX11_weather_15 (by decide) ?_
      refine lv_bipush (v := 20) hx hb dX11_weather_16 (by decide) ?_
      have hFc := gA_free hG hA hS
      refine va_calli (va_runS (As := [.int p2, .int 0, .int 20]) (rest := []) ⟨hx, hb, hml, hown, hts⟩ (c_within l dC dI kA adK adV G H nC nS p2 0 20 hT (by omega) (by omega)) (va_cwS 3 hts (goodIn_app (goodIn_r _ [3, 4, 5] rfl (by decide +kernel)) (goodIn_ca (goodIn_r _ [2] rfl (by decide +kernel)) (bs2_in _ _))) rfl rfl rfl (by decide +kernel) ⟨(Nat.le_of_ble_eq_true rfl), (Nat.le_of_ble_eq_true rfl)⟩) ⟨fun a U g mk q => by obtain ⟨q0, q1, qK, qE⟩ := q; exact ⟨q0, q1, va_K.moved (u := U) (U := U.calling g mk a) (Vm.Alike.refl U.vm) qK, EVC.blind g mk a qE⟩, fun U hU hW => ⟨rfl, hU, va_K.moved hW.alike hK, hE.call hS hFc hU hW⟩⟩ rfl rfl hl.1 rfl (lv_room (Nat.le_of_ble_eq_true rfl)) dX11_weather_18 ⟨(Nat.le_of_ble_eq_true rfl), (Nat.le_of_ble_eq_true rfl)⟩) hS (fun q _ h => hFc q h) hFc (fun r128 u t H locs ht hvm hw129 hB _ _ hS => ?_)
      obtain ⟨hT, hF1⟩ := hB
      rw [ht] at hT hF1
      have m130 := (hF1.fld hr_o0 skc_14 (k := 1) (by decide) (by decide)).trans m3
      have m131 := (hF1.fld hr_lk skc_6 (k := 0) (by decide) (by decide)).trans m4
      have m135 := (hF1.fld hr_wi skc_130 (k := 2) (by decide) (by decide)).trans m8
      have m136 := (hF1.fld hr_sk skc_11 (k := 5) (by decide) (by decide)).trans m9
      have m137 := (hF1.fld hr_ra skc_12 (k := 0) (by decide) (by decide)).trans m10
      have m138 := (hF1.fld hr_ra skc_12 (k := 1) (by decide) (by decide)).trans m11
      have m139 := (hF1.fld hr_ra skc_12 (k := 2) (by decide) (by decide)).trans m12
      have m140 := m13.kept (hF1.arr hr_wh skc_131 (by decide))
      have m141 := m14.kept (hF1.arr hr_wn skc_132 (by decide))
      have m142 := m15.kept (hF1.arr hr_rh skc_23 (by decide))
      have m143 := m16.kept (hF1.arr hr_rn skc_24 (by decide))
      have hF := hF.more hF1 (by decide)
      try dsimp only at hw129
      obtain ⟨h144, hi145, hi146⟩ := hw129
      refine lv_if_eq (tgt := 41) hx hb dX11_weather_21 (by decide) (fun c147 => ?_) (fun c147 => ?_)
      · have t148 : r128.toInt = 0 := ti_eq c147 rfl (by decide)
        have t149 : (0 : Int32).toInt = 0 := by decide
        have t150 : (20 : Int32).toInt = 20 := by decide
        have t151 : p2.toInt < (0 : Int32).toInt ∨ (20 : Int32).toInt < p2.toInt := hi146 c147
        refine lv_iconst (v := 0) hx hb dX11_weather_41 (by decide) ?_
        have hFc := gA_free hG hA hS
        refine vx_callN (vx_runS (As := [.int 0]) (rest := []) ⟨hx, hb, hml, hown, hts⟩ (c_needNumbers0 l hlt dC dI kA adK adV G H nC nS hT (by omega) (by omega)) (va_cwS 1 hts (goodIn_app (goodIn_r _ [9, 10, 5] rfl (by decide +kernel)) (goodIn_ca (goodIn_r _ [6, 7, 8] rfl (by decide +kernel)) (bs2_in _ _))) rfl rfl rfl (by decide +kernel) ⟨(Nat.le_of_ble_eq_true rfl), (Nat.le_of_ble_eq_true rfl)⟩) ⟨fun a U g mk q => by obtain ⟨q0, q1, qK, qE⟩ := q; exact ⟨q0, q1, va_K.moved (u := U) (U := U.calling g mk a) (Vm.Alike.refl U.vm) qK, EVC.blind g mk a qE⟩, fun U hU hW => ⟨rfl, hU, va_K.moved hW.alike hK, hE.call hS hFc hU hW⟩⟩ rfl rfl hl.1 rfl (lv_room (Nat.le_of_ble_eq_true rfl)) dX11_weather_42 ⟨(Nat.le_of_ble_eq_true rfl), (Nat.le_of_ble_eq_true rfl)⟩) hS hFc (fun q _ h => hFc q h) (fun E ce q9 u t H locs ht hvm _ hw153 _ _ hS hce hcv hcl => ?_)
        obtain ⟨hw153, hTx, hFx⟩ := hw153; rw [ht] at hTx hFx
        exact vx_out (fun x h => (hnt x h).elim) hlocks hce hcv hcl (fun t2 h2 hW => ⟨(), trivial, ⟨((fun h9 => h9) hw153), (⟨hw153, (by have := weC_s p0.toInt p1.toInt p2.toInt; first | omega | exact hxf.elim)⟩), by rw [h2]; exact hTx, by rw [h2]; exact hF.more hFx (by decide), by rw [h2]; exact (hFx.fld hr_wi skc_130 (k := 2) (by decide) (by decide)).trans m135, by rw [h2]; exact (hFx.fld hr_ra skc_12 (k := 2) (by decide) (by decide)).trans m139, by rw [h2]; exact m140.kept (hFx.arr hr_wh skc_131 (by decide)), by rw [h2]; exact m141.kept (hFx.arr hr_wn skc_132 (by decide)), by rw [h2]; exact m142.kept (hFx.arr hr_rh skc_23 (by decide)), by rw [h2]; exact m143.kept (hFx.arr hr_rn skc_24 (by decide))⟩, hS.F h2⟩) hS.2.2 (by decide) (by decide)
      · have t154 : r128.toInt ≠ 0 := ti_ne c147 rfl (by decide)
        have t155 : (0 : Int32).toInt = 0 := by decide
        have t156 : (20 : Int32).toInt = 20 := by decide
        have t157 : (0 : Int32).toInt ≤ p2.toInt ∧ p2.toInt ≤ (20 : Int32).toInt := hi145 ((bit_of ⟨by omega, by omega⟩).resolve_left c147)
        refine lv_goto (tgt := 37) hx hb dX11_weather_24 (by decide) ?_
        refine lv_iconst (v := 1) hx hb dX11_weather_37 (by decide) ?_
        refine lv_goto (tgt := 42) hx hb dX11_weather_38 (by decide) ?_
        have hFc := gA_free hG hA hS
        refine vx_callv (vx_runS (As := [.int 1]) (rest := []) ⟨hx, hb, hml, hown, hts⟩ (c_needNumbers1X l hlt dC dI kA adK adV G H nC nS hT (by omega) (by omega)) (va_cwS 1 hts (goodIn_app (goodIn_r _ [9, 10, 5] rfl (by decide +kernel)) (goodIn_ca (goodIn_r _ [6] rfl (by decide +kernel)) (bs2_in _ _))) rfl rfl rfl (by decide +kernel) ⟨(Nat.le_of_ble_eq_true rfl), (Nat.le_of_ble_eq_true rfl)⟩) ⟨fun a U g mk q => by obtain ⟨q0, q1, qK, qE⟩ := q; exact ⟨q0, q1, va_K.moved (u := U) (U := U.calling g mk a) (Vm.Alike.refl U.vm) qK, EVC.blind g mk a qE⟩, fun U hU hW => ⟨rfl, hU, va_K.moved hW.alike hK, hE.call hS hFc hU hW⟩⟩ rfl rfl hl.1 rfl (lv_room (Nat.le_of_ble_eq_true rfl)) dX11_weather_42 ⟨(Nat.le_of_ble_eq_true rfl), (Nat.le_of_ble_eq_true rfl)⟩) hS (fun q _ h => hFc q h) hFc (fun q _ h => hFc q h) (fun E ce q9 u t H locs ht hvm _ hw159 _ _ hS hce hcv hcl => ?_) (fun u t H locs ht hvm hw159 hB _ _ hS => ?_)
        · obtain ⟨hw159, hxf, hTx, hFx⟩ := hw159; rw [ht] at hTx hFx
          exact vx_out (fun x h => (hnt x h).elim) hlocks hce hcv hcl (fun t2 h2 hW => ⟨(), trivial, ⟨((fun h9 => h9) hw159), (⟨hw159, (by have := weC_s p0.toInt p1.toInt p2.toInt; first | omega | exact hxf.elim)⟩), by rw [h2]; exact hTx, by rw [h2]; exact hF.more hFx (by decide), by rw [h2]; exact (hFx.fld hr_wi skc_130 (k := 2) (by decide) (by decide)).trans m135, by rw [h2]; exact (hFx.fld hr_ra skc_12 (k := 2) (by decide) (by decide)).trans m139, by rw [h2]; exact m140.kept (hFx.arr hr_wh skc_131 (by decide)), by rw [h2]; exact m141.kept (hFx.arr hr_wn skc_132 (by decide)), by rw [h2]; exact m142.kept (hFx.arr hr_rh skc_23 (by decide)), by rw [h2]; exact m143.kept (hFx.arr hr_rn skc_24 (by decide))⟩, hS.F h2⟩) hS.2.2 (by decide) (by decide)
        · obtain ⟨hT, hF1⟩ := hB
          rw [ht] at hT hF1
          have m160 := (hF1.fld hr_o0 skc_14 (k := 1) (by decide) (by decide)).trans m130
          have m161 := (hF1.fld hr_lk skc_6 (k := 0) (by decide) (by decide)).trans m131
          have m165 := (hF1.fld hr_wi skc_130 (k := 2) (by decide) (by decide)).trans m135
          have m166 := (hF1.fld hr_sk skc_11 (k := 5) (by decide) (by decide)).trans m136
          have m167 := (hF1.fld hr_ra skc_12 (k := 0) (by decide) (by decide)).trans m137
          have m168 := (hF1.fld hr_ra skc_12 (k := 1) (by decide) (by decide)).trans m138
          have m169 := (hF1.fld hr_ra skc_12 (k := 2) (by decide) (by decide)).trans m139
          have m170 := m140.kept (hF1.arr hr_wh skc_131 (by decide))
          have m171 := m141.kept (hF1.arr hr_wn skc_132 (by decide))
          have m172 := m142.kept (hF1.arr hr_rh skc_23 (by decide))
          have m173 := m143.kept (hF1.arr hr_rn skc_24 (by decide))
          have hF := hF.more hF1 (by decide)
          try dsimp only at hw159
          refine lv_iload_n hx hb dX11_weather_45 rfl (lv_at hl 1 rfl) ?_
          refine lv_if_eq (tgt := 62) hx hb dX11_weather_46 (by decide) (fun c174 => (by exfalso; have q9 : p0.toInt = 0 := ti_eq c174 rfl (by decide); omega)) (fun c174 => ?_)
          have t175 : p0.toInt ≠ 0 := ti_ne c174 rfl (by decide)
          refine lv_aload_n hx hb dX11_weather_49 rfl (lv_at hl 0 rfl) ?_
          refine tw_getM (v := .ref lk) hx hb hts bF2_X11 hown hK hT hr_o0 shc_14 rfl 1 (by decide) (ht_at2 hts 10 rfl) (fun _ h9 => h9) m160 dX11_weather_50 ?_
          refine tw_getNM (v := .ref sk) hx hb hts bF2_X3 hown hK hT hr_lk shc_6 rfl 0 (by decide) (hE.nw 3 rfl) (fun _ h9 => h9) m161 dX11_weather_53 ?_
          refine tw_getNM (v := .ref ra) hx hb hts bF2_X8 hown hK hT hr_sk shc_11 rfl 5 (by decide) (hE.nw 6 rfl) (fun _ h9 => h9) m166 dX11_weather_56 ?_
          refine lv_goto (tgt := 72) hx hb dX11_weather_59 (by decide) ?_
          refine lv_astore (lv' := [(4, .ref ra), (0, .ref o0), (1, .int p0), (2, .int p1), (3, .int p2)]) hx hb dX11_weather_72 hl (by decide) rfl (fun ls hl => ?_)
          refine lv_aload hx hb dX11_weather_74 (lv_at hl 0 rfl) ?_
          refine tw_getNM (v := .int nr) hx hb hts bF2_X9 hown hK hT hr_ra shc_12 rfl 2 (by decide) (hE.nw 8 rfl) (fun _ h9 => h9) m169 dX11_weather_76 ?_
          refine lv_bipush (v := 60) hx hb dX11_weather_79 (by decide) ?_
          refine lv_icmp_ne (tgt := 86) hx hb dX11_weather_81 (by decide) (fun c176 => ?_) (fun c176 => ?_)
          · have t177 : nr.toInt ≠ 60 := ti_ne c176 rfl (by decide)
            refine lv_aload_n hx hb dX11_weather_86 rfl (lv_at hl 1 rfl) ?_
            refine tw_get hx hb hts bF2_X11 hown hK hT hr_o0 shc_14 rfl 2 (by decide) (ht_at2 hts 11 rfl) (fun _ h9 => h9) dX11_weather_87 (fun v9 m178 h9 => ?_)
            obtain ⟨b179, rfl, hg180⟩ := h9 _ rfl
            have hFc := gA_free hG hA hS
            refine va_callv (va_runV (As := []) (rest := []) ⟨hx, hb, hml, hown, hts⟩ (c_forget l dC dI kA adK adV G H nC nS b179 hT hg180 (by omega) (by omega)) (cwV 0 hts (goodIn_app (goodIn_r _ [16, 17, 18, 19] rfl (by decide +kernel)) (goodIn_ca (goodIn_r _ [13, 14, 15] rfl (by decide +kernel)) (bs2_in _ _))) rfl rfl rfl (by decide +kernel) ⟨(Nat.le_of_ble_eq_true rfl), (Nat.le_of_ble_eq_true rfl)⟩) ⟨fun a U g mk q => by obtain ⟨q0, q1, qK, qE⟩ := q; exact ⟨q0, q1, va_K.moved (u := U) (U := U.calling g mk a) (Vm.Alike.refl U.vm) qK, EVC.blind g mk a qE⟩, gH_rc hK hT hg180 shc_9 rfl, fun U hU hW => ⟨rfl, hU, va_K.moved hW.alike hK, hE.call hS hFc hU hW⟩⟩ rfl rfl hl.1 rfl (lv_room (Nat.le_of_ble_eq_true rfl)) dX11_weather_90 ⟨(Nat.le_of_ble_eq_true rfl), (Nat.le_of_ble_eq_true rfl)⟩) hS (fun q _ h => hFc q h) hFc (fun u t H locs ht hvm hw182 hB _ _ hS => ?_)
            obtain ⟨hT, hF1⟩ := hB
            rw [ht] at hT hF1
            have m188 := (hF1.fld hr_wi skc_130 (k := 2) (by decide) (by decide)).trans m165
            have m190 := (hF1.fld hr_ra skc_12 (k := 0) (by decide) (by decide)).trans m167
            have m191 := (hF1.fld hr_ra skc_12 (k := 1) (by decide) (by decide)).trans m168
            have m192 := (hF1.fld hr_ra skc_12 (k := 2) (by decide) (by decide)).trans m169
            have m193 := m170.kept (hF1.arr hr_wh skc_131 (by decide))
            have m194 := m171.kept (hF1.arr hr_wn skc_132 (by decide))
            have m195 := m172.kept (hF1.arr hr_rh skc_23 (by decide))
            have m196 := m173.kept (hF1.arr hr_rn skc_24 (by decide))
            have hF := hF.more hF1 (by decide)
            try dsimp only at hw182
            refine lv_aload hx hb dX11_weather_93 (lv_at hl 0 rfl) ?_
            refine lv_iload_n hx hb dX11_weather_95 rfl (lv_at hl 3 rfl) ?_
            refine lv_iload_n hx hb dX11_weather_96 rfl (lv_at hl 4 rfl) ?_
            have hFc := gA_free hG hA hS
            refine va_calli (va_runV (As := [.int p1, .int p2]) (rest := []) ⟨hx, hb, hml, hown, hts⟩ (c_tellX9Y l dC dI kA adK adV G H nC nS ra p1 p2 rh rn nr VR VQ hT hr_ra m190 hr_rh m191 hr_rn m192 (by have q8 := ti_all nr; omega) m195 m196 (by omega) (by omega)) (cwV 2 hts (goodIn_app (goodIn_r _ [24, 25, 26, 27] rfl (by decide +kernel)) (goodIn_ca (goodIn_r _ [20, 21, 22, 23] rfl (by decide +kernel)) (bs2_in _ _))) rfl rfl rfl (by decide +kernel) ⟨(Nat.le_of_ble_eq_true rfl), (Nat.le_of_ble_eq_true rfl)⟩) ⟨fun a U g mk q => by obtain ⟨q0, q1, qK, qE⟩ := q; exact ⟨q0, q1, va_K.moved (u := U) (U := U.calling g mk a) (Vm.Alike.refl U.vm) qK, EVC.blind g mk a qE⟩, gH_rc hK hT hr_ra shc_12 rfl, fun U hU hW => ⟨rfl, hU, va_K.moved hW.alike hK, hE.call hS hFc hU hW⟩⟩ rfl rfl hl.1 rfl (lv_room (Nat.le_of_ble_eq_true rfl)) dX11_weather_97 ⟨(Nat.le_of_ble_eq_true rfl), (Nat.le_of_ble_eq_true rfl)⟩) hS (fun q _ h => hFc q h) hFc (fun r198 u t H locs ht hvm hw199 hB _ _ hS => ?_)
            obtain ⟨u200, rfl⟩ : ∃ z, z = u := ⟨_, rfl⟩
            obtain ⟨hT, hF1, m201, m202, m203⟩ := hB
            rw [ht] at hT hF1 m201 m202 m203
            have m209 := (hF1.fld hr_wi skc_130 (k := 2) (by decide) (by decide)).trans m188
            have m214 := m193.kept (hF1.arr hr_wh skc_131 (by decide))
            have m215 := m194.kept (hF1.arr hr_wn skc_132 (by decide))
            have hF := hF.more hF1 (by decide)
            try dsimp only at hw199
            obtain ⟨h219, hf220⟩ := hw199
            refine W.widen (k := 1) (n := 6) (by decide) (by decide) ?_
            exact vx_ret (W.iret (v := r198) hx hb hr (fun t ht hW => ⟨⟨r198, (nw, u200, VH, VN, (cu (tlV VR p1 nr.toNatClampNeg) nr.toNatClampNeg p1), (cu VQ nr.toNatClampNeg p2)), rfl, (by exact ⟨(by have q8 := ti_all r198; omega), (by have := weC_s p0.toInt p1.toInt p2.toInt; omega), (by first | exact Or.inl ⟨by omega, Or.inr ⟨by omega, by omega, by omega, by omega, rfl, rfl, rfl, rfl⟩⟩ | exact Or.inr ⟨by omega, Or.inr ⟨by omega, by omega, by omega, by omega, rfl, rfl, rfl, rfl⟩⟩)⟩), by (try dsimp only); rw [ht]; exact ⟨hT, hF, m209, m201, m214, m215, m202, m203⟩⟩, hS.F ht⟩) hS.2.2 dX11_weather_100)
          · have t221 : nr.toInt = 60 := ti_eq c176 rfl (by decide)
            refine lv_iconst (v := (-1)) hx hb dX11_weather_84 (by decide) ?_
            refine W.widen (k := 1) (n := 6) (by decide) (by decide) ?_
            exact vx_ret (W.iret (v := (-1)) hx hb hr (fun t ht hW => ⟨⟨(-1), (nw, nr, VH, VN, VR, VQ), rfl, (by exact ⟨(rg_t (a := (-1)) (by decide) (by first | decide | omega) (by first | decide | omega)), (by have := weC_s p0.toInt p1.toInt p2.toInt; omega), (by first | exact Or.inl ⟨by omega, Or.inl ⟨by omega, by decide, by omega, by omega, rfl, rfl, rfl, rfl⟩⟩ | exact Or.inr ⟨by omega, Or.inl ⟨by omega, by decide, by omega, by omega, rfl, rfl, rfl, rfl⟩⟩)⟩), by (try dsimp only); rw [ht]; exact ⟨hT, hF, m165, m169, m170, m171, m172, m173⟩⟩, hS.F ht⟩) hS.2.2 dX11_weather_85)
def w_l_tideY : List Cond := .codeWith yL_tide cL_tide 4 (some .int) [(0, 6, 9, 15)] :: (HAppend.hAppend (α := List Cond) (β := List Cond) (γ := List Cond) [.code yX11_tide cX11_tide 3 none, .code yX11_within cX11_within 3 (some .boolean), .methodLink RX11 58 yX11_within, .static yX11_within, .initialized RX11, .code yX11_needNumbers cX11_needNumbers 1 none, .classLink RX11 547 "java/lang/IllegalArgumentException", .initialized "java/lang/IllegalArgumentException", .methodLink RX11 62 yX11_needNumbers, .static yX11_needNumbers, .fieldLink RX11 23 "SeaLand" "rows" "LSeaLand$Rows;", .code yX6_forget cX6_forget 1 none, .fieldLink RX6 18 "SeaLand$Rows" "kept" "I", .fieldLink RX6 22 "SeaLand$Rows" "oldest" "I", .methodLink RX11 76 yX6_forget, .instanceMethod yX6_forget, .selects RX6 yX6_forget yX6_forget, .initialized RX6, .fieldLink RX11 16 "SeaLand" "lake" "LSeaLand$Lake;", .methodLink RL 23 yX11_tide, .instanceMethod yX11_tide, .selects RX11 yX11_tide yX11_tide, .classLink RL 15 "java/lang/IllegalArgumentException"] bs2)
set_option maxHeartbeats 4000000 in
set_option maxRecDepth 100000 in
theorem l_tideY (l : Launch) (hlt : l.stackTraces = false) (dC : Nat → ClassId) (dI : Nat → Nat → Nat) (kA : Nat → ClassId) (adK adV : Nat → Nat) (G : gT) (H0 : Heap) (nC nS : Int) (o0 : Nat) (p1 : Int32) (p2 : Int32) (lk : Nat) (sk : Nat) (ti : Nat) (VT : Nat → Int32) (hT : gH (dC, dI) kA (SHc nC nS) G H0) (hr_o0 : G o0 = some 14) (hm_lk : el H0 o0 (dI 14 1) = some (.ref lk)) (hr_lk : G lk = some 6) (hm_sk : el H0 lk (dI 6 0) = some (.ref sk)) (hr_sk : G sk = some 11) (hm_ti : el H0 sk (dI 11 0) = some (.ref ti)) (hr_ti : G ti = some 19) (hc_VT : ct H0 ti 12 VT) (hgC : 0 ≤ nC ∧ nC ≤ 40) (hgS : 0 ≤ nS ∧ nS ≤ 60) : Met l yL_tide w_l_tideY ({ frames := 8, cells := 1, slots := 6, locals := 142 }) (va_Pc [.ref o0, .int p1, .int p2] (fun U => U.heap = H0 ∧ va_K (dC, dI) vwCl (tyl kA) U ∧ EVC adK adV (gA G H0.size) U U.heap ∧ NC U)) (va_Qi (fun (r : Int32) (u : (Nat → Int32)) => (0 ≤ r.toInt ∧ r.toInt ≤ 1) ∧ (r.toInt = tiC p1.toInt p2.toInt) ∧ ((tiC p1.toInt p2.toInt = 0 ∧ u = cu VT p1.toNatClampNeg p2) ∨ (tiC p1.toInt p2.toInt ≠ 0 ∧ u = VT))) (fun (V1 : (Nat → Int32)) (t : State) => gH (dC, dI) kA (SHc nC nS) G t.heap ∧ gF (dC, dI) SKc G ([(9, 2), (9, 3), (19, 0)] : List (Nat × Nat)) H0 t.heap ∧ ct t.heap ti 12 V1) (gA G H0.size)) 1 6 (gA G H0.size) := by
  refine va_MetW (cc := cL_tide) (maxL := 4) (ret := (some .int)) (by decide) rfl ?_
  intro p e s m args below meth c s₁ B hml hv
  obtain ⟨rfl, hH0, hK, hE, hN⟩ := hv
  have hx := B.exec
  have hb := B.bytes
  have hr := B.returns
  have hts := atoms_spec (ws := w_l_tideY) B.pre
  have hown : s.vm.findClass RL = some m.cls := findClass_of_methodNamed B.named
  have hlocks := B.notSynchronized
  have htab := vx_table (x := yL_tide) B (hts _ List.mem_cons_self)
  subst hH0
  generalize hAe : gA G s.heap.size = A at hE ⊢
  have hA : ∀ q : Nat, s.heap.size ≤ q → A q := fun q h => by rw [← hAe]; exact Or.inr h
  have hG := gA_of hAe
  have hS : va_S A s.heap s.heap [] := va_S.rf
  have hF : gF (dC, dI) SKc G ([(9, 2), (9, 3), (19, 0)] : List (Nat × Nat)) s.heap s.heap := gF.rf
  have hl := lv_entry ([.ref o0, .int p1, .int p2]) (n := 4) (Nat.le_of_ble_eq_true rfl)
  rw [lg_entry_eq]
  generalize (lg_sl ([.ref o0, .int p1, .int p2]) ++ List.replicate (4 - (lg_sl ([.ref o0, .int p1, .int p2])).length) Slot.unset).toArray = ls at hl ⊢
  have hl : lv_has ls 4 [(0, .ref o0), (1, .int p1), (2, .int p2)] := hl
  refine lv_aload_n hx hb dL_tide_0 rfl (lv_at hl 0 rfl) ?_
  refine lv_iload_n hx hb dL_tide_1 rfl (lv_at hl 1 rfl) ?_
  refine lv_iload_n hx hb dL_tide_2 rfl (lv_at hl 2 rfl) ?_
  have hFc := gA_free hG hA hS
  refine vx_callv (vx_runV (As := [.int p1, .int p2]) (rest := []) ⟨hx, hb, hml, hown, hts⟩ (c_tideY l hlt dC dI kA adK adV G s.heap nC nS o0 p1 p2 lk sk ti VT hT hr_o0 hm_lk hr_lk hm_sk hr_sk hm_ti hr_ti hc_VT (by omega) (by omega)) (cwV 2 hts (goodIn_app (goodIn_r _ [20, 21, 22, 5] rfl (by decide +kernel)) (goodIn_ca (goodIn_r _ [1, 2, 3, 4, 5, 6, 7, 8, 9, 10, 11, 12, 13, 14, 15, 16, 17, 18, 19] rfl (by decide +kernel)) (bs2_in _ _))) rfl rfl rfl (by decide +kernel) ⟨(Nat.le_of_ble_eq_true rfl), (Nat.le_of_ble_eq_true rfl)⟩) ⟨fun a U g mk q => by obtain ⟨q0, q1, qK, qE⟩ := q; exact ⟨q0, q1, va_K.moved (u := U) (U := U.calling g mk a) (Vm.Alike.refl U.vm) qK, EVC.blind g mk a qE⟩, gH_rc hK hT hr_o0 shc_14 rfl, fun U hU hW => ⟨rfl, hU, va_K.moved hW.alike hK, hE.call hS hFc hU hW⟩⟩ rfl rfl hl.1 rfl (lv_room (Nat.le_of_ble_eq_true rfl)) dL_tide_3 ⟨(Nat.le_of_ble_eq_true rfl), (Nat.le_of_ble_eq_true rfl)⟩) hS (fun q _ h => hFc q h) hFc (fun q _ h => hFc q h) (fun E ce q9 u t H locs ht hvm _ hw2 _ _ hS hce hcv hcl => ?_) (fun u t H locs ht hvm hw2 hB _ _ hS => ?_)
  · obtain ⟨hw2, hxf, hTx, hFx, hxc0⟩ := hw2; rw [ht] at hTx hFx hxc0
    have hT := hTx; have hF := hF.more hFx (by decide)
    subst hw2
    have hxf := hxf.2
    refine vx_catch (E := "java/lang/IllegalArgumentException") hown [] ⟨0, 6, 9, 15⟩ [] (by rw [htab]; rfl) (fun z h => absurd h List.not_mem_nil) (by decide) (by decide) (ht_at2 hts 22 rfl) (va_Nw.use rfl (hE.1.1.2.1.2.1 _ (List.mem_of_getElem? (i := 1) rfl))) hce hcv hcl ?_
    refine lv_astore_n (lv' := [(3, .ref q9), (0, .ref o0), (1, .int p1), (2, .int p2)]) hx hb dL_tide_9 rfl hl (by decide) rfl (fun ls hl => ?_)
    refine lv_iconst (v := 1) hx hb dL_tide_10 (by decide) ?_
    exact W.iret (v := 1) hx hb hr (fun t ht hW => ⟨⟨1, VT, rfl, (by exact ⟨(rg_t (a := 1) (by decide) (by first | decide | omega) (by first | decide | omega)), (by have : (1 : Int32).toInt = 1 := (by decide); omega), (Or.inr ⟨by omega, rfl⟩)⟩), by (try dsimp only); rw [ht]; exact ⟨hT, hF, hxc0⟩⟩, hS.F ht⟩) hS.2.2 dL_tide_11
  · obtain ⟨hT, hF1, m3⟩ := hB
    rw [ht] at hT hF1 m3
    have hF := hF.more hF1 (by decide)
    try dsimp only at hw2
    have hf8 := hw2
    refine lv_goto (tgt := 12) hx hb dL_tide_6 (by decide) ?_
    refine lv_iconst (v := 0) hx hb dL_tide_12 (by decide) ?_
    exact W.iret (v := 0) hx hb hr (fun t ht hW => ⟨⟨0, (cu VT p1.toNatClampNeg p2), rfl, (by exact ⟨(rg_t (a := 0) (by decide) (by first | decide | omega) (by first | decide | omega)), (by have : (0 : Int32).toInt = 0 := (by decide); omega), (Or.inl ⟨by omega, rfl⟩)⟩), by (try dsimp only); rw [ht]; exact ⟨hT, hF, m3⟩⟩, hS.F ht⟩) hS.2.2 dL_tide_13
def w_l_stormY : List Cond := .codeWith yL_storm cL_storm 6 (some .int) [(0, 12, 15, 15)] :: (HAppend.hAppend (α := List Cond) (β := List Cond) (γ := List Cond) [.code yX11_storm cX11_storm 4 (some .int), .code yX11_needNumbers cX11_needNumbers 1 none, .classLink RX11 547 "java/lang/IllegalArgumentException", .initialized "java/lang/IllegalArgumentException", .methodLink RX11 62 yX11_needNumbers, .static yX11_needNumbers, .initialized RX11, .constant RX11 110 40000, .code yX11_within cX11_within 3 (some .boolean), .methodLink RX11 58 yX11_within, .static yX11_within, .fieldLink RX11 16 "SeaLand" "lake" "LSeaLand$Lake;", .fieldLink RX11 23 "SeaLand" "rows" "LSeaLand$Rows;", .code yX6_forget cX6_forget 1 none, .fieldLink RX6 18 "SeaLand$Rows" "kept" "I", .fieldLink RX6 22 "SeaLand$Rows" "oldest" "I", .methodLink RX11 76 yX6_forget, .instanceMethod yX6_forget, .selects RX6 yX6_forget yX6_forget, .initialized RX6, .code yX8_tellStorm cX8_tellStorm 4 (some .int), .fieldLink RX8 15 "SeaLand$Sky" "stormFrom" "[I", .fieldLink RX8 34 "SeaLand$Sky" "storms" "I", .fieldLink RX8 18 "SeaLand$Sky" "stormTo" "[I", .fieldLink RX8 21 "SeaLand$Sky" "stormMore" "[I", .methodLink RX11 114 yX8_tellStorm, .instanceMethod yX8_tellStorm, .selects RX8 yX8_tellStorm yX8_tellStorm, .initialized RX8, .methodLink RL 27 yX11_storm, .instanceMethod yX11_storm, .selects RX11 yX11_storm yX11_storm, .classLink RL 15 "java/lang/IllegalArgumentException"] bs2)
set_option maxHeartbeats 4000000 in
set_option maxRecDepth 100000 in
theorem l_stormY (l : Launch) (hlt : l.stackTraces = false) (dC : Nat → ClassId) (dI : Nat → Nat → Nat) (kA : Nat → ClassId) (adK adV : Nat → Nat) (G : gT) (H0 : Heap) (nC nS : Int) (o0 : Nat) (p1 : Int32) (p2 : Int32) (p3 : Int32) (ou : Nat) (lk : Nat) (sk : Nat) (sf : Nat) (so : Nat) (sm : Nat) (ns : Int32) (VF : Nat → Int32) (VO : Nat → Int32) (VM : Nat → Int32) (hT : gH (dC, dI) kA (SHc nC nS) G H0) (hr_o0 : G o0 = some 14) (hr_ou : G ou = some 98) (hm_lk : el H0 o0 (dI 14 1) = some (.ref lk)) (hr_lk : G lk = some 6) (hm_sk : el H0 lk (dI 6 0) = some (.ref sk)) (hr_sk : G sk = some 11) (hm_sf : el H0 sk (dI 11 1) = some (.ref sf)) (hr_sf : G sf = some 20) (hm_so : el H0 sk (dI 11 2) = some (.ref so)) (hr_so : G so = some 21) (hm_sm : el H0 sk (dI 11 3) = some (.ref sm)) (hr_sm : G sm = some 22) (hm_ns : el H0 sk (dI 11 6) = some (.int ns)) (hq0 : 0 ≤ ns.toInt ∧ ns.toInt ≤ 20) (hc_VF : ct H0 sf 20 VF) (hc_VO : ct H0 so 20 VO) (hc_VM : ct H0 sm 20 VM) (hgC : 0 ≤ nC ∧ nC ≤ 40) (hgS : 0 ≤ nS ∧ nS ≤ 60) : Met l yL_storm w_l_stormY ({ frames := 8, cells := 1, slots := 6, locals := 143 }) (va_Pc [.ref o0, .int p1, .int p2, .int p3, .ref ou] (fun U => U.heap = H0 ∧ va_K (dC, dI) vwCl (tyl kA) U ∧ EVC adK adV (gA G H0.size) U U.heap ∧ NC U)) (va_Qi (fun (r : Int32) (u : Int32 × (Nat → Int32) × (Nat → Int32) × (Nat → Int32)) => match u with | (ns1, VF1, VO1, VM1) => (0 ≤ r.toInt ∧ r.toInt ≤ 1) ∧ (r.toInt = stC p1.toInt p2.toInt p3.toInt) ∧ ((stC p1.toInt p2.toInt p3.toInt ≠ 0 ∧ ns1.toInt = ns.toInt ∧ VF1 = VF ∧ VO1 = VO ∧ VM1 = VM) ∨ (stC p1.toInt p2.toInt p3.toInt = 0 ∧ ((ns.toInt = 20 ∧ ns1.toInt = ns.toInt ∧ VF1 = VF ∧ VO1 = VO ∧ VM1 = VM) ∨ (ns.toInt ≠ 20 ∧ ns1.toInt = ns.toInt + 1 ∧ VF1 = cu VF ns.toNatClampNeg p1 ∧ VO1 = cu VO ns.toNatClampNeg p2 ∧ VM1 = cu VM ns.toNatClampNeg p3))))) (fun (u : Int32 × (Nat → Int32) × (Nat → Int32) × (Nat → Int32)) (t : State) => match u with | (ns1, VF1, VO1, VM1) => gH (dC, dI) kA (SHc nC nS) G t.heap ∧ gF (dC, dI) SKc G ([(9, 2), (9, 3), (11, 6), (20, 0), (21, 0), (22, 0), (98, 0)] : List (Nat × Nat)) H0 t.heap ∧ el t.heap sk (dI 11 6) = some (.int ns1) ∧ ct t.heap sf 20 VF1 ∧ ct t.heap so 20 VO1 ∧ ct t.heap sm 20 VM1) (gA G H0.size)) 1 6 (gA G H0.size) := by
  refine va_MetW (cc := cL_storm) (maxL := 6) (ret := (some .int)) (by decide) rfl ?_
  intro p e s m args below meth c s₁ B hml hv
  obtain ⟨rfl, hH0, hK, hE, hN⟩ := hv
  have hx := B.exec
  have hb := B.bytes
  have hr := B.returns
  have hts := atoms_spec (ws := w_l_stormY) B.pre
  have hown : s.vm.findClass RL = some m.cls := findClass_of_methodNamed B.named
  have hlocks := B.notSynchronized
  have htab := vx_table (x := yL_storm) B (hts _ List.mem_cons_self)
  subst hH0
  generalize hAe : gA G s.heap.size = A at hE ⊢
  have hA : ∀ q : Nat, s.heap.size ≤ q → A q := fun q h => by rw [← hAe]; exact Or.inr h
  have hG := gA_of hAe
  have hS : va_S A s.heap s.heap [] := va_S.rf
  have hF : gF (dC, dI) SKc G ([(9, 2), (9, 3), (11, 6), (20, 0), (21, 0), (22, 0), (98, 0)] : List (Nat × Nat)) s.heap s.heap := gF.rf
  have hl := lv_entry ([.ref o0, .int p1, .int p2, .int p3, .ref ou]) (n := 6) (Nat.le_of_ble_eq_true rfl)
  rw [lg_entry_eq]
  generalize (lg_sl ([.ref o0, .int p1, .int p2, .int p3, .ref ou]) ++ List.replicate (6 - (lg_sl ([.ref o0, .int p1, .int p2, .int p3, .ref ou])).length) Slot.unset).toArray = ls at hl ⊢
  have hl : lv_has ls 6 [(0, .ref o0), (1, .int p1), (2, .int p2), (3, .int p3), (4, .ref ou)] := hl
  refine lv_aload hx hb dL_storm_0 (lv_at hl 4 rfl) ?_
  refine lv_iconst (v := 0) hx hb dL_storm_2 (by decide) ?_
  refine lv_aload_n hx hb dL_storm_3 rfl (lv_at hl 0 rfl) ?_
  refine lv_iload_n hx hb dL_storm_4 rfl (lv_at hl 1 rfl) ?_
  refine lv_iload_n hx hb dL_storm_5 rfl (lv_at hl 2 rfl) ?_
  refine lv_iload_n hx hb dL_storm_6 rfl (lv_at hl 3 rfl) ?_
  have hFc := gA_free hG hA hS
  refine vx_calli (vx_runV (As := [.int p1, .int p2, .int p3]) (rest := [.int 0, .ref ou]) ⟨hx, hb, hml, hown, hts⟩ (c_stormY l hlt dC dI kA adK adV G s.heap nC nS o0 p1 p2 p3 lk sk sf so sm ns VF VO VM hT hr_o0 hm_lk hr_lk hm_sk hr_sk hm_sf hr_sf hm_so hr_so hm_sm hr_sm hm_ns (by have q8 := ti_all ns; omega) hc_VF hc_VO hc_VM (by omega) (by omega)) (cwV 3 hts (goodIn_app (goodIn_r _ [30, 31, 32, 7] rfl (by decide +kernel)) (goodIn_ca (goodIn_r _ [1, 2, 3, 4, 5, 6, 7, 8, 9, 10, 11, 12, 13, 14, 15, 16, 17, 18, 19, 20, 21, 22, 23, 24, 25, 26, 27, 28, 29] rfl (by decide +kernel)) (bs2_in _ _))) rfl rfl rfl (by decide +kernel) ⟨(Nat.le_of_ble_eq_true rfl), (Nat.le_of_ble_eq_true rfl)⟩) ⟨fun a U g mk q => by obtain ⟨q0, q1, qK, qE⟩ := q; exact ⟨q0, q1, va_K.moved (u := U) (U := U.calling g mk a) (Vm.Alike.refl U.vm) qK, EVC.blind g mk a qE⟩, gH_rc hK hT hr_o0 shc_14 rfl, fun U hU hW => ⟨rfl, hU, va_K.moved hW.alike hK, hE.call hS hFc hU hW⟩⟩ rfl rfl hl.1 rfl (lv_room (Nat.le_of_ble_eq_true rfl)) dL_storm_7 ⟨(Nat.le_of_ble_eq_true rfl), (Nat.le_of_ble_eq_true rfl)⟩) hS (fun q _ h => hFc q h) hFc (fun q _ h => hFc q h) (fun E ce q9 u t H locs ht hvm _ hw2 _ _ hS hce hcv hcl => ?_) (fun r1 u t H locs ht hvm hw2 hB _ _ hS => ?_)
  · obtain ⟨hw2, hxf, hTx, hFx, hxm0, hxc0, hxc1, hxc2⟩ := hw2; rw [ht] at hTx hFx hxm0 hxc0 hxc1 hxc2
    have hT := hTx; have hF := hF.more hFx (by decide)
    subst hw2
    have hxf := hxf.2
    refine vx_catch (E := "java/lang/IllegalArgumentException") hown [] ⟨0, 12, 15, 15⟩ [] (by rw [htab]; rfl) (fun z h => absurd h List.not_mem_nil) (by decide) (by decide) (ht_at2 hts 32 rfl) (va_Nw.use rfl (hE.1.1.2.1.2.1 _ (List.mem_of_getElem? (i := 1) rfl))) hce hcv hcl ?_
    refine lv_astore (lv' := [(5, .ref q9), (0, .ref o0), (1, .int p1), (2, .int p2), (3, .int p3), (4, .ref ou)]) hx hb dL_storm_15 hl (by decide) rfl (fun ls hl => ?_)
    refine lv_iconst (v := 1) hx hb dL_storm_17 (by decide) ?_
    exact W.iret (v := 1) hx hb hr (fun t ht hW => ⟨⟨1, (ns, VF, VO, VM), rfl, (by exact ⟨(rg_t (a := 1) (by decide) (by first | decide | omega) (by first | decide | omega)), (by have : (1 : Int32).toInt = 1 := (by decide); omega), (Or.inl ⟨by omega, by omega, rfl, rfl, rfl⟩)⟩), by (try dsimp only); rw [ht]; exact ⟨hT, hF, hxm0, hxc0, hxc1, hxc2⟩⟩, hS.F ht⟩) hS.2.2 dL_storm_18
  · obtain ⟨u3, u4, u5, u6⟩ := u
    obtain ⟨hT, hF1, m7, m8, m9, m10⟩ := hB
    rw [ht] at hT hF1 m7 m8 m9 m10
    have hF := hF.more hF1 (by decide)
    try dsimp only at hw2
    obtain ⟨h20, hf21, hf22⟩ := hw2
    refine lv_i2l (v := r1.toInt64) hx hb dL_storm_10 rfl ?_
    refine tw_last (i := 0)  hx hb hK hT hG hS hr_ou shc_98 rfl (by unfold vp_in; decide) ⟨_, rfl⟩ dL_storm_11 (fun H locs hT oq m23 oi hS => ?_)
    have hF := hF.ast hr_ou skc_98 oq (by decide)
    have m29 := (el_kept (oq _ (gne hr_sk hr_ou (by decide)))).trans m7
    have m30 := m8.kept (oq _ (gne hr_sf hr_ou (by decide)))
    have m31 := m9.kept (oq _ (gne hr_so hr_ou (by decide)))
    have m32 := m10.kept (oq _ (gne hr_sm hr_ou (by decide)))
    refine lv_goto (tgt := 19) hx hb dL_storm_12 (by decide) ?_
    refine lv_iconst (v := 0) hx hb dL_storm_19 (by decide) ?_
    exact W.iret (v := 0) hx hb hr (fun t ht hW => ⟨⟨0, (u3, u4, u5, u6), rfl, (by exact ⟨(rg_t (a := 0) (by decide) (by first | decide | omega) (by first | decide | omega)), (by have : (0 : Int32).toInt = 0 := (by decide); omega), (Or.inr ⟨by omega, by rcases hf22 with ⟨q1, q2, q3, q4, q5, q6⟩ | ⟨q1, q2, q3, q4, q5, q6⟩; exact Or.inl ⟨q1, q3, q4, q5, q6⟩; exact Or.inr ⟨q1, q3, q4, q5, q6⟩⟩)⟩), by (try dsimp only); rw [ht]; exact ⟨hT, hF, m29, m30, m31, m32⟩⟩, hS.F ht⟩) hS.2.2 dL_storm_20
def w_l_weatherY : List Cond := .codeWith yL_weather cL_weather 6 (some .int) [(0, 12, 15, 15)] :: (HAppend.hAppend (α := List Cond) (β := List Cond) (γ := List Cond) [.code yX11_weather cX11_weather 5 (some .int), .constant RX11 110 40000, .code yX11_within cX11_within 3 (some .boolean), .methodLink RX11 58 yX11_within, .static yX11_within, .initialized RX11, .code yX11_needNumbers cX11_needNumbers 1 none, .classLink RX11 547 "java/lang/IllegalArgumentException", .initialized "java/lang/IllegalArgumentException", .methodLink RX11 62 yX11_needNumbers, .static yX11_needNumbers, .fieldLink RX11 16 "SeaLand" "lake" "LSeaLand$Lake;", .fieldLink RX11 23 "SeaLand" "rows" "LSeaLand$Rows;", .code yX6_forget cX6_forget 1 none, .fieldLink RX6 18 "SeaLand$Rows" "kept" "I", .fieldLink RX6 22 "SeaLand$Rows" "oldest" "I", .methodLink RX11 76 yX6_forget, .instanceMethod yX6_forget, .selects RX6 yX6_forget yX6_forget, .initialized RX6, .code yX9_tell cX9_tell 4 (some .int), .fieldLink RX9 18 "SeaLand$Tellings" "told" "I", .fieldLink RX9 9 "SeaLand$Tellings" "hours" "[I", .fieldLink RX9 15 "SeaLand$Tellings" "numbers" "[I", .methodLink RX11 130 yX9_tell, .instanceMethod yX9_tell, .selects RX9 yX9_tell yX9_tell, .initialized RX9, .methodLink RL 31 yX11_weather, .instanceMethod yX11_weather, .selects RX11 yX11_weather yX11_weather, .classLink RL 15 "java/lang/IllegalArgumentException"] bs2)
set_option maxHeartbeats 4000000 in
set_option maxRecDepth 100000 in
theorem l_weatherY (l : Launch) (hlt : l.stackTraces = false) (dC : Nat → ClassId) (dI : Nat → Nat → Nat) (kA : Nat → ClassId) (adK adV : Nat → Nat) (G : gT) (H0 : Heap) (nC nS : Int) (o0 : Nat) (p1 : Int32) (p2 : Int32) (p3 : Int32) (ou : Nat) (lk : Nat) (sk : Nat) (wi : Nat) (wh : Nat) (wn : Nat) (nw : Int32) (ra : Nat) (rh : Nat) (rn : Nat) (nr : Int32) (VH : Nat → Int32) (VN : Nat → Int32) (VR : Nat → Int32) (VQ : Nat → Int32) (hT : gH (dC, dI) kA (SHc nC nS) G H0) (hr_o0 : G o0 = some 14) (hz1 : 0 ≤ p1.toInt ∧ p1.toInt ≤ 1) (hr_ou : G ou = some 98) (hm_lk : el H0 o0 (dI 14 1) = some (.ref lk)) (hr_lk : G lk = some 6) (hm_sk : el H0 lk (dI 6 0) = some (.ref sk)) (hr_sk : G sk = some 11) (hm_wi : el H0 sk (dI 11 4) = some (.ref wi)) (hr_wi : G wi = some 130) (hm_wh : el H0 wi (dI 12 0) = some (.ref wh)) (hr_wh : G wh = some 131) (hm_wn : el H0 wi (dI 12 1) = some (.ref wn)) (hr_wn : G wn = some 132) (hm_nw : el H0 wi (dI 12 2) = some (.int nw)) (hm_ra : el H0 sk (dI 11 5) = some (.ref ra)) (hr_ra : G ra = some 12) (hm_rh : el H0 ra (dI 12 0) = some (.ref rh)) (hr_rh : G rh = some 23) (hm_rn : el H0 ra (dI 12 1) = some (.ref rn)) (hr_rn : G rn = some 24) (hm_nr : el H0 ra (dI 12 2) = some (.int nr)) (hq0 : 0 ≤ nw.toInt ∧ nw.toInt ≤ 60) (hq1 : 0 ≤ nr.toInt ∧ nr.toInt ≤ 60) (hc_VH : ct H0 wh 60 VH) (hc_VN : ct H0 wn 60 VN) (hc_VR : ct H0 rh 60 VR) (hc_VQ : ct H0 rn 60 VQ) (hgC : 0 ≤ nC ∧ nC ≤ 40) (hgS : 0 ≤ nS ∧ nS ≤ 60) : Met l yL_weather w_l_weatherY ({ frames := 8, cells := 1, slots := 6, locals := 144 }) (va_Pc [.ref o0, .int p1, .int p2, .int p3, .ref ou] (fun U => U.heap = H0 ∧ va_K (dC, dI) vwCl (tyl kA) U ∧ EVC adK adV (gA G H0.size) U U.heap ∧ NC U)) (va_Qi (fun (r : Int32) (u : Int32 × Int32 × (Nat → Int32) × (Nat → Int32) × (Nat → Int32) × (Nat → Int32)) => match u with | (nw1, nr1, VH1, VN1, VR1, VQ1) => (0 ≤ r.toInt ∧ r.toInt ≤ 1) ∧ (r.toInt = weC p1.toInt p2.toInt p3.toInt) ∧ ((weC p1.toInt p2.toInt p3.toInt ≠ 0 ∧ nw1.toInt = nw.toInt ∧ nr1.toInt = nr.toInt ∧ VH1 = VH ∧ VN1 = VN ∧ VR1 = VR ∧ VQ1 = VQ) ∨ (weC p1.toInt p2.toInt p3.toInt = 0 ∧ ((p1.toInt = 0 ∧ ((nw.toInt = 60 ∧ nw1.toInt = nw.toInt ∧ nr1.toInt = nr.toInt ∧ VH1 = VH ∧ VN1 = VN ∧ VR1 = VR ∧ VQ1 = VQ) ∨ (nw.toInt ≠ 60 ∧ nw1.toInt = nw.toInt + 1 ∧ nr1.toInt = nr.toInt ∧ VH1 = cu (tlV VH p2 nw.toNatClampNeg) nw.toNatClampNeg p2 ∧ VN1 = cu VN nw.toNatClampNeg p3 ∧ VR1 = VR ∧ VQ1 = VQ))) ∨ (p1.toInt ≠ 0 ∧ ((nr.toInt = 60 ∧ nw1.toInt = nw.toInt ∧ nr1.toInt = nr.toInt ∧ VH1 = VH ∧ VN1 = VN ∧ VR1 = VR ∧ VQ1 = VQ) ∨ (nr.toInt ≠ 60 ∧ nr1.toInt = nr.toInt + 1 ∧ nw1.toInt = nw.toInt ∧ VH1 = VH ∧ VN1 = VN ∧ VR1 = cu (tlV VR p2 nr.toNatClampNeg) nr.toNatClampNeg p2 ∧ VQ1 = cu VQ nr.toNatClampNeg p3))))))) (fun (u : Int32 × Int32 × (Nat → Int32) × (Nat → Int32) × (Nat → Int32) × (Nat → Int32)) (t : State) => match u with | (nw1, nr1, VH1, VN1, VR1, VQ1) => gH (dC, dI) kA (SHc nC nS) G t.heap ∧ gF (dC, dI) SKc G ([(9, 2), (9, 3), (12, 2), (23, 0), (24, 0), (98, 0), (130, 2), (131, 0), (132, 0)] : List (Nat × Nat)) H0 t.heap ∧ el t.heap wi (dI 12 2) = some (.int nw1) ∧ el t.heap ra (dI 12 2) = some (.int nr1) ∧ ct t.heap wh 60 VH1 ∧ ct t.heap wn 60 VN1 ∧ ct t.heap rh 60 VR1 ∧ ct t.heap rn 60 VQ1) (gA G H0.size)) 1 6 (gA G H0.size) := by
  refine va_MetW (cc := cL_weather) (maxL := 6) (ret := (some .int)) (by decide) rfl ?_
  intro p e s m args below meth c s₁ B hml hv
  obtain ⟨rfl, hH0, hK, hE, hN⟩ := hv
  have hx := B.exec
  have hb := B.bytes
  have hr := B.returns
  have hts := atoms_spec (ws := w_l_weatherY) B.pre
  have hown : s.vm.findClass RL = some m.cls := findClass_of_methodNamed B.named
  have hlocks := B.notSynchronized
  have htab := vx_table (x := yL_weather) B (hts _ List.mem_cons_self)
  subst hH0
  generalize hAe : gA G s.heap.size = A at hE ⊢
  have hA : ∀ q : Nat, s.heap.size ≤ q → A q := fun q h => by rw [← hAe]; exact Or.inr h
  have hG := gA_of hAe
  have hS : va_S A s.heap s.heap [] := va_S.rf
  have hF : gF (dC, dI) SKc G ([(9, 2), (9, 3), (12, 2), (23, 0), (24, 0), (98, 0), (130, 2), (131, 0), (132, 0)] : List (Nat × Nat)) s.heap s.heap := gF.rf
  have hl := lv_entry ([.ref o0, .int p1, .int p2, .int p3, .ref ou]) (n := 6) (Nat.le_of_ble_eq_true rfl)
  rw [lg_entry_eq]
  generalize (lg_sl ([.ref o0, .int p1, .int p2, .int p3, .ref ou]) ++ List.replicate (6 - (lg_sl ([.ref o0, .int p1, .int p2, .int p3, .ref ou])).length) Slot.unset).toArray = ls at hl ⊢
  have hl : lv_has ls 6 [(0, .ref o0), (1, .int p1), (2, .int p2), (3, .int p3), (4, .ref ou)] := hl
  refine lv_aload hx hb dL_weather_0 (lv_at hl 4 rfl) ?_
  refine lv_iconst (v := 0) hx hb dL_weather_2 (by decide) ?_
  refine lv_aload_n hx hb dL_weather_3 rfl (lv_at hl 0 rfl) ?_
  refine lv_iload_n hx hb dL_weather_4 rfl (lv_at hl 1 rfl) ?_
  refine lv_iload_n hx hb dL_weather_5 rfl (lv_at hl 2 rfl) ?_
  refine lv_iload_n hx hb dL_weather_6 rfl (lv_at hl 3 rfl) ?_
  have hFc := gA_free hG hA hS
  refine vx_calli (vx_runV (As := [.int p1, .int p2, .int p3]) (rest := [.int 0, .ref ou]) ⟨hx, hb, hml, hown, hts⟩ (c_weatherY l hlt dC dI kA adK adV G s.heap nC nS o0 p1 p2 p3 lk sk wi wh wn nw ra rh rn nr VH VN VR VQ hT hr_o0 hm_lk hr_lk hm_sk hr_sk hm_wi hr_wi hm_wh hr_wh hm_wn hr_wn hm_nw hm_ra hr_ra hm_rh hr_rh hm_rn hr_rn hm_nr (by have q8 := ti_all p1; omega) (by have q8 := ti_all nw; omega) (by have q8 := ti_all nr; omega) hc_VH hc_VN hc_VR hc_VQ (by omega) (by omega)) (cwV 3 hts (goodIn_app (goodIn_r _ [29, 30, 31, 6] rfl (by decide +kernel)) (goodIn_ca (goodIn_r _ [1, 2, 3, 4, 5, 6, 7, 8, 9, 10, 11, 12, 13, 14, 15, 16, 17, 18, 19, 20, 21, 22, 23, 24, 25, 26, 27, 28] rfl (by decide +kernel)) (bs2_in _ _))) rfl rfl rfl (by decide +kernel) ⟨(Nat.le_of_ble_eq_true rfl), (Nat.le_of_ble_eq_true rfl)⟩) ⟨fun a U g mk q => by obtain ⟨q0, q1, qK, qE⟩ := q; exact ⟨q0, q1, va_K.moved (u := U) (U := U.calling g mk a) (Vm.Alike.refl U.vm) qK, EVC.blind g mk a qE⟩, gH_rc hK hT hr_o0 shc_14 rfl, fun U hU hW => ⟨rfl, hU, va_K.moved hW.alike hK, hE.call hS hFc hU hW⟩⟩ rfl rfl hl.1 rfl (lv_room (Nat.le_of_ble_eq_true rfl)) dL_weather_7 ⟨(Nat.le_of_ble_eq_true rfl), (Nat.le_of_ble_eq_true rfl)⟩) hS (fun q _ h => hFc q h) hFc (fun q _ h => hFc q h) (fun E ce q9 u t H locs ht hvm _ hw2 _ _ hS hce hcv hcl => ?_) (fun r1 u t H locs ht hvm hw2 hB _ _ hS => ?_)
  · obtain ⟨hw2, hxf, hTx, hFx, hxm0, hxm1, hxc0, hxc1, hxc2, hxc3⟩ := hw2; rw [ht] at hTx hFx hxm0 hxm1 hxc0 hxc1 hxc2 hxc3
    have hT := hTx; have hF := hF.more hFx (by decide)
    subst hw2
    have hxf := hxf.2
    refine vx_catch (E := "java/lang/IllegalArgumentException") hown [] ⟨0, 12, 15, 15⟩ [] (by rw [htab]; rfl) (fun z h => absurd h List.not_mem_nil) (by decide) (by decide) (ht_at2 hts 31 rfl) (va_Nw.use rfl (hE.1.1.2.1.2.1 _ (List.mem_of_getElem? (i := 1) rfl))) hce hcv hcl ?_
    refine lv_astore (lv' := [(5, .ref q9), (0, .ref o0), (1, .int p1), (2, .int p2), (3, .int p3), (4, .ref ou)]) hx hb dL_weather_15 hl (by decide) rfl (fun ls hl => ?_)
    refine lv_iconst (v := 1) hx hb dL_weather_17 (by decide) ?_
    exact W.iret (v := 1) hx hb hr (fun t ht hW => ⟨⟨1, (nw, nr, VH, VN, VR, VQ), rfl, (by exact ⟨(rg_t (a := 1) (by decide) (by first | decide | omega) (by first | decide | omega)), (by have : (1 : Int32).toInt = 1 := (by decide); omega), (Or.inl ⟨by omega, by omega, by omega, rfl, rfl, rfl, rfl⟩)⟩), by (try dsimp only); rw [ht]; exact ⟨hT, hF, hxm0, hxm1, hxc0, hxc1, hxc2, hxc3⟩⟩, hS.F ht⟩) hS.2.2 dL_weather_18
  · obtain ⟨u3, u4, u5, u6, u7, u8⟩ := u
    obtain ⟨hT, hF1, m9, m10, m11, m12, m13, m14⟩ := hB
    rw [ht] at hT hF1 m9 m10 m11 m12 m13 m14
    have hF := hF.more hF1 (by decide)
    try dsimp only at hw2
    obtain ⟨h29, hf30, hf31⟩ := hw2
    refine lv_i2l (v := r1.toInt64) hx hb dL_weather_10 rfl ?_
    refine tw_last (i := 0)  hx hb hK hT hG hS hr_ou shc_98 rfl (by unfold vp_in; decide) ⟨_, rfl⟩ dL_weather_11 (fun H locs hT oq m32 oi hS => ?_)
    have hF := hF.ast hr_ou skc_98 oq (by decide)
    have m41 := (el_kept (oq _ (gne hr_wi hr_ou (by decide)))).trans m9
    have m42 := (el_kept (oq _ (gne hr_ra hr_ou (by decide)))).trans m10
    have m43 := m11.kept (oq _ (gne hr_wh hr_ou (by decide)))
    have m44 := m12.kept (oq _ (gne hr_wn hr_ou (by decide)))
    have m45 := m13.kept (oq _ (gne hr_rh hr_ou (by decide)))
    have m46 := m14.kept (oq _ (gne hr_rn hr_ou (by decide)))
    refine lv_goto (tgt := 19) hx hb dL_weather_12 (by decide) ?_
    refine lv_iconst (v := 0) hx hb dL_weather_19 (by decide) ?_
    exact W.iret (v := 0) hx hb hr (fun t ht hW => ⟨⟨0, (u3, u4, u5, u6, u7, u8), rfl, (by exact ⟨(rg_t (a := 0) (by decide) (by first | decide | omega) (by first | decide | omega)), (by have : (0 : Int32).toInt = 0 := (by decide); omega), (Or.inr ⟨by omega, by rcases hf31 with ⟨q0, ⟨q1, q2, q3, q4, q5, q6, q7, q8⟩ | ⟨q1, q2, q3, q4, q5, q6, q7, q8⟩⟩ | ⟨q0, ⟨q1, q2, q3, q4, q5, q6, q7, q8⟩ | ⟨q1, q2, q3, q4, q5, q6, q7, q8⟩⟩; exact Or.inl ⟨q0, Or.inl ⟨q1, q3, q4, q5, q6, q7, q8⟩⟩; exact Or.inl ⟨q0, Or.inr ⟨q1, q3, q4, q5, q6, q7, q8⟩⟩; exact Or.inr ⟨q0, Or.inl ⟨q1, q3, q4, q5, q6, q7, q8⟩⟩; exact Or.inr ⟨q0, Or.inr ⟨q1, q3, q4, q7, q8, q5, q6⟩⟩⟩)⟩), by (try dsimp only); rw [ht]; exact ⟨hT, hF, m41, m42, m43, m44, m45, m46⟩⟩, hS.F ht⟩) hS.2.2 dL_weather_20
def w_c_floorModY : List Cond := .code yJ9_floorMod_7cf53 cJ9_floorMod_7cf53 3 (some .int) :: (HAppend.hAppend (α := List Cond) (β := List Cond) (γ := List Cond) [] bs2)
set_option maxHeartbeats 4000000 in
set_option maxRecDepth 100000 in
theorem c_floorModY (l : Launch) (dC : Nat → ClassId) (dI : Nat → Nat → Nat) (kA : Nat → ClassId) (adK adV : Nat → Nat) (G : gT) (H0 : Heap) (nC nS : Int) (xm : Int32)  (hT : gH (dC, dI) kA (SHc nC nS) G H0) (hq0 : 0 ≤ xm.toInt ∧ xm.toInt ≤ 40000) (hgC : 0 ≤ nC ∧ nC ≤ 40) (hgS : 0 ≤ nS ∧ nS ≤ 60) : Met l yJ9_floorMod_7cf53 w_c_floorModY ({ frames := 0, cells := 0, slots := 0, locals := 0 }) (va_Pc [.int xm, .int 12] (fun U => U.heap = H0 ∧ va_K (dC, dI) vwCl (tyl kA) U ∧ EVC adK adV (gA G H0.size) U U.heap)) (va_Qi (fun (r : Int32) (u : Unit) => (0 ≤ r.toInt ∧ r.toInt ≤ 11) ∧ (r.toInt = xm.toInt % 12)) (fun (_ : Unit) (t : State) => gH (dC, dI) kA (SHc nC nS) G t.heap ∧ gF (dC, dI) SKc G ([] : List (Nat × Nat)) H0 t.heap) (gA G H0.size)) 0 0 (gA G H0.size) := by
  refine va_MetF (cc := cJ9_floorMod_7cf53) (maxL := 3) (ret := (some .int)) (by decide +kernel) rfl ?_
  intro p e s m args below meth c s₁ B hml hv
  obtain ⟨rfl, hH0, hK, hE⟩ := hv
  have hx := B.exec
  have hb := B.bytes
  have hr := B.returns
  have hts := atoms_spec (ws := w_c_floorModY) B.pre
  have hown : s.vm.findClass RJ9 = some m.cls := findClass_of_methodNamed B.named
  have hlocks := B.notSynchronized
  subst hH0
  generalize hAe : gA G s.heap.size = A at hE ⊢
  have hA : ∀ q : Nat, s.heap.size ≤ q → A q := fun q h => by rw [← hAe]; exact Or.inr h
  have hG := gA_of hAe
  have hS : va_S A s.heap s.heap [] := va_S.rf
  have hF : gF (dC, dI) SKc G ([] : List (Nat × Nat)) s.heap s.heap := gF.rf
  have hl := lv_entry ([.int xm, .int 12]) (n := 3) (Nat.le_of_ble_eq_true rfl)
  rw [lg_entry_eq]
  generalize (lg_sl ([.int xm, .int 12]) ++ List.replicate (3 - (lg_sl ([.int xm, .int 12])).length) Slot.unset).toArray = ls at hl ⊢
  have hl : lv_has ls 3 [(0, .int xm), (1, .int 12)] := hl
  refine lv_iload_n hx hb dJ9_floorMod_7cf53_0 rfl (lv_at hl 0 rfl) ?_
  refine lv_iload_n hx hb dJ9_floorMod_7cf53_1 rfl (lv_at hl 1 rfl) ?_
  refine lv_irem hx hb dJ9_floorMod_7cf53_2 (by decide) ?_
  refine lv_topi (fun x1 ex1 => ?_)
  have t2 : x1.toInt = xm.toInt % 12 := ti_rem ex1 rfl (by decide) (by omega) (by omega)
  refine lv_istore_n (lv' := [(2, .int x1), (0, .int xm), (1, .int 12)]) hx hb dJ9_floorMod_7cf53_3 rfl hl (by decide) rfl (fun ls hl => ?_)
  refine lv_iload_n hx hb dJ9_floorMod_7cf53_4 rfl (lv_at hl 1 rfl) ?_
  refine lv_iload_n hx hb dJ9_floorMod_7cf53_5 rfl (lv_at hl 2 rfl) ?_
  refine lv_ixor hx hb dJ9_floorMod_7cf53_6 ?_
  refine lv_topi (fun x3 ex3 => ?_)
  have t4 : 0 ≤ x3.toInt := by rw [ex3]; exact xor_nn (show xm.toInt = xm.toInt from rfl) (show (12 : Int32).toInt = 12 from (by decide)) (by omega) (by omega)
  have t5 : -2147483648 ≤ x3.toInt ∧ x3.toInt ≤ 2147483647 := ti_all x3
  refine lv_if_ge (tgt := 18) hx hb dJ9_floorMod_7cf53_7 (by decide) (fun c6 => ?_) (fun c6 => (by exfalso; have q9 : x3.toInt < 0 := ti_nle c6 (by decide) rfl; have := ti_all x3; omega))
  have t7 : 0 ≤ x3.toInt := ti_le c6 (by decide) rfl
  refine lv_iload_n hx hb dJ9_floorMod_7cf53_18 rfl (lv_at hl 0 rfl) ?_
  exact W.iret (v := x1) hx hb hr (fun t ht hW => ⟨⟨x1, (), rfl, (by exact ⟨(by have q8 := ti_all x1; omega), (by omega)⟩), by (try dsimp only); rw [ht]; exact ⟨hT, hF⟩⟩, hS.F ht⟩) hS.2.2 dJ9_floorMod_7cf53_19
def w_c_standingAtW9Y : List Cond := .code yX9_standingAt cX9_standingAt 5 (some .int) :: (HAppend.hAppend (α := List Cond) (β := List Cond) (γ := List Cond) [.fieldLink RX9 18 "SeaLand$Tellings" "told" "I", .fieldLink RX9 9 "SeaLand$Tellings" "hours" "[I"] bs2)
set_option maxHeartbeats 4000000 in
set_option maxRecDepth 100000 in
theorem c_standingAtW9Y (l : Launch) (dC : Nat → ClassId) (dI : Nat → Nat → Nat) (kA : Nat → ClassId) (adK adV : Nat → Nat) (G : gT) (H0 : Heap) (nC nS : Int) (o0 : Nat) (p0 : Int32) (wh : Nat) (wn : Nat) (nw : Int32) (VH : Nat → Int32) (VN : Nat → Int32)  (hT : gH (dC, dI) kA (SHc nC nS) G H0) (hr_o0 : G o0 = some 130) (hm_wh : el H0 o0 (dI 12 0) = some (.ref wh)) (hr_wh : G wh = some 131) (hm_wn : el H0 o0 (dI 12 1) = some (.ref wn)) (hr_wn : G wn = some 132) (hm_nw : el H0 o0 (dI 12 2) = some (.int nw)) (hq0 : 0 ≤ nw.toInt ∧ nw.toInt ≤ 60) (hc_VH : ct H0 wh 60 VH) (hc_VN : ct H0 wn 60 VN) (hgC : 0 ≤ nC ∧ nC ≤ 40) (hgS : 0 ≤ nS ∧ nS ≤ 60) : Met l yX9_standingAt w_c_standingAtW9Y ({ frames := 0, cells := 0, slots := 0, locals := 0 }) (va_Pc [.ref o0, .int p0] (fun U => U.heap = H0 ∧ va_K (dC, dI) vwCl (tyl kA) U ∧ EVC adK adV (gA G H0.size) U U.heap)) (va_Qi (fun (r : Int32) (u : Unit) => (-1 ≤ r.toInt ∧ r.toInt ≤ 59) ∧ (∃ l : Int, stI (fun i => (VH i).toInt) nw.toNatClampNeg p0.toInt r.toInt l)) (fun (_ : Unit) (t : State) => gH (dC, dI) kA (SHc nC nS) G t.heap ∧ gF (dC, dI) SKc G ([] : List (Nat × Nat)) H0 t.heap) (gA G H0.size)) 0 0 (gA G H0.size) := by
  refine Met.ofW (cc := cX9_standingAt) (maxL := 5) (ret := (some .int)) (by decide) rfl ?_
  intro p e s m args below meth c s₁ B hml hv
  obtain ⟨rfl, hH0, hK, hE⟩ := hv
  have hx := B.exec
  have hb := B.bytes
  have hr := B.returns
  have hts := atoms_spec (ws := w_c_standingAtW9Y) B.pre
  have hown : s.vm.findClass RX9 = some m.cls := findClass_of_methodNamed B.named
  have hlocks := B.notSynchronized
  subst hH0
  generalize hAe : gA G s.heap.size = A at hE ⊢
  have hA : ∀ q : Nat, s.heap.size ≤ q → A q := fun q h => by rw [← hAe]; exact Or.inr h
  have hG := gA_of hAe
  have hS : va_S A s.heap s.heap [] := va_S.rf
  have hF : gF (dC, dI) SKc G ([] : List (Nat × Nat)) s.heap s.heap := gF.rf
  have hl := lv_entry ([.ref o0, .int p0]) (n := 5) (Nat.le_of_ble_eq_true rfl)
  rw [lg_entry_eq]
  generalize (lg_sl ([.ref o0, .int p0]) ++ List.replicate (5 - (lg_sl ([.ref o0, .int p0])).length) Slot.unset).toArray = ls at hl ⊢
  have hl : lv_has ls 5 [(0, .ref o0), (1, .int p0)] := hl
  refine lv_iconst (v := (-1)) hx hb dX9_standingAt_0 (by decide) ?_
  refine lv_istore_n (lv' := [(2, .int (-1)), (0, .ref o0), (1, .int p0)]) hx hb dX9_standingAt_1 rfl hl (by decide) rfl (fun ls hl => ?_)
  refine lv_iconst (v := (-1)) hx hb dX9_standingAt_2 (by decide) ?_
  refine lv_istore_n (lv' := [(3, .int (-1)), (2, .int (-1)), (0, .ref o0), (1, .int p0)]) hx hb dX9_standingAt_3 rfl hl (by decide) rfl (fun ls hl => ?_)
  refine lv_iconst (v := 0) hx hb dX9_standingAt_4 (by decide) ?_
  refine lv_istore (lv' := [(4, .int 0), (3, .int (-1)), (2, .int (-1)), (0, .ref o0), (1, .int p0)]) hx hb dX9_standingAt_5 hl (by decide) rfl (fun ls hl => ?_)
  have key30 : ∀ (n30 i1 : Nat), i1 + n30 = 60 → 0 ≤ i1 → ∀ (z2 : Int32), ∀ (z3 : Int32), ((-1 ≤ z3.toInt ∧ z3.toInt ≤ 59) ∧ (stI (fun i => (VH i).toInt) i1 p0.toInt z3.toInt z2.toInt) ∧ (((i1 : Nat) : Int) ≤ nw.toInt)) → ∀ (H : Heap) (locs : List Loc), gH (dC, dI) kA (SHc nC nS) G H → gF (dC, dI) SKc G ([] : List (Nat × Nat)) s.heap H → va_S A s.heap H locs → ct H wh 60 VH → ct H wn 60 VN → el H o0 (dI 12 0) = some (.ref wh) → el H o0 (dI 12 1) = some (.ref wn) → el H o0 (dI 12 2) = some (.int nw) → ∀ ls : Array Slot, lv_has ls 5 [(4, .int (nI i1)), (3, .int z2), (2, .int z3), (0, .ref o0), (1, .int p0)] → W p l e (headSpec w_c_standingAtW9Y ({ frames := 0, cells := 0, slots := 0, locals := 0 })).room s m #[.ref o0, .int p0] below meth c H locs 0 0 (MQ below (va_Qi (fun (r : Int32) (u : Unit) => (-1 ≤ r.toInt ∧ r.toInt ≤ 59) ∧ (∃ l : Int, stI (fun i => (VH i).toInt) nw.toNatClampNeg p0.toInt r.toInt l)) (fun (_ : Unit) (t : State) => gH (dC, dI) kA (SHc nC nS) G t.heap ∧ gF (dC, dI) SKc G ([] : List (Nat × Nat)) s.heap t.heap) A) #[.ref o0, .int p0] s 0 0 A) (F0 m 7 ls []) := by
    intro n30
    induction n30 with
    | zero =>
      intro i1 hn30 hlo31 z2 z3 ⟨h4, hj10, hj11⟩ H locs hT hF hS m5 m6 m7 m8 m9 ls hl
      obtain rfl : 60 = i1 := by omega
      refine lv_iload hx hb dX9_standingAt_7 (lv_at hl 0 rfl) ?_
      refine lv_aload_n hx hb dX9_standingAt_9 rfl (lv_at hl 3 rfl) ?_
      refine tw_getM (v := .int nw) hx hb hts bF2_X9 hown hK hT hr_o0 shc_130 rfl 2 (by decide) (ht_at2 hts 0 rfl) (fun _ h9 => h9) m9 dX9_standingAt_10 ?_
      refine lv_icmp_ge (tgt := 55) hx hb dX9_standingAt_13 (by decide) (fun c32 => ?_) (fun c32 => (by exfalso; have q9 : ((60 : Nat) : Int) < nw.toInt := ti_nle c32 rfl (nI_toInt (by omega)); omega))
      have t33 : nw.toInt ≤ ((60 : Nat) : Int) := ti_le c32 rfl (nI_toInt (by omega))
      refine lv_iload_n hx hb dX9_standingAt_55 rfl (lv_at hl 2 rfl) ?_
      exact W.iret (v := z3) hx hb hr (fun t ht hW => ⟨⟨z3, (), rfl, (by exact ⟨(by have q8 := ti_all z3; omega), (by have q9 := tn_of (i := nw) rfl (by omega); have z9 := hj10; rw [show 60 = nw.toNatClampNeg from by omega] at z9; exact ⟨_, z9⟩)⟩), by (try dsimp only); rw [ht]; exact ⟨hT, hF⟩⟩, hS.F ht⟩) hS.2.2 dX9_standingAt_56
    | succ n30 ih30 =>
      intro i1 hn30 hlo31 z2 z3 ⟨h4, hj10, hj11⟩ H locs hT hF hS m5 m6 m7 m8 m9 ls hl
      have hlt33 : i1 < 60 := by omega
      refine lv_iload hx hb dX9_standingAt_7 (lv_at hl 0 rfl) ?_
      refine lv_aload_n hx hb dX9_standingAt_9 rfl (lv_at hl 3 rfl) ?_
      refine tw_getM (v := .int nw) hx hb hts bF2_X9 hown hK hT hr_o0 shc_130 rfl 2 (by decide) (ht_at2 hts 0 rfl) (fun _ h9 => h9) m9 dX9_standingAt_10 ?_
      refine lv_icmp_ge (tgt := 55) hx hb dX9_standingAt_13 (by decide) (fun c34 => ?_) (fun c34 => ?_)
      · have t35 : nw.toInt ≤ ((i1 : Nat) : Int) := ti_le c34 rfl (nI_toInt (by omega))
        refine lv_iload_n hx hb dX9_standingAt_55 rfl (lv_at hl 2 rfl) ?_
        exact W.iret (v := z3) hx hb hr (fun t ht hW => ⟨⟨z3, (), rfl, (by exact ⟨(by have q8 := ti_all z3; omega), (by have q9 := tn_of (i := nw) rfl (by omega); have z9 := hj10; rw [show i1 = nw.toNatClampNeg from by omega] at z9; exact ⟨_, z9⟩)⟩), by (try dsimp only); rw [ht]; exact ⟨hT, hF⟩⟩, hS.F ht⟩) hS.2.2 dX9_standingAt_56
      · have t36 : ((i1 : Nat) : Int) < nw.toInt := ti_nle c34 rfl (nI_toInt (by omega))
        refine lv_aload_n hx hb dX9_standingAt_16 rfl (lv_at hl 3 rfl) ?_
        refine tw_getM (v := .ref wh) hx hb hts bF2_X9 hown hK hT hr_o0 shc_130 rfl 0 (by decide) (ht_at2 hts 1 rfl) (fun _ h9 => h9) m7 dX9_standingAt_17 ?_
        refine lv_iload hx hb dX9_standingAt_20 (lv_at hl 0 rfl) ?_
        refine tw_iald (i := (nI i1)) hx hb hK hT hr_wh shc_131 rfl (vp_in_nI (by omega) (by decide)) dX9_standingAt_22 (fun v9 m37 h9 => ?_)
        obtain ⟨x38, rfl, gx38, kx38⟩ := h9
        have cx38 := m5.at m37 (by have q9 := tn_of (show (nI i1).toInt = ((i1 : Nat) : Int) from (nI_toInt (by omega))) (by omega); omega)
        refine lv_iload_n hx hb dX9_standingAt_23 rfl (lv_at hl 4 rfl) ?_
        have t39 : -2147483648 ≤ x38.toInt ∧ x38.toInt ≤ 2147483647 := ti_all x38
        have t40 : -2147483648 ≤ p0.toInt ∧ p0.toInt ≤ 2147483647 := ti_all p0
        refine lv_icmp_gt (tgt := 49) hx hb dX9_standingAt_24 (by decide) (fun c41 => ?_) (fun c41 => ?_)
        · have t42 : p0.toInt < x38.toInt := ti_lt c41 rfl rfl
          refine lv_iinc (v := nI (i1 + 1)) (lv' := [(4, .int (nI (i1 + 1))), (3, .int z2), (2, .int z3), (0, .ref o0), (1, .int p0)]) hx hb dX9_standingAt_49 hl (k := 0) rfl (nI_add i1 1) (by decide) rfl (fun ls hl => ?_)
          refine lv_goto (tgt := 7) hx hb dX9_standingAt_52 (by decide) ?_
          exact ih30 (i1 + 1) (by omega) (by omega) z2 z3 ⟨(by have q8 := ti_all z3; omega), (by have := (show z3.toInt = z3.toInt from rfl); have := (show z2.toInt = z2.toInt from rfl); have ex38 : (VH i1).toInt = x38.toInt := congrArg Int32.toInt (cx38.trans (by rw [tn_nI (by omega)])).symm; first | exact st_new hj10 (by show (VH i1).toInt ≤ p0.toInt; omega) (by show _ < (VH i1).toInt; omega) (by omega) (by show _ = (VH i1).toInt; omega) | exact st_old hj10 (fun q9 => by have q8 : (VH i1).toInt ≤ p0.toInt := q9.1; have q7 : _ < (VH i1).toInt := q9.2; omega)), (by omega)⟩ _ _ hT hF hS m5 m6 m7 m8 m9 ls (lv_sub hl [0, 1, 2, 3, 4] rfl)
        · have t43 : x38.toInt ≤ p0.toInt := ti_nlt c41 rfl rfl
          refine lv_aload_n hx hb dX9_standingAt_27 rfl (lv_at hl 3 rfl) ?_
          refine tw_getM (v := .ref wh) hx hb hts bF2_X9 hown hK hT hr_o0 shc_130 rfl 0 (by decide) (ht_at2 hts 1 rfl) (fun _ h9 => h9) m7 dX9_standingAt_28 ?_
          refine lv_iload hx hb dX9_standingAt_31 (lv_at hl 0 rfl) ?_
          refine tw_iald (i := (nI i1)) hx hb hK hT hr_wh shc_131 rfl (vp_in_nI (by omega) (by decide)) dX9_standingAt_33 (fun v9 m44 h9 => ?_)
          obtain ⟨x45, rfl, gx45, kx45⟩ := h9
          have cx45 := m5.at m44 (by have q9 := tn_of (show (nI i1).toInt = ((i1 : Nat) : Int) from (nI_toInt (by omega))) (by omega); omega)
          obtain rfl : x38 = x45 := (el_same m44 m37 rfl).symm
          refine lv_iload_n hx hb dX9_standingAt_34 rfl (lv_at hl 1 rfl) ?_
          have t46 : -2147483648 ≤ z2.toInt ∧ z2.toInt ≤ 2147483647 := ti_all z2
          refine lv_icmp_le (tgt := 49) hx hb dX9_standingAt_35 (by decide) (fun c47 => ?_) (fun c47 => ?_)
          · have t48 : x38.toInt ≤ z2.toInt := ti_le c47 rfl rfl
            refine lv_iinc (v := nI (i1 + 1)) (lv' := [(4, .int (nI (i1 + 1))), (3, .int z2), (2, .int z3), (0, .ref o0), (1, .int p0)]) hx hb dX9_standingAt_49 hl (k := 0) rfl (nI_add i1 1) (by decide) rfl (fun ls hl => ?_)
            refine lv_goto (tgt := 7) hx hb dX9_standingAt_52 (by decide) ?_
            exact ih30 (i1 + 1) (by omega) (by omega) z2 z3 ⟨(by have q8 := ti_all z3; omega), (by have := (show z3.toInt = z3.toInt from rfl); have := (show z2.toInt = z2.toInt from rfl); have ex38 : (VH i1).toInt = x38.toInt := congrArg Int32.toInt (cx38.trans (by rw [tn_nI (by omega)])).symm; first | exact st_new hj10 (by show (VH i1).toInt ≤ p0.toInt; omega) (by show _ < (VH i1).toInt; omega) (by omega) (by show _ = (VH i1).toInt; omega) | exact st_old hj10 (fun q9 => by have q8 : (VH i1).toInt ≤ p0.toInt := q9.1; have q7 : _ < (VH i1).toInt := q9.2; omega)), (by omega)⟩ _ _ hT hF hS m5 m6 m7 m8 m9 ls (lv_sub hl [0, 1, 2, 3, 4] rfl)
          · have t49 : z2.toInt < x38.toInt := ti_nle c47 rfl rfl
            refine lv_aload_n hx hb dX9_standingAt_38 rfl (lv_at hl 3 rfl) ?_
            refine tw_getM (v := .ref wh) hx hb hts bF2_X9 hown hK hT hr_o0 shc_130 rfl 0 (by decide) (ht_at2 hts 1 rfl) (fun _ h9 => h9) m7 dX9_standingAt_39 ?_
            refine lv_iload hx hb dX9_standingAt_42 (lv_at hl 0 rfl) ?_
            refine tw_iald (i := (nI i1)) hx hb hK hT hr_wh shc_131 rfl (vp_in_nI (by omega) (by decide)) dX9_standingAt_44 (fun v9 m50 h9 => ?_)
            obtain ⟨x51, rfl, gx51, kx51⟩ := h9
            have cx51 := m5.at m50 (by have q9 := tn_of (show (nI i1).toInt = ((i1 : Nat) : Int) from (nI_toInt (by omega))) (by omega); omega)
            obtain rfl : x38 = x51 := (el_same m50 m37 rfl).symm
            refine lv_istore_n (lv' := [(3, .int x38), (4, .int (nI i1)), (2, .int z3), (0, .ref o0), (1, .int p0)]) hx hb dX9_standingAt_45 rfl hl (by decide) rfl (fun ls hl => ?_)
            refine lv_iload hx hb dX9_standingAt_46 (lv_at hl 1 rfl) ?_
            refine lv_istore_n (lv' := [(2, .int (nI i1)), (3, .int x38), (4, .int (nI i1)), (0, .ref o0), (1, .int p0)]) hx hb dX9_standingAt_48 rfl hl (by decide) rfl (fun ls hl => ?_)
            refine lv_iinc (v := nI (i1 + 1)) (lv' := [(4, .int (nI (i1 + 1))), (2, .int (nI i1)), (3, .int x38), (0, .ref o0), (1, .int p0)]) hx hb dX9_standingAt_49 hl (k := 2) rfl (nI_add i1 1) (by decide) rfl (fun ls hl => ?_)
            refine lv_goto (tgt := 7) hx hb dX9_standingAt_52 (by decide) ?_
            exact ih30 (i1 + 1) (by omega) (by omega) x38 (nI i1) ⟨(rg_t (a := ((i1 : Nat) : Int)) (nI_toInt (by omega)) (by omega) (by omega)), (by have := (show (nI i1).toInt = ((i1 : Nat) : Int) from (nI_toInt (by omega))); have := (show x38.toInt = x38.toInt from rfl); have ex38 : (VH i1).toInt = x38.toInt := congrArg Int32.toInt (cx38.trans (by rw [tn_nI (by omega)])).symm; first | exact st_new hj10 (by show (VH i1).toInt ≤ p0.toInt; omega) (by show _ < (VH i1).toInt; omega) (by omega) (by show _ = (VH i1).toInt; omega) | exact st_old hj10 (fun q9 => by have q8 : (VH i1).toInt ≤ p0.toInt := q9.1; have q7 : _ < (VH i1).toInt := q9.2; omega)), (by omega)⟩ _ _ hT hF hS m5 m6 m7 m8 m9 ls (lv_sub hl [0, 2, 1, 3, 4] rfl)
  exact key30 (60 - 0) 0 (by omega) (Nat.le_refl _) (-1) (-1) ⟨(rg_t (a := (-1)) (by decide) (by first | decide | omega) (by first | decide | omega)), (st_00 (by decide) (by decide)), (by omega)⟩ _ _ hT hF hS hc_VH hc_VN hm_wh hm_wn hm_nw ls (lv_sub hl [0, 1, 2, 3, 4] rfl)
def w_c_nearestBeforeY : List Cond := .code yX9_nearestNumberBefore cX9_nearestNumberBefore 5 (some .int) :: (HAppend.hAppend (α := List Cond) (β := List Cond) (γ := List Cond) [.fieldLink RX9 18 "SeaLand$Tellings" "told" "I", .fieldLink RX9 15 "SeaLand$Tellings" "numbers" "[I", .fieldLink RX9 9 "SeaLand$Tellings" "hours" "[I"] bs2)
set_option maxHeartbeats 4000000 in
set_option maxRecDepth 100000 in
theorem c_nearestBeforeY (l : Launch) (dC : Nat → ClassId) (dI : Nat → Nat → Nat) (kA : Nat → ClassId) (adK adV : Nat → Nat) (G : gT) (H0 : Heap) (nC nS : Int) (o0 : Nat) (p0 : Int32) (wh : Nat) (wn : Nat) (nw : Int32) (VH : Nat → Int32) (VN : Nat → Int32)  (hT : gH (dC, dI) kA (SHc nC nS) G H0) (hr_o0 : G o0 = some 130) (hm_wh : el H0 o0 (dI 12 0) = some (.ref wh)) (hr_wh : G wh = some 131) (hm_wn : el H0 o0 (dI 12 1) = some (.ref wn)) (hr_wn : G wn = some 132) (hm_nw : el H0 o0 (dI 12 2) = some (.int nw)) (hq0 : 0 ≤ nw.toInt ∧ nw.toInt ≤ 60) (hc_VH : ct H0 wh 60 VH) (hc_VN : ct H0 wn 60 VN) (hgC : 0 ≤ nC ∧ nC ≤ 40) (hgS : 0 ≤ nS ∧ nS ≤ 60) : Met l yX9_nearestNumberBefore w_c_nearestBeforeY ({ frames := 0, cells := 0, slots := 0, locals := 0 }) (va_Pc [.ref o0, .int p0] (fun U => U.heap = H0 ∧ va_K (dC, dI) vwCl (tyl kA) U ∧ EVC adK adV (gA G H0.size) U U.heap)) (va_Qi (fun (r : Int32) (u : Unit) => (∃ l : Int, nbI (fun i => (VH i).toInt) (fun i => (VN i).toInt) nw.toNatClampNeg p0.toInt r.toInt l)) (fun (_ : Unit) (t : State) => gH (dC, dI) kA (SHc nC nS) G t.heap ∧ gF (dC, dI) SKc G ([] : List (Nat × Nat)) H0 t.heap) (gA G H0.size)) 0 0 (gA G H0.size) := by
  refine Met.ofW (cc := cX9_nearestNumberBefore) (maxL := 5) (ret := (some .int)) (by decide) rfl ?_
  intro p e s m args below meth c s₁ B hml hv
  obtain ⟨rfl, hH0, hK, hE⟩ := hv
  have hx := B.exec
  have hb := B.bytes
  have hr := B.returns
  have hts := atoms_spec (ws := w_c_nearestBeforeY) B.pre
  have hown : s.vm.findClass RX9 = some m.cls := findClass_of_methodNamed B.named
  have hlocks := B.notSynchronized
  subst hH0
  generalize hAe : gA G s.heap.size = A at hE ⊢
  have hA : ∀ q : Nat, s.heap.size ≤ q → A q := fun q h => by rw [← hAe]; exact Or.inr h
  have hG := gA_of hAe
  have hS : va_S A s.heap s.heap [] := va_S.rf
  have hF : gF (dC, dI) SKc G ([] : List (Nat × Nat)) s.heap s.heap := gF.rf
  have hl := lv_entry ([.ref o0, .int p0]) (n := 5) (Nat.le_of_ble_eq_true rfl)
  rw [lg_entry_eq]
  generalize (lg_sl ([.ref o0, .int p0]) ++ List.replicate (5 - (lg_sl ([.ref o0, .int p0])).length) Slot.unset).toArray = ls at hl ⊢
  have hl : lv_has ls 5 [(0, .ref o0), (1, .int p0)] := hl
  refine lv_iconst (v := (-1)) hx hb dX9_nearestNumberBefore_0 (by decide) ?_
  refine lv_istore_n (lv' := [(2, .int (-1)), (0, .ref o0), (1, .int p0)]) hx hb dX9_nearestNumberBefore_1 rfl hl (by decide) rfl (fun ls hl => ?_)
  refine lv_iconst (v := (-1)) hx hb dX9_nearestNumberBefore_2 (by decide) ?_
  refine lv_istore_n (lv' := [(3, .int (-1)), (2, .int (-1)), (0, .ref o0), (1, .int p0)]) hx hb dX9_nearestNumberBefore_3 rfl hl (by decide) rfl (fun ls hl => ?_)
  refine lv_iconst (v := 0) hx hb dX9_nearestNumberBefore_4 (by decide) ?_
  refine lv_istore (lv' := [(4, .int 0), (3, .int (-1)), (2, .int (-1)), (0, .ref o0), (1, .int p0)]) hx hb dX9_nearestNumberBefore_5 hl (by decide) rfl (fun ls hl => ?_)
  have key37 : ∀ (n37 i1 : Nat), i1 + n37 = 60 → 0 ≤ i1 → ∀ (z2 : Int32), ∀ (z3 : Int32), ((nbI (fun i => (VH i).toInt) (fun i => (VN i).toInt) i1 p0.toInt z3.toInt z2.toInt) ∧ (((i1 : Nat) : Int) ≤ nw.toInt)) → ∀ (H : Heap) (locs : List Loc), gH (dC, dI) kA (SHc nC nS) G H → gF (dC, dI) SKc G ([] : List (Nat × Nat)) s.heap H → va_S A s.heap H locs → ct H wh 60 VH → ct H wn 60 VN → el H o0 (dI 12 0) = some (.ref wh) → el H o0 (dI 12 1) = some (.ref wn) → el H o0 (dI 12 2) = some (.int nw) → ∀ ls : Array Slot, lv_has ls 5 [(4, .int (nI i1)), (3, .int z2), (2, .int z3), (0, .ref o0), (1, .int p0)] → W p l e (headSpec w_c_nearestBeforeY ({ frames := 0, cells := 0, slots := 0, locals := 0 })).room s m #[.ref o0, .int p0] below meth c H locs 0 0 (MQ below (va_Qi (fun (r : Int32) (u : Unit) => (∃ l : Int, nbI (fun i => (VH i).toInt) (fun i => (VN i).toInt) nw.toNatClampNeg p0.toInt r.toInt l)) (fun (_ : Unit) (t : State) => gH (dC, dI) kA (SHc nC nS) G t.heap ∧ gF (dC, dI) SKc G ([] : List (Nat × Nat)) s.heap t.heap) A) #[.ref o0, .int p0] s 0 0 A) (F0 m 7 ls []) := by
    intro n37
    induction n37 with
    | zero =>
      intro i1 hn37 hlo38 z2 z3 ⟨hj9, hj10⟩ H locs hT hF hS m4 m5 m6 m7 m8 ls hl
      obtain rfl : 60 = i1 := by omega
      refine lv_iload hx hb dX9_nearestNumberBefore_7 (lv_at hl 0 rfl) ?_
      refine lv_aload_n hx hb dX9_nearestNumberBefore_9 rfl (lv_at hl 3 rfl) ?_
      refine tw_getM (v := .int nw) hx hb hts bF2_X9 hown hK hT hr_o0 shc_130 rfl 2 (by decide) (ht_at2 hts 0 rfl) (fun _ h9 => h9) m8 dX9_nearestNumberBefore_10 ?_
      refine lv_icmp_ge (tgt := 71) hx hb dX9_nearestNumberBefore_13 (by decide) (fun c39 => ?_) (fun c39 => (by exfalso; have q9 : ((60 : Nat) : Int) < nw.toInt := ti_nle c39 rfl (nI_toInt (by omega)); omega))
      have t40 : nw.toInt ≤ ((60 : Nat) : Int) := ti_le c39 rfl (nI_toInt (by omega))
      refine lv_iload_n hx hb dX9_nearestNumberBefore_71 rfl (lv_at hl 2 rfl) ?_
      exact W.iret (v := z3) hx hb hr (fun t ht hW => ⟨⟨z3, (), rfl, (by exact (by have q9 := tn_of (i := nw) rfl (by omega); have z9 := hj9; rw [show 60 = nw.toNatClampNeg from by omega] at z9; exact ⟨_, z9⟩)), by (try dsimp only); rw [ht]; exact ⟨hT, hF⟩⟩, hS.F ht⟩) hS.2.2 dX9_nearestNumberBefore_72
    | succ n37 ih37 =>
      intro i1 hn37 hlo38 z2 z3 ⟨hj9, hj10⟩ H locs hT hF hS m4 m5 m6 m7 m8 ls hl
      have hlt40 : i1 < 60 := by omega
      refine lv_iload hx hb dX9_nearestNumberBefore_7 (lv_at hl 0 rfl) ?_
      refine lv_aload_n hx hb dX9_nearestNumberBefore_9 rfl (lv_at hl 3 rfl) ?_
      refine tw_getM (v := .int nw) hx hb hts bF2_X9 hown hK hT hr_o0 shc_130 rfl 2 (by decide) (ht_at2 hts 0 rfl) (fun _ h9 => h9) m8 dX9_nearestNumberBefore_10 ?_
      refine lv_icmp_ge (tgt := 71) hx hb dX9_nearestNumberBefore_13 (by decide) (fun c41 => ?_) (fun c41 => ?_)
      · have t42 : nw.toInt ≤ ((i1 : Nat) : Int) := ti_le c41 rfl (nI_toInt (by omega))
        refine lv_iload_n hx hb dX9_nearestNumberBefore_71 rfl (lv_at hl 2 rfl) ?_
        exact W.iret (v := z3) hx hb hr (fun t ht hW => ⟨⟨z3, (), rfl, (by exact (by have q9 := tn_of (i := nw) rfl (by omega); have z9 := hj9; rw [show i1 = nw.toNatClampNeg from by omega] at z9; exact ⟨_, z9⟩)), by (try dsimp only); rw [ht]; exact ⟨hT, hF⟩⟩, hS.F ht⟩) hS.2.2 dX9_nearestNumberBefore_72
      · have t43 : ((i1 : Nat) : Int) < nw.toInt := ti_nle c41 rfl (nI_toInt (by omega))
        refine lv_aload_n hx hb dX9_nearestNumberBefore_16 rfl (lv_at hl 3 rfl) ?_
        refine tw_getM (v := .ref wn) hx hb hts bF2_X9 hown hK hT hr_o0 shc_130 rfl 1 (by decide) (ht_at2 hts 1 rfl) (fun _ h9 => h9) m7 dX9_nearestNumberBefore_17 ?_
        refine lv_iload hx hb dX9_nearestNumberBefore_20 (lv_at hl 0 rfl) ?_
        refine tw_iald (i := (nI i1)) hx hb hK hT hr_wn shc_132 rfl (vp_in_nI (by omega) (by decide)) dX9_nearestNumberBefore_22 (fun v9 m44 h9 => ?_)
        obtain ⟨x45, rfl, gx45, kx45⟩ := h9
        have cx45 := m5.at m44 (by have q9 := tn_of (show (nI i1).toInt = ((i1 : Nat) : Int) from (nI_toInt (by omega))) (by omega); omega)
        refine lv_iconst (v := (-1)) hx hb dX9_nearestNumberBefore_23 (by decide) ?_
        have t46 : -2147483648 ≤ x45.toInt ∧ x45.toInt ≤ 2147483647 := ti_all x45
        refine lv_icmp_eq (tgt := 65) hx hb dX9_nearestNumberBefore_24 (by decide) (fun c47 => ?_) (fun c47 => ?_)
        · have t48 : x45.toInt = (-1) := ti_eq c47 rfl (by decide)
          refine lv_iinc (v := nI (i1 + 1)) (lv' := [(4, .int (nI (i1 + 1))), (3, .int z2), (2, .int z3), (0, .ref o0), (1, .int p0)]) hx hb dX9_nearestNumberBefore_65 hl (k := 0) rfl (nI_add i1 1) (by decide) rfl (fun ls hl => ?_)
          refine lv_goto (tgt := 7) hx hb dX9_nearestNumberBefore_68 (by decide) ?_
          exact ih37 (i1 + 1) (by omega) (by omega) z2 z3 ⟨(by have := (show z3.toInt = z3.toInt from rfl); have := (show z2.toInt = z2.toInt from rfl); have ex45 : (VN i1).toInt = x45.toInt := congrArg Int32.toInt (cx45.trans (by rw [tn_nI (by omega)])).symm; first | exact nb_new hj9 (by show (VN i1).toInt ≠ -1; omega) (by show (VH i1).toInt < p0.toInt; omega) (by show _ < (VH i1).toInt; omega) (by show _ = (VN i1).toInt; omega) (by show _ = (VH i1).toInt; omega) | exact nb_old hj9 (fun q9 => by have q6 : (VN i1).toInt ≠ -1 := q9.1; have q8 : (VH i1).toInt < p0.toInt := q9.2.1; have q7 : _ < (VH i1).toInt := q9.2.2; omega)), (by omega)⟩ _ _ hT hF hS m4 m5 m6 m7 m8 ls (lv_sub hl [0, 1, 2, 3, 4] rfl)
        · have t49 : x45.toInt ≠ (-1) := ti_ne c47 rfl (by decide)
          refine lv_aload_n hx hb dX9_nearestNumberBefore_27 rfl (lv_at hl 3 rfl) ?_
          refine tw_getM (v := .ref wh) hx hb hts bF2_X9 hown hK hT hr_o0 shc_130 rfl 0 (by decide) (ht_at2 hts 2 rfl) (fun _ h9 => h9) m6 dX9_nearestNumberBefore_28 ?_
          refine lv_iload hx hb dX9_nearestNumberBefore_31 (lv_at hl 0 rfl) ?_
          refine tw_iald (i := (nI i1)) hx hb hK hT hr_wh shc_131 rfl (vp_in_nI (by omega) (by decide)) dX9_nearestNumberBefore_33 (fun v9 m50 h9 => ?_)
          obtain ⟨x51, rfl, gx51, kx51⟩ := h9
          have cx51 := m4.at m50 (by have q9 := tn_of (show (nI i1).toInt = ((i1 : Nat) : Int) from (nI_toInt (by omega))) (by omega); omega)
          refine lv_iload_n hx hb dX9_nearestNumberBefore_34 rfl (lv_at hl 4 rfl) ?_
          have t52 : -2147483648 ≤ x51.toInt ∧ x51.toInt ≤ 2147483647 := ti_all x51
          have t53 : -2147483648 ≤ p0.toInt ∧ p0.toInt ≤ 2147483647 := ti_all p0
          refine lv_icmp_ge (tgt := 65) hx hb dX9_nearestNumberBefore_35 (by decide) (fun c54 => ?_) (fun c54 => ?_)
          · have t55 : p0.toInt ≤ x51.toInt := ti_le c54 rfl rfl
            refine lv_iinc (v := nI (i1 + 1)) (lv' := [(4, .int (nI (i1 + 1))), (3, .int z2), (2, .int z3), (0, .ref o0), (1, .int p0)]) hx hb dX9_nearestNumberBefore_65 hl (k := 0) rfl (nI_add i1 1) (by decide) rfl (fun ls hl => ?_)
            refine lv_goto (tgt := 7) hx hb dX9_nearestNumberBefore_68 (by decide) ?_
            exact ih37 (i1 + 1) (by omega) (by omega) z2 z3 ⟨(by have := (show z3.toInt = z3.toInt from rfl); have := (show z2.toInt = z2.toInt from rfl); have ex45 : (VN i1).toInt = x45.toInt := congrArg Int32.toInt (cx45.trans (by rw [tn_nI (by omega)])).symm; have ex51 : (VH i1).toInt = x51.toInt := congrArg Int32.toInt (cx51.trans (by rw [tn_nI (by omega)])).symm; first | exact nb_new hj9 (by show (VN i1).toInt ≠ -1; omega) (by show (VH i1).toInt < p0.toInt; omega) (by show _ < (VH i1).toInt; omega) (by show _ = (VN i1).toInt; omega) (by show _ = (VH i1).toInt; omega) | exact nb_old hj9 (fun q9 => by have q6 : (VN i1).toInt ≠ -1 := q9.1; have q8 : (VH i1).toInt < p0.toInt := q9.2.1; have q7 : _ < (VH i1).toInt := q9.2.2; omega)), (by omega)⟩ _ _ hT hF hS m4 m5 m6 m7 m8 ls (lv_sub hl [0, 1, 2, 3, 4] rfl)
          · have t56 : x51.toInt < p0.toInt := ti_nle c54 rfl rfl
            refine lv_aload_n hx hb dX9_nearestNumberBefore_38 rfl (lv_at hl 3 rfl) ?_
            refine tw_getM (v := .ref wh) hx hb hts bF2_X9 hown hK hT hr_o0 shc_130 rfl 0 (by decide) (ht_at2 hts 2 rfl) (fun _ h9 => h9) m6 dX9_nearestNumberBefore_39 ?_
            refine lv_iload hx hb dX9_nearestNumberBefore_42 (lv_at hl 0 rfl) ?_
            refine tw_iald (i := (nI i1)) hx hb hK hT hr_wh shc_131 rfl (vp_in_nI (by omega) (by decide)) dX9_nearestNumberBefore_44 (fun v9 m57 h9 => ?_)
            obtain ⟨x58, rfl, gx58, kx58⟩ := h9
            have cx58 := m4.at m57 (by have q9 := tn_of (show (nI i1).toInt = ((i1 : Nat) : Int) from (nI_toInt (by omega))) (by omega); omega)
            obtain rfl : x51 = x58 := (el_same m57 m50 rfl).symm
            refine lv_iload_n hx hb dX9_nearestNumberBefore_45 rfl (lv_at hl 1 rfl) ?_
            have t59 : -2147483648 ≤ z2.toInt ∧ z2.toInt ≤ 2147483647 := ti_all z2
            refine lv_icmp_le (tgt := 65) hx hb dX9_nearestNumberBefore_46 (by decide) (fun c60 => ?_) (fun c60 => ?_)
            · have t61 : x51.toInt ≤ z2.toInt := ti_le c60 rfl rfl
              refine lv_iinc (v := nI (i1 + 1)) (lv' := [(4, .int (nI (i1 + 1))), (3, .int z2), (2, .int z3), (0, .ref o0), (1, .int p0)]) hx hb dX9_nearestNumberBefore_65 hl (k := 0) rfl (nI_add i1 1) (by decide) rfl (fun ls hl => ?_)
              refine lv_goto (tgt := 7) hx hb dX9_nearestNumberBefore_68 (by decide) ?_
              exact ih37 (i1 + 1) (by omega) (by omega) z2 z3 ⟨(by have := (show z3.toInt = z3.toInt from rfl); have := (show z2.toInt = z2.toInt from rfl); have ex45 : (VN i1).toInt = x45.toInt := congrArg Int32.toInt (cx45.trans (by rw [tn_nI (by omega)])).symm; have ex51 : (VH i1).toInt = x51.toInt := congrArg Int32.toInt (cx51.trans (by rw [tn_nI (by omega)])).symm; first | exact nb_new hj9 (by show (VN i1).toInt ≠ -1; omega) (by show (VH i1).toInt < p0.toInt; omega) (by show _ < (VH i1).toInt; omega) (by show _ = (VN i1).toInt; omega) (by show _ = (VH i1).toInt; omega) | exact nb_old hj9 (fun q9 => by have q6 : (VN i1).toInt ≠ -1 := q9.1; have q8 : (VH i1).toInt < p0.toInt := q9.2.1; have q7 : _ < (VH i1).toInt := q9.2.2; omega)), (by omega)⟩ _ _ hT hF hS m4 m5 m6 m7 m8 ls (lv_sub hl [0, 1, 2, 3, 4] rfl)
            · have t62 : z2.toInt < x51.toInt := ti_nle c60 rfl rfl
              refine lv_aload_n hx hb dX9_nearestNumberBefore_49 rfl (lv_at hl 3 rfl) ?_
              refine tw_getM (v := .ref wh) hx hb hts bF2_X9 hown hK hT hr_o0 shc_130 rfl 0 (by decide) (ht_at2 hts 2 rfl) (fun _ h9 => h9) m6 dX9_nearestNumberBefore_50 ?_
              refine lv_iload hx hb dX9_nearestNumberBefore_53 (lv_at hl 0 rfl) ?_
              refine tw_iald (i := (nI i1)) hx hb hK hT hr_wh shc_131 rfl (vp_in_nI (by omega) (by decide)) dX9_nearestNumberBefore_55 (fun v9 m63 h9 => ?_)
              obtain ⟨x64, rfl, gx64, kx64⟩ := h9
              have cx64 := m4.at m63 (by have q9 := tn_of (show (nI i1).toInt = ((i1 : Nat) : Int) from (nI_toInt (by omega))) (by omega); omega)
              obtain rfl : x51 = x64 := (el_same m63 m50 rfl).symm
              refine lv_istore_n (lv' := [(3, .int x51), (4, .int (nI i1)), (2, .int z3), (0, .ref o0), (1, .int p0)]) hx hb dX9_nearestNumberBefore_56 rfl hl (by decide) rfl (fun ls hl => ?_)
              refine lv_aload_n hx hb dX9_nearestNumberBefore_57 rfl (lv_at hl 3 rfl) ?_
              refine tw_getM (v := .ref wn) hx hb hts bF2_X9 hown hK hT hr_o0 shc_130 rfl 1 (by decide) (ht_at2 hts 1 rfl) (fun _ h9 => h9) m7 dX9_nearestNumberBefore_58 ?_
              refine lv_iload hx hb dX9_nearestNumberBefore_61 (lv_at hl 1 rfl) ?_
              refine tw_iald (i := (nI i1)) hx hb hK hT hr_wn shc_132 rfl (vp_in_nI (by omega) (by decide)) dX9_nearestNumberBefore_63 (fun v9 m65 h9 => ?_)
              obtain ⟨x66, rfl, gx66, kx66⟩ := h9
              have cx66 := m5.at m65 (by have q9 := tn_of (show (nI i1).toInt = ((i1 : Nat) : Int) from (nI_toInt (by omega))) (by omega); omega)
              obtain rfl : x45 = x66 := (el_same m65 m44 rfl).symm
              refine lv_istore_n (lv' := [(2, .int x45), (3, .int x51), (4, .int (nI i1)), (0, .ref o0), (1, .int p0)]) hx hb dX9_nearestNumberBefore_64 rfl hl (by decide) rfl (fun ls hl => ?_)
              refine lv_iinc (v := nI (i1 + 1)) (lv' := [(4, .int (nI (i1 + 1))), (2, .int x45), (3, .int x51), (0, .ref o0), (1, .int p0)]) hx hb dX9_nearestNumberBefore_65 hl (k := 2) rfl (nI_add i1 1) (by decide) rfl (fun ls hl => ?_)
              refine lv_goto (tgt := 7) hx hb dX9_nearestNumberBefore_68 (by decide) ?_
              exact ih37 (i1 + 1) (by omega) (by omega) x51 x45 ⟨(by have := (show x45.toInt = x45.toInt from rfl); have := (show x51.toInt = x51.toInt from rfl); have ex45 : (VN i1).toInt = x45.toInt := congrArg Int32.toInt (cx45.trans (by rw [tn_nI (by omega)])).symm; have ex51 : (VH i1).toInt = x51.toInt := congrArg Int32.toInt (cx51.trans (by rw [tn_nI (by omega)])).symm; first | exact nb_new hj9 (by show (VN i1).toInt ≠ -1; omega) (by show (VH i1).toInt < p0.toInt; omega) (by show _ < (VH i1).toInt; omega) (by show _ = (VN i1).toInt; omega) (by show _ = (VH i1).toInt; omega) | exact nb_old hj9 (fun q9 => by have q6 : (VN i1).toInt ≠ -1 := q9.1; have q8 : (VH i1).toInt < p0.toInt := q9.2.1; have q7 : _ < (VH i1).toInt := q9.2.2; omega)), (by omega)⟩ _ _ hT hF hS m4 m5 m6 m7 m8 ls (lv_sub hl [0, 2, 1, 3, 4] rfl)
  exact key37 (60 - 0) 0 (by omega) (Nat.le_refl _) (-1) (-1) ⟨(nb_00 (by decide) (by decide)), (by omega)⟩ _ _ hT hF hS hc_VH hc_VN hm_wh hm_wn hm_nw ls (lv_sub hl [0, 1, 2, 3, 4] rfl)
def w_c_nearestAfterY : List Cond := .code yX9_nearestNumberAfter cX9_nearestNumberAfter 5 (some .int) :: (HAppend.hAppend (α := List Cond) (β := List Cond) (γ := List Cond) [.constant RX9 22 40001, .fieldLink RX9 18 "SeaLand$Tellings" "told" "I", .fieldLink RX9 15 "SeaLand$Tellings" "numbers" "[I", .fieldLink RX9 9 "SeaLand$Tellings" "hours" "[I"] bs2)
set_option maxHeartbeats 4000000 in
set_option maxRecDepth 100000 in
theorem c_nearestAfterY (l : Launch) (dC : Nat → ClassId) (dI : Nat → Nat → Nat) (kA : Nat → ClassId) (adK adV : Nat → Nat) (G : gT) (H0 : Heap) (nC nS : Int) (o0 : Nat) (p0 : Int32) (wh : Nat) (wn : Nat) (nw : Int32) (VH : Nat → Int32) (VN : Nat → Int32)  (hT : gH (dC, dI) kA (SHc nC nS) G H0) (hr_o0 : G o0 = some 130) (hm_wh : el H0 o0 (dI 12 0) = some (.ref wh)) (hr_wh : G wh = some 131) (hm_wn : el H0 o0 (dI 12 1) = some (.ref wn)) (hr_wn : G wn = some 132) (hm_nw : el H0 o0 (dI 12 2) = some (.int nw)) (hq0 : 0 ≤ nw.toInt ∧ nw.toInt ≤ 60) (hc_VH : ct H0 wh 60 VH) (hc_VN : ct H0 wn 60 VN) (hgC : 0 ≤ nC ∧ nC ≤ 40) (hgS : 0 ≤ nS ∧ nS ≤ 60) : Met l yX9_nearestNumberAfter w_c_nearestAfterY ({ frames := 0, cells := 0, slots := 0, locals := 0 }) (va_Pc [.ref o0, .int p0] (fun U => U.heap = H0 ∧ va_K (dC, dI) vwCl (tyl kA) U ∧ EVC adK adV (gA G H0.size) U U.heap)) (va_Qi (fun (r : Int32) (u : Unit) => (∃ l : Int, naI (fun i => (VH i).toInt) (fun i => (VN i).toInt) nw.toNatClampNeg p0.toInt r.toInt l)) (fun (_ : Unit) (t : State) => gH (dC, dI) kA (SHc nC nS) G t.heap ∧ gF (dC, dI) SKc G ([] : List (Nat × Nat)) H0 t.heap) (gA G H0.size)) 0 0 (gA G H0.size) := by
  refine Met.ofW (cc := cX9_nearestNumberAfter) (maxL := 5) (ret := (some .int)) (by decide) rfl ?_
  intro p e s m args below meth c s₁ B hml hv
  obtain ⟨rfl, hH0, hK, hE⟩ := hv
  have hx := B.exec
  have hb := B.bytes
  have hr := B.returns
  have hts := atoms_spec (ws := w_c_nearestAfterY) B.pre
  have hown : s.vm.findClass RX9 = some m.cls := findClass_of_methodNamed B.named
  have hlocks := B.notSynchronized
  subst hH0
  generalize hAe : gA G s.heap.size = A at hE ⊢
  have hA : ∀ q : Nat, s.heap.size ≤ q → A q := fun q h => by rw [← hAe]; exact Or.inr h
  have hG := gA_of hAe
  have hS : va_S A s.heap s.heap [] := va_S.rf
  have hF : gF (dC, dI) SKc G ([] : List (Nat × Nat)) s.heap s.heap := gF.rf
  have hl := lv_entry ([.ref o0, .int p0]) (n := 5) (Nat.le_of_ble_eq_true rfl)
  rw [lg_entry_eq]
  generalize (lg_sl ([.ref o0, .int p0]) ++ List.replicate (5 - (lg_sl ([.ref o0, .int p0])).length) Slot.unset).toArray = ls at hl ⊢
  have hl : lv_has ls 5 [(0, .ref o0), (1, .int p0)] := hl
  refine lv_iconst (v := (-1)) hx hb dX9_nearestNumberAfter_0 (by decide) ?_
  refine lv_istore_n (lv' := [(2, .int (-1)), (0, .ref o0), (1, .int p0)]) hx hb dX9_nearestNumberAfter_1 rfl hl (by decide) rfl (fun ls hl => ?_)
  refine lv_ldc (v := 40001) hx hb hown (ht_at2 hts 0 rfl) dX9_nearestNumberAfter_2 ?_
  refine lv_istore_n (lv' := [(3, .int 40001), (2, .int (-1)), (0, .ref o0), (1, .int p0)]) hx hb dX9_nearestNumberAfter_4 rfl hl (by decide) rfl (fun ls hl => ?_)
  refine lv_iconst (v := 0) hx hb dX9_nearestNumberAfter_5 (by decide) ?_
  refine lv_istore (lv' := [(4, .int 0), (3, .int 40001), (2, .int (-1)), (0, .ref o0), (1, .int p0)]) hx hb dX9_nearestNumberAfter_6 hl (by decide) rfl (fun ls hl => ?_)
  have key37 : ∀ (n37 i1 : Nat), i1 + n37 = 60 → 0 ≤ i1 → ∀ (z2 : Int32), ∀ (z3 : Int32), ((naI (fun i => (VH i).toInt) (fun i => (VN i).toInt) i1 p0.toInt z3.toInt z2.toInt) ∧ (((i1 : Nat) : Int) ≤ nw.toInt)) → ∀ (H : Heap) (locs : List Loc), gH (dC, dI) kA (SHc nC nS) G H → gF (dC, dI) SKc G ([] : List (Nat × Nat)) s.heap H → va_S A s.heap H locs → ct H wh 60 VH → ct H wn 60 VN → el H o0 (dI 12 0) = some (.ref wh) → el H o0 (dI 12 1) = some (.ref wn) → el H o0 (dI 12 2) = some (.int nw) → ∀ ls : Array Slot, lv_has ls 5 [(4, .int (nI i1)), (3, .int z2), (2, .int z3), (0, .ref o0), (1, .int p0)] → W p l e (headSpec w_c_nearestAfterY ({ frames := 0, cells := 0, slots := 0, locals := 0 })).room s m #[.ref o0, .int p0] below meth c H locs 0 0 (MQ below (va_Qi (fun (r : Int32) (u : Unit) => (∃ l : Int, naI (fun i => (VH i).toInt) (fun i => (VN i).toInt) nw.toNatClampNeg p0.toInt r.toInt l)) (fun (_ : Unit) (t : State) => gH (dC, dI) kA (SHc nC nS) G t.heap ∧ gF (dC, dI) SKc G ([] : List (Nat × Nat)) s.heap t.heap) A) #[.ref o0, .int p0] s 0 0 A) (F0 m 8 ls []) := by
    intro n37
    induction n37 with
    | zero =>
      intro i1 hn37 hlo38 z2 z3 ⟨hj9, hj10⟩ H locs hT hF hS m4 m5 m6 m7 m8 ls hl
      obtain rfl : 60 = i1 := by omega
      refine lv_iload hx hb dX9_nearestNumberAfter_8 (lv_at hl 0 rfl) ?_
      refine lv_aload_n hx hb dX9_nearestNumberAfter_10 rfl (lv_at hl 3 rfl) ?_
      refine tw_getM (v := .int nw) hx hb hts bF2_X9 hown hK hT hr_o0 shc_130 rfl 2 (by decide) (ht_at2 hts 1 rfl) (fun _ h9 => h9) m8 dX9_nearestNumberAfter_11 ?_
      refine lv_icmp_ge (tgt := 72) hx hb dX9_nearestNumberAfter_14 (by decide) (fun c39 => ?_) (fun c39 => (by exfalso; have q9 : ((60 : Nat) : Int) < nw.toInt := ti_nle c39 rfl (nI_toInt (by omega)); omega))
      have t40 : nw.toInt ≤ ((60 : Nat) : Int) := ti_le c39 rfl (nI_toInt (by omega))
      refine lv_iload_n hx hb dX9_nearestNumberAfter_72 rfl (lv_at hl 2 rfl) ?_
      exact W.iret (v := z3) hx hb hr (fun t ht hW => ⟨⟨z3, (), rfl, (by exact (by have q9 := tn_of (i := nw) rfl (by omega); have z9 := hj9; rw [show 60 = nw.toNatClampNeg from by omega] at z9; exact ⟨_, z9⟩)), by (try dsimp only); rw [ht]; exact ⟨hT, hF⟩⟩, hS.F ht⟩) hS.2.2 dX9_nearestNumberAfter_73
    | succ n37 ih37 =>
      intro i1 hn37 hlo38 z2 z3 ⟨hj9, hj10⟩ H locs hT hF hS m4 m5 m6 m7 m8 ls hl
      have hlt40 : i1 < 60 := by omega
      refine lv_iload hx hb dX9_nearestNumberAfter_8 (lv_at hl 0 rfl) ?_
      refine lv_aload_n hx hb dX9_nearestNumberAfter_10 rfl (lv_at hl 3 rfl) ?_
      refine tw_getM (v := .int nw) hx hb hts bF2_X9 hown hK hT hr_o0 shc_130 rfl 2 (by decide) (ht_at2 hts 1 rfl) (fun _ h9 => h9) m8 dX9_nearestNumberAfter_11 ?_
      refine lv_icmp_ge (tgt := 72) hx hb dX9_nearestNumberAfter_14 (by decide) (fun c41 => ?_) (fun c41 => ?_)
      · have t42 : nw.toInt ≤ ((i1 : Nat) : Int) := ti_le c41 rfl (nI_toInt (by omega))
        refine lv_iload_n hx hb dX9_nearestNumberAfter_72 rfl (lv_at hl 2 rfl) ?_
        exact W.iret (v := z3) hx hb hr (fun t ht hW => ⟨⟨z3, (), rfl, (by exact (by have q9 := tn_of (i := nw) rfl (by omega); have z9 := hj9; rw [show i1 = nw.toNatClampNeg from by omega] at z9; exact ⟨_, z9⟩)), by (try dsimp only); rw [ht]; exact ⟨hT, hF⟩⟩, hS.F ht⟩) hS.2.2 dX9_nearestNumberAfter_73
      · have t43 : ((i1 : Nat) : Int) < nw.toInt := ti_nle c41 rfl (nI_toInt (by omega))
        refine lv_aload_n hx hb dX9_nearestNumberAfter_17 rfl (lv_at hl 3 rfl) ?_
        refine tw_getM (v := .ref wn) hx hb hts bF2_X9 hown hK hT hr_o0 shc_130 rfl 1 (by decide) (ht_at2 hts 2 rfl) (fun _ h9 => h9) m7 dX9_nearestNumberAfter_18 ?_
        refine lv_iload hx hb dX9_nearestNumberAfter_21 (lv_at hl 0 rfl) ?_
        refine tw_iald (i := (nI i1)) hx hb hK hT hr_wn shc_132 rfl (vp_in_nI (by omega) (by decide)) dX9_nearestNumberAfter_23 (fun v9 m44 h9 => ?_)
        obtain ⟨x45, rfl, gx45, kx45⟩ := h9
        have cx45 := m5.at m44 (by have q9 := tn_of (show (nI i1).toInt = ((i1 : Nat) : Int) from (nI_toInt (by omega))) (by omega); omega)
        refine lv_iconst (v := (-1)) hx hb dX9_nearestNumberAfter_24 (by decide) ?_
        have t46 : -2147483648 ≤ x45.toInt ∧ x45.toInt ≤ 2147483647 := ti_all x45
        refine lv_icmp_eq (tgt := 66) hx hb dX9_nearestNumberAfter_25 (by decide) (fun c47 => ?_) (fun c47 => ?_)
        · have t48 : x45.toInt = (-1) := ti_eq c47 rfl (by decide)
          refine lv_iinc (v := nI (i1 + 1)) (lv' := [(4, .int (nI (i1 + 1))), (3, .int z2), (2, .int z3), (0, .ref o0), (1, .int p0)]) hx hb dX9_nearestNumberAfter_66 hl (k := 0) rfl (nI_add i1 1) (by decide) rfl (fun ls hl => ?_)
          refine lv_goto (tgt := 8) hx hb dX9_nearestNumberAfter_69 (by decide) ?_
          exact ih37 (i1 + 1) (by omega) (by omega) z2 z3 ⟨(by have := (show z3.toInt = z3.toInt from rfl); have := (show z2.toInt = z2.toInt from rfl); have ex45 : (VN i1).toInt = x45.toInt := congrArg Int32.toInt (cx45.trans (by rw [tn_nI (by omega)])).symm; first | exact na_new hj9 (by show (VN i1).toInt ≠ -1; omega) (by show p0.toInt < (VH i1).toInt; omega) (by show (VH i1).toInt < _; omega) (by show _ = (VN i1).toInt; omega) (by show _ = (VH i1).toInt; omega) | exact na_old hj9 (fun q9 => by have q6 : (VN i1).toInt ≠ -1 := q9.1; have q8 : p0.toInt < (VH i1).toInt := q9.2.1; have q7 : (VH i1).toInt < _ := q9.2.2; omega)), (by omega)⟩ _ _ hT hF hS m4 m5 m6 m7 m8 ls (lv_sub hl [0, 1, 2, 3, 4] rfl)
        · have t49 : x45.toInt ≠ (-1) := ti_ne c47 rfl (by decide)
          refine lv_aload_n hx hb dX9_nearestNumberAfter_28 rfl (lv_at hl 3 rfl) ?_
          refine tw_getM (v := .ref wh) hx hb hts bF2_X9 hown hK hT hr_o0 shc_130 rfl 0 (by decide) (ht_at2 hts 3 rfl) (fun _ h9 => h9) m6 dX9_nearestNumberAfter_29 ?_
          refine lv_iload hx hb dX9_nearestNumberAfter_32 (lv_at hl 0 rfl) ?_
          refine tw_iald (i := (nI i1)) hx hb hK hT hr_wh shc_131 rfl (vp_in_nI (by omega) (by decide)) dX9_nearestNumberAfter_34 (fun v9 m50 h9 => ?_)
          obtain ⟨x51, rfl, gx51, kx51⟩ := h9
          have cx51 := m4.at m50 (by have q9 := tn_of (show (nI i1).toInt = ((i1 : Nat) : Int) from (nI_toInt (by omega))) (by omega); omega)
          refine lv_iload_n hx hb dX9_nearestNumberAfter_35 rfl (lv_at hl 4 rfl) ?_
          have t52 : -2147483648 ≤ x51.toInt ∧ x51.toInt ≤ 2147483647 := ti_all x51
          have t53 : -2147483648 ≤ p0.toInt ∧ p0.toInt ≤ 2147483647 := ti_all p0
          refine lv_icmp_le (tgt := 66) hx hb dX9_nearestNumberAfter_36 (by decide) (fun c54 => ?_) (fun c54 => ?_)
          · have t55 : x51.toInt ≤ p0.toInt := ti_le c54 rfl rfl
            refine lv_iinc (v := nI (i1 + 1)) (lv' := [(4, .int (nI (i1 + 1))), (3, .int z2), (2, .int z3), (0, .ref o0), (1, .int p0)]) hx hb dX9_nearestNumberAfter_66 hl (k := 0) rfl (nI_add i1 1) (by decide) rfl (fun ls hl => ?_)
            refine lv_goto (tgt := 8) hx hb dX9_nearestNumberAfter_69 (by decide) ?_
            exact ih37 (i1 + 1) (by omega) (by omega) z2 z3 ⟨(by have := (show z3.toInt = z3.toInt from rfl); have := (show z2.toInt = z2.toInt from rfl); have ex45 : (VN i1).toInt = x45.toInt := congrArg Int32.toInt (cx45.trans (by rw [tn_nI (by omega)])).symm; have ex51 : (VH i1).toInt = x51.toInt := congrArg Int32.toInt (cx51.trans (by rw [tn_nI (by omega)])).symm; first | exact na_new hj9 (by show (VN i1).toInt ≠ -1; omega) (by show p0.toInt < (VH i1).toInt; omega) (by show (VH i1).toInt < _; omega) (by show _ = (VN i1).toInt; omega) (by show _ = (VH i1).toInt; omega) | exact na_old hj9 (fun q9 => by have q6 : (VN i1).toInt ≠ -1 := q9.1; have q8 : p0.toInt < (VH i1).toInt := q9.2.1; have q7 : (VH i1).toInt < _ := q9.2.2; omega)), (by omega)⟩ _ _ hT hF hS m4 m5 m6 m7 m8 ls (lv_sub hl [0, 1, 2, 3, 4] rfl)
          · have t56 : p0.toInt < x51.toInt := ti_nle c54 rfl rfl
            refine lv_aload_n hx hb dX9_nearestNumberAfter_39 rfl (lv_at hl 3 rfl) ?_
            refine tw_getM (v := .ref wh) hx hb hts bF2_X9 hown hK hT hr_o0 shc_130 rfl 0 (by decide) (ht_at2 hts 3 rfl) (fun _ h9 => h9) m6 dX9_nearestNumberAfter_40 ?_
            refine lv_iload hx hb dX9_nearestNumberAfter_43 (lv_at hl 0 rfl) ?_
            refine tw_iald (i := (nI i1)) hx hb hK hT hr_wh shc_131 rfl (vp_in_nI (by omega) (by decide)) dX9_nearestNumberAfter_45 (fun v9 m57 h9 => ?_)
            obtain ⟨x58, rfl, gx58, kx58⟩ := h9
            have cx58 := m4.at m57 (by have q9 := tn_of (show (nI i1).toInt = ((i1 : Nat) : Int) from (nI_toInt (by omega))) (by omega); omega)
            obtain rfl : x51 = x58 := (el_same m57 m50 rfl).symm
            refine lv_iload_n hx hb dX9_nearestNumberAfter_46 rfl (lv_at hl 1 rfl) ?_
            have t59 : -2147483648 ≤ z2.toInt ∧ z2.toInt ≤ 2147483647 := ti_all z2
            refine lv_icmp_ge (tgt := 66) hx hb dX9_nearestNumberAfter_47 (by decide) (fun c60 => ?_) (fun c60 => ?_)
            · have t61 : z2.toInt ≤ x51.toInt := ti_le c60 rfl rfl
              refine lv_iinc (v := nI (i1 + 1)) (lv' := [(4, .int (nI (i1 + 1))), (3, .int z2), (2, .int z3), (0, .ref o0), (1, .int p0)]) hx hb dX9_nearestNumberAfter_66 hl (k := 0) rfl (nI_add i1 1) (by decide) rfl (fun ls hl => ?_)
              refine lv_goto (tgt := 8) hx hb dX9_nearestNumberAfter_69 (by decide) ?_
              exact ih37 (i1 + 1) (by omega) (by omega) z2 z3 ⟨(by have := (show z3.toInt = z3.toInt from rfl); have := (show z2.toInt = z2.toInt from rfl); have ex45 : (VN i1).toInt = x45.toInt := congrArg Int32.toInt (cx45.trans (by rw [tn_nI (by omega)])).symm; have ex51 : (VH i1).toInt = x51.toInt := congrArg Int32.toInt (cx51.trans (by rw [tn_nI (by omega)])).symm; first | exact na_new hj9 (by show (VN i1).toInt ≠ -1; omega) (by show p0.toInt < (VH i1).toInt; omega) (by show (VH i1).toInt < _; omega) (by show _ = (VN i1).toInt; omega) (by show _ = (VH i1).toInt; omega) | exact na_old hj9 (fun q9 => by have q6 : (VN i1).toInt ≠ -1 := q9.1; have q8 : p0.toInt < (VH i1).toInt := q9.2.1; have q7 : (VH i1).toInt < _ := q9.2.2; omega)), (by omega)⟩ _ _ hT hF hS m4 m5 m6 m7 m8 ls (lv_sub hl [0, 1, 2, 3, 4] rfl)
            · have t62 : x51.toInt < z2.toInt := ti_nle c60 rfl rfl
              refine lv_aload_n hx hb dX9_nearestNumberAfter_50 rfl (lv_at hl 3 rfl) ?_
              refine tw_getM (v := .ref wh) hx hb hts bF2_X9 hown hK hT hr_o0 shc_130 rfl 0 (by decide) (ht_at2 hts 3 rfl) (fun _ h9 => h9) m6 dX9_nearestNumberAfter_51 ?_
              refine lv_iload hx hb dX9_nearestNumberAfter_54 (lv_at hl 0 rfl) ?_
              refine tw_iald (i := (nI i1)) hx hb hK hT hr_wh shc_131 rfl (vp_in_nI (by omega) (by decide)) dX9_nearestNumberAfter_56 (fun v9 m63 h9 => ?_)
              obtain ⟨x64, rfl, gx64, kx64⟩ := h9
              have cx64 := m4.at m63 (by have q9 := tn_of (show (nI i1).toInt = ((i1 : Nat) : Int) from (nI_toInt (by omega))) (by omega); omega)
              obtain rfl : x51 = x64 := (el_same m63 m50 rfl).symm
              refine lv_istore_n (lv' := [(3, .int x51), (4, .int (nI i1)), (2, .int z3), (0, .ref o0), (1, .int p0)]) hx hb dX9_nearestNumberAfter_57 rfl hl (by decide) rfl (fun ls hl => ?_)
              refine lv_aload_n hx hb dX9_nearestNumberAfter_58 rfl (lv_at hl 3 rfl) ?_
              refine tw_getM (v := .ref wn) hx hb hts bF2_X9 hown hK hT hr_o0 shc_130 rfl 1 (by decide) (ht_at2 hts 2 rfl) (fun _ h9 => h9) m7 dX9_nearestNumberAfter_59 ?_
              refine lv_iload hx hb dX9_nearestNumberAfter_62 (lv_at hl 1 rfl) ?_
              refine tw_iald (i := (nI i1)) hx hb hK hT hr_wn shc_132 rfl (vp_in_nI (by omega) (by decide)) dX9_nearestNumberAfter_64 (fun v9 m65 h9 => ?_)
              obtain ⟨x66, rfl, gx66, kx66⟩ := h9
              have cx66 := m5.at m65 (by have q9 := tn_of (show (nI i1).toInt = ((i1 : Nat) : Int) from (nI_toInt (by omega))) (by omega); omega)
              obtain rfl : x45 = x66 := (el_same m65 m44 rfl).symm
              refine lv_istore_n (lv' := [(2, .int x45), (3, .int x51), (4, .int (nI i1)), (0, .ref o0), (1, .int p0)]) hx hb dX9_nearestNumberAfter_65 rfl hl (by decide) rfl (fun ls hl => ?_)
              refine lv_iinc (v := nI (i1 + 1)) (lv' := [(4, .int (nI (i1 + 1))), (2, .int x45), (3, .int x51), (0, .ref o0), (1, .int p0)]) hx hb dX9_nearestNumberAfter_66 hl (k := 2) rfl (nI_add i1 1) (by decide) rfl (fun ls hl => ?_)
              refine lv_goto (tgt := 8) hx hb dX9_nearestNumberAfter_69 (by decide) ?_
              exact ih37 (i1 + 1) (by omega) (by omega) x51 x45 ⟨(by have := (show x45.toInt = x45.toInt from rfl); have := (show x51.toInt = x51.toInt from rfl); have ex45 : (VN i1).toInt = x45.toInt := congrArg Int32.toInt (cx45.trans (by rw [tn_nI (by omega)])).symm; have ex51 : (VH i1).toInt = x51.toInt := congrArg Int32.toInt (cx51.trans (by rw [tn_nI (by omega)])).symm; first | exact na_new hj9 (by show (VN i1).toInt ≠ -1; omega) (by show p0.toInt < (VH i1).toInt; omega) (by show (VH i1).toInt < _; omega) (by show _ = (VN i1).toInt; omega) (by show _ = (VH i1).toInt; omega) | exact na_old hj9 (fun q9 => by have q6 : (VN i1).toInt ≠ -1 := q9.1; have q8 : p0.toInt < (VH i1).toInt := q9.2.1; have q7 : (VH i1).toInt < _ := q9.2.2; omega)), (by omega)⟩ _ _ hT hF hS m4 m5 m6 m7 m8 ls (lv_sub hl [0, 2, 1, 3, 4] rfl)
  exact key37 (60 - 0) 0 (by omega) (Nat.le_refl _) 40001 (-1) ⟨(na_00 (by decide) (by decide)), (by omega)⟩ _ _ hT hF hS hc_VH hc_VN hm_wh hm_wn hm_nw ls (lv_sub hl [0, 1, 2, 3, 4] rfl)
def w_c_standingAtX9Y : List Cond := .code yX9_standingAt cX9_standingAt 5 (some .int) :: (HAppend.hAppend (α := List Cond) (β := List Cond) (γ := List Cond) [.fieldLink RX9 18 "SeaLand$Tellings" "told" "I", .fieldLink RX9 9 "SeaLand$Tellings" "hours" "[I"] bs2)
set_option maxHeartbeats 4000000 in
set_option maxRecDepth 100000 in
theorem c_standingAtX9Y (l : Launch) (dC : Nat → ClassId) (dI : Nat → Nat → Nat) (kA : Nat → ClassId) (adK adV : Nat → Nat) (G : gT) (H0 : Heap) (nC nS : Int) (o0 : Nat) (p0 : Int32) (rh : Nat) (rn : Nat) (nr : Int32) (VR : Nat → Int32) (VQ : Nat → Int32)  (hT : gH (dC, dI) kA (SHc nC nS) G H0) (hr_o0 : G o0 = some 12) (hm_rh : el H0 o0 (dI 12 0) = some (.ref rh)) (hr_rh : G rh = some 23) (hm_rn : el H0 o0 (dI 12 1) = some (.ref rn)) (hr_rn : G rn = some 24) (hm_nr : el H0 o0 (dI 12 2) = some (.int nr)) (hq0 : 0 ≤ nr.toInt ∧ nr.toInt ≤ 60) (hc_VR : ct H0 rh 60 VR) (hc_VQ : ct H0 rn 60 VQ) (hgC : 0 ≤ nC ∧ nC ≤ 40) (hgS : 0 ≤ nS ∧ nS ≤ 60) : Met l yX9_standingAt w_c_standingAtX9Y ({ frames := 0, cells := 0, slots := 0, locals := 0 }) (va_Pc [.ref o0, .int p0] (fun U => U.heap = H0 ∧ va_K (dC, dI) vwCl (tyl kA) U ∧ EVC adK adV (gA G H0.size) U U.heap)) (va_Qi (fun (r : Int32) (u : Unit) => (-1 ≤ r.toInt ∧ r.toInt ≤ 59) ∧ (∃ l : Int, stI (fun i => (VR i).toInt) nr.toNatClampNeg p0.toInt r.toInt l)) (fun (_ : Unit) (t : State) => gH (dC, dI) kA (SHc nC nS) G t.heap ∧ gF (dC, dI) SKc G ([] : List (Nat × Nat)) H0 t.heap) (gA G H0.size)) 0 0 (gA G H0.size) := by
  refine Met.ofW (cc := cX9_standingAt) (maxL := 5) (ret := (some .int)) (by decide) rfl ?_
  intro p e s m args below meth c s₁ B hml hv
  obtain ⟨rfl, hH0, hK, hE⟩ := hv
  have hx := B.exec
  have hb := B.bytes
  have hr := B.returns
  have hts := atoms_spec (ws := w_c_standingAtX9Y) B.pre
  have hown : s.vm.findClass RX9 = some m.cls := findClass_of_methodNamed B.named
  have hlocks := B.notSynchronized
  subst hH0
  generalize hAe : gA G s.heap.size = A at hE ⊢
  have hA : ∀ q : Nat, s.heap.size ≤ q → A q := fun q h => by rw [← hAe]; exact Or.inr h
  have hG := gA_of hAe
  have hS : va_S A s.heap s.heap [] := va_S.rf
  have hF : gF (dC, dI) SKc G ([] : List (Nat × Nat)) s.heap s.heap := gF.rf
  have hl := lv_entry ([.ref o0, .int p0]) (n := 5) (Nat.le_of_ble_eq_true rfl)
  rw [lg_entry_eq]
  generalize (lg_sl ([.ref o0, .int p0]) ++ List.replicate (5 - (lg_sl ([.ref o0, .int p0])).length) Slot.unset).toArray = ls at hl ⊢
  have hl : lv_has ls 5 [(0, .ref o0), (1, .int p0)] := hl
  refine lv_iconst (v := (-1)) hx hb dX9_standingAt_0 (by decide) ?_
  refine lv_istore_n (lv' := [(2, .int (-1)), (0, .ref o0), (1, .int p0)]) hx hb dX9_standingAt_1 rfl hl (by decide) rfl (fun ls hl => ?_)
  refine lv_iconst (v := (-1)) hx hb dX9_standingAt_2 (by decide) ?_
  refine lv_istore_n (lv' := [(3, .int (-1)), (2, .int (-1)), (0, .ref o0), (1, .int p0)]) hx hb dX9_standingAt_3 rfl hl (by decide) rfl (fun ls hl => ?_)
  refine lv_iconst (v := 0) hx hb dX9_standingAt_4 (by decide) ?_
  refine lv_istore (lv' := [(4, .int 0), (3, .int (-1)), (2, .int (-1)), (0, .ref o0), (1, .int p0)]) hx hb dX9_standingAt_5 hl (by decide) rfl (fun ls hl => ?_)
  have key30 : ∀ (n30 i1 : Nat), i1 + n30 = 60 → 0 ≤ i1 → ∀ (z2 : Int32), ∀ (z3 : Int32), ((-1 ≤ z3.toInt ∧ z3.toInt ≤ 59) ∧ (stI (fun i => (VR i).toInt) i1 p0.toInt z3.toInt z2.toInt) ∧ (((i1 : Nat) : Int) ≤ nr.toInt)) → ∀ (H : Heap) (locs : List Loc), gH (dC, dI) kA (SHc nC nS) G H → gF (dC, dI) SKc G ([] : List (Nat × Nat)) s.heap H → va_S A s.heap H locs → ct H rh 60 VR → ct H rn 60 VQ → el H o0 (dI 12 0) = some (.ref rh) → el H o0 (dI 12 1) = some (.ref rn) → el H o0 (dI 12 2) = some (.int nr) → ∀ ls : Array Slot, lv_has ls 5 [(4, .int (nI i1)), (3, .int z2), (2, .int z3), (0, .ref o0), (1, .int p0)] → W p l e (headSpec w_c_standingAtX9Y ({ frames := 0, cells := 0, slots := 0, locals := 0 })).room s m #[.ref o0, .int p0] below meth c H locs 0 0 (MQ below (va_Qi (fun (r : Int32) (u : Unit) => (-1 ≤ r.toInt ∧ r.toInt ≤ 59) ∧ (∃ l : Int, stI (fun i => (VR i).toInt) nr.toNatClampNeg p0.toInt r.toInt l)) (fun (_ : Unit) (t : State) => gH (dC, dI) kA (SHc nC nS) G t.heap ∧ gF (dC, dI) SKc G ([] : List (Nat × Nat)) s.heap t.heap) A) #[.ref o0, .int p0] s 0 0 A) (F0 m 7 ls []) := by
    intro n30
    induction n30 with
    | zero =>
      intro i1 hn30 hlo31 z2 z3 ⟨h4, hj10, hj11⟩ H locs hT hF hS m5 m6 m7 m8 m9 ls hl
      obtain rfl : 60 = i1 := by omega
      refine lv_iload hx hb dX9_standingAt_7 (lv_at hl 0 rfl) ?_
      refine lv_aload_n hx hb dX9_standingAt_9 rfl (lv_at hl 3 rfl) ?_
      refine tw_getM (v := .int nr) hx hb hts bF2_X9 hown hK hT hr_o0 shc_12 rfl 2 (by decide) (ht_at2 hts 0 rfl) (fun _ h9 => h9) m9 dX9_standingAt_10 ?_
      refine lv_icmp_ge (tgt := 55) hx hb dX9_standingAt_13 (by decide) (fun c32 => ?_) (fun c32 => (by exfalso; have q9 : ((60 : Nat) : Int) < nr.toInt := ti_nle c32 rfl (nI_toInt (by omega)); omega))
      have t33 : nr.toInt ≤ ((60 : Nat) : Int) := ti_le c32 rfl (nI_toInt (by omega))
      refine lv_iload_n hx hb dX9_standingAt_55 rfl (lv_at hl 2 rfl) ?_
      exact W.iret (v := z3) hx hb hr (fun t ht hW => ⟨⟨z3, (), rfl, (by exact ⟨(by have q8 := ti_all z3; omega), (by have q9 := tn_of (i := nr) rfl (by omega); have z9 := hj10; rw [show 60 = nr.toNatClampNeg from by omega] at z9; exact ⟨_, z9⟩)⟩), by (try dsimp only); rw [ht]; exact ⟨hT, hF⟩⟩, hS.F ht⟩) hS.2.2 dX9_standingAt_56
    | succ n30 ih30 =>
      intro i1 hn30 hlo31 z2 z3 ⟨h4, hj10, hj11⟩ H locs hT hF hS m5 m6 m7 m8 m9 ls hl
      have hlt33 : i1 < 60 := by omega
      refine lv_iload hx hb dX9_standingAt_7 (lv_at hl 0 rfl) ?_
      refine lv_aload_n hx hb dX9_standingAt_9 rfl (lv_at hl 3 rfl) ?_
      refine tw_getM (v := .int nr) hx hb hts bF2_X9 hown hK hT hr_o0 shc_12 rfl 2 (by decide) (ht_at2 hts 0 rfl) (fun _ h9 => h9) m9 dX9_standingAt_10 ?_
      refine lv_icmp_ge (tgt := 55) hx hb dX9_standingAt_13 (by decide) (fun c34 => ?_) (fun c34 => ?_)
      · have t35 : nr.toInt ≤ ((i1 : Nat) : Int) := ti_le c34 rfl (nI_toInt (by omega))
        refine lv_iload_n hx hb dX9_standingAt_55 rfl (lv_at hl 2 rfl) ?_
        exact W.iret (v := z3) hx hb hr (fun t ht hW => ⟨⟨z3, (), rfl, (by exact ⟨(by have q8 := ti_all z3; omega), (by have q9 := tn_of (i := nr) rfl (by omega); have z9 := hj10; rw [show i1 = nr.toNatClampNeg from by omega] at z9; exact ⟨_, z9⟩)⟩), by (try dsimp only); rw [ht]; exact ⟨hT, hF⟩⟩, hS.F ht⟩) hS.2.2 dX9_standingAt_56
      · have t36 : ((i1 : Nat) : Int) < nr.toInt := ti_nle c34 rfl (nI_toInt (by omega))
        refine lv_aload_n hx hb dX9_standingAt_16 rfl (lv_at hl 3 rfl) ?_
        refine tw_getM (v := .ref rh) hx hb hts bF2_X9 hown hK hT hr_o0 shc_12 rfl 0 (by decide) (ht_at2 hts 1 rfl) (fun _ h9 => h9) m7 dX9_standingAt_17 ?_
        refine lv_iload hx hb dX9_standingAt_20 (lv_at hl 0 rfl) ?_
        refine tw_iald (i := (nI i1)) hx hb hK hT hr_rh shc_23 rfl (vp_in_nI (by omega) (by decide)) dX9_standingAt_22 (fun v9 m37 h9 => ?_)
        obtain ⟨x38, rfl, gx38, kx38⟩ := h9
        have cx38 := m5.at m37 (by have q9 := tn_of (show (nI i1).toInt = ((i1 : Nat) : Int) from (nI_toInt (by omega))) (by omega); omega)
        refine lv_iload_n hx hb dX9_standingAt_23 rfl (lv_at hl 4 rfl) ?_
        have t39 : -2147483648 ≤ x38.toInt ∧ x38.toInt ≤ 2147483647 := ti_all x38
        have t40 : -2147483648 ≤ p0.toInt ∧ p0.toInt ≤ 2147483647 := ti_all p0
        refine lv_icmp_gt (tgt := 49) hx hb dX9_standingAt_24 (by decide) (fun c41 => ?_) (fun c41 => ?_)
        · have t42 : p0.toInt < x38.toInt := ti_lt c41 rfl rfl
          refine lv_iinc (v := nI (i1 + 1)) (lv' := [(4, .int (nI (i1 + 1))), (3, .int z2), (2, .int z3), (0, .ref o0), (1, .int p0)]) hx hb dX9_standingAt_49 hl (k := 0) rfl (nI_add i1 1) (by decide) rfl (fun ls hl => ?_)
          refine lv_goto (tgt := 7) hx hb dX9_standingAt_52 (by decide) ?_
          exact ih30 (i1 + 1) (by omega) (by omega) z2 z3 ⟨(by have q8 := ti_all z3; omega), (by have := (show z3.toInt = z3.toInt from rfl); have := (show z2.toInt = z2.toInt from rfl); have ex38 : (VR i1).toInt = x38.toInt := congrArg Int32.toInt (cx38.trans (by rw [tn_nI (by omega)])).symm; first | exact st_new hj10 (by show (VR i1).toInt ≤ p0.toInt; omega) (by show _ < (VR i1).toInt; omega) (by omega) (by show _ = (VR i1).toInt; omega) | exact st_old hj10 (fun q9 => by have q8 : (VR i1).toInt ≤ p0.toInt := q9.1; have q7 : _ < (VR i1).toInt := q9.2; omega)), (by omega)⟩ _ _ hT hF hS m5 m6 m7 m8 m9 ls (lv_sub hl [0, 1, 2, 3, 4] rfl)
        · have t43 : x38.toInt ≤ p0.toInt := ti_nlt c41 rfl rfl
          refine lv_aload_n hx hb dX9_standingAt_27 rfl (lv_at hl 3 rfl) ?_
          refine tw_getM (v := .ref rh) hx hb hts bF2_X9 hown hK hT hr_o0 shc_12 rfl 0 (by decide) (ht_at2 hts 1 rfl) (fun _ h9 => h9) m7 dX9_standingAt_28 ?_
          refine lv_iload hx hb dX9_standingAt_31 (lv_at hl 0 rfl) ?_
          refine tw_iald (i := (nI i1)) hx hb hK hT hr_rh shc_23 rfl (vp_in_nI (by omega) (by decide)) dX9_standingAt_33 (fun v9 m44 h9 => ?_)
          obtain ⟨x45, rfl, gx45, kx45⟩ := h9
          have cx45 := m5.at m44 (by have q9 := tn_of (show (nI i1).toInt = ((i1 : Nat) : Int) from (nI_toInt (by omega))) (by omega); omega)
          obtain rfl : x38 = x45 := (el_same m44 m37 rfl).symm
          refine lv_iload_n hx hb dX9_standingAt_34 rfl (lv_at hl 1 rfl) ?_
          have t46 : -2147483648 ≤ z2.toInt ∧ z2.toInt ≤ 2147483647 := ti_all z2
          refine lv_icmp_le (tgt := 49) hx hb dX9_standingAt_35 (by decide) (fun c47 => ?_) (fun c47 => ?_)
          · have t48 : x38.toInt ≤ z2.toInt := ti_le c47 rfl rfl
            refine lv_iinc (v := nI (i1 + 1)) (lv' := [(4, .int (nI (i1 + 1))), (3, .int z2), (2, .int z3), (0, .ref o0), (1, .int p0)]) hx hb dX9_standingAt_49 hl (k := 0) rfl (nI_add i1 1) (by decide) rfl (fun ls hl => ?_)
            refine lv_goto (tgt := 7) hx hb dX9_standingAt_52 (by decide) ?_
            exact ih30 (i1 + 1) (by omega) (by omega) z2 z3 ⟨(by have q8 := ti_all z3; omega), (by have := (show z3.toInt = z3.toInt from rfl); have := (show z2.toInt = z2.toInt from rfl); have ex38 : (VR i1).toInt = x38.toInt := congrArg Int32.toInt (cx38.trans (by rw [tn_nI (by omega)])).symm; first | exact st_new hj10 (by show (VR i1).toInt ≤ p0.toInt; omega) (by show _ < (VR i1).toInt; omega) (by omega) (by show _ = (VR i1).toInt; omega) | exact st_old hj10 (fun q9 => by have q8 : (VR i1).toInt ≤ p0.toInt := q9.1; have q7 : _ < (VR i1).toInt := q9.2; omega)), (by omega)⟩ _ _ hT hF hS m5 m6 m7 m8 m9 ls (lv_sub hl [0, 1, 2, 3, 4] rfl)
          · have t49 : z2.toInt < x38.toInt := ti_nle c47 rfl rfl
            refine lv_aload_n hx hb dX9_standingAt_38 rfl (lv_at hl 3 rfl) ?_
            refine tw_getM (v := .ref rh) hx hb hts bF2_X9 hown hK hT hr_o0 shc_12 rfl 0 (by decide) (ht_at2 hts 1 rfl) (fun _ h9 => h9) m7 dX9_standingAt_39 ?_
            refine lv_iload hx hb dX9_standingAt_42 (lv_at hl 0 rfl) ?_
            refine tw_iald (i := (nI i1)) hx hb hK hT hr_rh shc_23 rfl (vp_in_nI (by omega) (by decide)) dX9_standingAt_44 (fun v9 m50 h9 => ?_)
            obtain ⟨x51, rfl, gx51, kx51⟩ := h9
            have cx51 := m5.at m50 (by have q9 := tn_of (show (nI i1).toInt = ((i1 : Nat) : Int) from (nI_toInt (by omega))) (by omega); omega)
            obtain rfl : x38 = x51 := (el_same m50 m37 rfl).symm
            refine lv_istore_n (lv' := [(3, .int x38), (4, .int (nI i1)), (2, .int z3), (0, .ref o0), (1, .int p0)]) hx hb dX9_standingAt_45 rfl hl (by decide) rfl (fun ls hl => ?_)
            refine lv_iload hx hb dX9_standingAt_46 (lv_at hl 1 rfl) ?_
            refine lv_istore_n (lv' := [(2, .int (nI i1)), (3, .int x38), (4, .int (nI i1)), (0, .ref o0), (1, .int p0)]) hx hb dX9_standingAt_48 rfl hl (by decide) rfl (fun ls hl => ?_)
            refine lv_iinc (v := nI (i1 + 1)) (lv' := [(4, .int (nI (i1 + 1))), (2, .int (nI i1)), (3, .int x38), (0, .ref o0), (1, .int p0)]) hx hb dX9_standingAt_49 hl (k := 2) rfl (nI_add i1 1) (by decide) rfl (fun ls hl => ?_)
            refine lv_goto (tgt := 7) hx hb dX9_standingAt_52 (by decide) ?_
            exact ih30 (i1 + 1) (by omega) (by omega) x38 (nI i1) ⟨(rg_t (a := ((i1 : Nat) : Int)) (nI_toInt (by omega)) (by omega) (by omega)), (by have := (show (nI i1).toInt = ((i1 : Nat) : Int) from (nI_toInt (by omega))); have := (show x38.toInt = x38.toInt from rfl); have ex38 : (VR i1).toInt = x38.toInt := congrArg Int32.toInt (cx38.trans (by rw [tn_nI (by omega)])).symm; first | exact st_new hj10 (by show (VR i1).toInt ≤ p0.toInt; omega) (by show _ < (VR i1).toInt; omega) (by omega) (by show _ = (VR i1).toInt; omega) | exact st_old hj10 (fun q9 => by have q8 : (VR i1).toInt ≤ p0.toInt := q9.1; have q7 : _ < (VR i1).toInt := q9.2; omega)), (by omega)⟩ _ _ hT hF hS m5 m6 m7 m8 m9 ls (lv_sub hl [0, 2, 1, 3, 4] rfl)
  exact key30 (60 - 0) 0 (by omega) (Nat.le_refl _) (-1) (-1) ⟨(rg_t (a := (-1)) (by decide) (by first | decide | omega) (by first | decide | omega)), (st_00 (by decide) (by decide)), (by omega)⟩ _ _ hT hF hS hc_VR hc_VQ hm_rh hm_rn hm_nr ls (lv_sub hl [0, 1, 2, 3, 4] rfl)
def w_c_outsideAtY : List Cond := .code yX8_outsideAt cX8_outsideAt 4 (some .int) :: (HAppend.hAppend (α := List Cond) (β := List Cond) (γ := List Cond) [.fieldLink RX8 9 "SeaLand$Sky" "tides" "[I", .code yJ9_floorMod_7cf53 cJ9_floorMod_7cf53 3 (some .int), .methodLink RX8 38 yJ9_floorMod_7cf53, .static yJ9_floorMod_7cf53, .initialized RJ9, .fieldLink RX8 34 "SeaLand$Sky" "storms" "I", .fieldLink RX8 15 "SeaLand$Sky" "stormFrom" "[I", .fieldLink RX8 18 "SeaLand$Sky" "stormTo" "[I", .fieldLink RX8 21 "SeaLand$Sky" "stormMore" "[I"] bs2)
set_option maxHeartbeats 4000000 in
set_option maxRecDepth 100000 in
theorem c_outsideAtY (l : Launch) (dC : Nat → ClassId) (dI : Nat → Nat → Nat) (kA : Nat → ClassId) (adK adV : Nat → Nat) (G : gT) (H0 : Heap) (nC nS : Int) (o0 : Nat) (p0 : Int32) (ti : Nat) (sf : Nat) (so : Nat) (sm : Nat) (ns : Int32) (VT : Nat → Int32) (VF : Nat → Int32) (VO : Nat → Int32) (VM : Nat → Int32)  (hT : gH (dC, dI) kA (SHc nC nS) G H0) (hr_o0 : G o0 = some 11) (hm_ti : el H0 o0 (dI 11 0) = some (.ref ti)) (hr_ti : G ti = some 19) (hm_sf : el H0 o0 (dI 11 1) = some (.ref sf)) (hr_sf : G sf = some 20) (hm_so : el H0 o0 (dI 11 2) = some (.ref so)) (hr_so : G so = some 21) (hm_sm : el H0 o0 (dI 11 3) = some (.ref sm)) (hr_sm : G sm = some 22) (hm_ns : el H0 o0 (dI 11 6) = some (.int ns)) (hq0 : 0 ≤ ns.toInt ∧ ns.toInt ≤ 20) (hq1 : 0 ≤ p0.toInt ∧ p0.toInt ≤ 40000) (hM9 : ∀ i : Nat, ((i : Nat) : Int) < ns.toInt → 0 ≤ (VM i).toInt ∧ (VM i).toInt ≤ 500) (hT9 : ∀ i : Nat, i < 12 → -400 ≤ (VT i).toInt ∧ (VT i).toInt ≤ 400) (hc_VT : ct H0 ti 12 VT) (hc_VF : ct H0 sf 20 VF) (hc_VO : ct H0 so 20 VO) (hc_VM : ct H0 sm 20 VM) (hgC : 0 ≤ nC ∧ nC ≤ 40) (hgS : 0 ≤ nS ∧ nS ≤ 60) : Met l yX8_outsideAt w_c_outsideAtY ({ frames := 1, cells := 0, slots := 0, locals := 22 }) (va_Pc [.ref o0, .int p0] (fun U => U.heap = H0 ∧ va_K (dC, dI) vwCl (tyl kA) U ∧ EVC adK adV (gA G H0.size) U U.heap)) (va_Qi (fun (r : Int32) (u : Unit) => (-400 ≤ r.toInt ∧ r.toInt ≤ 10400) ∧ (r.toInt = (VT (p0.toInt % 12).toNat).toInt + osm (fun i => (VF i).toInt) (fun i => (VO i).toInt) (fun i => (VM i).toInt) p0.toInt ns.toNatClampNeg)) (fun (_ : Unit) (t : State) => gH (dC, dI) kA (SHc nC nS) G t.heap ∧ gF (dC, dI) SKc G ([] : List (Nat × Nat)) H0 t.heap) (gA G H0.size)) 0 0 (gA G H0.size) := by
  refine Met.ofW (cc := cX8_outsideAt) (maxL := 4) (ret := (some .int)) (by decide) rfl ?_
  intro p e s m args below meth c s₁ B hml hv
  obtain ⟨rfl, hH0, hK, hE⟩ := hv
  have hx := B.exec
  have hb := B.bytes
  have hr := B.returns
  have hts := atoms_spec (ws := w_c_outsideAtY) B.pre
  have hown : s.vm.findClass RX8 = some m.cls := findClass_of_methodNamed B.named
  have hlocks := B.notSynchronized
  subst hH0
  generalize hAe : gA G s.heap.size = A at hE ⊢
  have hA : ∀ q : Nat, s.heap.size ≤ q → A q := fun q h => by rw [← hAe]; exact Or.inr h
  have hG := gA_of hAe
  have hS : va_S A s.heap s.heap [] := va_S.rf
  have hF : gF (dC, dI) SKc G ([] : List (Nat × Nat)) s.heap s.heap := gF.rf
  have hl := lv_entry ([.ref o0, .int p0]) (n := 4) (Nat.le_of_ble_eq_true rfl)
  rw [lg_entry_eq]
  generalize (lg_sl ([.ref o0, .int p0]) ++ List.replicate (4 - (lg_sl ([.ref o0, .int p0])).length) Slot.unset).toArray = ls at hl ⊢
  have hl : lv_has ls 4 [(0, .ref o0), (1, .int p0)] := hl
  refine lv_aload_n hx hb dX8_outsideAt_0 rfl (lv_at hl 0 rfl) ?_
  refine tw_getM (v := .ref ti) hx hb hts bF2_X8 hown hK hT hr_o0 shc_11 rfl 0 (by decide) (ht_at2 hts 0 rfl) (fun _ h9 => h9) hm_ti dX8_outsideAt_1 ?_
  refine lv_iload_n hx hb dX8_outsideAt_4 rfl (lv_at hl 1 rfl) ?_
  refine lv_bipush (v := 12) hx hb dX8_outsideAt_5 (by decide) ?_
  have hFc := gA_free hG hA hS
  refine va_calli (va_runS (As := [.int p0, .int 12]) (rest := [.ref ti]) ⟨hx, hb, hml, hown, hts⟩ (c_floorModY l dC dI kA adK adV G s.heap nC nS p0 hT (by have q8 := ti_all p0; omega) (by omega) (by omega)) (va_cwS 2 hts (goodIn_app (goodIn_r _ [3, 4, 5] rfl (by decide +kernel)) (goodIn_ca (goodIn_r _ [2] rfl (by decide +kernel)) (bs2_in _ _))) rfl rfl rfl (by decide +kernel) ⟨(Nat.le_of_ble_eq_true rfl), (Nat.le_of_ble_eq_true rfl)⟩) ⟨fun a U g mk q => by obtain ⟨q0, q1, qK, qE⟩ := q; exact ⟨q0, q1, va_K.moved (u := U) (U := U.calling g mk a) (Vm.Alike.refl U.vm) qK, EVC.blind g mk a qE⟩, fun U hU hW => ⟨rfl, hU, va_K.moved hW.alike hK, hE.call hS hFc hU hW⟩⟩ rfl rfl hl.1 rfl (lv_room (Nat.le_of_ble_eq_true rfl)) dX8_outsideAt_7 ⟨(Nat.le_of_ble_eq_true rfl), (Nat.le_of_ble_eq_true rfl)⟩) hS (fun q _ h => hFc q h) hFc (fun r1 u t H locs ht hvm hw2 hB _ _ hS => ?_)
  obtain ⟨hT, hF1⟩ := hB
  rw [ht] at hT hF1
  have m3 := (hF1.fld hr_o0 skc_11 (k := 0) (by decide) (by decide)).trans hm_ti
  have m4 := (hF1.fld hr_o0 skc_11 (k := 1) (by decide) (by decide)).trans hm_sf
  have m5 := (hF1.fld hr_o0 skc_11 (k := 2) (by decide) (by decide)).trans hm_so
  have m6 := (hF1.fld hr_o0 skc_11 (k := 3) (by decide) (by decide)).trans hm_sm
  have m7 := (hF1.fld hr_o0 skc_11 (k := 6) (by decide) (by decide)).trans hm_ns
  have m8 := hc_VT.kept (hF1.arr hr_ti skc_19 (by decide))
  have m9 := hc_VF.kept (hF1.arr hr_sf skc_20 (by decide))
  have m10 := hc_VO.kept (hF1.arr hr_so skc_21 (by decide))
  have m11 := hc_VM.kept (hF1.arr hr_sm skc_22 (by decide))
  have hF := hF.more hF1 (by decide)
  try dsimp only at hw2
  obtain ⟨h12, hf13⟩ := hw2
  refine tw_iald (i := r1) hx hb hK hT hr_ti shc_19 rfl (vin_t (a := r1.toInt) rfl (by omega) (by omega)) dX8_outsideAt_10 (fun v9 m14 h9 => ?_)
  obtain ⟨x15, rfl, gx15, kx15⟩ := h9
  have cx15 := m8.at m14 (by have q9 := tn_of (show r1.toInt = r1.toInt from rfl) (by omega); omega)
  have t16 : -400 ≤ x15.toInt ∧ x15.toInt ≤ 400 := (by have q7 := tn_of (i := r1) rfl (by omega); have q9 := hT9 r1.toNatClampNeg (by omega); rw [show VT r1.toNatClampNeg = x15 from cx15.symm] at q9; exact q9)
  refine lv_istore_n (lv' := [(2, .int x15), (0, .ref o0), (1, .int p0)]) hx hb dX8_outsideAt_11 rfl hl (by decide) rfl (fun ls hl => ?_)
  refine lv_iconst (v := 0) hx hb dX8_outsideAt_12 (by decide) ?_
  refine lv_istore_n (lv' := [(3, .int 0), (2, .int x15), (0, .ref o0), (1, .int p0)]) hx hb dX8_outsideAt_13 rfl hl (by decide) rfl (fun ls hl => ?_)
  have key52 : ∀ (n52 i17 : Nat), i17 + n52 = 20 → 0 ≤ i17 → ∀ (z18 : Int32), ((-400 + 0 * (i17 : Int) ≤ z18.toInt ∧ z18.toInt ≤ 400 + 500 * (i17 : Int)) ∧ (z18.toInt = (VT (p0.toInt % 12).toNat).toInt + osm (fun i => (VF i).toInt) (fun i => (VO i).toInt) (fun i => (VM i).toInt) p0.toInt i17) ∧ (((i17 : Nat) : Int) ≤ ns.toInt)) → ∀ (H : Heap) (locs : List Loc), gH (dC, dI) kA (SHc nC nS) G H → gF (dC, dI) SKc G ([] : List (Nat × Nat)) s.heap H → va_S A s.heap H locs → ct H ti 12 VT → ct H sf 20 VF → ct H so 20 VO → ct H sm 20 VM → el H o0 (dI 11 0) = some (.ref ti) → el H o0 (dI 11 1) = some (.ref sf) → el H o0 (dI 11 2) = some (.ref so) → el H o0 (dI 11 3) = some (.ref sm) → el H o0 (dI 11 6) = some (.int ns) → el H ti r1.toNatClampNeg = some (.int x15) → ∀ ls : Array Slot, lv_has ls 4 [(3, .int (nI i17)), (2, .int z18), (0, .ref o0), (1, .int p0)] → W p l e (headSpec w_c_outsideAtY ({ frames := 1, cells := 0, slots := 0, locals := 22 })).room s m #[.ref o0, .int p0] below meth c H locs 0 0 (MQ below (va_Qi (fun (r : Int32) (u : Unit) => (-400 ≤ r.toInt ∧ r.toInt ≤ 10400) ∧ (r.toInt = (VT (p0.toInt % 12).toNat).toInt + osm (fun i => (VF i).toInt) (fun i => (VO i).toInt) (fun i => (VM i).toInt) p0.toInt ns.toNatClampNeg)) (fun (_ : Unit) (t : State) => gH (dC, dI) kA (SHc nC nS) G t.heap ∧ gF (dC, dI) SKc G ([] : List (Nat × Nat)) s.heap t.heap) A) #[.ref o0, .int p0] s 0 0 A) (F0 m 14 ls []) := by
    intro n52
    induction n52 with
    | zero =>
      intro i17 hn52 hlo53 z18 ⟨h19, hj30, hj31⟩ H locs hT hF hS m20 m21 m22 m23 m24 m25 m26 m27 m28 m29 ls hl
      obtain rfl : 20 = i17 := by omega
      refine lv_iload_n hx hb dX8_outsideAt_14 rfl (lv_at hl 0 rfl) ?_
      refine lv_aload_n hx hb dX8_outsideAt_15 rfl (lv_at hl 2 rfl) ?_
      refine tw_getM (v := .int ns) hx hb hts bF2_X8 hown hK hT hr_o0 shc_11 rfl 6 (by decide) (ht_at2 hts 5 rfl) (fun _ h9 => h9) m28 dX8_outsideAt_16 ?_
      refine lv_icmp_ge (tgt := 57) hx hb dX8_outsideAt_19 (by decide) (fun c54 => ?_) (fun c54 => (by exfalso; have q9 : ((20 : Nat) : Int) < ns.toInt := ti_nle c54 rfl (nI_toInt (by omega)); omega))
      have t55 : ns.toInt ≤ ((20 : Nat) : Int) := ti_le c54 rfl (nI_toInt (by omega))
      refine lv_iload_n hx hb dX8_outsideAt_57 rfl (lv_at hl 1 rfl) ?_
      exact W.iret (v := z18) hx hb hr (fun t ht hW => ⟨⟨z18, (), rfl, (by exact ⟨(by have q8 := ti_all z18; omega), (by have q9 := tn_of (i := ns) rfl (by omega); have z9 := hj30; rw [show 20 = ns.toNatClampNeg from by omega] at z9; exact z9)⟩), by (try dsimp only); rw [ht]; exact ⟨hT, hF⟩⟩, hS.F ht⟩) hS.2.2 dX8_outsideAt_58
    | succ n52 ih52 =>
      intro i17 hn52 hlo53 z18 ⟨h19, hj30, hj31⟩ H locs hT hF hS m20 m21 m22 m23 m24 m25 m26 m27 m28 m29 ls hl
      have hlt55 : i17 < 20 := by omega
      refine lv_iload_n hx hb dX8_outsideAt_14 rfl (lv_at hl 0 rfl) ?_
      refine lv_aload_n hx hb dX8_outsideAt_15 rfl (lv_at hl 2 rfl) ?_
      refine tw_getM (v := .int ns) hx hb hts bF2_X8 hown hK hT hr_o0 shc_11 rfl 6 (by decide) (ht_at2 hts 5 rfl) (fun _ h9 => h9) m28 dX8_outsideAt_16 ?_
      refine lv_icmp_ge (tgt := 57) hx hb dX8_outsideAt_19 (by decide) (fun c56 => ?_) (fun c56 => ?_)
      · have t57 : ns.toInt ≤ ((i17 : Nat) : Int) := ti_le c56 rfl (nI_toInt (by omega))
        refine lv_iload_n hx hb dX8_outsideAt_57 rfl (lv_at hl 1 rfl) ?_
        exact W.iret (v := z18) hx hb hr (fun t ht hW => ⟨⟨z18, (), rfl, (by exact ⟨(by have q8 := ti_all z18; omega), (by have q9 := tn_of (i := ns) rfl (by omega); have z9 := hj30; rw [show i17 = ns.toNatClampNeg from by omega] at z9; exact z9)⟩), by (try dsimp only); rw [ht]; exact ⟨hT, hF⟩⟩, hS.F ht⟩) hS.2.2 dX8_outsideAt_58
      · have t58 : ((i17 : Nat) : Int) < ns.toInt := ti_nle c56 rfl (nI_toInt (by omega))
        refine lv_aload_n hx hb dX8_outsideAt_22 rfl (lv_at hl 2 rfl) ?_
        refine tw_getM (v := .ref sf) hx hb hts bF2_X8 hown hK hT hr_o0 shc_11 rfl 1 (by decide) (ht_at2 hts 6 rfl) (fun _ h9 => h9) m25 dX8_outsideAt_23 ?_
        refine lv_iload_n hx hb dX8_outsideAt_26 rfl (lv_at hl 0 rfl) ?_
        refine tw_iald (i := (nI i17)) hx hb hK hT hr_sf shc_20 rfl (vp_in_nI (by omega) (by decide)) dX8_outsideAt_27 (fun v9 m59 h9 => ?_)
        obtain ⟨x60, rfl, gx60, kx60⟩ := h9
        have cx60 := m21.at m59 (by have q9 := tn_of (show (nI i17).toInt = ((i17 : Nat) : Int) from (nI_toInt (by omega))) (by omega); omega)
        refine lv_iload_n hx hb dX8_outsideAt_28 rfl (lv_at hl 3 rfl) ?_
        have t61 : -2147483648 ≤ x60.toInt ∧ x60.toInt ≤ 2147483647 := ti_all x60
        refine lv_icmp_gt (tgt := 51) hx hb dX8_outsideAt_29 (by decide) (fun c62 => ?_) (fun c62 => ?_)
        · have t63 : p0.toInt < x60.toInt := ti_lt c62 rfl rfl
          refine lv_iinc (v := nI (i17 + 1)) (lv' := [(3, .int (nI (i17 + 1))), (2, .int z18), (0, .ref o0), (1, .int p0)]) hx hb dX8_outsideAt_51 hl (k := 0) rfl (nI_add i17 1) (by decide) rfl (fun ls hl => ?_)
          refine lv_goto (tgt := 14) hx hb dX8_outsideAt_54 (by decide) ?_
          exact ih52 (i17 + 1) (by omega) (by omega) z18 ⟨(by have q8 := ti_all z18; omega), (by have := (show z18.toInt = z18.toInt from rfl); have ex60 : (VF i17).toInt = x60.toInt := congrArg Int32.toInt (cx60.trans (by rw [tn_nI (by omega)])).symm; first | exact osm_in (show (VF i17).toInt ≤ p0.toInt ∧ p0.toInt ≤ (VO i17).toInt from ⟨by omega, by omega⟩) hj30 (by show _ = _ + (VM i17).toInt; omega) | exact osm_no (fun q9 => by have q8 : (VF i17).toInt ≤ p0.toInt ∧ p0.toInt ≤ (VO i17).toInt := q9; omega) hj30), (by omega)⟩ _ _ hT hF hS m20 m21 m22 m23 m24 m25 m26 m27 m28 m29 ls (lv_sub hl [0, 1, 2, 3] rfl)
        · have t64 : x60.toInt ≤ p0.toInt := ti_nlt c62 rfl rfl
          refine lv_iload_n hx hb dX8_outsideAt_32 rfl (lv_at hl 3 rfl) ?_
          refine lv_aload_n hx hb dX8_outsideAt_33 rfl (lv_at hl 2 rfl) ?_
          refine tw_getM (v := .ref so) hx hb hts bF2_X8 hown hK hT hr_o0 shc_11 rfl 2 (by decide) (ht_at2 hts 7 rfl) (fun _ h9 => h9) m26 dX8_outsideAt_34 ?_
          refine lv_iload_n hx hb dX8_outsideAt_37 rfl (lv_at hl 0 rfl) ?_
          refine tw_iald (i := (nI i17)) hx hb hK hT hr_so shc_21 rfl (vp_in_nI (by omega) (by decide)) dX8_outsideAt_38 (fun v9 m65 h9 => ?_)
          obtain ⟨x66, rfl, gx66, kx66⟩ := h9
          have cx66 := m22.at m65 (by have q9 := tn_of (show (nI i17).toInt = ((i17 : Nat) : Int) from (nI_toInt (by omega))) (by omega); omega)
          have t67 : -2147483648 ≤ x66.toInt ∧ x66.toInt ≤ 2147483647 := ti_all x66
          refine lv_icmp_gt (tgt := 51) hx hb dX8_outsideAt_39 (by decide) (fun c68 => ?_) (fun c68 => ?_)
          · have t69 : x66.toInt < p0.toInt := ti_lt c68 rfl rfl
            refine lv_iinc (v := nI (i17 + 1)) (lv' := [(3, .int (nI (i17 + 1))), (2, .int z18), (0, .ref o0), (1, .int p0)]) hx hb dX8_outsideAt_51 hl (k := 0) rfl (nI_add i17 1) (by decide) rfl (fun ls hl => ?_)
            refine lv_goto (tgt := 14) hx hb dX8_outsideAt_54 (by decide) ?_
            exact ih52 (i17 + 1) (by omega) (by omega) z18 ⟨(by have q8 := ti_all z18; omega), (by have := (show z18.toInt = z18.toInt from rfl); have ex60 : (VF i17).toInt = x60.toInt := congrArg Int32.toInt (cx60.trans (by rw [tn_nI (by omega)])).symm; have ex66 : (VO i17).toInt = x66.toInt := congrArg Int32.toInt (cx66.trans (by rw [tn_nI (by omega)])).symm; first | exact osm_in (show (VF i17).toInt ≤ p0.toInt ∧ p0.toInt ≤ (VO i17).toInt from ⟨by omega, by omega⟩) hj30 (by show _ = _ + (VM i17).toInt; omega) | exact osm_no (fun q9 => by have q8 : (VF i17).toInt ≤ p0.toInt ∧ p0.toInt ≤ (VO i17).toInt := q9; omega) hj30), (by omega)⟩ _ _ hT hF hS m20 m21 m22 m23 m24 m25 m26 m27 m28 m29 ls (lv_sub hl [0, 1, 2, 3] rfl)
          · have t70 : p0.toInt ≤ x66.toInt := ti_nlt c68 rfl rfl
            refine lv_iload_n hx hb dX8_outsideAt_42 rfl (lv_at hl 1 rfl) ?_
            refine lv_aload_n hx hb dX8_outsideAt_43 rfl (lv_at hl 2 rfl) ?_
            refine tw_getM (v := .ref sm) hx hb hts bF2_X8 hown hK hT hr_o0 shc_11 rfl 3 (by decide) (ht_at2 hts 8 rfl) (fun _ h9 => h9) m27 dX8_outsideAt_44 ?_
            refine lv_iload_n hx hb dX8_outsideAt_47 rfl (lv_at hl 0 rfl) ?_
            refine tw_iald (i := (nI i17)) hx hb hK hT hr_sm shc_22 rfl (vp_in_nI (by omega) (by decide)) dX8_outsideAt_48 (fun v9 m71 h9 => ?_)
            obtain ⟨x72, rfl, gx72, kx72⟩ := h9
            have cx72 := m23.at m71 (by have q9 := tn_of (show (nI i17).toInt = ((i17 : Nat) : Int) from (nI_toInt (by omega))) (by omega); omega)
            have t73 : 0 ≤ x72.toInt ∧ x72.toInt ≤ 500 := (by have q9 := hM9 i17 (by omega); rw [show VM i17 = x72 from (cx72.trans (by rw [tn_nI (by omega)])).symm] at q9; exact q9)
            refine lv_iadd hx hb dX8_outsideAt_49 ?_
            refine lv_topi (fun x74 ex74 => ?_)
            have t75 : x74.toInt = z18.toInt + x72.toInt := ti_add ex74 rfl rfl (by omega) (by omega)
            refine lv_istore_n (lv' := [(2, .int x74), (3, .int (nI i17)), (0, .ref o0), (1, .int p0)]) hx hb dX8_outsideAt_50 rfl hl (by decide) rfl (fun ls hl => ?_)
            refine lv_iinc (v := nI (i17 + 1)) (lv' := [(3, .int (nI (i17 + 1))), (2, .int x74), (0, .ref o0), (1, .int p0)]) hx hb dX8_outsideAt_51 hl (k := 1) rfl (nI_add i17 1) (by decide) rfl (fun ls hl => ?_)
            refine lv_goto (tgt := 14) hx hb dX8_outsideAt_54 (by decide) ?_
            exact ih52 (i17 + 1) (by omega) (by omega) x74 ⟨(by have q8 := ti_all x74; omega), (by have := (show x74.toInt = x74.toInt from rfl); have ex60 : (VF i17).toInt = x60.toInt := congrArg Int32.toInt (cx60.trans (by rw [tn_nI (by omega)])).symm; have ex66 : (VO i17).toInt = x66.toInt := congrArg Int32.toInt (cx66.trans (by rw [tn_nI (by omega)])).symm; have ex72 : (VM i17).toInt = x72.toInt := congrArg Int32.toInt (cx72.trans (by rw [tn_nI (by omega)])).symm; first | exact osm_in (show (VF i17).toInt ≤ p0.toInt ∧ p0.toInt ≤ (VO i17).toInt from ⟨by omega, by omega⟩) hj30 (by show _ = _ + (VM i17).toInt; omega) | exact osm_no (fun q9 => by have q8 : (VF i17).toInt ≤ p0.toInt ∧ p0.toInt ≤ (VO i17).toInt := q9; omega) hj30), (by omega)⟩ _ _ hT hF hS m20 m21 m22 m23 m24 m25 m26 m27 m28 m29 ls (lv_sub hl [0, 1, 2, 3] rfl)
  exact key52 (20 - 0) 0 (by omega) (Nat.le_refl _) x15 ⟨(by have q8 := ti_all x15; omega), (by have := (show x15.toInt = x15.toInt from rfl); have e9 : (VT (p0.toInt % 12).toNat).toInt = x15.toInt := congrArg Int32.toInt (cx15.trans (by rw [show (r1).toNatClampNeg = (p0.toInt % 12).toNat from by have q9 := tn_of (i := r1) rfl (by omega); omega])).symm; unfold osm; omega), (by omega)⟩ _ _ hT hF hS m8 m9 m10 m11 m3 m4 m5 m6 m7 m14 ls (lv_sub hl [0, 1, 2, 3] rfl)
def w_c_windAtY : List Cond := .code yX8_windAt cX8_windAt 4 (some .int) :: (HAppend.hAppend (α := List Cond) (β := List Cond) (γ := List Cond) [.fieldLink RX8 27 "SeaLand$Sky" "wind" "LSeaLand$Tellings;", .code yX9_standingAt cX9_standingAt 5 (some .int), .fieldLink RX9 18 "SeaLand$Tellings" "told" "I", .fieldLink RX9 9 "SeaLand$Tellings" "hours" "[I", .methodLink RX8 44 yX9_standingAt, .instanceMethod yX9_standingAt, .selects RX9 yX9_standingAt yX9_standingAt, .initialized RX9, .code yX9_nearestNumberBefore cX9_nearestNumberBefore 5 (some .int), .fieldLink RX9 15 "SeaLand$Tellings" "numbers" "[I", .methodLink RX8 54 yX9_nearestNumberBefore, .instanceMethod yX9_nearestNumberBefore, .selects RX9 yX9_nearestNumberBefore yX9_nearestNumberBefore, .code yX9_nearestNumberAfter cX9_nearestNumberAfter 5 (some .int), .constant RX9 22 40001, .methodLink RX8 57 yX9_nearestNumberAfter, .instanceMethod yX9_nearestNumberAfter, .selects RX9 yX9_nearestNumberAfter yX9_nearestNumberAfter, .methodLink RX8 60 Lib.Math.max.name, .static Lib.Math.max.name, .initialized "java/lang/Math", .code Lib.Math.max.name Lib.Math.max.code 2 (some .int)] bs2)
set_option maxHeartbeats 4000000 in
set_option maxRecDepth 100000 in
theorem c_windAtY (l : Launch) (dC : Nat → ClassId) (dI : Nat → Nat → Nat) (kA : Nat → ClassId) (adK adV : Nat → Nat) (G : gT) (H0 : Heap) (nC nS : Int) (o0 : Nat) (p0 : Int32) (wi : Nat) (wh : Nat) (wn : Nat) (nw : Int32) (VH : Nat → Int32) (VN : Nat → Int32)  (hT : gH (dC, dI) kA (SHc nC nS) G H0) (hr_o0 : G o0 = some 11) (hm_wi : el H0 o0 (dI 11 4) = some (.ref wi)) (hr_wi : G wi = some 130) (hm_wh : el H0 wi (dI 12 0) = some (.ref wh)) (hr_wh : G wh = some 131) (hm_wn : el H0 wi (dI 12 1) = some (.ref wn)) (hr_wn : G wn = some 132) (hm_nw : el H0 wi (dI 12 2) = some (.int nw)) (hq0 : 0 ≤ nw.toInt ∧ nw.toInt ≤ 60) (hc_VH : ct H0 wh 60 VH) (hc_VN : ct H0 wn 60 VN) (hgC : 0 ≤ nC ∧ nC ≤ 40) (hgS : 0 ≤ nS ∧ nS ≤ 60) : Met l yX8_windAt w_c_windAtY ({ frames := 1, cells := 0, slots := 0, locals := 40 }) (va_Pc [.ref o0, .int p0] (fun U => U.heap = H0 ∧ va_K (dC, dI) vwCl (tyl kA) U ∧ EVC adK adV (gA G H0.size) U U.heap)) (va_Qi (fun (r : Int32) (u : Unit) => (wdC (fun i => (VH i).toInt) (fun i => (VN i).toInt) nw.toNatClampNeg p0.toInt r.toInt)) (fun (_ : Unit) (t : State) => gH (dC, dI) kA (SHc nC nS) G t.heap ∧ gF (dC, dI) SKc G ([] : List (Nat × Nat)) H0 t.heap) (gA G H0.size)) 0 0 (gA G H0.size) := by
  refine Met.ofW (cc := cX8_windAt) (maxL := 4) (ret := (some .int)) (by decide) rfl ?_
  intro p e s m args below meth c s₁ B hml hv
  obtain ⟨rfl, hH0, hK, hE⟩ := hv
  have hx := B.exec
  have hb := B.bytes
  have hr := B.returns
  have hts := atoms_spec (ws := w_c_windAtY) B.pre
  have hown : s.vm.findClass RX8 = some m.cls := findClass_of_methodNamed B.named
  have hlocks := B.notSynchronized
  subst hH0
  generalize hAe : gA G s.heap.size = A at hE ⊢
  have hA : ∀ q : Nat, s.heap.size ≤ q → A q := fun q h => by rw [← hAe]; exact Or.inr h
  have hG := gA_of hAe
  have hS : va_S A s.heap s.heap [] := va_S.rf
  have hF : gF (dC, dI) SKc G ([] : List (Nat × Nat)) s.heap s.heap := gF.rf
  have hl := lv_entry ([.ref o0, .int p0]) (n := 4) (Nat.le_of_ble_eq_true rfl)
  rw [lg_entry_eq]
  generalize (lg_sl ([.ref o0, .int p0]) ++ List.replicate (4 - (lg_sl ([.ref o0, .int p0])).length) Slot.unset).toArray = ls at hl ⊢
  have hl : lv_has ls 4 [(0, .ref o0), (1, .int p0)] := hl
  refine lv_aload_n hx hb dX8_windAt_0 rfl (lv_at hl 0 rfl) ?_
  refine tw_getM (v := .ref wi) hx hb hts bF2_X8 hown hK hT hr_o0 shc_11 rfl 4 (by decide) (ht_at2 hts 0 rfl) (fun _ h9 => h9) hm_wi dX8_windAt_1 ?_
  refine lv_iload_n hx hb dX8_windAt_4 rfl (lv_at hl 1 rfl) ?_
  have hFc := gA_free hG hA hS
  refine va_calli (va_runV (As := [.int p0]) (rest := []) ⟨hx, hb, hml, hown, hts⟩ (c_standingAtW9Y l dC dI kA adK adV G s.heap nC nS wi p0 wh wn nw VH VN hT hr_wi hm_wh hr_wh hm_wn hr_wn hm_nw (by have q8 := ti_all nw; omega) hc_VH hc_VN (by omega) (by omega)) (cwV 1 hts (goodIn_app (goodIn_r _ [5, 6, 7, 8] rfl (by decide +kernel)) (goodIn_ca (goodIn_r _ [2, 3, 4] rfl (by decide +kernel)) (bs2_in _ _))) rfl rfl rfl (by decide +kernel) ⟨(Nat.le_of_ble_eq_true rfl), (Nat.le_of_ble_eq_true rfl)⟩) ⟨fun a U g mk q => by obtain ⟨q0, q1, qK, qE⟩ := q; exact ⟨q0, q1, va_K.moved (u := U) (U := U.calling g mk a) (Vm.Alike.refl U.vm) qK, EVC.blind g mk a qE⟩, gH_rc hK hT hr_wi shc_130 rfl, fun U hU hW => ⟨rfl, hU, va_K.moved hW.alike hK, hE.call hS hFc hU hW⟩⟩ rfl rfl hl.1 rfl (lv_room (Nat.le_of_ble_eq_true rfl)) dX8_windAt_5 ⟨(Nat.le_of_ble_eq_true rfl), (Nat.le_of_ble_eq_true rfl)⟩) hS (fun q _ h => hFc q h) hFc (fun r1 u t H locs ht hvm hw2 hB _ _ hS => ?_)
  obtain ⟨hT, hF1⟩ := hB
  rw [ht] at hT hF1
  have m3 := (hF1.fld hr_o0 skc_11 (k := 4) (by decide) (by decide)).trans hm_wi
  have m4 := (hF1.fld hr_wi skc_130 (k := 0) (by decide) (by decide)).trans hm_wh
  have m5 := (hF1.fld hr_wi skc_130 (k := 1) (by decide) (by decide)).trans hm_wn
  have m6 := (hF1.fld hr_wi skc_130 (k := 2) (by decide) (by decide)).trans hm_nw
  have m7 := hc_VH.kept (hF1.arr hr_wh skc_131 (by decide))
  have m8 := hc_VN.kept (hF1.arr hr_wn skc_132 (by decide))
  have hF := hF.more hF1 (by decide)
  try dsimp only at hw2
  obtain ⟨h9, hf10⟩ := hw2
  refine lv_istore_n (lv' := [(2, .int r1), (0, .ref o0), (1, .int p0)]) hx hb dX8_windAt_8 rfl hl (by decide) rfl (fun ls hl => ?_)
  refine lv_iload_n hx hb dX8_windAt_9 rfl (lv_at hl 0 rfl) ?_
  refine lv_iconst (v := (-1)) hx hb dX8_windAt_10 (by decide) ?_
  refine lv_icmp_ne (tgt := 16) hx hb dX8_windAt_11 (by decide) (fun c11 => ?_) (fun c11 => ?_)
  · have t12 : r1.toInt ≠ (-1) := ti_ne c11 rfl (by decide)
    refine lv_aload_n hx hb dX8_windAt_16 rfl (lv_at hl 1 rfl) ?_
    refine tw_getM (v := .ref wi) hx hb hts bF2_X8 hown hK hT hr_o0 shc_11 rfl 4 (by decide) (ht_at2 hts 0 rfl) (fun _ h9 => h9) m3 dX8_windAt_17 ?_
    refine tw_getNM (v := .ref wn) hx hb hts bF2_X9 hown hK hT hr_wi shc_130 rfl 1 (by decide) (hE.nw 100 rfl) (fun _ h9 => h9) m5 dX8_windAt_20 ?_
    refine lv_iload_n hx hb dX8_windAt_23 rfl (lv_at hl 0 rfl) ?_
    refine tw_iald (i := r1) hx hb hK hT hr_wn shc_132 rfl (vin_t (a := r1.toInt) rfl (by omega) (by omega)) dX8_windAt_24 (fun v9 m13 h9 => ?_)
    obtain ⟨x14, rfl, gx14, kx14⟩ := h9
    have cx14 := m8.at m13 (by have q9 := tn_of (show r1.toInt = r1.toInt from rfl) (by omega); omega)
    refine lv_iconst (v := (-1)) hx hb dX8_windAt_25 (by decide) ?_
    have t15 : -2147483648 ≤ x14.toInt ∧ x14.toInt ≤ 2147483647 := ti_all x14
    refine lv_icmp_eq (tgt := 39) hx hb dX8_windAt_26 (by decide) (fun c16 => ?_) (fun c16 => ?_)
    · have t17 : x14.toInt = (-1) := ti_eq c16 rfl (by decide)
      refine lv_aload_n hx hb dX8_windAt_39 rfl (lv_at hl 1 rfl) ?_
      refine tw_getM (v := .ref wi) hx hb hts bF2_X8 hown hK hT hr_o0 shc_11 rfl 4 (by decide) (ht_at2 hts 0 rfl) (fun _ h9 => h9) m3 dX8_windAt_40 ?_
      refine tw_getNM (v := .ref wh) hx hb hts bF2_X9 hown hK hT hr_wi shc_130 rfl 0 (by decide) (hE.nw 101 rfl) (fun _ h9 => h9) m4 dX8_windAt_43 ?_
      refine lv_iload_n hx hb dX8_windAt_46 rfl (lv_at hl 0 rfl) ?_
      refine tw_iald (i := r1) hx hb hK hT hr_wh shc_131 rfl (vin_t (a := r1.toInt) rfl (by omega) (by omega)) dX8_windAt_47 (fun v9 m18 h9 => ?_)
      obtain ⟨x19, rfl, gx19, kx19⟩ := h9
      have cx19 := m7.at m18 (by have q9 := tn_of (show r1.toInt = r1.toInt from rfl) (by omega); omega)
      refine lv_istore_n (lv' := [(3, .int x19), (2, .int r1), (0, .ref o0), (1, .int p0)]) hx hb dX8_windAt_48 rfl hl (by decide) rfl (fun ls hl => ?_)
      refine lv_iconst (v := 0) hx hb dX8_windAt_49 (by decide) ?_
      refine lv_aload_n hx hb dX8_windAt_50 rfl (lv_at hl 2 rfl) ?_
      refine tw_getM (v := .ref wi) hx hb hts bF2_X8 hown hK hT hr_o0 shc_11 rfl 4 (by decide) (ht_at2 hts 0 rfl) (fun _ h9 => h9) m3 dX8_windAt_51 ?_
      refine lv_iload_n hx hb dX8_windAt_54 rfl (lv_at hl 0 rfl) ?_
      have hFc := gA_free hG hA hS
      refine va_calli (va_runV (As := [.int x19]) (rest := [.int 0]) ⟨hx, hb, hml, hown, hts⟩ (c_nearestBeforeY l dC dI kA adK adV G H nC nS wi x19 wh wn nw VH VN hT hr_wi m4 hr_wh m5 hr_wn m6 (by have q8 := ti_all nw; omega) m7 m8 (by omega) (by omega)) (cwV 1 hts (goodIn_app (goodIn_r _ [11, 12, 13, 8] rfl (by decide +kernel)) (goodIn_ca (goodIn_r _ [9, 3, 10, 4] rfl (by decide +kernel)) (bs2_in _ _))) rfl rfl rfl (by decide +kernel) ⟨(Nat.le_of_ble_eq_true rfl), (Nat.le_of_ble_eq_true rfl)⟩) ⟨fun a U g mk q => by obtain ⟨q0, q1, qK, qE⟩ := q; exact ⟨q0, q1, va_K.moved (u := U) (U := U.calling g mk a) (Vm.Alike.refl U.vm) qK, EVC.blind g mk a qE⟩, gH_rc hK hT hr_wi shc_130 rfl, fun U hU hW => ⟨rfl, hU, va_K.moved hW.alike hK, hE.call hS hFc hU hW⟩⟩ rfl rfl hl.1 rfl (lv_room (Nat.le_of_ble_eq_true rfl)) dX8_windAt_55 ⟨(Nat.le_of_ble_eq_true rfl), (Nat.le_of_ble_eq_true rfl)⟩) hS (fun q _ h => hFc q h) hFc (fun r20 u t H locs ht hvm hw21 hB _ _ hS => ?_)
      obtain ⟨hT, hF1⟩ := hB
      rw [ht] at hT hF1
      have m22 := (hF1.fld hr_o0 skc_11 (k := 4) (by decide) (by decide)).trans m3
      have m23 := (hF1.fld hr_wi skc_130 (k := 0) (by decide) (by decide)).trans m4
      have m24 := (hF1.fld hr_wi skc_130 (k := 1) (by decide) (by decide)).trans m5
      have m25 := (hF1.fld hr_wi skc_130 (k := 2) (by decide) (by decide)).trans m6
      have m26 := m7.kept (hF1.arr hr_wh skc_131 (by decide))
      have m27 := m8.kept (hF1.arr hr_wn skc_132 (by decide))
      have hF := hF.more hF1 (by decide)
      try dsimp only at hw21
      have hf30 := hw21
      refine lv_aload_n hx hb dX8_windAt_58 rfl (lv_at hl 2 rfl) ?_
      refine tw_getM (v := .ref wi) hx hb hts bF2_X8 hown hK hT hr_o0 shc_11 rfl 4 (by decide) (ht_at2 hts 0 rfl) (fun _ h9 => h9) m22 dX8_windAt_59 ?_
      refine lv_iload_n hx hb dX8_windAt_62 rfl (lv_at hl 0 rfl) ?_
      have hFc := gA_free hG hA hS
      refine va_calli (va_runV (As := [.int x19]) (rest := [.int r20, .int 0]) ⟨hx, hb, hml, hown, hts⟩ (c_nearestAfterY l dC dI kA adK adV G H nC nS wi x19 wh wn nw VH VN hT hr_wi m23 hr_wh m24 hr_wn m25 (by have q8 := ti_all nw; omega) m26 m27 (by omega) (by omega)) (cwV 1 hts (goodIn_app (goodIn_r _ [16, 17, 18, 8] rfl (by decide +kernel)) (goodIn_ca (goodIn_r _ [14, 15, 3, 10, 4] rfl (by decide +kernel)) (bs2_in _ _))) rfl rfl rfl (by decide +kernel) ⟨(Nat.le_of_ble_eq_true rfl), (Nat.le_of_ble_eq_true rfl)⟩) ⟨fun a U g mk q => by obtain ⟨q0, q1, qK, qE⟩ := q; exact ⟨q0, q1, va_K.moved (u := U) (U := U.calling g mk a) (Vm.Alike.refl U.vm) qK, EVC.blind g mk a qE⟩, gH_rc hK hT hr_wi shc_130 rfl, fun U hU hW => ⟨rfl, hU, va_K.moved hW.alike hK, hE.call hS hFc hU hW⟩⟩ rfl rfl hl.1 rfl (lv_room (Nat.le_of_ble_eq_true rfl)) dX8_windAt_63 ⟨(Nat.le_of_ble_eq_true rfl), (Nat.le_of_ble_eq_true rfl)⟩) hS (fun q _ h => hFc q h) hFc (fun r31 u t H locs ht hvm hw32 hB _ _ hS => ?_)
      obtain ⟨hT, hF1⟩ := hB
      rw [ht] at hT hF1
      have hF := hF.more hF1 (by decide)
      try dsimp only at hw32
      have hf41 := hw32
      refine va_mmax hx hb (hml.trans hl.1.symm) hown (ht_at2 hts 18 rfl) (ht_at2 hts 19 rfl) (ht_at2 hts 20 rfl) (ht_at2 hts 21 rfl) (Nat.le_of_ble_eq_true rfl) (Nat.le_of_ble_eq_true rfl) (Nat.le_of_ble_eq_true rfl) (Nat.le_of_ble_eq_true rfl) dX8_windAt_66 ?_
      refine lv_topi (fun x42 ex42 => ?_)
      have t43 : r20.toInt ≤ x42.toInt ∧ r31.toInt ≤ x42.toInt ∧ (x42.toInt = r20.toInt ∨ x42.toInt = r31.toInt) := mx_f ex42 rfl rfl
      refine va_mmax hx hb (hml.trans hl.1.symm) hown (ht_at2 hts 18 rfl) (ht_at2 hts 19 rfl) (ht_at2 hts 20 rfl) (ht_at2 hts 21 rfl) (Nat.le_of_ble_eq_true rfl) (Nat.le_of_ble_eq_true rfl) (Nat.le_of_ble_eq_true rfl) (Nat.le_of_ble_eq_true rfl) dX8_windAt_69 ?_
      refine lv_topi (fun x44 ex44 => ?_)
      have t45 : 0 ≤ x44.toInt ∧ x42.toInt ≤ x44.toInt ∧ (x44.toInt = 0 ∨ x44.toInt = x42.toInt) := mx_f ex44 (by decide) rfl
      exact W.iret (v := x44) hx hb hr (fun t ht hW => ⟨⟨x44, (), rfl, (by exact (by obtain ⟨l9, s9⟩ := hf10; have q9 := tn_of (i := r1) rfl (by omega); have := (show x44.toInt = x44.toInt from rfl); have ex14 : (VN r1.toNatClampNeg).toInt = x14.toInt := congrArg Int32.toInt cx14.symm; have ex19 : (VH r1.toNatClampNeg).toInt = x19.toInt := congrArg Int32.toInt cx19.symm; obtain ⟨l8, s8⟩ := hf30; obtain ⟨l7, s7⟩ := hf41; rw [← ex19] at s8 s7; exact ⟨_, l9, s9, Or.inr ⟨r1.toNatClampNeg, by omega, Or.inr ⟨by show (VN r1.toNatClampNeg).toInt = -1; omega, _, l8, _, l7, s8, s7, by omega, by omega, by omega, by omega⟩⟩⟩)), by (try dsimp only); rw [ht]; exact ⟨hT, hF⟩⟩, hS.F ht⟩) hS.2.2 dX8_windAt_72
    · have t46 : x14.toInt ≠ (-1) := ti_ne c16 rfl (by decide)
      refine lv_aload_n hx hb dX8_windAt_29 rfl (lv_at hl 1 rfl) ?_
      refine tw_getM (v := .ref wi) hx hb hts bF2_X8 hown hK hT hr_o0 shc_11 rfl 4 (by decide) (ht_at2 hts 0 rfl) (fun _ h9 => h9) m3 dX8_windAt_30 ?_
      refine tw_getNM (v := .ref wn) hx hb hts bF2_X9 hown hK hT hr_wi shc_130 rfl 1 (by decide) (hE.nw 100 rfl) (fun _ h9 => h9) m5 dX8_windAt_33 ?_
      refine lv_iload_n hx hb dX8_windAt_36 rfl (lv_at hl 0 rfl) ?_
      refine tw_iald (i := r1) hx hb hK hT hr_wn shc_132 rfl (vin_t (a := r1.toInt) rfl (by omega) (by omega)) dX8_windAt_37 (fun v9 m47 h9 => ?_)
      obtain ⟨x48, rfl, gx48, kx48⟩ := h9
      have cx48 := m8.at m47 (by have q9 := tn_of (show r1.toInt = r1.toInt from rfl) (by omega); omega)
      obtain rfl : x14 = x48 := (el_same m47 m13 rfl).symm
      exact W.iret (v := x14) hx hb hr (fun t ht hW => ⟨⟨x14, (), rfl, (by exact (by obtain ⟨l9, s9⟩ := hf10; have q9 := tn_of (i := r1) rfl (by omega); have := (show x14.toInt = x14.toInt from rfl); have ex14 : (VN r1.toNatClampNeg).toInt = x14.toInt := congrArg Int32.toInt cx14.symm; exact ⟨_, l9, s9, Or.inr ⟨r1.toNatClampNeg, by omega, Or.inl ⟨by show (VN r1.toNatClampNeg).toInt ≠ -1; omega, by show _ = (VN r1.toNatClampNeg).toInt; omega⟩⟩⟩)), by (try dsimp only); rw [ht]; exact ⟨hT, hF⟩⟩, hS.F ht⟩) hS.2.2 dX8_windAt_38
  · have t49 : r1.toInt = (-1) := ti_eq c11 rfl (by decide)
    refine lv_iconst (v := 0) hx hb dX8_windAt_14 (by decide) ?_
    exact W.iret (v := 0) hx hb hr (fun t ht hW => ⟨⟨0, (), rfl, (by exact (by obtain ⟨l9, s9⟩ := hf10; exact ⟨_, l9, s9, Or.inl ⟨by omega, by decide⟩⟩)), by (try dsimp only); rw [ht]; exact ⟨hT, hF⟩⟩, hS.F ht⟩) hS.2.2 dX8_windAt_15
def w_c_rainAtY : List Cond := .code yX8_rainAt cX8_rainAt 3 (some .int) :: (HAppend.hAppend (α := List Cond) (β := List Cond) (γ := List Cond) [.fieldLink RX8 31 "SeaLand$Sky" "rain" "LSeaLand$Tellings;", .code yX9_standingAt cX9_standingAt 5 (some .int), .fieldLink RX9 18 "SeaLand$Tellings" "told" "I", .fieldLink RX9 9 "SeaLand$Tellings" "hours" "[I", .methodLink RX8 44 yX9_standingAt, .instanceMethod yX9_standingAt, .selects RX9 yX9_standingAt yX9_standingAt, .initialized RX9] bs2)
set_option maxHeartbeats 4000000 in
set_option maxRecDepth 100000 in
theorem c_rainAtY (l : Launch) (dC : Nat → ClassId) (dI : Nat → Nat → Nat) (kA : Nat → ClassId) (adK adV : Nat → Nat) (G : gT) (H0 : Heap) (nC nS : Int) (o0 : Nat) (p0 : Int32) (ra : Nat) (rh : Nat) (rn : Nat) (nr : Int32) (VR : Nat → Int32) (VQ : Nat → Int32)  (hT : gH (dC, dI) kA (SHc nC nS) G H0) (hr_o0 : G o0 = some 11) (hm_ra : el H0 o0 (dI 11 5) = some (.ref ra)) (hr_ra : G ra = some 12) (hm_rh : el H0 ra (dI 12 0) = some (.ref rh)) (hr_rh : G rh = some 23) (hm_rn : el H0 ra (dI 12 1) = some (.ref rn)) (hr_rn : G rn = some 24) (hm_nr : el H0 ra (dI 12 2) = some (.int nr)) (hq0 : 0 ≤ nr.toInt ∧ nr.toInt ≤ 60) (hc_VR : ct H0 rh 60 VR) (hc_VQ : ct H0 rn 60 VQ) (hgC : 0 ≤ nC ∧ nC ≤ 40) (hgS : 0 ≤ nS ∧ nS ≤ 60) : Met l yX8_rainAt w_c_rainAtY ({ frames := 1, cells := 0, slots := 0, locals := 24 }) (va_Pc [.ref o0, .int p0] (fun U => U.heap = H0 ∧ va_K (dC, dI) vwCl (tyl kA) U ∧ EVC adK adV (gA G H0.size) U U.heap)) (va_Qi (fun (r : Int32) (u : Unit) => (rnC (fun i => (VR i).toInt) (fun i => (VQ i).toInt) nr.toNatClampNeg p0.toInt r.toInt)) (fun (_ : Unit) (t : State) => gH (dC, dI) kA (SHc nC nS) G t.heap ∧ gF (dC, dI) SKc G ([] : List (Nat × Nat)) H0 t.heap) (gA G H0.size)) 0 0 (gA G H0.size) := by
  refine Met.ofW (cc := cX8_rainAt) (maxL := 3) (ret := (some .int)) (by decide) rfl ?_
  intro p e s m args below meth c s₁ B hml hv
  obtain ⟨rfl, hH0, hK, hE⟩ := hv
  have hx := B.exec
  have hb := B.bytes
  have hr := B.returns
  have hts := atoms_spec (ws := w_c_rainAtY) B.pre
  have hown : s.vm.findClass RX8 = some m.cls := findClass_of_methodNamed B.named
  have hlocks := B.notSynchronized
  subst hH0
  generalize hAe : gA G s.heap.size = A at hE ⊢
  have hA : ∀ q : Nat, s.heap.size ≤ q → A q := fun q h => by rw [← hAe]; exact Or.inr h
  have hG := gA_of hAe
  have hS : va_S A s.heap s.heap [] := va_S.rf
  have hF : gF (dC, dI) SKc G ([] : List (Nat × Nat)) s.heap s.heap := gF.rf
  have hl := lv_entry ([.ref o0, .int p0]) (n := 3) (Nat.le_of_ble_eq_true rfl)
  rw [lg_entry_eq]
  generalize (lg_sl ([.ref o0, .int p0]) ++ List.replicate (3 - (lg_sl ([.ref o0, .int p0])).length) Slot.unset).toArray = ls at hl ⊢
  have hl : lv_has ls 3 [(0, .ref o0), (1, .int p0)] := hl
  refine lv_aload_n hx hb dX8_rainAt_0 rfl (lv_at hl 0 rfl) ?_
  refine tw_getM (v := .ref ra) hx hb hts bF2_X8 hown hK hT hr_o0 shc_11 rfl 5 (by decide) (ht_at2 hts 0 rfl) (fun _ h9 => h9) hm_ra dX8_rainAt_1 ?_
  refine lv_iload_n hx hb dX8_rainAt_4 rfl (lv_at hl 1 rfl) ?_
  have hFc := gA_free hG hA hS
  refine va_calli (va_runV (As := [.int p0]) (rest := []) ⟨hx, hb, hml, hown, hts⟩ (c_standingAtX9Y l dC dI kA adK adV G s.heap nC nS ra p0 rh rn nr VR VQ hT hr_ra hm_rh hr_rh hm_rn hr_rn hm_nr (by have q8 := ti_all nr; omega) hc_VR hc_VQ (by omega) (by omega)) (cwV 1 hts (goodIn_app (goodIn_r _ [5, 6, 7, 8] rfl (by decide +kernel)) (goodIn_ca (goodIn_r _ [2, 3, 4] rfl (by decide +kernel)) (bs2_in _ _))) rfl rfl rfl (by decide +kernel) ⟨(Nat.le_of_ble_eq_true rfl), (Nat.le_of_ble_eq_true rfl)⟩) ⟨fun a U g mk q => by obtain ⟨q0, q1, qK, qE⟩ := q; exact ⟨q0, q1, va_K.moved (u := U) (U := U.calling g mk a) (Vm.Alike.refl U.vm) qK, EVC.blind g mk a qE⟩, gH_rc hK hT hr_ra shc_12 rfl, fun U hU hW => ⟨rfl, hU, va_K.moved hW.alike hK, hE.call hS hFc hU hW⟩⟩ rfl rfl hl.1 rfl (lv_room (Nat.le_of_ble_eq_true rfl)) dX8_rainAt_5 ⟨(Nat.le_of_ble_eq_true rfl), (Nat.le_of_ble_eq_true rfl)⟩) hS (fun q _ h => hFc q h) hFc (fun r1 u t H locs ht hvm hw2 hB _ _ hS => ?_)
  obtain ⟨hT, hF1⟩ := hB
  rw [ht] at hT hF1
  have m3 := (hF1.fld hr_o0 skc_11 (k := 5) (by decide) (by decide)).trans hm_ra
  have m5 := (hF1.fld hr_ra skc_12 (k := 1) (by decide) (by decide)).trans hm_rn
  have m8 := hc_VQ.kept (hF1.arr hr_rn skc_24 (by decide))
  have hF := hF.more hF1 (by decide)
  try dsimp only at hw2
  obtain ⟨h9, hf10⟩ := hw2
  refine lv_istore_n (lv' := [(2, .int r1), (0, .ref o0), (1, .int p0)]) hx hb dX8_rainAt_8 rfl hl (by decide) rfl (fun ls hl => ?_)
  refine lv_iload_n hx hb dX8_rainAt_9 rfl (lv_at hl 0 rfl) ?_
  refine lv_iconst (v := (-1)) hx hb dX8_rainAt_10 (by decide) ?_
  refine lv_icmp_ne (tgt := 18) hx hb dX8_rainAt_11 (by decide) (fun c11 => ?_) (fun c11 => ?_)
  · have t12 : r1.toInt ≠ (-1) := ti_ne c11 rfl (by decide)
    refine lv_aload_n hx hb dX8_rainAt_18 rfl (lv_at hl 1 rfl) ?_
    refine tw_getM (v := .ref ra) hx hb hts bF2_X8 hown hK hT hr_o0 shc_11 rfl 5 (by decide) (ht_at2 hts 0 rfl) (fun _ h9 => h9) m3 dX8_rainAt_19 ?_
    refine tw_getNM (v := .ref rn) hx hb hts bF2_X9 hown hK hT hr_ra shc_12 rfl 1 (by decide) (hE.nw 100 rfl) (fun _ h9 => h9) m5 dX8_rainAt_22 ?_
    refine lv_iload_n hx hb dX8_rainAt_25 rfl (lv_at hl 0 rfl) ?_
    refine tw_iald (i := r1) hx hb hK hT hr_rn shc_24 rfl (vin_t (a := r1.toInt) rfl (by omega) (by omega)) dX8_rainAt_26 (fun v9 m13 h9 => ?_)
    obtain ⟨x14, rfl, gx14, kx14⟩ := h9
    have cx14 := m8.at m13 (by have q9 := tn_of (show r1.toInt = r1.toInt from rfl) (by omega); omega)
    exact W.iret (v := x14) hx hb hr (fun t ht hW => ⟨⟨x14, (), rfl, (by exact (by obtain ⟨l9, s9⟩ := hf10; have q9 := tn_of (i := r1) rfl (by omega); have := (show x14.toInt = x14.toInt from rfl); have ex14 : (VQ r1.toNatClampNeg).toInt = x14.toInt := congrArg Int32.toInt cx14.symm; exact ⟨_, l9, s9, Or.inr ⟨r1.toNatClampNeg, by omega, by show _ = (VQ r1.toNatClampNeg).toInt; omega⟩⟩)), by (try dsimp only); rw [ht]; exact ⟨hT, hF⟩⟩, hS.F ht⟩) hS.2.2 dX8_rainAt_27
  · have t15 : r1.toInt = (-1) := ti_eq c11 rfl (by decide)
    refine lv_iconst (v := 0) hx hb dX8_rainAt_14 (by decide) ?_
    refine lv_goto (tgt := 27) hx hb dX8_rainAt_15 (by decide) ?_
    exact W.iret (v := 0) hx hb hr (fun t ht hW => ⟨⟨0, (), rfl, (by exact (by obtain ⟨l9, s9⟩ := hf10; exact ⟨_, l9, s9, Or.inl ⟨by omega, by decide⟩⟩)), by (try dsimp only); rw [ht]; exact ⟨hT, hF⟩⟩, hS.F ht⟩) hS.2.2 dX8_rainAt_27
def w_c_skyY : List Cond := .code yX11_sky cX11_sky 3 (some .int) :: (HAppend.hAppend (α := List Cond) (β := List Cond) (γ := List Cond) [.constant RX11 110 40000, .code yX11_within cX11_within 3 (some .boolean), .methodLink RX11 58 yX11_within, .static yX11_within, .initialized RX11, .classLink RX11 134 "java/util/NoSuchElementException", .initialized "java/util/NoSuchElementException", .fieldLink RX11 16 "SeaLand" "lake" "LSeaLand$Lake;", .code yX8_rainAt cX8_rainAt 3 (some .int), .fieldLink RX8 31 "SeaLand$Sky" "rain" "LSeaLand$Tellings;", .code yX9_standingAt cX9_standingAt 5 (some .int), .fieldLink RX9 18 "SeaLand$Tellings" "told" "I", .fieldLink RX9 9 "SeaLand$Tellings" "hours" "[I", .methodLink RX8 44 yX9_standingAt, .instanceMethod yX9_standingAt, .selects RX9 yX9_standingAt yX9_standingAt, .initialized RX9, .methodLink RX11 146 yX8_rainAt, .instanceMethod yX8_rainAt, .selects RX8 yX8_rainAt yX8_rainAt, .initialized RX8, .code yX8_windAt cX8_windAt 4 (some .int), .fieldLink RX8 27 "SeaLand$Sky" "wind" "LSeaLand$Tellings;", .code yX9_nearestNumberBefore cX9_nearestNumberBefore 5 (some .int), .fieldLink RX9 15 "SeaLand$Tellings" "numbers" "[I", .methodLink RX8 54 yX9_nearestNumberBefore, .instanceMethod yX9_nearestNumberBefore, .selects RX9 yX9_nearestNumberBefore yX9_nearestNumberBefore, .code yX9_nearestNumberAfter cX9_nearestNumberAfter 5 (some .int), .constant RX9 22 40001, .methodLink RX8 57 yX9_nearestNumberAfter, .instanceMethod yX9_nearestNumberAfter, .selects RX9 yX9_nearestNumberAfter yX9_nearestNumberAfter, .methodLink RX8 60 Lib.Math.max.name, .static Lib.Math.max.name, .initialized "java/lang/Math", .code Lib.Math.max.name Lib.Math.max.code 2 (some .int), .methodLink RX11 143 yX8_windAt, .instanceMethod yX8_windAt, .selects RX8 yX8_windAt yX8_windAt, .code yX8_outsideAt cX8_outsideAt 4 (some .int), .fieldLink RX8 9 "SeaLand$Sky" "tides" "[I", .code yJ9_floorMod_7cf53 cJ9_floorMod_7cf53 3 (some .int), .methodLink RX8 38 yJ9_floorMod_7cf53, .static yJ9_floorMod_7cf53, .initialized RJ9, .fieldLink RX8 34 "SeaLand$Sky" "storms" "I", .fieldLink RX8 15 "SeaLand$Sky" "stormFrom" "[I", .fieldLink RX8 18 "SeaLand$Sky" "stormTo" "[I", .fieldLink RX8 21 "SeaLand$Sky" "stormMore" "[I", .methodLink RX11 139 yX8_outsideAt, .instanceMethod yX8_outsideAt, .selects RX8 yX8_outsideAt yX8_outsideAt] bs2)
set_option maxHeartbeats 4000000 in
set_option maxRecDepth 100000 in
theorem c_skyY (l : Launch) (hlt : l.stackTraces = false) (dC : Nat → ClassId) (dI : Nat → Nat → Nat) (kA : Nat → ClassId) (adK adV : Nat → Nat) (G : gT) (H0 : Heap) (nC nS : Int) (o0 : Nat) (p0 : Int32) (p1 : Int32) (lk : Nat) (sk : Nat) (ti : Nat) (sf : Nat) (so : Nat) (sm : Nat) (ns : Int32) (wi : Nat) (wh : Nat) (wn : Nat) (nw : Int32) (ra : Nat) (rh : Nat) (rn : Nat) (nr : Int32) (VT : Nat → Int32) (VF : Nat → Int32) (VO : Nat → Int32) (VM : Nat → Int32) (VH : Nat → Int32) (VN : Nat → Int32) (VR : Nat → Int32) (VQ : Nat → Int32)  (hT : gH (dC, dI) kA (SHc nC nS) G H0) (hr_o0 : G o0 = some 14) (hm_lk : el H0 o0 (dI 14 1) = some (.ref lk)) (hr_lk : G lk = some 6) (hm_sk : el H0 lk (dI 6 0) = some (.ref sk)) (hr_sk : G sk = some 11) (hm_ti : el H0 sk (dI 11 0) = some (.ref ti)) (hr_ti : G ti = some 19) (hm_sf : el H0 sk (dI 11 1) = some (.ref sf)) (hr_sf : G sf = some 20) (hm_so : el H0 sk (dI 11 2) = some (.ref so)) (hr_so : G so = some 21) (hm_sm : el H0 sk (dI 11 3) = some (.ref sm)) (hr_sm : G sm = some 22) (hm_ns : el H0 sk (dI 11 6) = some (.int ns)) (hm_wi : el H0 sk (dI 11 4) = some (.ref wi)) (hr_wi : G wi = some 130) (hm_wh : el H0 wi (dI 12 0) = some (.ref wh)) (hr_wh : G wh = some 131) (hm_wn : el H0 wi (dI 12 1) = some (.ref wn)) (hr_wn : G wn = some 132) (hm_nw : el H0 wi (dI 12 2) = some (.int nw)) (hm_ra : el H0 sk (dI 11 5) = some (.ref ra)) (hr_ra : G ra = some 12) (hm_rh : el H0 ra (dI 12 0) = some (.ref rh)) (hr_rh : G rh = some 23) (hm_rn : el H0 ra (dI 12 1) = some (.ref rn)) (hr_rn : G rn = some 24) (hm_nr : el H0 ra (dI 12 2) = some (.int nr)) (hq0 : 0 ≤ ns.toInt ∧ ns.toInt ≤ 20) (hq1 : 0 ≤ nw.toInt ∧ nw.toInt ≤ 60) (hq2 : 0 ≤ nr.toInt ∧ nr.toInt ≤ 60) (hM9 : ∀ i : Nat, ((i : Nat) : Int) < ns.toInt → 0 ≤ (VM i).toInt ∧ (VM i).toInt ≤ 500) (hT9 : ∀ i : Nat, i < 12 → -400 ≤ (VT i).toInt ∧ (VT i).toInt ≤ 400) (hc_VT : ct H0 ti 12 VT) (hc_VF : ct H0 sf 20 VF) (hc_VO : ct H0 so 20 VO) (hc_VM : ct H0 sm 20 VM) (hc_VH : ct H0 wh 60 VH) (hc_VN : ct H0 wn 60 VN) (hc_VR : ct H0 rh 60 VR) (hc_VQ : ct H0 rn 60 VQ) (hgC : 0 ≤ nC ∧ nC ≤ 40) (hgS : 0 ≤ nS ∧ nS ≤ 60) : vx_Met l yX11_sky w_c_skyY ({ frames := 6, cells := 1, slots := 6, locals := 100 }) (va_Pc [.ref o0, .int p0, .int p1] (fun U => U.heap = H0 ∧ va_K (dC, dI) vwCl (tyl kA) U ∧ EVC adK adV (gA G H0.size) U U.heap)) (va_Qi (fun (r : Int32) (u : Unit) => (skC p0.toInt p1.toInt = 0) ∧ ((p1.toInt = 0 ∧ r.toInt = (VT (p0.toInt % 12).toNat).toInt + osm (fun i => (VF i).toInt) (fun i => (VO i).toInt) (fun i => (VM i).toInt) p0.toInt ns.toNatClampNeg) ∨ (p1.toInt = 1 ∧ wdC (fun i => (VH i).toInt) (fun i => (VN i).toInt) nw.toNatClampNeg p0.toInt r.toInt) ∨ (p1.toInt = 2 ∧ rnC (fun i => (VR i).toInt) (fun i => (VQ i).toInt) nr.toNatClampNeg p0.toInt r.toInt))) (fun (_ : Unit) (t : State) => gH (dC, dI) kA (SHc nC nS) G t.heap ∧ gF (dC, dI) SKc G ([] : List (Nat × Nat)) H0 t.heap) (gA G H0.size)) (vx_X (fun _ : Unit => True) (fun E _ t => (E = "java/util/NoSuchElementException") ∧ ((E = "java/util/NoSuchElementException" ∧ skC p0.toInt p1.toInt = 1)) ∧ gH (dC, dI) kA (SHc nC nS) G t.heap ∧ gF (dC, dI) SKc G ([] : List (Nat × Nat)) H0 t.heap) (gA G H0.size)) 1 6 (gA G H0.size) := by
  refine vx_ofW (cc := cX11_sky) (maxL := 3) (ret := (some .int)) (by decide) rfl ?_
  intro p e s m args below meth c s₁ B hml hnt hv
  obtain ⟨rfl, hH0, hK, hE⟩ := hv
  have hx := B.exec
  have hb := B.bytes
  have hr := B.returns
  have hts := atoms_spec (ws := w_c_skyY) B.pre
  have hown : s.vm.findClass RX11 = some m.cls := findClass_of_methodNamed B.named
  have hlocks := B.notSynchronized
  subst hH0
  generalize hAe : gA G s.heap.size = A at hE ⊢
  have hA : ∀ q : Nat, s.heap.size ≤ q → A q := fun q h => by rw [← hAe]; exact Or.inr h
  have hG := gA_of hAe
  have hS : va_S A s.heap s.heap [] := va_S.rf
  have hF : gF (dC, dI) SKc G ([] : List (Nat × Nat)) s.heap s.heap := gF.rf
  have hl := lv_entry ([.ref o0, .int p0, .int p1]) (n := 3) (Nat.le_of_ble_eq_true rfl)
  rw [lg_entry_eq]
  generalize (lg_sl ([.ref o0, .int p0, .int p1]) ++ List.replicate (3 - (lg_sl ([.ref o0, .int p0, .int p1])).length) Slot.unset).toArray = ls at hl ⊢
  have hl : lv_has ls 3 [(0, .ref o0), (1, .int p0), (2, .int p1)] := hl
  refine lv_iload_n hx hb dX11_sky_0 rfl (lv_at hl 1 rfl) ?_
  refine lv_iconst (v := 0) hx hb dX11_sky_1 (by decide) ?_
  refine lv_ldc (v := 40000) hx hb hown (ht_at2 hts 0 rfl) dX11_sky_2 ?_
  have hFc := gA_free hG hA hS
  refine va_calli (va_runS (As := [.int p0, .int 0, .int 40000]) (rest := []) ⟨hx, hb, hml, hown, hts⟩ (c_within l dC dI kA adK adV G s.heap nC nS p0 0 40000 hT (by omega) (by omega)) (va_cwS 3 hts (goodIn_app (goodIn_r _ [3, 4, 5] rfl (by decide +kernel)) (goodIn_ca (goodIn_r _ [2] rfl (by decide +kernel)) (bs2_in _ _))) rfl rfl rfl (by decide +kernel) ⟨(Nat.le_of_ble_eq_true rfl), (Nat.le_of_ble_eq_true rfl)⟩) ⟨fun a U g mk q => by obtain ⟨q0, q1, qK, qE⟩ := q; exact ⟨q0, q1, va_K.moved (u := U) (U := U.calling g mk a) (Vm.Alike.refl U.vm) qK, EVC.blind g mk a qE⟩, fun U hU hW => ⟨rfl, hU, va_K.moved hW.alike hK, hE.call hS hFc hU hW⟩⟩ rfl rfl hl.1 rfl (lv_room (Nat.le_of_ble_eq_true rfl)) dX11_sky_4 ⟨(Nat.le_of_ble_eq_true rfl), (Nat.le_of_ble_eq_true rfl)⟩) hS (fun q _ h => hFc q h) hFc (fun r1 u t H locs ht hvm hw2 hB _ _ hS => ?_)
  obtain ⟨hT, hF1⟩ := hB
  rw [ht] at hT hF1
  have m3 := (hF1.fld hr_o0 skc_14 (k := 1) (by decide) (by decide)).trans hm_lk
  have m4 := (hF1.fld hr_lk skc_6 (k := 0) (by decide) (by decide)).trans hm_sk
  have m5 := (hF1.fld hr_sk skc_11 (k := 0) (by decide) (by decide)).trans hm_ti
  have m6 := (hF1.fld hr_sk skc_11 (k := 1) (by decide) (by decide)).trans hm_sf
  have m7 := (hF1.fld hr_sk skc_11 (k := 2) (by decide) (by decide)).trans hm_so
  have m8 := (hF1.fld hr_sk skc_11 (k := 3) (by decide) (by decide)).trans hm_sm
  have m9 := (hF1.fld hr_sk skc_11 (k := 6) (by decide) (by decide)).trans hm_ns
  have m10 := (hF1.fld hr_sk skc_11 (k := 4) (by decide) (by decide)).trans hm_wi
  have m11 := (hF1.fld hr_wi skc_130 (k := 0) (by decide) (by decide)).trans hm_wh
  have m12 := (hF1.fld hr_wi skc_130 (k := 1) (by decide) (by decide)).trans hm_wn
  have m13 := (hF1.fld hr_wi skc_130 (k := 2) (by decide) (by decide)).trans hm_nw
  have m14 := (hF1.fld hr_sk skc_11 (k := 5) (by decide) (by decide)).trans hm_ra
  have m15 := (hF1.fld hr_ra skc_12 (k := 0) (by decide) (by decide)).trans hm_rh
  have m16 := (hF1.fld hr_ra skc_12 (k := 1) (by decide) (by decide)).trans hm_rn
  have m17 := (hF1.fld hr_ra skc_12 (k := 2) (by decide) (by decide)).trans hm_nr
  have m18 := hc_VT.kept (hF1.arr hr_ti skc_19 (by decide))
  have m19 := hc_VF.kept (hF1.arr hr_sf skc_20 (by decide))
  have m20 := hc_VO.kept (hF1.arr hr_so skc_21 (by decide))
  have m21 := hc_VM.kept (hF1.arr hr_sm skc_22 (by decide))
  have m22 := hc_VH.kept (hF1.arr hr_wh skc_131 (by decide))
  have m23 := hc_VN.kept (hF1.arr hr_wn skc_132 (by decide))
  have m24 := hc_VR.kept (hF1.arr hr_rh skc_23 (by decide))
  have m25 := hc_VQ.kept (hF1.arr hr_rn skc_24 (by decide))
  have hF := hF.more hF1 (by decide)
  try dsimp only at hw2
  obtain ⟨h26, hi27, hi28⟩ := hw2
  refine lv_if_eq (tgt := 19) hx hb dX11_sky_7 (by decide) (fun c29 => ?_) (fun c29 => ?_)
  · have t30 : r1.toInt = 0 := ti_eq c29 rfl (by decide)
    have t31 : (0 : Int32).toInt = 0 := by decide
    have t32 : (40000 : Int32).toInt = 40000 := by decide
    have t33 : p0.toInt < (0 : Int32).toInt ∨ (40000 : Int32).toInt < p0.toInt := hi28 c29
    obtain ⟨sa34, hsa34⟩ := hE.str 1 rfl
    exact vy_throwS rxN_0 rxN_1 rxN_2 rxN_5 (names := ["java/lang/RuntimeException", "java/lang/Exception"]) hx hb hlt hown (by decide +kernel) (by decide +kernel) (ht_at2 hts 5 rfl) (ht_at2 hts 6 rfl) hsa34 (bX2_at2 hts hE) bX_ok2_134 hE.1.1.2.2.1 hE.1.1.2.2.2 hS (by rw [hml]; exact hl.1) dX11_sky_19 dX11_sky_22 dX11_sky_23 dX11_sky_25 dX11_sky_28 (fun x h => (hnt x h).elim) (by decide) (Nat.le_of_ble_eq_true rfl) (Nat.le_of_ble_eq_true rfl) (Nat.le_of_ble_eq_true rfl) hlocks (fun t hW hz hq => ⟨(), trivial, ⟨rfl, (⟨rfl, (by have := skC_s p0.toInt p1.toInt; first | omega | exact hxf.elim)⟩), hT.ext hq, hF.ext hT hq⟩, Nat.le_trans hS.1 hz, fun q h1 h2 => (hq q (Nat.lt_of_lt_of_le h1 hS.1)).trans (hS.2.1 q h1 h2)⟩) hS.2.2 (by decide) (by decide)
  · have t35 : r1.toInt ≠ 0 := ti_ne c29 rfl (by decide)
    have t36 : (0 : Int32).toInt = 0 := by decide
    have t37 : (40000 : Int32).toInt = 40000 := by decide
    have t38 : (0 : Int32).toInt ≤ p0.toInt ∧ p0.toInt ≤ (40000 : Int32).toInt := hi27 ((bit_of ⟨by omega, by omega⟩).resolve_left c29)
    refine lv_iload_n hx hb dX11_sky_10 rfl (lv_at hl 2 rfl) ?_
    refine lv_iconst (v := 0) hx hb dX11_sky_11 (by decide) ?_
    refine lv_iconst (v := 2) hx hb dX11_sky_12 (by decide) ?_
    have hFc := gA_free hG hA hS
    refine va_calli (va_runS (As := [.int p1, .int 0, .int 2]) (rest := []) ⟨hx, hb, hml, hown, hts⟩ (c_within l dC dI kA adK adV G H nC nS p1 0 2 hT (by omega) (by omega)) (va_cwS 3 hts (goodIn_app (goodIn_r _ [3, 4, 5] rfl (by decide +kernel)) (goodIn_ca (goodIn_r _ [2] rfl (by decide +kernel)) (bs2_in _ _))) rfl rfl rfl (by decide +kernel) ⟨(Nat.le_of_ble_eq_true rfl), (Nat.le_of_ble_eq_true rfl)⟩) ⟨fun a U g mk q => by obtain ⟨q0, q1, qK, qE⟩ := q; exact ⟨q0, q1, va_K.moved (u := U) (U := U.calling g mk a) (Vm.Alike.refl U.vm) qK, EVC.blind g mk a qE⟩, fun U hU hW => ⟨rfl, hU, va_K.moved hW.alike hK, hE.call hS hFc hU hW⟩⟩ rfl rfl hl.1 rfl (lv_room (Nat.le_of_ble_eq_true rfl)) dX11_sky_13 ⟨(Nat.le_of_ble_eq_true rfl), (Nat.le_of_ble_eq_true rfl)⟩) hS (fun q _ h => hFc q h) hFc (fun r39 u t H locs ht hvm hw40 hB _ _ hS => ?_)
    obtain ⟨hT, hF1⟩ := hB
    rw [ht] at hT hF1
    have m41 := (hF1.fld hr_o0 skc_14 (k := 1) (by decide) (by decide)).trans m3
    have m42 := (hF1.fld hr_lk skc_6 (k := 0) (by decide) (by decide)).trans m4
    have m43 := (hF1.fld hr_sk skc_11 (k := 0) (by decide) (by decide)).trans m5
    have m44 := (hF1.fld hr_sk skc_11 (k := 1) (by decide) (by decide)).trans m6
    have m45 := (hF1.fld hr_sk skc_11 (k := 2) (by decide) (by decide)).trans m7
    have m46 := (hF1.fld hr_sk skc_11 (k := 3) (by decide) (by decide)).trans m8
    have m47 := (hF1.fld hr_sk skc_11 (k := 6) (by decide) (by decide)).trans m9
    have m48 := (hF1.fld hr_sk skc_11 (k := 4) (by decide) (by decide)).trans m10
    have m49 := (hF1.fld hr_wi skc_130 (k := 0) (by decide) (by decide)).trans m11
    have m50 := (hF1.fld hr_wi skc_130 (k := 1) (by decide) (by decide)).trans m12
    have m51 := (hF1.fld hr_wi skc_130 (k := 2) (by decide) (by decide)).trans m13
    have m52 := (hF1.fld hr_sk skc_11 (k := 5) (by decide) (by decide)).trans m14
    have m53 := (hF1.fld hr_ra skc_12 (k := 0) (by decide) (by decide)).trans m15
    have m54 := (hF1.fld hr_ra skc_12 (k := 1) (by decide) (by decide)).trans m16
    have m55 := (hF1.fld hr_ra skc_12 (k := 2) (by decide) (by decide)).trans m17
    have m56 := m18.kept (hF1.arr hr_ti skc_19 (by decide))
    have m57 := m19.kept (hF1.arr hr_sf skc_20 (by decide))
    have m58 := m20.kept (hF1.arr hr_so skc_21 (by decide))
    have m59 := m21.kept (hF1.arr hr_sm skc_22 (by decide))
    have m60 := m22.kept (hF1.arr hr_wh skc_131 (by decide))
    have m61 := m23.kept (hF1.arr hr_wn skc_132 (by decide))
    have m62 := m24.kept (hF1.arr hr_rh skc_23 (by decide))
    have m63 := m25.kept (hF1.arr hr_rn skc_24 (by decide))
    have hF := hF.more hF1 (by decide)
    try dsimp only at hw40
    obtain ⟨h64, hi65, hi66⟩ := hw40
    refine lv_if_ne (tgt := 29) hx hb dX11_sky_16 (by decide) (fun c67 => ?_) (fun c67 => ?_)
    · have t68 : r39.toInt ≠ 0 := ti_ne c67 rfl (by decide)
      have t69 : (0 : Int32).toInt = 0 := by decide
      have t70 : (2 : Int32).toInt = 2 := by decide
      have t71 : (0 : Int32).toInt ≤ p1.toInt ∧ p1.toInt ≤ (2 : Int32).toInt := hi65 ((bit_of ⟨by omega, by omega⟩).resolve_left c67)
      refine lv_iload_n hx hb dX11_sky_29 rfl (lv_at hl 2 rfl) ?_
      refine lv_if_ne (tgt := 45) hx hb dX11_sky_30 (by decide) (fun c72 => ?_) (fun c72 => ?_)
      · have t73 : p1.toInt ≠ 0 := ti_ne c72 rfl (by decide)
        refine lv_iload_n hx hb dX11_sky_45 rfl (lv_at hl 2 rfl) ?_
        refine lv_iconst (v := 1) hx hb dX11_sky_46 (by decide) ?_
        refine lv_icmp_ne (tgt := 64) hx hb dX11_sky_47 (by decide) (fun c74 => ?_) (fun c74 => ?_)
        · have t75 : p1.toInt ≠ 1 := ti_ne c74 rfl (by decide)
          refine lv_aload_n hx hb dX11_sky_64 rfl (lv_at hl 0 rfl) ?_
          refine tw_getM (v := .ref lk) hx hb hts bF2_X11 hown hK hT hr_o0 shc_14 rfl 1 (by decide) (ht_at2 hts 7 rfl) (fun _ h9 => h9) m41 dX11_sky_65 ?_
          refine tw_getNM (v := .ref sk) hx hb hts bF2_X3 hown hK hT hr_lk shc_6 rfl 0 (by decide) (hE.nw 3 rfl) (fun _ h9 => h9) m42 dX11_sky_68 ?_
          refine lv_iload_n hx hb dX11_sky_71 rfl (lv_at hl 1 rfl) ?_
          have hFc := gA_free hG hA hS
          refine va_calli (va_runV (As := [.int p0]) (rest := []) ⟨hx, hb, hml, hown, hts⟩ (c_rainAtY l dC dI kA adK adV G H nC nS sk p0 ra rh rn nr VR VQ hT hr_sk m52 hr_ra m53 hr_rh m54 hr_rn m55 (by have q8 := ti_all nr; omega) m62 m63 (by omega) (by omega)) (cwV 1 hts (goodIn_app (goodIn_r _ [18, 19, 20, 21] rfl (by decide +kernel)) (goodIn_ca (goodIn_r _ [9, 10, 11, 12, 13, 14, 15, 16, 17] rfl (by decide +kernel)) (bs2_in _ _))) rfl rfl rfl (by decide +kernel) ⟨(Nat.le_of_ble_eq_true rfl), (Nat.le_of_ble_eq_true rfl)⟩) ⟨fun a U g mk q => by obtain ⟨q0, q1, qK, qE⟩ := q; exact ⟨q0, q1, va_K.moved (u := U) (U := U.calling g mk a) (Vm.Alike.refl U.vm) qK, EVC.blind g mk a qE⟩, gH_rc hK hT hr_sk shc_11 rfl, fun U hU hW => ⟨rfl, hU, va_K.moved hW.alike hK, hE.call hS hFc hU hW⟩⟩ rfl rfl hl.1 rfl (lv_room (Nat.le_of_ble_eq_true rfl)) dX11_sky_72 ⟨(Nat.le_of_ble_eq_true rfl), (Nat.le_of_ble_eq_true rfl)⟩) hS (fun q _ h => hFc q h) hFc (fun r76 u t H locs ht hvm hw77 hB _ _ hS => ?_)
          obtain ⟨hT, hF1⟩ := hB
          rw [ht] at hT hF1
          have hF := hF.more hF1 (by decide)
          try dsimp only at hw77
          have hf101 := hw77
          refine W.widen (k := 1) (n := 6) (by decide) (by decide) ?_
          exact vx_ret (W.iret (v := r76) hx hb hr (fun t ht hW => ⟨⟨r76, (), rfl, (by exact ⟨(by have := skC_s p0.toInt p1.toInt; omega), (Or.inr (Or.inr ⟨by omega, hf101⟩))⟩), by (try dsimp only); rw [ht]; exact ⟨hT, hF⟩⟩, hS.F ht⟩) hS.2.2 dX11_sky_75)
        · have t102 : p1.toInt = 1 := ti_eq c74 rfl (by decide)
          refine lv_aload_n hx hb dX11_sky_50 rfl (lv_at hl 0 rfl) ?_
          refine tw_getM (v := .ref lk) hx hb hts bF2_X11 hown hK hT hr_o0 shc_14 rfl 1 (by decide) (ht_at2 hts 7 rfl) (fun _ h9 => h9) m41 dX11_sky_51 ?_
          refine tw_getNM (v := .ref sk) hx hb hts bF2_X3 hown hK hT hr_lk shc_6 rfl 0 (by decide) (hE.nw 3 rfl) (fun _ h9 => h9) m42 dX11_sky_54 ?_
          refine lv_iload_n hx hb dX11_sky_57 rfl (lv_at hl 1 rfl) ?_
          have hFc := gA_free hG hA hS
          refine va_calli (va_runV (As := [.int p0]) (rest := []) ⟨hx, hb, hml, hown, hts⟩ (c_windAtY l dC dI kA adK adV G H nC nS sk p0 wi wh wn nw VH VN hT hr_sk m48 hr_wi m49 hr_wh m50 hr_wn m51 (by have q8 := ti_all nw; omega) m60 m61 (by omega) (by omega)) (cwV 1 hts (goodIn_app (goodIn_r _ [38, 39, 40, 21] rfl (by decide +kernel)) (goodIn_ca (goodIn_r _ [22, 23, 11, 12, 13, 14, 15, 16, 17, 24, 25, 26, 27, 28, 29, 30, 31, 32, 33, 34, 35, 36, 37] rfl (by decide +kernel)) (bs2_in _ _))) rfl rfl rfl (by decide +kernel) ⟨(Nat.le_of_ble_eq_true rfl), (Nat.le_of_ble_eq_true rfl)⟩) ⟨fun a U g mk q => by obtain ⟨q0, q1, qK, qE⟩ := q; exact ⟨q0, q1, va_K.moved (u := U) (U := U.calling g mk a) (Vm.Alike.refl U.vm) qK, EVC.blind g mk a qE⟩, gH_rc hK hT hr_sk shc_11 rfl, fun U hU hW => ⟨rfl, hU, va_K.moved hW.alike hK, hE.call hS hFc hU hW⟩⟩ rfl rfl hl.1 rfl (lv_room (Nat.le_of_ble_eq_true rfl)) dX11_sky_58 ⟨(Nat.le_of_ble_eq_true rfl), (Nat.le_of_ble_eq_true rfl)⟩) hS (fun q _ h => hFc q h) hFc (fun r103 u t H locs ht hvm hw104 hB _ _ hS => ?_)
          obtain ⟨hT, hF1⟩ := hB
          rw [ht] at hT hF1
          have hF := hF.more hF1 (by decide)
          try dsimp only at hw104
          have hf128 := hw104
          refine lv_goto (tgt := 75) hx hb dX11_sky_61 (by decide) ?_
          refine W.widen (k := 1) (n := 6) (by decide) (by decide) ?_
          exact vx_ret (W.iret (v := r103) hx hb hr (fun t ht hW => ⟨⟨r103, (), rfl, (by exact ⟨(by have := skC_s p0.toInt p1.toInt; omega), (Or.inr (Or.inl ⟨by omega, hf128⟩))⟩), by (try dsimp only); rw [ht]; exact ⟨hT, hF⟩⟩, hS.F ht⟩) hS.2.2 dX11_sky_75)
      · have t129 : p1.toInt = 0 := ti_eq c72 rfl (by decide)
        refine lv_aload_n hx hb dX11_sky_33 rfl (lv_at hl 0 rfl) ?_
        refine tw_getM (v := .ref lk) hx hb hts bF2_X11 hown hK hT hr_o0 shc_14 rfl 1 (by decide) (ht_at2 hts 7 rfl) (fun _ h9 => h9) m41 dX11_sky_34 ?_
        refine tw_getNM (v := .ref sk) hx hb hts bF2_X3 hown hK hT hr_lk shc_6 rfl 0 (by decide) (hE.nw 3 rfl) (fun _ h9 => h9) m42 dX11_sky_37 ?_
        refine lv_iload_n hx hb dX11_sky_40 rfl (lv_at hl 1 rfl) ?_
        have hFc := gA_free hG hA hS
        refine va_calli (va_runV (As := [.int p0]) (rest := []) ⟨hx, hb, hml, hown, hts⟩ (c_outsideAtY l dC dI kA adK adV G H nC nS sk p0 ti sf so sm ns VT VF VO VM hT hr_sk m43 hr_ti m44 hr_sf m45 hr_so m46 hr_sm m47 (by have q8 := ti_all ns; omega) (by have q8 := ti_all p0; omega) hM9 hT9 m56 m57 m58 m59 (by omega) (by omega)) (cwV 1 hts (goodIn_app (goodIn_r _ [51, 52, 53, 21] rfl (by decide +kernel)) (goodIn_ca (goodIn_r _ [41, 42, 43, 44, 45, 46, 47, 48, 49, 50] rfl (by decide +kernel)) (bs2_in _ _))) rfl rfl rfl (by decide +kernel) ⟨(Nat.le_of_ble_eq_true rfl), (Nat.le_of_ble_eq_true rfl)⟩) ⟨fun a U g mk q => by obtain ⟨q0, q1, qK, qE⟩ := q; exact ⟨q0, q1, va_K.moved (u := U) (U := U.calling g mk a) (Vm.Alike.refl U.vm) qK, EVC.blind g mk a qE⟩, gH_rc hK hT hr_sk shc_11 rfl, fun U hU hW => ⟨rfl, hU, va_K.moved hW.alike hK, hE.call hS hFc hU hW⟩⟩ rfl rfl hl.1 rfl (lv_room (Nat.le_of_ble_eq_true rfl)) dX11_sky_41 ⟨(Nat.le_of_ble_eq_true rfl), (Nat.le_of_ble_eq_true rfl)⟩) hS (fun q _ h => hFc q h) hFc (fun r130 u t H locs ht hvm hw131 hB _ _ hS => ?_)
        obtain ⟨hT, hF1⟩ := hB
        rw [ht] at hT hF1
        have hF := hF.more hF1 (by decide)
        try dsimp only at hw131
        obtain ⟨h155, hf156⟩ := hw131
        refine W.widen (k := 1) (n := 6) (by decide) (by decide) ?_
        exact vx_ret (W.iret (v := r130) hx hb hr (fun t ht hW => ⟨⟨r130, (), rfl, (by exact ⟨(by have := skC_s p0.toInt p1.toInt; omega), (Or.inl ⟨by omega, hf156⟩)⟩), by (try dsimp only); rw [ht]; exact ⟨hT, hF⟩⟩, hS.F ht⟩) hS.2.2 dX11_sky_44)
    · have t157 : r39.toInt = 0 := ti_eq c67 rfl (by decide)
      have t158 : (0 : Int32).toInt = 0 := by decide
      have t159 : (2 : Int32).toInt = 2 := by decide
      have t160 : p1.toInt < (0 : Int32).toInt ∨ (2 : Int32).toInt < p1.toInt := hi66 c67
      obtain ⟨sa161, hsa161⟩ := hE.str 1 rfl
      exact vy_throwS rxN_0 rxN_1 rxN_2 rxN_5 (names := ["java/lang/RuntimeException", "java/lang/Exception"]) hx hb hlt hown (by decide +kernel) (by decide +kernel) (ht_at2 hts 5 rfl) (ht_at2 hts 6 rfl) hsa161 (bX2_at2 hts hE) bX_ok2_134 hE.1.1.2.2.1 hE.1.1.2.2.2 hS (by rw [hml]; exact hl.1) dX11_sky_19 dX11_sky_22 dX11_sky_23 dX11_sky_25 dX11_sky_28 (fun x h => (hnt x h).elim) (by decide) (Nat.le_of_ble_eq_true rfl) (Nat.le_of_ble_eq_true rfl) (Nat.le_of_ble_eq_true rfl) hlocks (fun t hW hz hq => ⟨(), trivial, ⟨rfl, (⟨rfl, (by have := skC_s p0.toInt p1.toInt; first | omega | exact hxf.elim)⟩), hT.ext hq, hF.ext hT hq⟩, Nat.le_trans hS.1 hz, fun q h1 h2 => (hq q (Nat.lt_of_lt_of_le h1 hS.1)).trans (hS.2.1 q h1 h2)⟩) hS.2.2 (by decide) (by decide)
def w_l_skyY : List Cond := .codeWith yL_sky cL_sky 5 (some .int) [(0, 10, 13, 39)] :: (HAppend.hAppend (α := List Cond) (β := List Cond) (γ := List Cond) [.code yX11_sky cX11_sky 3 (some .int), .constant RX11 110 40000, .code yX11_within cX11_within 3 (some .boolean), .methodLink RX11 58 yX11_within, .static yX11_within, .initialized RX11, .classLink RX11 134 "java/util/NoSuchElementException", .initialized "java/util/NoSuchElementException", .fieldLink RX11 16 "SeaLand" "lake" "LSeaLand$Lake;", .code yX8_rainAt cX8_rainAt 3 (some .int), .fieldLink RX8 31 "SeaLand$Sky" "rain" "LSeaLand$Tellings;", .code yX9_standingAt cX9_standingAt 5 (some .int), .fieldLink RX9 18 "SeaLand$Tellings" "told" "I", .fieldLink RX9 9 "SeaLand$Tellings" "hours" "[I", .methodLink RX8 44 yX9_standingAt, .instanceMethod yX9_standingAt, .selects RX9 yX9_standingAt yX9_standingAt, .initialized RX9, .methodLink RX11 146 yX8_rainAt, .instanceMethod yX8_rainAt, .selects RX8 yX8_rainAt yX8_rainAt, .initialized RX8, .code yX8_windAt cX8_windAt 4 (some .int), .fieldLink RX8 27 "SeaLand$Sky" "wind" "LSeaLand$Tellings;", .code yX9_nearestNumberBefore cX9_nearestNumberBefore 5 (some .int), .fieldLink RX9 15 "SeaLand$Tellings" "numbers" "[I", .methodLink RX8 54 yX9_nearestNumberBefore, .instanceMethod yX9_nearestNumberBefore, .selects RX9 yX9_nearestNumberBefore yX9_nearestNumberBefore, .code yX9_nearestNumberAfter cX9_nearestNumberAfter 5 (some .int), .constant RX9 22 40001, .methodLink RX8 57 yX9_nearestNumberAfter, .instanceMethod yX9_nearestNumberAfter, .selects RX9 yX9_nearestNumberAfter yX9_nearestNumberAfter, .methodLink RX8 60 Lib.Math.max.name, .static Lib.Math.max.name, .initialized "java/lang/Math", .code Lib.Math.max.name Lib.Math.max.code 2 (some .int), .methodLink RX11 143 yX8_windAt, .instanceMethod yX8_windAt, .selects RX8 yX8_windAt yX8_windAt, .code yX8_outsideAt cX8_outsideAt 4 (some .int), .fieldLink RX8 9 "SeaLand$Sky" "tides" "[I", .code yJ9_floorMod_7cf53 cJ9_floorMod_7cf53 3 (some .int), .methodLink RX8 38 yJ9_floorMod_7cf53, .static yJ9_floorMod_7cf53, .initialized RJ9, .fieldLink RX8 34 "SeaLand$Sky" "storms" "I", .fieldLink RX8 15 "SeaLand$Sky" "stormFrom" "[I", .fieldLink RX8 18 "SeaLand$Sky" "stormTo" "[I", .fieldLink RX8 21 "SeaLand$Sky" "stormMore" "[I", .methodLink RX11 139 yX8_outsideAt, .instanceMethod yX8_outsideAt, .selects RX8 yX8_outsideAt yX8_outsideAt, .methodLink RL 35 yX11_sky, .instanceMethod yX11_sky, .selects RX11 yX11_sky yX11_sky, .classLink RL 39 "java/util/NoSuchElementException"] bs2)
set_option maxHeartbeats 4000000 in
set_option maxRecDepth 100000 in
theorem l_skyY (l : Launch) (hlt : l.stackTraces = false) (dC : Nat → ClassId) (dI : Nat → Nat → Nat) (kA : Nat → ClassId) (adK adV : Nat → Nat) (G : gT) (H0 : Heap) (nC nS : Int) (o0 : Nat) (p1 : Int32) (p2 : Int32) (ou : Nat) (lk : Nat) (sk : Nat) (ti : Nat) (sf : Nat) (so : Nat) (sm : Nat) (ns : Int32) (wi : Nat) (wh : Nat) (wn : Nat) (nw : Int32) (ra : Nat) (rh : Nat) (rn : Nat) (nr : Int32) (VT : Nat → Int32) (VF : Nat → Int32) (VO : Nat → Int32) (VM : Nat → Int32) (VH : Nat → Int32) (VN : Nat → Int32) (VR : Nat → Int32) (VQ : Nat → Int32) (hT : gH (dC, dI) kA (SHc nC nS) G H0) (hr_o0 : G o0 = some 14) (hr_ou : G ou = some 98) (hm_lk : el H0 o0 (dI 14 1) = some (.ref lk)) (hr_lk : G lk = some 6) (hm_sk : el H0 lk (dI 6 0) = some (.ref sk)) (hr_sk : G sk = some 11) (hm_ti : el H0 sk (dI 11 0) = some (.ref ti)) (hr_ti : G ti = some 19) (hm_sf : el H0 sk (dI 11 1) = some (.ref sf)) (hr_sf : G sf = some 20) (hm_so : el H0 sk (dI 11 2) = some (.ref so)) (hr_so : G so = some 21) (hm_sm : el H0 sk (dI 11 3) = some (.ref sm)) (hr_sm : G sm = some 22) (hm_ns : el H0 sk (dI 11 6) = some (.int ns)) (hm_wi : el H0 sk (dI 11 4) = some (.ref wi)) (hr_wi : G wi = some 130) (hm_wh : el H0 wi (dI 12 0) = some (.ref wh)) (hr_wh : G wh = some 131) (hm_wn : el H0 wi (dI 12 1) = some (.ref wn)) (hr_wn : G wn = some 132) (hm_nw : el H0 wi (dI 12 2) = some (.int nw)) (hm_ra : el H0 sk (dI 11 5) = some (.ref ra)) (hr_ra : G ra = some 12) (hm_rh : el H0 ra (dI 12 0) = some (.ref rh)) (hr_rh : G rh = some 23) (hm_rn : el H0 ra (dI 12 1) = some (.ref rn)) (hr_rn : G rn = some 24) (hm_nr : el H0 ra (dI 12 2) = some (.int nr)) (hq0 : 0 ≤ ns.toInt ∧ ns.toInt ≤ 20) (hq1 : 0 ≤ nw.toInt ∧ nw.toInt ≤ 60) (hq2 : 0 ≤ nr.toInt ∧ nr.toInt ≤ 60) (hc_VT : ct H0 ti 12 VT) (hc_VF : ct H0 sf 20 VF) (hc_VO : ct H0 so 20 VO) (hc_VM : ct H0 sm 20 VM) (hc_VH : ct H0 wh 60 VH) (hc_VN : ct H0 wn 60 VN) (hc_VR : ct H0 rh 60 VR) (hc_VQ : ct H0 rn 60 VQ) (hM9 : ∀ i : Nat, ((i : Nat) : Int) < ns.toInt → 0 ≤ (VM i).toInt ∧ (VM i).toInt ≤ 500) (hT9 : ∀ i : Nat, i < 12 → -400 ≤ (VT i).toInt ∧ (VT i).toInt ≤ 400) (hgC : 0 ≤ nC ∧ nC ≤ 40) (hgS : 0 ≤ nS ∧ nS ≤ 60) : Met l yL_sky w_l_skyY ({ frames := 7, cells := 1, slots := 6, locals := 122 }) (va_Pc [.ref o0, .int p1, .int p2, .ref ou] (fun U => U.heap = H0 ∧ va_K (dC, dI) vwCl (tyl kA) U ∧ EVC adK adV (gA G H0.size) U U.heap ∧ NC U)) (va_Qi (fun (r : Int32) (u : Int32 × Int32) => match u with | (c1, a1) => (0 ≤ r.toInt ∧ r.toInt ≤ 1 ∧ c1.toInt = r.toInt) ∧ (r.toInt = skC p1.toInt p2.toInt) ∧ (skC p1.toInt p2.toInt ≠ 0 ∨ ((p2.toInt = 0 ∧ a1.toInt = (VT (p1.toInt % 12).toNat).toInt + osm (fun i => (VF i).toInt) (fun i => (VO i).toInt) (fun i => (VM i).toInt) p1.toInt ns.toNatClampNeg) ∨ (p2.toInt = 1 ∧ wdC (fun i => (VH i).toInt) (fun i => (VN i).toInt) nw.toNatClampNeg p1.toInt a1.toInt) ∨ (p2.toInt = 2 ∧ rnC (fun i => (VR i).toInt) (fun i => (VQ i).toInt) nr.toNatClampNeg p1.toInt a1.toInt)))) (fun (u : Int32 × Int32) (t : State) => match u with | (c1, a1) => gH (dC, dI) kA (SHc nC nS) G t.heap ∧ gF (dC, dI) SKc G ([(98, 0)] : List (Nat × Nat)) H0 t.heap ∧ (c1 = 0 → el t.heap ou 0 = some (.long a1.toInt64))) (gA G H0.size)) 1 6 (gA G H0.size) := by
  refine va_MetW (cc := cL_sky) (maxL := 5) (ret := (some .int)) (by decide) rfl ?_
  intro p e s m args below meth c s₁ B hml hv
  obtain ⟨rfl, hH0, hK, hE, hN⟩ := hv
  have hx := B.exec
  have hb := B.bytes
  have hr := B.returns
  have hts := atoms_spec (ws := w_l_skyY) B.pre
  have hown : s.vm.findClass RL = some m.cls := findClass_of_methodNamed B.named
  have hlocks := B.notSynchronized
  have htab := vx_table (x := yL_sky) B (hts _ List.mem_cons_self)
  subst hH0
  generalize hAe : gA G s.heap.size = A at hE ⊢
  have hA : ∀ q : Nat, s.heap.size ≤ q → A q := fun q h => by rw [← hAe]; exact Or.inr h
  have hG := gA_of hAe
  have hS : va_S A s.heap s.heap [] := va_S.rf
  have hF : gF (dC, dI) SKc G ([(98, 0)] : List (Nat × Nat)) s.heap s.heap := gF.rf
  have hl := lv_entry ([.ref o0, .int p1, .int p2, .ref ou]) (n := 5) (Nat.le_of_ble_eq_true rfl)
  rw [lg_entry_eq]
  generalize (lg_sl ([.ref o0, .int p1, .int p2, .ref ou]) ++ List.replicate (5 - (lg_sl ([.ref o0, .int p1, .int p2, .ref ou])).length) Slot.unset).toArray = ls at hl ⊢
  have hl : lv_has ls 5 [(0, .ref o0), (1, .int p1), (2, .int p2), (3, .ref ou)] := hl
  refine lv_aload_n hx hb dL_sky_0 rfl (lv_at hl 3 rfl) ?_
  refine lv_iconst (v := 0) hx hb dL_sky_1 (by decide) ?_
  refine lv_aload_n hx hb dL_sky_2 rfl (lv_at hl 0 rfl) ?_
  refine lv_iload_n hx hb dL_sky_3 rfl (lv_at hl 1 rfl) ?_
  refine lv_iload_n hx hb dL_sky_4 rfl (lv_at hl 2 rfl) ?_
  have hFc := gA_free hG hA hS
  refine vx_calli (vx_runV (As := [.int p1, .int p2]) (rest := [.int 0, .ref ou]) ⟨hx, hb, hml, hown, hts⟩ (c_skyY l hlt dC dI kA adK adV G s.heap nC nS o0 p1 p2 lk sk ti sf so sm ns wi wh wn nw ra rh rn nr VT VF VO VM VH VN VR VQ hT hr_o0 hm_lk hr_lk hm_sk hr_sk hm_ti hr_ti hm_sf hr_sf hm_so hr_so hm_sm hr_sm hm_ns hm_wi hr_wi hm_wh hr_wh hm_wn hr_wn hm_nw hm_ra hr_ra hm_rh hr_rh hm_rn hr_rn hm_nr (by have q8 := ti_all ns; omega) (by have q8 := ti_all nw; omega) (by have q8 := ti_all nr; omega) hM9 hT9 hc_VT hc_VF hc_VO hc_VM hc_VH hc_VN hc_VR hc_VQ (by omega) (by omega)) (cwV 2 hts (goodIn_app (goodIn_r _ [55, 56, 57, 6] rfl (by decide +kernel)) (goodIn_ca (goodIn_r _ [1, 2, 3, 4, 5, 6, 7, 8, 9, 10, 11, 12, 13, 14, 15, 16, 17, 18, 19, 20, 21, 22, 23, 24, 25, 26, 27, 28, 29, 30, 31, 32, 33, 34, 35, 36, 37, 38, 39, 40, 41, 42, 43, 44, 45, 46, 47, 48, 49, 50, 51, 52, 53, 54] rfl (by decide +kernel)) (bs2_in _ _))) rfl rfl rfl (by decide +kernel) ⟨(Nat.le_of_ble_eq_true rfl), (Nat.le_of_ble_eq_true rfl)⟩) ⟨fun a U g mk q => by obtain ⟨q0, q1, qK, qE⟩ := q; exact ⟨q0, q1, va_K.moved (u := U) (U := U.calling g mk a) (Vm.Alike.refl U.vm) qK, EVC.blind g mk a qE⟩, gH_rc hK hT hr_o0 shc_14 rfl, fun U hU hW => ⟨rfl, hU, va_K.moved hW.alike hK, hE.call hS hFc hU hW⟩⟩ rfl rfl hl.1 rfl (lv_room (Nat.le_of_ble_eq_true rfl)) dL_sky_5 ⟨(Nat.le_of_ble_eq_true rfl), (Nat.le_of_ble_eq_true rfl)⟩) hS (fun q _ h => hFc q h) hFc (fun q _ h => hFc q h) (fun E ce q9 u t H locs ht hvm _ hw2 _ _ hS hce hcv hcl => ?_) (fun r1 u t H locs ht hvm hw2 hB _ _ hS => ?_)
  · obtain ⟨hw2, hxf, hTx, hFx⟩ := hw2; rw [ht] at hTx hFx
    have hT := hTx; have hF := hF.more hFx (by decide)
    subst hw2
    have hxf := hxf.2
    refine vx_catch (E := "java/util/NoSuchElementException") hown [] ⟨0, 10, 13, 39⟩ [] (by rw [htab]; rfl) (fun z h => absurd h List.not_mem_nil) (by decide) (by decide) (ht_at2 hts 57 rfl) (va_Nw.use rfl (hE.1.1.2.1.2.1 _ (List.mem_of_getElem? (i := 2) rfl))) hce hcv hcl ?_
    refine lv_astore (lv' := [(4, .ref q9), (0, .ref o0), (1, .int p1), (2, .int p2), (3, .ref ou)]) hx hb dL_sky_13 hl (by decide) rfl (fun ls hl => ?_)
    refine lv_iconst (v := 1) hx hb dL_sky_15 (by decide) ?_
    exact W.iret (v := 1) hx hb hr (fun t ht hW => ⟨⟨1, ((1 : Int32), (0 : Int32)), rfl, (by exact ⟨(by have : (0 : Int32).toInt = 0 := (by decide); have : (1 : Int32).toInt = 1 := (by decide); exact ⟨by omega, by omega, rfl⟩), (by have : (0 : Int32).toInt = 0 := (by decide); have : (1 : Int32).toInt = 1 := (by decide); omega), (Or.inl (by omega))⟩), by (try dsimp only); rw [ht]; exact ⟨hT, hF, (fun h => absurd h (by decide))⟩⟩, hS.F ht⟩) hS.2.2 dL_sky_16
  · obtain ⟨hT, hF1⟩ := hB
    rw [ht] at hT hF1
    have hF := hF.more hF1 (by decide)
    try dsimp only at hw2
    obtain ⟨hf26, hf27⟩ := hw2
    refine lv_i2l (v := r1.toInt64) hx hb dL_sky_8 rfl ?_
    refine tw_last (i := 0)  hx hb hK hT hG hS hr_ou shc_98 rfl (by unfold vp_in; decide) ⟨_, rfl⟩ dL_sky_9 (fun H locs hT oq m28 oi hS => ?_)
    have hF := hF.ast hr_ou skc_98 oq (by decide)
    refine lv_goto (tgt := 17) hx hb dL_sky_10 (by decide) ?_
    refine lv_iconst (v := 0) hx hb dL_sky_17 (by decide) ?_
    exact W.iret (v := 0) hx hb hr (fun t ht hW => ⟨⟨0, ((0 : Int32), r1), rfl, (by exact ⟨(by have : (0 : Int32).toInt = 0 := (by decide); exact ⟨by omega, by omega, rfl⟩), (by have : (0 : Int32).toInt = 0 := (by decide); omega), (Or.inr hf27)⟩), by (try dsimp only); rw [ht]; exact ⟨hT, hF, (fun _ => m28)⟩⟩, hS.F ht⟩) hS.2.2 dL_sky_18

