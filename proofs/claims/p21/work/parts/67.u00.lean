theorem gZ.re {L : List Nat} {q t z : Nat} {G0 G : gT} (h : gZ L z G0 G) (hz : z ≤ q) (ht : t ∈ L) : gZ L z G0 (gU G q t) := by
  refine ⟨fun a u h0 => ?_, fun a u ha => ?_, h.2.2⟩
  · rw [gU_ne (fun e => by have := h.2.2 a u h0; omega)]; exact h.1 a u h0
  · by_cases e : a = q
    · subst e
      rw [gU_at] at ha
      cases ha
      exact Or.inr ⟨hz, ht⟩
    · rw [gU_ne e] at ha
      exact h.2.1 a u ha
def w_c_passHourE : List Cond := .code yX3_passHour cX3_passHour 3 none :: (HAppend.hAppend (α := List Cond) (β := List Cond) (γ := List Cond) [.fieldLink RX3 32 "SeaLand$Lake" "hour" "I", .fieldLink RX3 12 "SeaLand$Lake" "sky" "LSeaLand$Sky;", .code yX8_outsideAt cX8_outsideAt 4 (some .int), .fieldLink RX8 9 "SeaLand$Sky" "tides" "[I", .code yJ9_floorMod_7cf53 cJ9_floorMod_7cf53 3 (some .int), .methodLink RX8 38 yJ9_floorMod_7cf53, .static yJ9_floorMod_7cf53, .initialized RJ9, .fieldLink RX8 34 "SeaLand$Sky" "storms" "I", .fieldLink RX8 15 "SeaLand$Sky" "stormFrom" "[I", .fieldLink RX8 18 "SeaLand$Sky" "stormTo" "[I", .fieldLink RX8 21 "SeaLand$Sky" "stormMore" "[I", .methodLink RX3 44 yX8_outsideAt, .instanceMethod yX8_outsideAt, .selects RX8 yX8_outsideAt yX8_outsideAt, .initialized RX8, .fieldLink RX3 21 "SeaLand$Lake" "ground" "LSeaLand$Ground;", .code yX8_rainAt cX8_rainAt 3 (some .int), .fieldLink RX8 31 "SeaLand$Sky" "rain" "LSeaLand$Tellings;", .code yX9_standingAt cX9_standingAt 5 (some .int), .fieldLink RX9 18 "SeaLand$Tellings" "told" "I", .fieldLink RX9 9 "SeaLand$Tellings" "hours" "[I", .methodLink RX8 44 yX9_standingAt, .instanceMethod yX9_standingAt, .selects RX9 yX9_standingAt yX9_standingAt, .initialized RX9, .methodLink RX3 103 yX8_rainAt, .instanceMethod yX8_rainAt, .selects RX8 yX8_rainAt yX8_rainAt, .code yX2_rainOnLand cX2_rainOnLand 3 none, .fieldLink RX2 9 "SeaLand$Ground" "isLand" "[Z", .fieldLink RX2 25 "SeaLand$Ground" "water" "[I", .fieldLink RX2 54 "SeaLand$Ground" "rained" "I", .methodLink RX3 106 yX2_rainOnLand, .instanceMethod yX2_rainOnLand, .selects RX2 yX2_rainOnLand yX2_rainOnLand, .initialized RX2, .fieldLink RX3 47 "SeaLand$Lake" "built" "I", .fieldLink RX3 27 "SeaLand$Lake" "works" "[LSeaLand$Work;", .code yX3_runSluice cX3_runSluice 5 none, .code yX2_levelOf cX2_levelOf 2 (some .int), .fieldLink RX2 15 "SeaLand$Ground" "height" "[I", .methodLink RX3 40 yX2_levelOf, .instanceMethod yX2_levelOf, .selects RX2 yX2_levelOf yX2_levelOf, .methodLink RX3 71 Lib.Math.min.name, .static Lib.Math.min.name, .initialized "java/lang/Math", .code Lib.Math.min.name Lib.Math.min.code 2 (some .int), .code yX2_giveToSea cX2_giveToSea 3 none, .fieldLink RX2 28 "SeaLand$Ground" "salt" "[I", .code yX2_saltGoingWith cX2_saltGoingWith 4 (some .int), .methodLink RX2 60 yX2_saltGoingWith, .instanceMethod yX2_saltGoingWith, .selects RX2 yX2_saltGoingWith yX2_saltGoingWith, .fieldLink RX2 64 "SeaLand$Ground" "wentOut" "I", .methodLink RX3 154 yX2_giveToSea, .instanceMethod yX2_giveToSea, .selects RX2 yX2_giveToSea yX2_giveToSea, .code yX10_moved cX10_moved 2 none, .fieldLink RX10 44 "SeaLand$Work" "latest" "I", .fieldLink RX10 47 "SeaLand$Work" "total" "I", .methodLink RX3 140 yX10_moved, .instanceMethod yX10_moved, .selects RX10 yX10_moved yX10_moved, .initialized RX10, .methodLink RX3 114 yX3_runSluice, .instanceMethod yX3_runSluice, .selects RX3 yX3_runSluice yX3_runSluice, .initialized RX3, .code yX2_runDitches cX2_runDitches 3 none, .fieldLink RX2 37 "SeaLand$Ground" "ditchTo" "[I", .fieldLink RX2 40 "SeaLand$Ground" "ditchWater" "[I", .fieldLink RX2 43 "SeaLand$Ground" "ditchSalt" "[I", .code yX2_reckonDitch cX2_reckonDitch 5 none, .fieldLink RX2 22 "SeaLand$Ground" "ditch" "[I", .code yX2_lowestDitchBeside cX2_lowestDitchBeside 4 (some .int), .code yX2_lowerDitch cX2_lowerDitch 4 (some .int), .methodLink RX2 79 yX2_levelOf, .methodLink RX2 87 yX2_lowerDitch, .instanceMethod yX2_lowerDitch, .selects RX2 yX2_lowerDitch yX2_lowerDitch, .methodLink RX2 75 yX2_lowestDitchBeside, .instanceMethod yX2_lowestDitchBeside, .selects RX2 yX2_lowestDitchBeside yX2_lowestDitchBeside, .methodLink RX2 82 Lib.Math.min.name, .methodLink RX2 71 yX2_reckonDitch, .instanceMethod yX2_reckonDitch, .selects RX2 yX2_reckonDitch yX2_reckonDitch, .methodLink RX3 117 yX2_runDitches, .instanceMethod yX2_runDitches, .selects RX2 yX2_runDitches yX2_runDitches, .code yX8_windAt cX8_windAt 4 (some .int), .fieldLink RX8 27 "SeaLand$Sky" "wind" "LSeaLand$Tellings;", .code yX9_nearestNumberBefore cX9_nearestNumberBefore 5 (some .int), .fieldLink RX9 15 "SeaLand$Tellings" "numbers" "[I", .methodLink RX8 54 yX9_nearestNumberBefore, .instanceMethod yX9_nearestNumberBefore, .selects RX9 yX9_nearestNumberBefore yX9_nearestNumberBefore, .code yX9_nearestNumberAfter cX9_nearestNumberAfter 5 (some .int), .constant RX9 22 40001, .methodLink RX8 57 yX9_nearestNumberAfter, .instanceMethod yX9_nearestNumberAfter, .selects RX9 yX9_nearestNumberAfter yX9_nearestNumberAfter, .methodLink RX8 60 Lib.Math.max.name, .static Lib.Math.max.name, .code Lib.Math.max.name Lib.Math.max.code 2 (some .int), .methodLink RX3 120 yX8_windAt, .instanceMethod yX8_windAt, .selects RX8 yX8_windAt yX8_windAt, .code yX3_runMills cX3_runMills 3 none, .code yX3_runEngine cX3_runEngine 3 none, .code yX3_liftBy cX3_liftBy 4 none, .code yX2_giveTo cX2_giveTo 5 none, .methodLink RX2 67 yX2_giveToSea, .methodLink RX3 171 yX2_giveTo, .instanceMethod yX2_giveTo, .selects RX2 yX2_giveTo yX2_giveTo, .methodLink RX3 161 yX3_liftBy, .instanceMethod yX3_liftBy, .selects RX3 yX3_liftBy yX3_liftBy, .methodLink RX3 164 yX3_runEngine, .instanceMethod yX3_runEngine, .selects RX3 yX3_runEngine yX3_runEngine, .methodLink RX3 123 yX3_runMills, .instanceMethod yX3_runMills, .selects RX3 yX3_runMills yX3_runMills, .code yX2_endDay cX2_endDay 2 none, .fieldLink RX2 31 "SeaLand$Ground" "dry" "[I", .code yX2_sinksNow cX2_sinksNow 2 (some .boolean), .fieldLink RX2 19 "SeaLand$Ground" "soil" "[I", .methodLink RX2 91 yX2_sinksNow, .instanceMethod yX2_sinksNow, .selects RX2 yX2_sinksNow yX2_sinksNow, .fieldLink RX2 34 "SeaLand$Ground" "wet" "[I", .methodLink RX3 126 yX2_endDay, .instanceMethod yX2_endDay, .selects RX2 yX2_endDay yX2_endDay, .code yX10_isBank cX10_isBank 1 (some .boolean), .fieldLink RX10 18 "SeaLand$Work" "kind" "I", .methodLink RX3 67 yX10_isBank, .instanceMethod yX10_isBank, .selects RX10 yX10_isBank yX10_isBank, .code yX3_runBank cX3_runBank 4 none, .code yX3_seepOf cX3_seepOf 5 (some .int), .methodLink RX3 97 Lib.Math.max.name, .code yX10_leakBelow cX10_leakBelow 6 (some .int), .fieldLink RX10 34 "SeaLand$Work" "layers" "I", .fieldLink RX10 9 "SeaLand$Work" "thick" "[I", .fieldLink RX10 15 "SeaLand$Work" "clay" "[I", .methodLink RX3 100 yX10_leakBelow, .instanceMethod yX10_leakBelow, .selects RX10 yX10_leakBelow yX10_leakBelow, .methodLink RX3 132 yX3_seepOf, .instanceMethod yX3_seepOf, .selects RX3 yX3_seepOf yX3_seepOf, .code yX10_breakOpen cX10_breakOpen 1 none, .fieldLink RX10 31 "SeaLand$Work" "width" "I", .methodLink RX3 143 yX10_breakOpen, .instanceMethod yX10_breakOpen, .selects RX10 yX10_breakOpen yX10_breakOpen, .code yX3_runBreach cX3_runBreach 4 none, .constantLong RX3 149 120, .code yX2_takeFromSea cX2_takeFromSea 3 none, .fieldLink RX2 57 "SeaLand$Ground" "cameIn" "I", .methodLink RX3 136 yX2_takeFromSea, .instanceMethod yX2_takeFromSea, .selects RX2 yX2_takeFromSea yX2_takeFromSea, .methodLink RX3 146 yX3_runBreach, .instanceMethod yX3_runBreach, .selects RX3 yX3_runBreach yX3_runBreach, .code yX3_crestOf cX3_crestOf 2 (some .int), .code yX10_thickness cX10_thickness 3 (some .int), .methodLink RX3 80 yX10_thickness, .instanceMethod yX10_thickness, .selects RX10 yX10_thickness yX10_thickness, .methodLink RX3 84 yX3_crestOf, .instanceMethod yX3_crestOf, .selects RX3 yX3_crestOf yX3_crestOf, .code yX10_widen cX10_widen 1 none, .code yX10_wider cX10_wider 1 (some .int), .methodLink RX10 54 Lib.Math.min.name, .methodLink RX10 50 yX10_wider, .static yX10_wider, .methodLink RX3 129 yX10_widen, .instanceMethod yX10_widen, .selects RX10 yX10_widen yX10_widen, .methodLink RX3 110 yX3_runBank, .instanceMethod yX3_runBank, .selects RX3 yX3_runBank yX3_runBank] bs2)
set_option maxHeartbeats 4000000 in
set_option maxRecDepth 100000 in
theorem c_passHourE (l : Launch) (dC : Nat → ClassId) (dI : Nat → Nat → Nat) (kA : Nat → ClassId) (adK adV : Nat → Nat) (G : gT) (H0 : Heap) (nC nS : Int) (o0 : Nat) (ho : Int32)  (hT : gH (dC, dI) kA (SHc nC nS) G H0) (hr_o0 : G o0 = some 6) (hm_ho : el H0 o0 (dI 6 4) = some (.int ho)) (hq0 : 0 ≤ ho.toInt ∧ ho.toInt ≤ 39999) (hgC : 0 ≤ nC ∧ nC ≤ 40) (hgS : 0 ≤ nS ∧ nS ≤ 60) : Met l yX3_passHour w_c_passHourE ({ frames := 6, cells := 0, slots := 0, locals := 136 }) (va_Pc [.ref o0] (fun U => U.heap = H0 ∧ va_K (dC, dI) vwCl (tyl kA) U ∧ EVC adK adV (gA G H0.size) U U.heap)) (va_Qv (fun (u : Int32) => (1 ≤ u.toInt ∧ u.toInt ≤ 40000) ∧ (u.toInt = ho.toInt + 1)) (fun (h1 : Int32) (t : State) => gH (dC, dI) kA (SHc nC nS) G t.heap ∧ gF (dC, dI) SKc G ([(5, 11), (5, 12), (5, 13), (6, 4), (13, 2), (13, 6), (13, 8), (13, 10), (13, 11), (26, 0), (29, 0), (30, 0), (31, 0), (32, 0), (33, 0), (34, 0), (35, 0)] : List (Nat × Nat)) H0 t.heap ∧ el t.heap o0 (dI 6 4) = some (.int h1)) (gA G H0.size)) 0 0 (gA G H0.size) := by
  refine Met.ofW (cc := cX3_passHour) (maxL := 3) (ret := none) (by decide) rfl ?_
  intro p e s m args below meth c s₁ B hml hv
  obtain ⟨rfl, hH0, hK, hE⟩ := hv
  have hx := B.exec
  have hb := B.bytes
  have hr := B.returns
  have hts := atoms_spec (ws := w_c_passHourE) B.pre
  have hown : s.vm.findClass RX3 = some m.cls := findClass_of_methodNamed B.named
  have hlocks := B.notSynchronized
  subst hH0
  generalize hAe : gA G s.heap.size = A at hE ⊢
  have hA : ∀ q : Nat, s.heap.size ≤ q → A q := fun q h => by rw [← hAe]; exact Or.inr h
  have hG := gA_of hAe
  have hS : va_S A s.heap s.heap [] := va_S.rf
  have hF : gF (dC, dI) SKc G ([(5, 11), (5, 12), (5, 13), (6, 4), (13, 2), (13, 6), (13, 8), (13, 10), (13, 11), (26, 0), (29, 0), (30, 0), (31, 0), (32, 0), (33, 0), (34, 0), (35, 0)] : List (Nat × Nat)) s.heap s.heap := gF.rf
  have hl := lv_entry ([.ref o0]) (n := 3) (Nat.le_of_ble_eq_true rfl)
  rw [lg_entry_eq]
  generalize (lg_sl ([.ref o0]) ++ List.replicate (3 - (lg_sl ([.ref o0])).length) Slot.unset).toArray = ls at hl ⊢
  have hl : lv_has ls 3 [(0, .ref o0)] := hl
  refine lv_aload_n hx hb dX3_passHour_0 rfl (lv_at hl 0 rfl) ?_
  refine lv_dup hx hb dX3_passHour_1 rfl ?_
  refine tw_getM (v := .int ho) hx hb hts bF2_X3 hown hK hT hr_o0 shc_6 rfl 4 (by decide) (ht_at2 hts 0 rfl) (fun _ h9 => h9) hm_ho dX3_passHour_2 ?_
  refine lv_iconst (v := 1) hx hb dX3_passHour_5 (by decide) ?_
  refine lv_iadd hx hb dX3_passHour_6 ?_
  refine lv_topi (fun x1 ex1 => ?_)
  have t2 : x1.toInt = ho.toInt + 1 := ti_add ex1 rfl (by decide) (by omega) (by omega)
  refine tw_put (v := .int x1) (ty := .int) hx hb hts bF2_X3 tyX3 tyX3_ok nmX3 hown hK hT hG hS hr_o0 shc_6 rfl 4 (by decide) (ht_at2 hts 0 rfl) (fun _ h9 => h9) rfl (by decide +kernel) rfl rfl (gl_at rfl (gi_of (show x1.toInt = x1.toInt from rfl) (by omega) (by omega))) dX3_passHour_7 (fun H locs hT oq m3 oj hS => ?_)
  have hF := hF.put hr_o0 skc_6 oq oj (by decide)
  refine lv_aload_n hx hb dX3_passHour_10 rfl (lv_at hl 0 rfl) ?_
  refine tw_get hx hb hts bF2_X3 hown hK hT hr_o0 shc_6 rfl 0 (by decide) (ht_at2 hts 1 rfl) (fun _ h9 => h9) dX3_passHour_11 (fun v9 m4 h9 => ?_)
  obtain ⟨b5, rfl, hg6⟩ := h9 _ rfl
  refine lv_aload_n hx hb dX3_passHour_14 rfl (lv_at hl 0 rfl) ?_
  refine tw_getM (v := .int x1) hx hb hts bF2_X3 hown hK hT hr_o0 shc_6 rfl 4 (by decide) (ht_at2 hts 0 rfl) (fun _ h9 => h9) m3 dX3_passHour_15 ?_
  have hFc := gA_free hG hA hS
  refine va_calli (va_runV (As := [.int x1]) (rest := []) ⟨hx, hb, hml, hown, hts⟩ (c_outsideAt l dC dI kA adK adV G H nC nS b5 x1 hT hg6 (by have q8 := ti_all x1; omega) (by omega) (by omega)) (cwV 1 hts (goodIn_app (goodIn_r _ [13, 14, 15, 16] rfl (by decide +kernel)) (goodIn_ca (goodIn_r _ [3, 4, 5, 6, 7, 8, 9, 10, 11, 12] rfl (by decide +kernel)) (bs2_in _ _))) rfl rfl rfl (by decide +kernel) ⟨(Nat.le_of_ble_eq_true rfl), (Nat.le_of_ble_eq_true rfl)⟩) ⟨fun a U g mk q => by obtain ⟨q0, q1, qK, qE⟩ := q; exact ⟨q0, q1, va_K.moved (u := U) (U := U.calling g mk a) (Vm.Alike.refl U.vm) qK, EVC.blind g mk a qE⟩, gH_rc hK hT hg6 shc_11 rfl, fun U hU hW => ⟨rfl, hU, va_K.moved hW.alike hK, hE.call hS hFc hU hW⟩⟩ rfl rfl hl.1 rfl (lv_room (Nat.le_of_ble_eq_true rfl)) dX3_passHour_18 ⟨(Nat.le_of_ble_eq_true rfl), (Nat.le_of_ble_eq_true rfl)⟩) hS (fun q _ h => hFc q h) hFc (fun r7 u t H locs ht hvm hw8 hB _ _ hS => ?_)
  obtain ⟨hT, hF1⟩ := hB
  rw [ht] at hT hF1
  have m9 := (hF1.fld hr_o0 skc_6 (k := 4) (by decide) (by decide)).trans m3
  have m10 := (hF1.fld hr_o0 skc_6 (k := 0) (by decide) (by decide)).trans m4
  have hF := hF.more hF1 (by decide)
  try dsimp only at hw8
  refine lv_istore_n (lv' := [(1, .int r7), (0, .ref o0)]) hx hb dX3_passHour_21 rfl hl (by decide) rfl (fun ls hl => ?_)
  refine lv_aload_n hx hb dX3_passHour_22 rfl (lv_at hl 1 rfl) ?_
  refine tw_get hx hb hts bF2_X3 hown hK hT hr_o0 shc_6 rfl 1 (by decide) (ht_at2 hts 16 rfl) (fun _ h9 => h9) dX3_passHour_23 (fun v9 m11 h9 => ?_)
  obtain ⟨b12, rfl, hg13⟩ := h9 _ rfl
  refine lv_aload_n hx hb dX3_passHour_26 rfl (lv_at hl 1 rfl) ?_
  refine tw_getM (v := .ref b5) hx hb hts bF2_X3 hown hK hT hr_o0 shc_6 rfl 0 (by decide) (ht_at2 hts 1 rfl) (fun _ h9 => h9) m10 dX3_passHour_27 ?_
  refine lv_aload_n hx hb dX3_passHour_30 rfl (lv_at hl 1 rfl) ?_
  refine tw_getM (v := .int x1) hx hb hts bF2_X3 hown hK hT hr_o0 shc_6 rfl 4 (by decide) (ht_at2 hts 0 rfl) (fun _ h9 => h9) m9 dX3_passHour_31 ?_
  have hFc := gA_free hG hA hS
  refine va_calli (va_runV (As := [.int x1]) (rest := [.ref b12]) ⟨hx, hb, hml, hown, hts⟩ (c_rainAt l dC dI kA adK adV G H nC nS b5 x1 hT hg6 (by omega) (by omega)) (cwV 1 hts (goodIn_app (goodIn_r _ [27, 28, 29, 16] rfl (by decide +kernel)) (goodIn_ca (goodIn_r _ [18, 19, 20, 21, 22, 23, 24, 25, 26] rfl (by decide +kernel)) (bs2_in _ _))) rfl rfl rfl (by decide +kernel) ⟨(Nat.le_of_ble_eq_true rfl), (Nat.le_of_ble_eq_true rfl)⟩) ⟨fun a U g mk q => by obtain ⟨q0, q1, qK, qE⟩ := q; exact ⟨q0, q1, va_K.moved (u := U) (U := U.calling g mk a) (Vm.Alike.refl U.vm) qK, EVC.blind g mk a qE⟩, gH_rc hK hT hg6 shc_11 rfl, fun U hU hW => ⟨rfl, hU, va_K.moved hW.alike hK, hE.call hS hFc hU hW⟩⟩ rfl rfl hl.1 rfl (lv_room (Nat.le_of_ble_eq_true rfl)) dX3_passHour_34 ⟨(Nat.le_of_ble_eq_true rfl), (Nat.le_of_ble_eq_true rfl)⟩) hS (fun q _ h => hFc q h) hFc (fun r14 u t H locs ht hvm hw15 hB _ _ hS => ?_)
  obtain ⟨hT, hF1⟩ := hB
  rw [ht] at hT hF1
  have m16 := (hF1.fld hr_o0 skc_6 (k := 4) (by decide) (by decide)).trans m9
  have m17 := (hF1.fld hr_o0 skc_6 (k := 0) (by decide) (by decide)).trans m10
  have m18 := (hF1.fld hr_o0 skc_6 (k := 1) (by decide) (by decide)).trans m11
  have hF := hF.more hF1 (by decide)
  try dsimp only at hw15
  have hFc := gA_free hG hA hS
  refine va_callv (va_runV (As := [.int r14]) (rest := []) ⟨hx, hb, hml, hown, hts⟩ (c_rainOnLand l dC dI kA adK adV G H nC nS b12 r14 hT hg13 (by omega) (by omega)) (cwV 1 hts (goodIn_app (goodIn_r _ [34, 35, 36, 37] rfl (by decide +kernel)) (goodIn_ca (goodIn_r _ [30, 31, 32, 33] rfl (by decide +kernel)) (bs2_in _ _))) rfl rfl rfl (by decide +kernel) ⟨(Nat.le_of_ble_eq_true rfl), (Nat.le_of_ble_eq_true rfl)⟩) ⟨fun a U g mk q => by obtain ⟨q0, q1, qK, qE⟩ := q; exact ⟨q0, q1, va_K.moved (u := U) (U := U.calling g mk a) (Vm.Alike.refl U.vm) qK, EVC.blind g mk a qE⟩, gH_rc hK hT hg13 shc_5 rfl, fun U hU hW => ⟨rfl, hU, va_K.moved hW.alike hK, hE.call hS hFc hU hW⟩⟩ rfl rfl hl.1 rfl (lv_room (Nat.le_of_ble_eq_true rfl)) dX3_passHour_37 ⟨(Nat.le_of_ble_eq_true rfl), (Nat.le_of_ble_eq_true rfl)⟩) hS (fun q _ h => hFc q h) hFc (fun u t H locs ht hvm hw20 hB _ _ hS => ?_)
  obtain ⟨hT, hF1⟩ := hB
  rw [ht] at hT hF1
  have m21 := (hF1.fld hr_o0 skc_6 (k := 4) (by decide) (by decide)).trans m16
  have m22 := (hF1.fld hr_o0 skc_6 (k := 0) (by decide) (by decide)).trans m17
  have m23 := (hF1.fld hr_o0 skc_6 (k := 1) (by decide) (by decide)).trans m18
  have hF := hF.more hF1 (by decide)
  try dsimp only at hw20
  refine lv_iconst (v := 0) hx hb dX3_passHour_40 (by decide) ?_
  refine lv_istore_n (lv' := [(2, .int 0), (1, .int r7), (0, .ref o0)]) hx hb dX3_passHour_41 rfl hl (by decide) rfl (fun ls hl => ?_)
  have key243 : ∀ (n243 i24 : Nat), i24 + n243 = 30 → 0 ≤ i24 → ∀ (H : Heap) (locs : List Loc), gH (dC, dI) kA (SHc nC nS) G H → gF (dC, dI) SKc G ([(5, 11), (5, 12), (5, 13), (6, 4), (13, 2), (13, 6), (13, 8), (13, 10), (13, 11), (26, 0), (29, 0), (30, 0), (31, 0), (32, 0), (33, 0), (34, 0), (35, 0)] : List (Nat × Nat)) s.heap H → va_S A s.heap H locs → el H o0 (dI 6 4) = some (.int x1) → el H o0 (dI 6 0) = some (.ref b5) → el H o0 (dI 6 1) = some (.ref b12) → ∀ ls : Array Slot, lv_has ls 3 [(2, .int (nI i24)), (1, .int r7), (0, .ref o0)] → W p l e (headSpec w_c_passHourE ({ frames := 6, cells := 0, slots := 0, locals := 136 })).room s m #[.ref o0] below meth c H locs 0 0 (MQ below (va_Qv (fun (u : Int32) => (1 ≤ u.toInt ∧ u.toInt ≤ 40000) ∧ (u.toInt = ho.toInt + 1)) (fun (h1 : Int32) (t : State) => gH (dC, dI) kA (SHc nC nS) G t.heap ∧ gF (dC, dI) SKc G ([(5, 11), (5, 12), (5, 13), (6, 4), (13, 2), (13, 6), (13, 8), (13, 10), (13, 11), (26, 0), (29, 0), (30, 0), (31, 0), (32, 0), (33, 0), (34, 0), (35, 0)] : List (Nat × Nat)) s.heap t.heap ∧ el t.heap o0 (dI 6 4) = some (.int h1)) A) #[.ref o0] s 0 0 A) (F0 m 42 ls []) := by
    intro n243
    induction n243 with
    | zero =>
      intro i24 hn243 hlo244  H locs hT hF hS m25 m26 m27 ls hl
      obtain rfl : 30 = i24 := by omega
      refine lv_iload_n hx hb dX3_passHour_42 rfl (lv_at hl 0 rfl) ?_
      refine lv_aload_n hx hb dX3_passHour_43 rfl (lv_at hl 2 rfl) ?_
      refine tw_get hx hb hts bF2_X3 hown hK hT hr_o0 shc_6 rfl 3 (by decide) (ht_at2 hts 37 rfl) (fun _ h9 => h9) dX3_passHour_44 (fun v9 m245 h9 => ?_)
      obtain ⟨x246, rfl, gx246, kx246⟩ := h9 _ rfl
      refine lv_icmp_ge (tgt := 79) hx hb dX3_passHour_47 (by decide) (fun c247 => ?_) (fun c247 => (by exfalso; have q9 : ((30 : Nat) : Int) < x246.toInt := ti_nle c247 rfl (nI_toInt (by omega)); omega))
      have t248 : x246.toInt ≤ ((30 : Nat) : Int) := ti_le c247 rfl (nI_toInt (by omega))
      refine lv_iconst (v := 0) hx hb dX3_passHour_79 (by decide) ?_
      refine lv_istore_n (lv' := [(2, .int 0), (1, .int r7), (0, .ref o0)]) hx hb dX3_passHour_80 rfl hl (by decide) rfl (fun ls hl => ?_)
      have jn369 : ∀ (z363 : Int32), ((0 ≤ z363.toInt ∧ z363.toInt ≤ 30)) → ∀ (H : Heap) (locs : List Loc), gH (dC, dI) kA (SHc nC nS) G H → gF (dC, dI) SKc G ([(5, 11), (5, 12), (5, 13), (6, 4), (13, 2), (13, 6), (13, 8), (13, 10), (13, 11), (26, 0), (29, 0), (30, 0), (31, 0), (32, 0), (33, 0), (34, 0), (35, 0)] : List (Nat × Nat)) s.heap H → va_S A s.heap H locs → el H o0 (dI 6 4) = some (.int x1) → el H o0 (dI 6 0) = some (.ref b5) → el H o0 (dI 6 1) = some (.ref b12) → el H o0 (dI 6 3) = some (.int x246) → ∀ ls : Array Slot, lv_has ls 3 [(2, .int z363), (1, .int r7), (0, .ref o0)] → W p l e (headSpec w_c_passHourE ({ frames := 6, cells := 0, slots := 0, locals := 136 })).room s m #[.ref o0] below meth c H locs 0 0 (MQ below (va_Qv (fun (u : Int32) => (1 ≤ u.toInt ∧ u.toInt ≤ 40000) ∧ (u.toInt = ho.toInt + 1)) (fun (h1 : Int32) (t : State) => gH (dC, dI) kA (SHc nC nS) G t.heap ∧ gF (dC, dI) SKc G ([(5, 11), (5, 12), (5, 13), (6, 4), (13, 2), (13, 6), (13, 8), (13, 10), (13, 11), (26, 0), (29, 0), (30, 0), (31, 0), (32, 0), (33, 0), (34, 0), (35, 0)] : List (Nat × Nat)) s.heap t.heap ∧ el t.heap o0 (dI 6 4) = some (.int h1)) A) #[.ref o0] s 0 0 A) (F0 m 119 ls []) := by
        intro z363 h364 H locs hT hF hS m365 m366 m367 m368 ls hl
        refine lv_aload_n hx hb dX3_passHour_119 rfl (lv_at hl 2 rfl) ?_
        refine tw_getM (v := .ref b12) hx hb hts bF2_X3 hown hK hT hr_o0 shc_6 rfl 1 (by decide) (ht_at2 hts 16 rfl) (fun _ h9 => h9) m367 dX3_passHour_120 ?_
        have hFc := gA_free hG hA hS
        refine va_callv (va_runV (As := []) (rest := []) ⟨hx, hb, hml, hown, hts⟩ (c_runDitches l dC dI kA adK adV G H nC nS b12 hT hg13 (by omega) (by omega)) (cwV 0 hts (goodIn_app (goodIn_r _ [90, 91, 92, 37] rfl (by decide +kernel)) (goodIn_ca (goodIn_r _ [71, 72, 32, 73, 51, 74, 75, 76, 77, 78, 41, 42, 79, 44, 45, 37, 80, 81, 82, 83, 84, 85, 86, 47, 48, 49, 52, 53, 54, 55, 87, 88, 89] rfl (by decide +kernel)) (bs2_in _ _))) rfl rfl rfl (by decide +kernel) ⟨(Nat.le_of_ble_eq_true rfl), (Nat.le_of_ble_eq_true rfl)⟩) ⟨fun a U g mk q => by obtain ⟨q0, q1, qK, qE⟩ := q; exact ⟨q0, q1, va_K.moved (u := U) (U := U.calling g mk a) (Vm.Alike.refl U.vm) qK, EVC.blind g mk a qE⟩, gH_rc hK hT hg13 shc_5 rfl, fun U hU hW => ⟨rfl, hU, va_K.moved hW.alike hK, hE.call hS hFc hU hW⟩⟩ rfl rfl hl.1 rfl (lv_room (Nat.le_of_ble_eq_true rfl)) dX3_passHour_123 ⟨(Nat.le_of_ble_eq_true rfl), (Nat.le_of_ble_eq_true rfl)⟩) hS (fun q _ h => hFc q h) hFc (fun u t H locs ht hvm hw371 hB _ _ hS => ?_)
        obtain ⟨hT, hF1⟩ := hB
        rw [ht] at hT hF1
        have m372 := (hF1.fld hr_o0 skc_6 (k := 4) (by decide) (by decide)).trans m365
        have m373 := (hF1.fld hr_o0 skc_6 (k := 0) (by decide) (by decide)).trans m366
        have m374 := (hF1.fld hr_o0 skc_6 (k := 1) (by decide) (by decide)).trans m367
        have hF := hF.more hF1 (by decide)
        try dsimp only at hw371
        refine lv_aload_n hx hb dX3_passHour_126 rfl (lv_at hl 2 rfl) ?_
        refine lv_aload_n hx hb dX3_passHour_127 rfl (lv_at hl 2 rfl) ?_
        refine tw_getM (v := .ref b5) hx hb hts bF2_X3 hown hK hT hr_o0 shc_6 rfl 0 (by decide) (ht_at2 hts 1 rfl) (fun _ h9 => h9) m373 dX3_passHour_128 ?_
        refine lv_aload_n hx hb dX3_passHour_131 rfl (lv_at hl 2 rfl) ?_
        refine tw_getM (v := .int x1) hx hb hts bF2_X3 hown hK hT hr_o0 shc_6 rfl 4 (by decide) (ht_at2 hts 0 rfl) (fun _ h9 => h9) m372 dX3_passHour_132 ?_
        have hFc := gA_free hG hA hS
        refine va_calli (va_runV (As := [.int x1]) (rest := [.ref o0]) ⟨hx, hb, hml, hown, hts⟩ (c_windAt l dC dI kA adK adV G H nC nS b5 x1 hT hg6 (by omega) (by omega)) (cwV 1 hts (goodIn_app (goodIn_r _ [108, 109, 110, 16] rfl (by decide +kernel)) (goodIn_ca (goodIn_r _ [93, 94, 20, 21, 22, 23, 24, 25, 26, 95, 96, 97, 98, 99, 100, 101, 102, 103, 104, 105, 106, 48, 107] rfl (by decide +kernel)) (bs2_in _ _))) rfl rfl rfl (by decide +kernel) ⟨(Nat.le_of_ble_eq_true rfl), (Nat.le_of_ble_eq_true rfl)⟩) ⟨fun a U g mk q => by obtain ⟨q0, q1, qK, qE⟩ := q; exact ⟨q0, q1, va_K.moved (u := U) (U := U.calling g mk a) (Vm.Alike.refl U.vm) qK, EVC.blind g mk a qE⟩, gH_rc hK hT hg6 shc_11 rfl, fun U hU hW => ⟨rfl, hU, va_K.moved hW.alike hK, hE.call hS hFc hU hW⟩⟩ rfl rfl hl.1 rfl (lv_room (Nat.le_of_ble_eq_true rfl)) dX3_passHour_135 ⟨(Nat.le_of_ble_eq_true rfl), (Nat.le_of_ble_eq_true rfl)⟩) hS (fun q _ h => hFc q h) hFc (fun r376 u t H locs ht hvm hw377 hB _ _ hS => ?_)
        obtain ⟨hT, hF1⟩ := hB
        rw [ht] at hT hF1
        have m378 := (hF1.fld hr_o0 skc_6 (k := 4) (by decide) (by decide)).trans m372
        have m380 := (hF1.fld hr_o0 skc_6 (k := 1) (by decide) (by decide)).trans m374
        have hF := hF.more hF1 (by decide)
        try dsimp only at hw377
        have hFc := gA_free hG hA hS
        refine va_callv (va_runV (As := [.int r376]) (rest := []) ⟨hx, hb, hml, hown, hts⟩ (c_runMills l dC dI kA adK adV G H nC nS o0 r376 hT hr_o0 (by omega) (by omega)) (cwV 1 hts (goodIn_app (goodIn_r _ [125, 126, 127, 70] rfl (by decide +kernel)) (goodIn_ca (goodIn_r _ [111, 38, 39, 112, 113, 17, 46, 47, 48, 49, 114, 31, 52, 32, 51, 53, 54, 55, 37, 50, 56, 115, 58, 59, 116, 117, 118, 60, 61, 62, 63, 64, 65, 66, 119, 120, 121, 70, 122, 123, 124] rfl (by decide +kernel)) (bs2_in _ _))) rfl rfl rfl (by decide +kernel) ⟨(Nat.le_of_ble_eq_true rfl), (Nat.le_of_ble_eq_true rfl)⟩) ⟨fun a U g mk q => by obtain ⟨q0, q1, qK, qE⟩ := q; exact ⟨q0, q1, va_K.moved (u := U) (U := U.calling g mk a) (Vm.Alike.refl U.vm) qK, EVC.blind g mk a qE⟩, gH_rc hK hT hr_o0 shc_6 rfl, fun U hU hW => ⟨rfl, hU, va_K.moved hW.alike hK, hE.call hS hFc hU hW⟩⟩ rfl rfl hl.1 rfl (lv_room (Nat.le_of_ble_eq_true rfl)) dX3_passHour_138 ⟨(Nat.le_of_ble_eq_true rfl), (Nat.le_of_ble_eq_true rfl)⟩) hS (fun q _ h => hFc q h) hFc (fun u t H locs ht hvm hw383 hB _ _ hS => ?_)
        obtain ⟨hT, hF1⟩ := hB
        rw [ht] at hT hF1
        have m384 := (hF1.fld hr_o0 skc_6 (k := 4) (by decide) (by decide)).trans m378
        have m386 := (hF1.fld hr_o0 skc_6 (k := 1) (by decide) (by decide)).trans m380
        have hF := hF.more hF1 (by decide)
        try dsimp only at hw383
        refine lv_aload_n hx hb dX3_passHour_141 rfl (lv_at hl 2 rfl) ?_
        refine tw_getM (v := .int x1) hx hb hts bF2_X3 hown hK hT hr_o0 shc_6 rfl 4 (by decide) (ht_at2 hts 0 rfl) (fun _ h9 => h9) m384 dX3_passHour_142 ?_
        refine lv_bipush (v := 24) hx hb dX3_passHour_145 (by decide) ?_
        refine lv_irem hx hb dX3_passHour_147 (by decide) ?_
        refine lv_topi (fun x388 ex388 => ?_)
        have t389 : x388.toInt = x1.toInt % 24 := ti_rem ex388 rfl (by decide) (by omega) (by omega)
        refine lv_if_ne (tgt := 158) hx hb dX3_passHour_148 (by decide) (fun c390 => ?_) (fun c390 => ?_)
        · have t391 : x388.toInt ≠ 0 := ti_ne c390 rfl (by decide)
          exact W.vret hx hb hr (fun t ht hW => ⟨⟨x1, rfl, (by exact ⟨(by have q8 := ti_all x1; omega), (by omega)⟩), by (try dsimp only); rw [ht]; exact ⟨hT, hF, m384⟩⟩, hS.F ht⟩) hS.2.2 dX3_passHour_158
        · have t392 : x388.toInt = 0 := ti_eq c390 rfl (by decide)
          refine lv_aload_n hx hb dX3_passHour_151 rfl (lv_at hl 2 rfl) ?_
          refine tw_getM (v := .ref b12) hx hb hts bF2_X3 hown hK hT hr_o0 shc_6 rfl 1 (by decide) (ht_at2 hts 16 rfl) (fun _ h9 => h9) m386 dX3_passHour_152 ?_
          have hFc := gA_free hG hA hS
          refine va_callv (va_runV (As := []) (rest := []) ⟨hx, hb, hml, hown, hts⟩ (c_endDay l dC dI kA adK adV G H nC nS b12 hT hg13 (by omega) (by omega)) (cwV 0 hts (goodIn_app (goodIn_r _ [136, 137, 138, 37] rfl (by decide +kernel)) (goodIn_ca (goodIn_r _ [128, 31, 32, 129, 42, 130, 131, 132, 133, 134, 37, 51, 135] rfl (by decide +kernel)) (bs2_in _ _))) rfl rfl rfl (by decide +kernel) ⟨(Nat.le_of_ble_eq_true rfl), (Nat.le_of_ble_eq_true rfl)⟩) ⟨fun a U g mk q => by obtain ⟨q0, q1, qK, qE⟩ := q; exact ⟨q0, q1, va_K.moved (u := U) (U := U.calling g mk a) (Vm.Alike.refl U.vm) qK, EVC.blind g mk a qE⟩, gH_rc hK hT hg13 shc_5 rfl, fun U hU hW => ⟨rfl, hU, va_K.moved hW.alike hK, hE.call hS hFc hU hW⟩⟩ rfl rfl hl.1 rfl (lv_room (Nat.le_of_ble_eq_true rfl)) dX3_passHour_155 ⟨(Nat.le_of_ble_eq_true rfl), (Nat.le_of_ble_eq_true rfl)⟩) hS (fun q _ h => hFc q h) hFc (fun u t H locs ht hvm hw394 hB _ _ hS => ?_)
          obtain ⟨hT, hF1⟩ := hB
          rw [ht] at hT hF1
          have m395 := (hF1.fld hr_o0 skc_6 (k := 4) (by decide) (by decide)).trans m384
          have hF := hF.more hF1 (by decide)
          try dsimp only at hw394
          exact W.vret hx hb hr (fun t ht hW => ⟨⟨x1, rfl, (by exact ⟨(by have q8 := ti_all x1; omega), (by omega)⟩), by (try dsimp only); rw [ht]; exact ⟨hT, hF, m395⟩⟩, hS.F ht⟩) hS.2.2 dX3_passHour_158
      have key399 : ∀ (n399 i249 : Nat), i249 + n399 = 30 → 0 ≤ i249 → ∀ (H : Heap) (locs : List Loc), gH (dC, dI) kA (SHc nC nS) G H → gF (dC, dI) SKc G ([(5, 11), (5, 12), (5, 13), (6, 4), (13, 2), (13, 6), (13, 8), (13, 10), (13, 11), (26, 0), (29, 0), (30, 0), (31, 0), (32, 0), (33, 0), (34, 0), (35, 0)] : List (Nat × Nat)) s.heap H → va_S A s.heap H locs → el H o0 (dI 6 4) = some (.int x1) → el H o0 (dI 6 0) = some (.ref b5) → el H o0 (dI 6 1) = some (.ref b12) → el H o0 (dI 6 3) = some (.int x246) → ∀ ls : Array Slot, lv_has ls 3 [(2, .int (nI i249)), (1, .int r7), (0, .ref o0)] → W p l e (headSpec w_c_passHourE ({ frames := 6, cells := 0, slots := 0, locals := 136 })).room s m #[.ref o0] below meth c H locs 0 0 (MQ below (va_Qv (fun (u : Int32) => (1 ≤ u.toInt ∧ u.toInt ≤ 40000) ∧ (u.toInt = ho.toInt + 1)) (fun (h1 : Int32) (t : State) => gH (dC, dI) kA (SHc nC nS) G t.heap ∧ gF (dC, dI) SKc G ([(5, 11), (5, 12), (5, 13), (6, 4), (13, 2), (13, 6), (13, 8), (13, 10), (13, 11), (26, 0), (29, 0), (30, 0), (31, 0), (32, 0), (33, 0), (34, 0), (35, 0)] : List (Nat × Nat)) s.heap t.heap ∧ el t.heap o0 (dI 6 4) = some (.int h1)) A) #[.ref o0] s 0 0 A) (F0 m 81 ls []) := by
        intro n399
        induction n399 with
        | zero =>
          intro i249 hn399 hlo400  H locs hT hF hS m250 m251 m252 m253 ls hl
          obtain rfl : 30 = i249 := by omega
          refine lv_iload_n hx hb dX3_passHour_81 rfl (lv_at hl 0 rfl) ?_
          refine lv_aload_n hx hb dX3_passHour_82 rfl (lv_at hl 2 rfl) ?_
          refine tw_getM (v := .int x246) hx hb hts bF2_X3 hown hK hT hr_o0 shc_6 rfl 3 (by decide) (ht_at2 hts 37 rfl) (fun _ h9 => h9) m253 dX3_passHour_83 ?_
          refine lv_icmp_ge (tgt := 119) hx hb dX3_passHour_86 (by decide) (fun c401 => ?_) (fun c401 => (by exfalso; have q9 : ((30 : Nat) : Int) < x246.toInt := ti_nle c401 rfl (nI_toInt (by omega)); omega))
          have t402 : x246.toInt ≤ ((30 : Nat) : Int) := ti_le c401 rfl (nI_toInt (by omega))
          exact jn369 (nI 30) (rg_t (a := ((30 : Nat) : Int)) (nI_toInt (by omega)) (by omega) (by omega)) _ _ hT hF hS m250 m251 m252 m253 ls (lv_sub hl [0, 1, 2] rfl)
        | succ n399 ih399 =>
          intro i249 hn399 hlo400  H locs hT hF hS m250 m251 m252 m253 ls hl
          have hlt402 : i249 < 30 := by omega
          refine lv_iload_n hx hb dX3_passHour_81 rfl (lv_at hl 0 rfl) ?_
          refine lv_aload_n hx hb dX3_passHour_82 rfl (lv_at hl 2 rfl) ?_
          refine tw_getM (v := .int x246) hx hb hts bF2_X3 hown hK hT hr_o0 shc_6 rfl 3 (by decide) (ht_at2 hts 37 rfl) (fun _ h9 => h9) m253 dX3_passHour_83 ?_
          refine lv_icmp_ge (tgt := 119) hx hb dX3_passHour_86 (by decide) (fun c403 => ?_) (fun c403 => ?_)
          · have t404 : x246.toInt ≤ ((i249 : Nat) : Int) := ti_le c403 rfl (nI_toInt (by omega))
            exact jn369 (nI i249) (rg_t (a := ((i249 : Nat) : Int)) (nI_toInt (by omega)) (by omega) (by omega)) _ _ hT hF hS m250 m251 m252 m253 ls (lv_sub hl [0, 1, 2] rfl)
          · have t405 : ((i249 : Nat) : Int) < x246.toInt := ti_nle c403 rfl (nI_toInt (by omega))
            refine lv_aload_n hx hb dX3_passHour_89 rfl (lv_at hl 2 rfl) ?_
            refine tw_get hx hb hts bF2_X3 hown hK hT hr_o0 shc_6 rfl 2 (by decide) (ht_at2 hts 38 rfl) (fun _ h9 => h9) dX3_passHour_90 (fun v9 m406 h9 => ?_)
            obtain ⟨b407, rfl, hg408⟩ := h9 _ rfl
            refine lv_iload_n hx hb dX3_passHour_93 rfl (lv_at hl 0 rfl) ?_
            refine tw_aald (i := (nI i249)) hx hb hK hT hg408 shc_18 rfl (vp_in_nI (by omega) (by decide)) dX3_passHour_94 (fun v9 m409 h9 => ?_)
            obtain ⟨b410, rfl, hg411⟩ := h9
            refine tw_getN hx hb hts bF2_X10 hown hK hT hg411 shc_13 rfl 2 (by decide) (hE.nw 79 rfl) (fun _ h9 => h9) dX3_passHour_95 (fun v9 m412 h9 => ?_)
            obtain ⟨x413, rfl, gx413, kx413⟩ := h9 _ rfl
            refine lv_iconst (v := 4) hx hb dX3_passHour_98 (by decide) ?_
            have t414 : -2147483648 ≤ x413.toInt ∧ x413.toInt ≤ 2147483647 := ti_all x413
            refine lv_icmp_ne (tgt := 113) hx hb dX3_passHour_99 (by decide) (fun c415 => ?_) (fun c415 => ?_)
            · have t416 : x413.toInt ≠ 4 := ti_ne c415 rfl (by decide)
              refine lv_iinc (v := nI (i249 + 1)) (lv' := [(2, .int (nI (i249 + 1))), (1, .int r7), (0, .ref o0)]) hx hb dX3_passHour_113 hl (k := 0) rfl (nI_add i249 1) (by decide) rfl (fun ls hl => ?_)
              refine lv_goto (tgt := 81) hx hb dX3_passHour_116 (by decide) ?_
              exact ih399 (i249 + 1) (by omega) (by omega) _ _ hT hF hS m250 m251 m252 m253 ls (lv_sub hl [0, 1, 2] rfl)
            · have t417 : x413.toInt = 4 := ti_eq c415 rfl (by decide)
              refine lv_aload_n hx hb dX3_passHour_102 rfl (lv_at hl 2 rfl) ?_
              refine lv_aload_n hx hb dX3_passHour_103 rfl (lv_at hl 2 rfl) ?_
              refine tw_getM (v := .ref b407) hx hb hts bF2_X3 hown hK hT hr_o0 shc_6 rfl 2 (by decide) (ht_at2 hts 38 rfl) (fun _ h9 => h9) m406 dX3_passHour_104 ?_
              refine lv_iload_n hx hb dX3_passHour_107 rfl (lv_at hl 0 rfl) ?_
              refine tw_aald (i := (nI i249)) hx hb hK hT hg408 shc_18 rfl (vp_in_nI (by omega) (by decide)) dX3_passHour_108 (fun v9 m418 h9 => ?_)
              obtain ⟨b419, rfl, hg420⟩ := h9
              obtain rfl : b410 = b419 := (el_sameR m418 m409 (show (nI i249).toInt = (nI i249).toInt from by have q9 := (show (nI i249).toInt = ((i249 : Nat) : Int) from (nI_toInt (by omega))); have q8 := (show (nI i249).toInt = ((i249 : Nat) : Int) from (nI_toInt (by omega))); omega)).symm
              refine lv_iload_n hx hb dX3_passHour_109 rfl (lv_at hl 1 rfl) ?_
              have hFc := gA_free hG hA hS
              refine va_callv (va_runV (As := [.ref b410, .int r7]) (rest := []) ⟨hx, hb, hml, hown, hts⟩ (c_runSluice l dC dI kA adK adV G H nC nS o0 b410 r7 hT hg411 hr_o0 (by omega) (by omega)) (cwV 2 hts (goodIn_app (goodIn_r _ [67, 68, 69, 70] rfl (by decide +kernel)) (goodIn_ca (goodIn_r _ [40, 17, 41, 42, 32, 43, 44, 45, 37, 46, 47, 48, 49, 50, 51, 52, 53, 54, 55, 56, 57, 58, 59, 60, 61, 62, 63, 64, 65, 66] rfl (by decide +kernel)) (bs2_in _ _))) rfl rfl rfl (by decide +kernel) ⟨(Nat.le_of_ble_eq_true rfl), (Nat.le_of_ble_eq_true rfl)⟩) ⟨fun a U g mk q => by obtain ⟨q0, q1, qK, qE⟩ := q; exact ⟨q0, q1, va_K.moved (u := U) (U := U.calling g mk a) (Vm.Alike.refl U.vm) qK, EVC.blind g mk a qE⟩, gH_rc hK hT hr_o0 shc_6 rfl, fun U hU hW => ⟨rfl, hU, va_K.moved hW.alike hK, hE.call hS hFc hU hW⟩⟩ rfl rfl hl.1 rfl (lv_room (Nat.le_of_ble_eq_true rfl)) dX3_passHour_110 ⟨(Nat.le_of_ble_eq_true rfl), (Nat.le_of_ble_eq_true rfl)⟩) hS (fun q _ h => hFc q h) hFc (fun u t H locs ht hvm hw422 hB _ _ hS => ?_)
              obtain ⟨hT, hF1⟩ := hB
              rw [ht] at hT hF1
              have m423 := (hF1.fld hr_o0 skc_6 (k := 4) (by decide) (by decide)).trans m250
              have m424 := (hF1.fld hr_o0 skc_6 (k := 0) (by decide) (by decide)).trans m251
              have m425 := (hF1.fld hr_o0 skc_6 (k := 1) (by decide) (by decide)).trans m252
              have m426 := (hF1.fld hr_o0 skc_6 (k := 3) (by decide) (by decide)).trans m253
              have hF := hF.more hF1 (by decide)
              try dsimp only at hw422
              refine lv_iinc (v := nI (i249 + 1)) (lv' := [(2, .int (nI (i249 + 1))), (1, .int r7), (0, .ref o0)]) hx hb dX3_passHour_113 hl (k := 0) rfl (nI_add i249 1) (by decide) rfl (fun ls hl => ?_)
              refine lv_goto (tgt := 81) hx hb dX3_passHour_116 (by decide) ?_
              exact ih399 (i249 + 1) (by omega) (by omega) _ _ hT hF hS m423 m424 m425 m426 ls (lv_sub hl [0, 1, 2] rfl)
      exact key399 (30 - 0) 0 (by omega) (Nat.le_refl _) _ _ hT hF hS m25 m26 m27 m245 ls (lv_sub hl [0, 1, 2] rfl)
    | succ n243 ih243 =>
      intro i24 hn243 hlo244  H locs hT hF hS m25 m26 m27 ls hl
      have hlt429 : i24 < 30 := by omega
      refine lv_iload_n hx hb dX3_passHour_42 rfl (lv_at hl 0 rfl) ?_
      refine lv_aload_n hx hb dX3_passHour_43 rfl (lv_at hl 2 rfl) ?_
      refine tw_get hx hb hts bF2_X3 hown hK hT hr_o0 shc_6 rfl 3 (by decide) (ht_at2 hts 37 rfl) (fun _ h9 => h9) dX3_passHour_44 (fun v9 m430 h9 => ?_)
      obtain ⟨x431, rfl, gx431, kx431⟩ := h9 _ rfl
      refine lv_icmp_ge (tgt := 79) hx hb dX3_passHour_47 (by decide) (fun c432 => ?_) (fun c432 => ?_)
      · have t433 : x431.toInt ≤ ((i24 : Nat) : Int) := ti_le c432 rfl (nI_toInt (by omega))
        refine lv_iconst (v := 0) hx hb dX3_passHour_79 (by decide) ?_
        refine lv_istore_n (lv' := [(2, .int 0), (1, .int r7), (0, .ref o0)]) hx hb dX3_passHour_80 rfl hl (by decide) rfl (fun ls hl => ?_)
        have jn554 : ∀ (z548 : Int32), ((0 ≤ z548.toInt ∧ z548.toInt ≤ 30)) → ∀ (H : Heap) (locs : List Loc), gH (dC, dI) kA (SHc nC nS) G H → gF (dC, dI) SKc G ([(5, 11), (5, 12), (5, 13), (6, 4), (13, 2), (13, 6), (13, 8), (13, 10), (13, 11), (26, 0), (29, 0), (30, 0), (31, 0), (32, 0), (33, 0), (34, 0), (35, 0)] : List (Nat × Nat)) s.heap H → va_S A s.heap H locs → el H o0 (dI 6 4) = some (.int x1) → el H o0 (dI 6 0) = some (.ref b5) → el H o0 (dI 6 1) = some (.ref b12) → el H o0 (dI 6 3) = some (.int x431) → ∀ ls : Array Slot, lv_has ls 3 [(2, .int z548), (1, .int r7), (0, .ref o0)] → W p l e (headSpec w_c_passHourE ({ frames := 6, cells := 0, slots := 0, locals := 136 })).room s m #[.ref o0] below meth c H locs 0 0 (MQ below (va_Qv (fun (u : Int32) => (1 ≤ u.toInt ∧ u.toInt ≤ 40000) ∧ (u.toInt = ho.toInt + 1)) (fun (h1 : Int32) (t : State) => gH (dC, dI) kA (SHc nC nS) G t.heap ∧ gF (dC, dI) SKc G ([(5, 11), (5, 12), (5, 13), (6, 4), (13, 2), (13, 6), (13, 8), (13, 10), (13, 11), (26, 0), (29, 0), (30, 0), (31, 0), (32, 0), (33, 0), (34, 0), (35, 0)] : List (Nat × Nat)) s.heap t.heap ∧ el t.heap o0 (dI 6 4) = some (.int h1)) A) #[.ref o0] s 0 0 A) (F0 m 119 ls []) := by
          intro z548 h549 H locs hT hF hS m550 m551 m552 m553 ls hl
          refine lv_aload_n hx hb dX3_passHour_119 rfl (lv_at hl 2 rfl) ?_
          refine tw_getM (v := .ref b12) hx hb hts bF2_X3 hown hK hT hr_o0 shc_6 rfl 1 (by decide) (ht_at2 hts 16 rfl) (fun _ h9 => h9) m552 dX3_passHour_120 ?_
          have hFc := gA_free hG hA hS
          refine va_callv (va_runV (As := []) (rest := []) ⟨hx, hb, hml, hown, hts⟩ (c_runDitches l dC dI kA adK adV G H nC nS b12 hT hg13 (by omega) (by omega)) (cwV 0 hts (goodIn_app (goodIn_r _ [90, 91, 92, 37] rfl (by decide +kernel)) (goodIn_ca (goodIn_r _ [71, 72, 32, 73, 51, 74, 75, 76, 77, 78, 41, 42, 79, 44, 45, 37, 80, 81, 82, 83, 84, 85, 86, 47, 48, 49, 52, 53, 54, 55, 87, 88, 89] rfl (by decide +kernel)) (bs2_in _ _))) rfl rfl rfl (by decide +kernel) ⟨(Nat.le_of_ble_eq_true rfl), (Nat.le_of_ble_eq_true rfl)⟩) ⟨fun a U g mk q => by obtain ⟨q0, q1, qK, qE⟩ := q; exact ⟨q0, q1, va_K.moved (u := U) (U := U.calling g mk a) (Vm.Alike.refl U.vm) qK, EVC.blind g mk a qE⟩, gH_rc hK hT hg13 shc_5 rfl, fun U hU hW => ⟨rfl, hU, va_K.moved hW.alike hK, hE.call hS hFc hU hW⟩⟩ rfl rfl hl.1 rfl (lv_room (Nat.le_of_ble_eq_true rfl)) dX3_passHour_123 ⟨(Nat.le_of_ble_eq_true rfl), (Nat.le_of_ble_eq_true rfl)⟩) hS (fun q _ h => hFc q h) hFc (fun u t H locs ht hvm hw556 hB _ _ hS => ?_)
          obtain ⟨hT, hF1⟩ := hB
          rw [ht] at hT hF1
          have m557 := (hF1.fld hr_o0 skc_6 (k := 4) (by decide) (by decide)).trans m550
          have m558 := (hF1.fld hr_o0 skc_6 (k := 0) (by decide) (by decide)).trans m551
          have m559 := (hF1.fld hr_o0 skc_6 (k := 1) (by decide) (by decide)).trans m552
          have hF := hF.more hF1 (by decide)
          try dsimp only at hw556
          refine lv_aload_n hx hb dX3_passHour_126 rfl (lv_at hl 2 rfl) ?_
          refine lv_aload_n hx hb dX3_passHour_127 rfl (lv_at hl 2 rfl) ?_
          refine tw_getM (v := .ref b5) hx hb hts bF2_X3 hown hK hT hr_o0 shc_6 rfl 0 (by decide) (ht_at2 hts 1 rfl) (fun _ h9 => h9) m558 dX3_passHour_128 ?_
          refine lv_aload_n hx hb dX3_passHour_131 rfl (lv_at hl 2 rfl) ?_
          refine tw_getM (v := .int x1) hx hb hts bF2_X3 hown hK hT hr_o0 shc_6 rfl 4 (by decide) (ht_at2 hts 0 rfl) (fun _ h9 => h9) m557 dX3_passHour_132 ?_
          have hFc := gA_free hG hA hS
          refine va_calli (va_runV (As := [.int x1]) (rest := [.ref o0]) ⟨hx, hb, hml, hown, hts⟩ (c_windAt l dC dI kA adK adV G H nC nS b5 x1 hT hg6 (by omega) (by omega)) (cwV 1 hts (goodIn_app (goodIn_r _ [108, 109, 110, 16] rfl (by decide +kernel)) (goodIn_ca (goodIn_r _ [93, 94, 20, 21, 22, 23, 24, 25, 26, 95, 96, 97, 98, 99, 100, 101, 102, 103, 104, 105, 106, 48, 107] rfl (by decide +kernel)) (bs2_in _ _))) rfl rfl rfl (by decide +kernel) ⟨(Nat.le_of_ble_eq_true rfl), (Nat.le_of_ble_eq_true rfl)⟩) ⟨fun a U g mk q => by obtain ⟨q0, q1, qK, qE⟩ := q; exact ⟨q0, q1, va_K.moved (u := U) (U := U.calling g mk a) (Vm.Alike.refl U.vm) qK, EVC.blind g mk a qE⟩, gH_rc hK hT hg6 shc_11 rfl, fun U hU hW => ⟨rfl, hU, va_K.moved hW.alike hK, hE.call hS hFc hU hW⟩⟩ rfl rfl hl.1 rfl (lv_room (Nat.le_of_ble_eq_true rfl)) dX3_passHour_135 ⟨(Nat.le_of_ble_eq_true rfl), (Nat.le_of_ble_eq_true rfl)⟩) hS (fun q _ h => hFc q h) hFc (fun r561 u t H locs ht hvm hw562 hB _ _ hS => ?_)
          obtain ⟨hT, hF1⟩ := hB
          rw [ht] at hT hF1
          have m563 := (hF1.fld hr_o0 skc_6 (k := 4) (by decide) (by decide)).trans m557
          have m565 := (hF1.fld hr_o0 skc_6 (k := 1) (by decide) (by decide)).trans m559
          have hF := hF.more hF1 (by decide)
          try dsimp only at hw562
          have hFc := gA_free hG hA hS
          refine va_callv (va_runV (As := [.int r561]) (rest := []) ⟨hx, hb, hml, hown, hts⟩ (c_runMills l dC dI kA adK adV G H nC nS o0 r561 hT hr_o0 (by omega) (by omega)) (cwV 1 hts (goodIn_app (goodIn_r _ [125, 126, 127, 70] rfl (by decide +kernel)) (goodIn_ca (goodIn_r _ [111, 38, 39, 112, 113, 17, 46, 47, 48, 49, 114, 31, 52, 32, 51, 53, 54, 55, 37, 50, 56, 115, 58, 59, 116, 117, 118, 60, 61, 62, 63, 64, 65, 66, 119, 120, 121, 70, 122, 123, 124] rfl (by decide +kernel)) (bs2_in _ _))) rfl rfl rfl (by decide +kernel) ⟨(Nat.le_of_ble_eq_true rfl), (Nat.le_of_ble_eq_true rfl)⟩) ⟨fun a U g mk q => by obtain ⟨q0, q1, qK, qE⟩ := q; exact ⟨q0, q1, va_K.moved (u := U) (U := U.calling g mk a) (Vm.Alike.refl U.vm) qK, EVC.blind g mk a qE⟩, gH_rc hK hT hr_o0 shc_6 rfl, fun U hU hW => ⟨rfl, hU, va_K.moved hW.alike hK, hE.call hS hFc hU hW⟩⟩ rfl rfl hl.1 rfl (lv_room (Nat.le_of_ble_eq_true rfl)) dX3_passHour_138 ⟨(Nat.le_of_ble_eq_true rfl), (Nat.le_of_ble_eq_true rfl)⟩) hS (fun q _ h => hFc q h) hFc (fun u t H locs ht hvm hw568 hB _ _ hS => ?_)
          obtain ⟨hT, hF1⟩ := hB
          rw [ht] at hT hF1
          have m569 := (hF1.fld hr_o0 skc_6 (k := 4) (by decide) (by decide)).trans m563
          have m571 := (hF1.fld hr_o0 skc_6 (k := 1) (by decide) (by decide)).trans m565
          have hF := hF.more hF1 (by decide)
          try dsimp only at hw568
          refine lv_aload_n hx hb dX3_passHour_141 rfl (lv_at hl 2 rfl) ?_
          refine tw_getM (v := .int x1) hx hb hts bF2_X3 hown hK hT hr_o0 shc_6 rfl 4 (by decide) (ht_at2 hts 0 rfl) (fun _ h9 => h9) m569 dX3_passHour_142 ?_
          refine lv_bipush (v := 24) hx hb dX3_passHour_145 (by decide) ?_
          refine lv_irem hx hb dX3_passHour_147 (by decide) ?_
          refine lv_topi (fun x573 ex573 => ?_)
          have t574 : x573.toInt = x1.toInt % 24 := ti_rem ex573 rfl (by decide) (by omega) (by omega)
          refine lv_if_ne (tgt := 158) hx hb dX3_passHour_148 (by decide) (fun c575 => ?_) (fun c575 => ?_)
          · have t576 : x573.toInt ≠ 0 := ti_ne c575 rfl (by decide)
            exact W.vret hx hb hr (fun t ht hW => ⟨⟨x1, rfl, (by exact ⟨(by have q8 := ti_all x1; omega), (by omega)⟩), by (try dsimp only); rw [ht]; exact ⟨hT, hF, m569⟩⟩, hS.F ht⟩) hS.2.2 dX3_passHour_158
          · have t577 : x573.toInt = 0 := ti_eq c575 rfl (by decide)
            refine lv_aload_n hx hb dX3_passHour_151 rfl (lv_at hl 2 rfl) ?_
            refine tw_getM (v := .ref b12) hx hb hts bF2_X3 hown hK hT hr_o0 shc_6 rfl 1 (by decide) (ht_at2 hts 16 rfl) (fun _ h9 => h9) m571 dX3_passHour_152 ?_
            have hFc := gA_free hG hA hS
            refine va_callv (va_runV (As := []) (rest := []) ⟨hx, hb, hml, hown, hts⟩ (c_endDay l dC dI kA adK adV G H nC nS b12 hT hg13 (by omega) (by omega)) (cwV 0 hts (goodIn_app (goodIn_r _ [136, 137, 138, 37] rfl (by decide +kernel)) (goodIn_ca (goodIn_r _ [128, 31, 32, 129, 42, 130, 131, 132, 133, 134, 37, 51, 135] rfl (by decide +kernel)) (bs2_in _ _))) rfl rfl rfl (by decide +kernel) ⟨(Nat.le_of_ble_eq_true rfl), (Nat.le_of_ble_eq_true rfl)⟩) ⟨fun a U g mk q => by obtain ⟨q0, q1, qK, qE⟩ := q; exact ⟨q0, q1, va_K.moved (u := U) (U := U.calling g mk a) (Vm.Alike.refl U.vm) qK, EVC.blind g mk a qE⟩, gH_rc hK hT hg13 shc_5 rfl, fun U hU hW => ⟨rfl, hU, va_K.moved hW.alike hK, hE.call hS hFc hU hW⟩⟩ rfl rfl hl.1 rfl (lv_room (Nat.le_of_ble_eq_true rfl)) dX3_passHour_155 ⟨(Nat.le_of_ble_eq_true rfl), (Nat.le_of_ble_eq_true rfl)⟩) hS (fun q _ h => hFc q h) hFc (fun u t H locs ht hvm hw579 hB _ _ hS => ?_)
            obtain ⟨hT, hF1⟩ := hB
            rw [ht] at hT hF1
            have m580 := (hF1.fld hr_o0 skc_6 (k := 4) (by decide) (by decide)).trans m569
            have hF := hF.more hF1 (by decide)
            try dsimp only at hw579
            exact W.vret hx hb hr (fun t ht hW => ⟨⟨x1, rfl, (by exact ⟨(by have q8 := ti_all x1; omega), (by omega)⟩), by (try dsimp only); rw [ht]; exact ⟨hT, hF, m580⟩⟩, hS.F ht⟩) hS.2.2 dX3_passHour_158
        have key584 : ∀ (n584 i434 : Nat), i434 + n584 = 30 → 0 ≤ i434 → ∀ (H : Heap) (locs : List Loc), gH (dC, dI) kA (SHc nC nS) G H → gF (dC, dI) SKc G ([(5, 11), (5, 12), (5, 13), (6, 4), (13, 2), (13, 6), (13, 8), (13, 10), (13, 11), (26, 0), (29, 0), (30, 0), (31, 0), (32, 0), (33, 0), (34, 0), (35, 0)] : List (Nat × Nat)) s.heap H → va_S A s.heap H locs → el H o0 (dI 6 4) = some (.int x1) → el H o0 (dI 6 0) = some (.ref b5) → el H o0 (dI 6 1) = some (.ref b12) → el H o0 (dI 6 3) = some (.int x431) → ∀ ls : Array Slot, lv_has ls 3 [(2, .int (nI i434)), (1, .int r7), (0, .ref o0)] → W p l e (headSpec w_c_passHourE ({ frames := 6, cells := 0, slots := 0, locals := 136 })).room s m #[.ref o0] below meth c H locs 0 0 (MQ below (va_Qv (fun (u : Int32) => (1 ≤ u.toInt ∧ u.toInt ≤ 40000) ∧ (u.toInt = ho.toInt + 1)) (fun (h1 : Int32) (t : State) => gH (dC, dI) kA (SHc nC nS) G t.heap ∧ gF (dC, dI) SKc G ([(5, 11), (5, 12), (5, 13), (6, 4), (13, 2), (13, 6), (13, 8), (13, 10), (13, 11), (26, 0), (29, 0), (30, 0), (31, 0), (32, 0), (33, 0), (34, 0), (35, 0)] : List (Nat × Nat)) s.heap t.heap ∧ el t.heap o0 (dI 6 4) = some (.int h1)) A) #[.ref o0] s 0 0 A) (F0 m 81 ls []) := by
          intro n584
          induction n584 with
          | zero =>
            intro i434 hn584 hlo585  H locs hT hF hS m435 m436 m437 m438 ls hl
            obtain rfl : 30 = i434 := by omega
            refine lv_iload_n hx hb dX3_passHour_81 rfl (lv_at hl 0 rfl) ?_
            refine lv_aload_n hx hb dX3_passHour_82 rfl (lv_at hl 2 rfl) ?_
            refine tw_getM (v := .int x431) hx hb hts bF2_X3 hown hK hT hr_o0 shc_6 rfl 3 (by decide) (ht_at2 hts 37 rfl) (fun _ h9 => h9) m438 dX3_passHour_83 ?_
            refine lv_icmp_ge (tgt := 119) hx hb dX3_passHour_86 (by decide) (fun c586 => ?_) (fun c586 => (by exfalso; have q9 : ((30 : Nat) : Int) < x431.toInt := ti_nle c586 rfl (nI_toInt (by omega)); omega))
            have t587 : x431.toInt ≤ ((30 : Nat) : Int) := ti_le c586 rfl (nI_toInt (by omega))
            exact jn554 (nI 30) (rg_t (a := ((30 : Nat) : Int)) (nI_toInt (by omega)) (by omega) (by omega)) _ _ hT hF hS m435 m436 m437 m438 ls (lv_sub hl [0, 1, 2] rfl)
          | succ n584 ih584 =>
            intro i434 hn584 hlo585  H locs hT hF hS m435 m436 m437 m438 ls hl
            have hlt587 : i434 < 30 := by omega
            refine lv_iload_n hx hb dX3_passHour_81 rfl (lv_at hl 0 rfl) ?_
            refine lv_aload_n hx hb dX3_passHour_82 rfl (lv_at hl 2 rfl) ?_
            refine tw_getM (v := .int x431) hx hb hts bF2_X3 hown hK hT hr_o0 shc_6 rfl 3 (by decide) (ht_at2 hts 37 rfl) (fun _ h9 => h9) m438 dX3_passHour_83 ?_
            refine lv_icmp_ge (tgt := 119) hx hb dX3_passHour_86 (by decide) (fun c588 => ?_) (fun c588 => ?_)
            · have t589 : x431.toInt ≤ ((i434 : Nat) : Int) := ti_le c588 rfl (nI_toInt (by omega))
              exact jn554 (nI i434) (rg_t (a := ((i434 : Nat) : Int)) (nI_toInt (by omega)) (by omega) (by omega)) _ _ hT hF hS m435 m436 m437 m438 ls (lv_sub hl [0, 1, 2] rfl)
            · have t590 : ((i434 : Nat) : Int) < x431.toInt := ti_nle c588 rfl (nI_toInt (by omega))
              refine lv_aload_n hx hb dX3_passHour_89 rfl (lv_at hl 2 rfl) ?_
              refine tw_get hx hb hts bF2_X3 hown hK hT hr_o0 shc_6 rfl 2 (by decide) (ht_at2 hts 38 rfl) (fun _ h9 => h9) dX3_passHour_90 (fun v9 m591 h9 => ?_)
              obtain ⟨b592, rfl, hg593⟩ := h9 _ rfl
              refine lv_iload_n hx hb dX3_passHour_93 rfl (lv_at hl 0 rfl) ?_
              refine tw_aald (i := (nI i434)) hx hb hK hT hg593 shc_18 rfl (vp_in_nI (by omega) (by decide)) dX3_passHour_94 (fun v9 m594 h9 => ?_)
              obtain ⟨b595, rfl, hg596⟩ := h9
              refine tw_getN hx hb hts bF2_X10 hown hK hT hg596 shc_13 rfl 2 (by decide) (hE.nw 79 rfl) (fun _ h9 => h9) dX3_passHour_95 (fun v9 m597 h9 => ?_)
              obtain ⟨x598, rfl, gx598, kx598⟩ := h9 _ rfl
              refine lv_iconst (v := 4) hx hb dX3_passHour_98 (by decide) ?_
              have t599 : -2147483648 ≤ x598.toInt ∧ x598.toInt ≤ 2147483647 := ti_all x598
              refine lv_icmp_ne (tgt := 113) hx hb dX3_passHour_99 (by decide) (fun c600 => ?_) (fun c600 => ?_)
              · have t601 : x598.toInt ≠ 4 := ti_ne c600 rfl (by decide)
                refine lv_iinc (v := nI (i434 + 1)) (lv' := [(2, .int (nI (i434 + 1))), (1, .int r7), (0, .ref o0)]) hx hb dX3_passHour_113 hl (k := 0) rfl (nI_add i434 1) (by decide) rfl (fun ls hl => ?_)
                refine lv_goto (tgt := 81) hx hb dX3_passHour_116 (by decide) ?_
                exact ih584 (i434 + 1) (by omega) (by omega) _ _ hT hF hS m435 m436 m437 m438 ls (lv_sub hl [0, 1, 2] rfl)
              · have t602 : x598.toInt = 4 := ti_eq c600 rfl (by decide)
                refine lv_aload_n hx hb dX3_passHour_102 rfl (lv_at hl 2 rfl) ?_
                refine lv_aload_n hx hb dX3_passHour_103 rfl (lv_at hl 2 rfl) ?_
                refine tw_getM (v := .ref b592) hx hb hts bF2_X3 hown hK hT hr_o0 shc_6 rfl 2 (by decide) (ht_at2 hts 38 rfl) (fun _ h9 => h9) m591 dX3_passHour_104 ?_
                refine lv_iload_n hx hb dX3_passHour_107 rfl (lv_at hl 0 rfl) ?_
                refine tw_aald (i := (nI i434)) hx hb hK hT hg593 shc_18 rfl (vp_in_nI (by omega) (by decide)) dX3_passHour_108 (fun v9 m603 h9 => ?_)
                obtain ⟨b604, rfl, hg605⟩ := h9
                obtain rfl : b595 = b604 := (el_sameR m603 m594 (show (nI i434).toInt = (nI i434).toInt from by have q9 := (show (nI i434).toInt = ((i434 : Nat) : Int) from (nI_toInt (by omega))); have q8 := (show (nI i434).toInt = ((i434 : Nat) : Int) from (nI_toInt (by omega))); omega)).symm
                refine lv_iload_n hx hb dX3_passHour_109 rfl (lv_at hl 1 rfl) ?_
                have hFc := gA_free hG hA hS
                refine va_callv (va_runV (As := [.ref b595, .int r7]) (rest := []) ⟨hx, hb, hml, hown, hts⟩ (c_runSluice l dC dI kA adK adV G H nC nS o0 b595 r7 hT hg596 hr_o0 (by omega) (by omega)) (cwV 2 hts (goodIn_app (goodIn_r _ [67, 68, 69, 70] rfl (by decide +kernel)) (goodIn_ca (goodIn_r _ [40, 17, 41, 42, 32, 43, 44, 45, 37, 46, 47, 48, 49, 50, 51, 52, 53, 54, 55, 56, 57, 58, 59, 60, 61, 62, 63, 64, 65, 66] rfl (by decide +kernel)) (bs2_in _ _))) rfl rfl rfl (by decide +kernel) ⟨(Nat.le_of_ble_eq_true rfl), (Nat.le_of_ble_eq_true rfl)⟩) ⟨fun a U g mk q => by obtain ⟨q0, q1, qK, qE⟩ := q; exact ⟨q0, q1, va_K.moved (u := U) (U := U.calling g mk a) (Vm.Alike.refl U.vm) qK, EVC.blind g mk a qE⟩, gH_rc hK hT hr_o0 shc_6 rfl, fun U hU hW => ⟨rfl, hU, va_K.moved hW.alike hK, hE.call hS hFc hU hW⟩⟩ rfl rfl hl.1 rfl (lv_room (Nat.le_of_ble_eq_true rfl)) dX3_passHour_110 ⟨(Nat.le_of_ble_eq_true rfl), (Nat.le_of_ble_eq_true rfl)⟩) hS (fun q _ h => hFc q h) hFc (fun u t H locs ht hvm hw607 hB _ _ hS => ?_)
                obtain ⟨hT, hF1⟩ := hB
                rw [ht] at hT hF1
                have m608 := (hF1.fld hr_o0 skc_6 (k := 4) (by decide) (by decide)).trans m435
                have m609 := (hF1.fld hr_o0 skc_6 (k := 0) (by decide) (by decide)).trans m436
                have m610 := (hF1.fld hr_o0 skc_6 (k := 1) (by decide) (by decide)).trans m437
                have m611 := (hF1.fld hr_o0 skc_6 (k := 3) (by decide) (by decide)).trans m438
                have hF := hF.more hF1 (by decide)
                try dsimp only at hw607
                refine lv_iinc (v := nI (i434 + 1)) (lv' := [(2, .int (nI (i434 + 1))), (1, .int r7), (0, .ref o0)]) hx hb dX3_passHour_113 hl (k := 0) rfl (nI_add i434 1) (by decide) rfl (fun ls hl => ?_)
                refine lv_goto (tgt := 81) hx hb dX3_passHour_116 (by decide) ?_
                exact ih584 (i434 + 1) (by omega) (by omega) _ _ hT hF hS m608 m609 m610 m611 ls (lv_sub hl [0, 1, 2] rfl)
        exact key584 (30 - 0) 0 (by omega) (Nat.le_refl _) _ _ hT hF hS m25 m26 m27 m430 ls (lv_sub hl [0, 1, 2] rfl)
      · have t615 : ((i24 : Nat) : Int) < x431.toInt := ti_nle c432 rfl (nI_toInt (by omega))
        refine lv_aload_n hx hb dX3_passHour_50 rfl (lv_at hl 2 rfl) ?_
        refine tw_get hx hb hts bF2_X3 hown hK hT hr_o0 shc_6 rfl 2 (by decide) (ht_at2 hts 38 rfl) (fun _ h9 => h9) dX3_passHour_51 (fun v9 m616 h9 => ?_)
        obtain ⟨b617, rfl, hg618⟩ := h9 _ rfl
        refine lv_iload_n hx hb dX3_passHour_54 rfl (lv_at hl 0 rfl) ?_
        refine tw_aald (i := (nI i24)) hx hb hK hT hg618 shc_18 rfl (vp_in_nI (by omega) (by decide)) dX3_passHour_55 (fun v9 m619 h9 => ?_)
        obtain ⟨b620, rfl, hg621⟩ := h9
        have hFc := gA_free hG hA hS
        refine va_calli (va_runV (As := []) (rest := []) ⟨hx, hb, hml, hown, hts⟩ (c_isBank l dC dI kA adK adV G H nC nS b620 hT hg621 (by omega) (by omega)) (cwV 0 hts (goodIn_app (goodIn_r _ [141, 142, 143, 66] rfl (by decide +kernel)) (goodIn_ca (goodIn_r _ [139, 140] rfl (by decide +kernel)) (bs2_in _ _))) rfl rfl rfl (by decide +kernel) ⟨(Nat.le_of_ble_eq_true rfl), (Nat.le_of_ble_eq_true rfl)⟩) ⟨fun a U g mk q => by obtain ⟨q0, q1, qK, qE⟩ := q; exact ⟨q0, q1, va_K.moved (u := U) (U := U.calling g mk a) (Vm.Alike.refl U.vm) qK, EVC.blind g mk a qE⟩, gH_rc hK hT hg621 shc_13 rfl, fun U hU hW => ⟨rfl, hU, va_K.moved hW.alike hK, hE.call hS hFc hU hW⟩⟩ rfl rfl hl.1 rfl (lv_room (Nat.le_of_ble_eq_true rfl)) dX3_passHour_56 ⟨(Nat.le_of_ble_eq_true rfl), (Nat.le_of_ble_eq_true rfl)⟩) hS (fun q _ h => hFc q h) hFc (fun r622 u t H locs ht hvm hw623 hB _ _ hS => ?_)
        obtain ⟨hT, hF1⟩ := hB
        rw [ht] at hT hF1
        have m624 := (hF1.fld hr_o0 skc_6 (k := 4) (by decide) (by decide)).trans m25
        have m625 := (hF1.fld hr_o0 skc_6 (k := 0) (by decide) (by decide)).trans m26
        have m626 := (hF1.fld hr_o0 skc_6 (k := 1) (by decide) (by decide)).trans m27
        have m628 := (hF1.fld hr_o0 skc_6 (k := 2) (by decide) (by decide)).trans m616
        have m629 := (el_kept (hF1.arr hg618 skc_18 (by decide))).trans m619
        have hF := hF.more hF1 (by decide)
        try dsimp only at hw623
        have h630 := hw623
        refine lv_if_eq (tgt := 73) hx hb dX3_passHour_59 (by decide) (fun c631 => ?_) (fun c631 => ?_)
        · have t632 : r622.toInt = 0 := ti_eq c631 rfl (by decide)
          refine lv_iinc (v := nI (i24 + 1)) (lv' := [(2, .int (nI (i24 + 1))), (1, .int r7), (0, .ref o0)]) hx hb dX3_passHour_73 hl (k := 0) rfl (nI_add i24 1) (by decide) rfl (fun ls hl => ?_)
          refine lv_goto (tgt := 42) hx hb dX3_passHour_76 (by decide) ?_
          exact ih243 (i24 + 1) (by omega) (by omega) _ _ hT hF hS m624 m625 m626 ls (lv_sub hl [0, 1, 2] rfl)
        · have t633 : r622.toInt ≠ 0 := ti_ne c631 rfl (by decide)
          refine lv_aload_n hx hb dX3_passHour_62 rfl (lv_at hl 2 rfl) ?_
          refine lv_aload_n hx hb dX3_passHour_63 rfl (lv_at hl 2 rfl) ?_
          refine tw_getM (v := .ref b617) hx hb hts bF2_X3 hown hK hT hr_o0 shc_6 rfl 2 (by decide) (ht_at2 hts 38 rfl) (fun _ h9 => h9) m628 dX3_passHour_64 ?_
          refine lv_iload_n hx hb dX3_passHour_67 rfl (lv_at hl 0 rfl) ?_
          refine tw_aald (i := (nI i24)) hx hb hK hT hg618 shc_18 rfl (vp_in_nI (by omega) (by decide)) dX3_passHour_68 (fun v9 m634 h9 => ?_)
          obtain ⟨b635, rfl, hg636⟩ := h9
          obtain rfl : b620 = b635 := (el_sameR m634 m629 (show (nI i24).toInt = (nI i24).toInt from by have q9 := (show (nI i24).toInt = ((i24 : Nat) : Int) from (nI_toInt (by omega))); have q8 := (show (nI i24).toInt = ((i24 : Nat) : Int) from (nI_toInt (by omega))); omega)).symm
          refine lv_iload_n hx hb dX3_passHour_69 rfl (lv_at hl 1 rfl) ?_
          have hFc := gA_free hG hA hS
          refine va_callv (va_runV (As := [.ref b620, .int r7]) (rest := []) ⟨hx, hb, hml, hown, hts⟩ (c_runBank l dC dI kA adK adV G H nC nS o0 b620 r7 hT hg621 hr_o0 (by omega) (by omega)) (cwV 2 hts (goodIn_app (goodIn_r _ [188, 189, 190, 70] rfl (by decide +kernel)) (goodIn_ca (goodIn_r _ [144, 145, 17, 41, 42, 32, 43, 44, 45, 37, 146, 106, 48, 107, 147, 148, 149, 150, 151, 152, 153, 66, 154, 155, 156, 70, 157, 140, 158, 159, 160, 161, 162, 163, 46, 47, 49, 50, 51, 52, 53, 54, 55, 56, 57, 58, 59, 164, 165, 166, 167, 168, 60, 61, 62, 63, 64, 65, 169, 170, 171, 172, 173, 174, 175, 176, 177, 178, 179, 180, 181, 182, 183, 184, 185, 186, 187] rfl (by decide +kernel)) (bs2_in _ _))) rfl rfl rfl (by decide +kernel) ⟨(Nat.le_of_ble_eq_true rfl), (Nat.le_of_ble_eq_true rfl)⟩) ⟨fun a U g mk q => by obtain ⟨q0, q1, qK, qE⟩ := q; exact ⟨q0, q1, va_K.moved (u := U) (U := U.calling g mk a) (Vm.Alike.refl U.vm) qK, EVC.blind g mk a qE⟩, gH_rc hK hT hr_o0 shc_6 rfl, fun U hU hW => ⟨rfl, hU, va_K.moved hW.alike hK, hE.call hS hFc hU hW⟩⟩ rfl rfl hl.1 rfl (lv_room (Nat.le_of_ble_eq_true rfl)) dX3_passHour_70 ⟨(Nat.le_of_ble_eq_true rfl), (Nat.le_of_ble_eq_true rfl)⟩) hS (fun q _ h => hFc q h) hFc (fun u t H locs ht hvm hw638 hB _ _ hS => ?_)
          obtain ⟨hT, hF1⟩ := hB
          rw [ht] at hT hF1
          have m639 := (hF1.fld hr_o0 skc_6 (k := 4) (by decide) (by decide)).trans m624
          have m640 := (hF1.fld hr_o0 skc_6 (k := 0) (by decide) (by decide)).trans m625
          have m641 := (hF1.fld hr_o0 skc_6 (k := 1) (by decide) (by decide)).trans m626
          have hF := hF.more hF1 (by decide)
          try dsimp only at hw638
          refine lv_iinc (v := nI (i24 + 1)) (lv' := [(2, .int (nI (i24 + 1))), (1, .int r7), (0, .ref o0)]) hx hb dX3_passHour_73 hl (k := 0) rfl (nI_add i24 1) (by decide) rfl (fun ls hl => ?_)
          refine lv_goto (tgt := 42) hx hb dX3_passHour_76 (by decide) ?_
          exact ih243 (i24 + 1) (by omega) (by omega) _ _ hT hF hS m639 m640 m641 ls (lv_sub hl [0, 1, 2] rfl)
  exact key243 (30 - 0) 0 (by omega) (Nat.le_refl _) _ _ hT hF hS m21 m22 m23 ls (lv_sub hl [0, 1, 2] rfl)
def w_c_hoursE : List Cond := .code yX11_hours cX11_hours 3 (some .int) :: (HAppend.hAppend (α := List Cond) (β := List Cond) (γ := List Cond) [.code yX11_within cX11_within 3 (some .boolean), .methodLink RX11 58 yX11_within, .static yX11_within, .initialized RX11, .code yX11_needNumbers cX11_needNumbers 1 none, .classLink RX11 547 "java/lang/IllegalArgumentException", .initialized "java/lang/IllegalArgumentException", .methodLink RX11 62 yX11_needNumbers, .static yX11_needNumbers, .fieldLink RX11 16 "SeaLand" "lake" "LSeaLand$Lake;", .constant RX11 110 40000, .code yX3_passHour cX3_passHour 3 none, .fieldLink RX3 32 "SeaLand$Lake" "hour" "I", .fieldLink RX3 12 "SeaLand$Lake" "sky" "LSeaLand$Sky;", .code yX8_outsideAt cX8_outsideAt 4 (some .int), .fieldLink RX8 9 "SeaLand$Sky" "tides" "[I", .code yJ9_floorMod_7cf53 cJ9_floorMod_7cf53 3 (some .int), .methodLink RX8 38 yJ9_floorMod_7cf53, .static yJ9_floorMod_7cf53, .initialized RJ9, .fieldLink RX8 34 "SeaLand$Sky" "storms" "I", .fieldLink RX8 15 "SeaLand$Sky" "stormFrom" "[I", .fieldLink RX8 18 "SeaLand$Sky" "stormTo" "[I", .fieldLink RX8 21 "SeaLand$Sky" "stormMore" "[I", .methodLink RX3 44 yX8_outsideAt, .instanceMethod yX8_outsideAt, .selects RX8 yX8_outsideAt yX8_outsideAt, .initialized RX8, .fieldLink RX3 21 "SeaLand$Lake" "ground" "LSeaLand$Ground;", .code yX8_rainAt cX8_rainAt 3 (some .int), .fieldLink RX8 31 "SeaLand$Sky" "rain" "LSeaLand$Tellings;", .code yX9_standingAt cX9_standingAt 5 (some .int), .fieldLink RX9 18 "SeaLand$Tellings" "told" "I", .fieldLink RX9 9 "SeaLand$Tellings" "hours" "[I", .methodLink RX8 44 yX9_standingAt, .instanceMethod yX9_standingAt, .selects RX9 yX9_standingAt yX9_standingAt, .initialized RX9, .methodLink RX3 103 yX8_rainAt, .instanceMethod yX8_rainAt, .selects RX8 yX8_rainAt yX8_rainAt, .code yX2_rainOnLand cX2_rainOnLand 3 none, .fieldLink RX2 9 "SeaLand$Ground" "isLand" "[Z", .fieldLink RX2 25 "SeaLand$Ground" "water" "[I", .fieldLink RX2 54 "SeaLand$Ground" "rained" "I", .methodLink RX3 106 yX2_rainOnLand, .instanceMethod yX2_rainOnLand, .selects RX2 yX2_rainOnLand yX2_rainOnLand, .initialized RX2, .fieldLink RX3 47 "SeaLand$Lake" "built" "I", .fieldLink RX3 27 "SeaLand$Lake" "works" "[LSeaLand$Work;", .code yX3_runSluice cX3_runSluice 5 none, .code yX2_levelOf cX2_levelOf 2 (some .int), .fieldLink RX2 15 "SeaLand$Ground" "height" "[I", .methodLink RX3 40 yX2_levelOf, .instanceMethod yX2_levelOf, .selects RX2 yX2_levelOf yX2_levelOf, .methodLink RX3 71 Lib.Math.min.name, .static Lib.Math.min.name, .initialized "java/lang/Math", .code Lib.Math.min.name Lib.Math.min.code 2 (some .int), .code yX2_giveToSea cX2_giveToSea 3 none, .fieldLink RX2 28 "SeaLand$Ground" "salt" "[I", .code yX2_saltGoingWith cX2_saltGoingWith 4 (some .int), .methodLink RX2 60 yX2_saltGoingWith, .instanceMethod yX2_saltGoingWith, .selects RX2 yX2_saltGoingWith yX2_saltGoingWith, .fieldLink RX2 64 "SeaLand$Ground" "wentOut" "I", .methodLink RX3 154 yX2_giveToSea, .instanceMethod yX2_giveToSea, .selects RX2 yX2_giveToSea yX2_giveToSea, .code yX10_moved cX10_moved 2 none, .fieldLink RX10 44 "SeaLand$Work" "latest" "I", .fieldLink RX10 47 "SeaLand$Work" "total" "I", .methodLink RX3 140 yX10_moved, .instanceMethod yX10_moved, .selects RX10 yX10_moved yX10_moved, .initialized RX10, .methodLink RX3 114 yX3_runSluice, .instanceMethod yX3_runSluice, .selects RX3 yX3_runSluice yX3_runSluice, .initialized RX3, .code yX2_runDitches cX2_runDitches 3 none, .fieldLink RX2 37 "SeaLand$Ground" "ditchTo" "[I", .fieldLink RX2 40 "SeaLand$Ground" "ditchWater" "[I", .fieldLink RX2 43 "SeaLand$Ground" "ditchSalt" "[I", .code yX2_reckonDitch cX2_reckonDitch 5 none, .fieldLink RX2 22 "SeaLand$Ground" "ditch" "[I", .code yX2_lowestDitchBeside cX2_lowestDitchBeside 4 (some .int), .code yX2_lowerDitch cX2_lowerDitch 4 (some .int), .methodLink RX2 79 yX2_levelOf, .methodLink RX2 87 yX2_lowerDitch, .instanceMethod yX2_lowerDitch, .selects RX2 yX2_lowerDitch yX2_lowerDitch, .methodLink RX2 75 yX2_lowestDitchBeside, .instanceMethod yX2_lowestDitchBeside, .selects RX2 yX2_lowestDitchBeside yX2_lowestDitchBeside, .methodLink RX2 82 Lib.Math.min.name, .methodLink RX2 71 yX2_reckonDitch, .instanceMethod yX2_reckonDitch, .selects RX2 yX2_reckonDitch yX2_reckonDitch, .methodLink RX3 117 yX2_runDitches, .instanceMethod yX2_runDitches, .selects RX2 yX2_runDitches yX2_runDitches, .code yX8_windAt cX8_windAt 4 (some .int), .fieldLink RX8 27 "SeaLand$Sky" "wind" "LSeaLand$Tellings;", .code yX9_nearestNumberBefore cX9_nearestNumberBefore 5 (some .int), .fieldLink RX9 15 "SeaLand$Tellings" "numbers" "[I", .methodLink RX8 54 yX9_nearestNumberBefore, .instanceMethod yX9_nearestNumberBefore, .selects RX9 yX9_nearestNumberBefore yX9_nearestNumberBefore, .code yX9_nearestNumberAfter cX9_nearestNumberAfter 5 (some .int), .constant RX9 22 40001, .methodLink RX8 57 yX9_nearestNumberAfter, .instanceMethod yX9_nearestNumberAfter, .selects RX9 yX9_nearestNumberAfter yX9_nearestNumberAfter, .methodLink RX8 60 Lib.Math.max.name, .static Lib.Math.max.name, .code Lib.Math.max.name Lib.Math.max.code 2 (some .int), .methodLink RX3 120 yX8_windAt, .instanceMethod yX8_windAt, .selects RX8 yX8_windAt yX8_windAt, .code yX3_runMills cX3_runMills 3 none, .code yX3_runEngine cX3_runEngine 3 none, .code yX3_liftBy cX3_liftBy 4 none, .code yX2_giveTo cX2_giveTo 5 none, .methodLink RX2 67 yX2_giveToSea, .methodLink RX3 171 yX2_giveTo, .instanceMethod yX2_giveTo, .selects RX2 yX2_giveTo yX2_giveTo, .methodLink RX3 161 yX3_liftBy, .instanceMethod yX3_liftBy, .selects RX3 yX3_liftBy yX3_liftBy, .methodLink RX3 164 yX3_runEngine, .instanceMethod yX3_runEngine, .selects RX3 yX3_runEngine yX3_runEngine, .methodLink RX3 123 yX3_runMills, .instanceMethod yX3_runMills, .selects RX3 yX3_runMills yX3_runMills, .code yX2_endDay cX2_endDay 2 none, .fieldLink RX2 31 "SeaLand$Ground" "dry" "[I", .code yX2_sinksNow cX2_sinksNow 2 (some .boolean), .fieldLink RX2 19 "SeaLand$Ground" "soil" "[I", .methodLink RX2 91 yX2_sinksNow, .instanceMethod yX2_sinksNow, .selects RX2 yX2_sinksNow yX2_sinksNow, .fieldLink RX2 34 "SeaLand$Ground" "wet" "[I", .methodLink RX3 126 yX2_endDay, .instanceMethod yX2_endDay, .selects RX2 yX2_endDay yX2_endDay, .code yX10_isBank cX10_isBank 1 (some .boolean), .fieldLink RX10 18 "SeaLand$Work" "kind" "I", .methodLink RX3 67 yX10_isBank, .instanceMethod yX10_isBank, .selects RX10 yX10_isBank yX10_isBank, .code yX3_runBank cX3_runBank 4 none, .code yX3_seepOf cX3_seepOf 5 (some .int), .methodLink RX3 97 Lib.Math.max.name, .code yX10_leakBelow cX10_leakBelow 6 (some .int), .fieldLink RX10 34 "SeaLand$Work" "layers" "I", .fieldLink RX10 9 "SeaLand$Work" "thick" "[I", .fieldLink RX10 15 "SeaLand$Work" "clay" "[I", .methodLink RX3 100 yX10_leakBelow, .instanceMethod yX10_leakBelow, .selects RX10 yX10_leakBelow yX10_leakBelow, .methodLink RX3 132 yX3_seepOf, .instanceMethod yX3_seepOf, .selects RX3 yX3_seepOf yX3_seepOf, .code yX10_breakOpen cX10_breakOpen 1 none, .fieldLink RX10 31 "SeaLand$Work" "width" "I", .methodLink RX3 143 yX10_breakOpen, .instanceMethod yX10_breakOpen, .selects RX10 yX10_breakOpen yX10_breakOpen, .code yX3_runBreach cX3_runBreach 4 none, .constantLong RX3 149 120, .code yX2_takeFromSea cX2_takeFromSea 3 none, .fieldLink RX2 57 "SeaLand$Ground" "cameIn" "I", .methodLink RX3 136 yX2_takeFromSea, .instanceMethod yX2_takeFromSea, .selects RX2 yX2_takeFromSea yX2_takeFromSea, .methodLink RX3 146 yX3_runBreach, .instanceMethod yX3_runBreach, .selects RX3 yX3_runBreach yX3_runBreach, .code yX3_crestOf cX3_crestOf 2 (some .int), .code yX10_thickness cX10_thickness 3 (some .int), .methodLink RX3 80 yX10_thickness, .instanceMethod yX10_thickness, .selects RX10 yX10_thickness yX10_thickness, .methodLink RX3 84 yX3_crestOf, .instanceMethod yX3_crestOf, .selects RX3 yX3_crestOf yX3_crestOf, .code yX10_widen cX10_widen 1 none, .code yX10_wider cX10_wider 1 (some .int), .methodLink RX10 54 Lib.Math.min.name, .methodLink RX10 50 yX10_wider, .static yX10_wider, .methodLink RX3 129 yX10_widen, .instanceMethod yX10_widen, .selects RX10 yX10_widen yX10_widen, .methodLink RX3 110 yX3_runBank, .instanceMethod yX3_runBank, .selects RX3 yX3_runBank yX3_runBank, .methodLink RX11 223 yX3_passHour, .instanceMethod yX3_passHour, .selects RX3 yX3_passHour yX3_passHour, .fieldLink RX11 23 "SeaLand" "rows" "LSeaLand$Rows;", .code yX6_write cX6_write 5 none, .fieldLink RX6 18 "SeaLand$Rows" "kept" "I", .fieldLink RX6 22 "SeaLand$Rows" "oldest" "I", .methodLink RX6 34 yX8_outsideAt, .code yX6_placeOf cX6_placeOf 3 (some .int), .methodLink RX6 40 yX6_placeOf, .instanceMethod yX6_placeOf, .selects RX6 yX6_placeOf yX6_placeOf, .initialized RX6, .fieldLink RX6 15 "SeaLand$Rows" "proof" "[I", .methodLink RX6 54 yX2_levelOf, .fieldLink RX6 9 "SeaLand$Rows" "shown" "[I", .methodLink RX11 226 yX6_write, .instanceMethod yX6_write, .selects RX6 yX6_write yX6_write] bs2)
