def w_c_hours : List Cond := .code yX11_hours cX11_hours 3 (some .int) :: (HAppend.hAppend (α := List Cond) (β := List Cond) (γ := List Cond) [.code yX11_within cX11_within 3 (some .boolean), .methodLink RX11 58 yX11_within, .static yX11_within, .initialized RX11, .code yX11_needNumbers cX11_needNumbers 1 none, .classLink RX11 547 "java/lang/IllegalArgumentException", .initialized "java/lang/IllegalArgumentException", .methodLink RX11 62 yX11_needNumbers, .static yX11_needNumbers, .fieldLink RX11 16 "SeaLand" "lake" "LSeaLand$Lake;", .constant RX11 110 40000, .code yX3_passHour cX3_passHour 3 none, .fieldLink RX3 32 "SeaLand$Lake" "hour" "I", .fieldLink RX3 12 "SeaLand$Lake" "sky" "LSeaLand$Sky;", .code yX8_outsideAt cX8_outsideAt 4 (some .int), .fieldLink RX8 9 "SeaLand$Sky" "tides" "[I", .code yJ9_floorMod_7cf53 cJ9_floorMod_7cf53 3 (some .int), .methodLink RX8 38 yJ9_floorMod_7cf53, .static yJ9_floorMod_7cf53, .initialized RJ9, .fieldLink RX8 34 "SeaLand$Sky" "storms" "I", .fieldLink RX8 15 "SeaLand$Sky" "stormFrom" "[I", .fieldLink RX8 18 "SeaLand$Sky" "stormTo" "[I", .fieldLink RX8 21 "SeaLand$Sky" "stormMore" "[I", .methodLink RX3 44 yX8_outsideAt, .instanceMethod yX8_outsideAt, .selects RX8 yX8_outsideAt yX8_outsideAt, .initialized RX8, .fieldLink RX3 21 "SeaLand$Lake" "ground" "LSeaLand$Ground;", .code yX8_rainAt cX8_rainAt 3 (some .int), .fieldLink RX8 31 "SeaLand$Sky" "rain" "LSeaLand$Tellings;", .code yX9_standingAt cX9_standingAt 5 (some .int), .fieldLink RX9 18 "SeaLand$Tellings" "told" "I", .fieldLink RX9 9 "SeaLand$Tellings" "hours" "[I", .methodLink RX8 44 yX9_standingAt, .instanceMethod yX9_standingAt, .selects RX9 yX9_standingAt yX9_standingAt, .initialized RX9, .methodLink RX3 103 yX8_rainAt, .instanceMethod yX8_rainAt, .selects RX8 yX8_rainAt yX8_rainAt, .code yX2_rainOnLand cX2_rainOnLand 3 none, .fieldLink RX2 9 "SeaLand$Ground" "isLand" "[Z", .fieldLink RX2 25 "SeaLand$Ground" "water" "[I", .fieldLink RX2 54 "SeaLand$Ground" "rained" "I", .methodLink RX3 106 yX2_rainOnLand, .instanceMethod yX2_rainOnLand, .selects RX2 yX2_rainOnLand yX2_rainOnLand, .initialized RX2, .fieldLink RX3 47 "SeaLand$Lake" "built" "I", .fieldLink RX3 27 "SeaLand$Lake" "works" "[LSeaLand$Work;", .code yX3_runSluice cX3_runSluice 5 none, .code yX2_levelOf cX2_levelOf 2 (some .int), .fieldLink RX2 15 "SeaLand$Ground" "height" "[I", .methodLink RX3 40 yX2_levelOf, .instanceMethod yX2_levelOf, .selects RX2 yX2_levelOf yX2_levelOf, .methodLink RX3 71 Lib.Math.min.name, .static Lib.Math.min.name, .initialized "java/lang/Math", .code Lib.Math.min.name Lib.Math.min.code 2 (some .int), .code yX2_giveToSea cX2_giveToSea 3 none, .fieldLink RX2 28 "SeaLand$Ground" "salt" "[I", .code yX2_saltGoingWith cX2_saltGoingWith 4 (some .int), .methodLink RX2 60 yX2_saltGoingWith, .instanceMethod yX2_saltGoingWith, .selects RX2 yX2_saltGoingWith yX2_saltGoingWith, .fieldLink RX2 64 "SeaLand$Ground" "wentOut" "I", .methodLink RX3 154 yX2_giveToSea, .instanceMethod yX2_giveToSea, .selects RX2 yX2_giveToSea yX2_giveToSea, .code yX10_moved cX10_moved 2 none, .fieldLink RX10 44 "SeaLand$Work" "latest" "I", .fieldLink RX10 47 "SeaLand$Work" "total" "I", .methodLink RX3 140 yX10_moved, .instanceMethod yX10_moved, .selects RX10 yX10_moved yX10_moved, .initialized RX10, .methodLink RX3 114 yX3_runSluice, .instanceMethod yX3_runSluice, .selects RX3 yX3_runSluice yX3_runSluice, .initialized RX3, .code yX2_runDitches cX2_runDitches 3 none, .fieldLink RX2 37 "SeaLand$Ground" "ditchTo" "[I", .fieldLink RX2 40 "SeaLand$Ground" "ditchWater" "[I", .fieldLink RX2 43 "SeaLand$Ground" "ditchSalt" "[I", .code yX2_reckonDitch cX2_reckonDitch 5 none, .fieldLink RX2 22 "SeaLand$Ground" "ditch" "[I", .code yX2_lowestDitchBeside cX2_lowestDitchBeside 4 (some .int), .code yX2_lowerDitch cX2_lowerDitch 4 (some .int), .methodLink RX2 79 yX2_levelOf, .methodLink RX2 87 yX2_lowerDitch, .instanceMethod yX2_lowerDitch, .selects RX2 yX2_lowerDitch yX2_lowerDitch, .methodLink RX2 75 yX2_lowestDitchBeside, .instanceMethod yX2_lowestDitchBeside, .selects RX2 yX2_lowestDitchBeside yX2_lowestDitchBeside, .methodLink RX2 82 Lib.Math.min.name, .methodLink RX2 71 yX2_reckonDitch, .instanceMethod yX2_reckonDitch, .selects RX2 yX2_reckonDitch yX2_reckonDitch, .methodLink RX3 117 yX2_runDitches, .instanceMethod yX2_runDitches, .selects RX2 yX2_runDitches yX2_runDitches, .code yX8_windAt cX8_windAt 4 (some .int), .fieldLink RX8 27 "SeaLand$Sky" "wind" "LSeaLand$Tellings;", .code yX9_nearestNumberBefore cX9_nearestNumberBefore 5 (some .int), .fieldLink RX9 15 "SeaLand$Tellings" "numbers" "[I", .methodLink RX8 54 yX9_nearestNumberBefore, .instanceMethod yX9_nearestNumberBefore, .selects RX9 yX9_nearestNumberBefore yX9_nearestNumberBefore, .code yX9_nearestNumberAfter cX9_nearestNumberAfter 5 (some .int), .constant RX9 22 40001, .methodLink RX8 57 yX9_nearestNumberAfter, .instanceMethod yX9_nearestNumberAfter, .selects RX9 yX9_nearestNumberAfter yX9_nearestNumberAfter, .methodLink RX8 60 Lib.Math.max.name, .static Lib.Math.max.name, .code Lib.Math.max.name Lib.Math.max.code 2 (some .int), .methodLink RX3 120 yX8_windAt, .instanceMethod yX8_windAt, .selects RX8 yX8_windAt yX8_windAt, .code yX3_runMills cX3_runMills 3 none, .code yX3_runEngine cX3_runEngine 3 none, .code yX3_liftBy cX3_liftBy 4 none, .code yX2_giveTo cX2_giveTo 5 none, .methodLink RX2 67 yX2_giveToSea, .methodLink RX3 171 yX2_giveTo, .instanceMethod yX2_giveTo, .selects RX2 yX2_giveTo yX2_giveTo, .methodLink RX3 161 yX3_liftBy, .instanceMethod yX3_liftBy, .selects RX3 yX3_liftBy yX3_liftBy, .methodLink RX3 164 yX3_runEngine, .instanceMethod yX3_runEngine, .selects RX3 yX3_runEngine yX3_runEngine, .methodLink RX3 123 yX3_runMills, .instanceMethod yX3_runMills, .selects RX3 yX3_runMills yX3_runMills, .code yX2_endDay cX2_endDay 2 none, .fieldLink RX2 31 "SeaLand$Ground" "dry" "[I", .code yX2_sinksNow cX2_sinksNow 2 (some .boolean), .fieldLink RX2 19 "SeaLand$Ground" "soil" "[I", .methodLink RX2 91 yX2_sinksNow, .instanceMethod yX2_sinksNow, .selects RX2 yX2_sinksNow yX2_sinksNow, .fieldLink RX2 34 "SeaLand$Ground" "wet" "[I", .methodLink RX3 126 yX2_endDay, .instanceMethod yX2_endDay, .selects RX2 yX2_endDay yX2_endDay, .code yX10_isBank cX10_isBank 1 (some .boolean), .fieldLink RX10 18 "SeaLand$Work" "kind" "I", .methodLink RX3 67 yX10_isBank, .instanceMethod yX10_isBank, .selects RX10 yX10_isBank yX10_isBank, .code yX3_runBank cX3_runBank 4 none, .code yX3_seepOf cX3_seepOf 5 (some .int), .methodLink RX3 97 Lib.Math.max.name, .code yX10_leakBelow cX10_leakBelow 6 (some .int), .fieldLink RX10 34 "SeaLand$Work" "layers" "I", .fieldLink RX10 9 "SeaLand$Work" "thick" "[I", .fieldLink RX10 15 "SeaLand$Work" "clay" "[I", .methodLink RX3 100 yX10_leakBelow, .instanceMethod yX10_leakBelow, .selects RX10 yX10_leakBelow yX10_leakBelow, .methodLink RX3 132 yX3_seepOf, .instanceMethod yX3_seepOf, .selects RX3 yX3_seepOf yX3_seepOf, .code yX10_breakOpen cX10_breakOpen 1 none, .fieldLink RX10 31 "SeaLand$Work" "width" "I", .methodLink RX3 143 yX10_breakOpen, .instanceMethod yX10_breakOpen, .selects RX10 yX10_breakOpen yX10_breakOpen, .code yX3_runBreach cX3_runBreach 4 none, .constantLong RX3 149 120, .code yX2_takeFromSea cX2_takeFromSea 3 none, .fieldLink RX2 57 "SeaLand$Ground" "cameIn" "I", .methodLink RX3 136 yX2_takeFromSea, .instanceMethod yX2_takeFromSea, .selects RX2 yX2_takeFromSea yX2_takeFromSea, .methodLink RX3 146 yX3_runBreach, .instanceMethod yX3_runBreach, .selects RX3 yX3_runBreach yX3_runBreach, .code yX3_crestOf cX3_crestOf 2 (some .int), .code yX10_thickness cX10_thickness 3 (some .int), .methodLink RX3 80 yX10_thickness, .instanceMethod yX10_thickness, .selects RX10 yX10_thickness yX10_thickness, .methodLink RX3 84 yX3_crestOf, .instanceMethod yX3_crestOf, .selects RX3 yX3_crestOf yX3_crestOf, .code yX10_widen cX10_widen 1 none, .code yX10_wider cX10_wider 1 (some .int), .methodLink RX10 54 Lib.Math.min.name, .methodLink RX10 50 yX10_wider, .static yX10_wider, .methodLink RX3 129 yX10_widen, .instanceMethod yX10_widen, .selects RX10 yX10_widen yX10_widen, .methodLink RX3 110 yX3_runBank, .instanceMethod yX3_runBank, .selects RX3 yX3_runBank yX3_runBank, .methodLink RX11 223 yX3_passHour, .instanceMethod yX3_passHour, .selects RX3 yX3_passHour yX3_passHour, .fieldLink RX11 23 "SeaLand" "rows" "LSeaLand$Rows;", .code yX6_write cX6_write 5 none, .fieldLink RX6 18 "SeaLand$Rows" "kept" "I", .fieldLink RX6 22 "SeaLand$Rows" "oldest" "I", .methodLink RX6 34 yX8_outsideAt, .code yX6_placeOf cX6_placeOf 3 (some .int), .methodLink RX6 40 yX6_placeOf, .instanceMethod yX6_placeOf, .selects RX6 yX6_placeOf yX6_placeOf, .initialized RX6, .fieldLink RX6 15 "SeaLand$Rows" "proof" "[I", .methodLink RX6 54 yX2_levelOf, .fieldLink RX6 9 "SeaLand$Rows" "shown" "[I", .methodLink RX11 226 yX6_write, .instanceMethod yX6_write, .selects RX6 yX6_write yX6_write] bs2)
set_option maxHeartbeats 4000000 in
set_option maxRecDepth 100000 in
theorem c_hours (l : Launch) (hlt : l.stackTraces = false) (dC : Nat → ClassId) (dI : Nat → Nat → Nat) (kA : Nat → ClassId) (adK adV : Nat → Nat) (G : gT) (H0 : Heap) (nC nS : Int) (o0 : Nat) (p0 : Int32)  (hT : gH (dC, dI) kA (SHc nC nS) G H0) (hr_o0 : G o0 = some 14) (hgC : 0 ≤ nC ∧ nC ≤ 40) (hgS : 0 ≤ nS ∧ nS ≤ 60) : vx_Met l yX11_hours w_c_hours ({ frames := 7, cells := 1, slots := 6, locals := 158 }) (va_Pc [.ref o0, .int p0] (fun U => U.heap = H0 ∧ va_K (dC, dI) vwCl (tyl kA) U ∧ EVC adK adV (gA G H0.size) U U.heap)) (va_Qi (fun (r : Int32) (u : Unit) => (0 ≤ r.toInt ∧ r.toInt ≤ 40000)) (fun (_ : Unit) (t : State) => gH (dC, dI) kA (SHc nC nS) G t.heap ∧ gF (dC, dI) SKc G ([(5, 11), (5, 12), (5, 13), (6, 4), (9, 2), (9, 3), (13, 2), (13, 6), (13, 8), (13, 10), (13, 11), (26, 0), (29, 0), (30, 0), (31, 0), (32, 0), (33, 0), (34, 0), (35, 0), (38, 0), (39, 0)] : List (Nat × Nat)) H0 t.heap) (gA G H0.size)) (vx_X (fun _ : Unit => True) (fun E _ t => (E = "java/lang/IllegalArgumentException") ∧ gH (dC, dI) kA (SHc nC nS) G t.heap ∧ gF (dC, dI) SKc G ([(5, 11), (5, 12), (5, 13), (6, 4), (9, 2), (9, 3), (13, 2), (13, 6), (13, 8), (13, 10), (13, 11), (26, 0), (29, 0), (30, 0), (31, 0), (32, 0), (33, 0), (34, 0), (35, 0), (38, 0), (39, 0)] : List (Nat × Nat)) H0 t.heap) (gA G H0.size)) 1 6 (gA G H0.size) := by
  refine vx_ofW (cc := cX11_hours) (maxL := 3) (ret := (some .int)) (by decide) rfl ?_
  intro p e s m args below meth c s₁ B hml hnt hv
  obtain ⟨rfl, hH0, hK, hE⟩ := hv
  have hx := B.exec
  have hb := B.bytes
  have hr := B.returns
  have hts := atoms_spec (ws := w_c_hours) B.pre
  have hown : s.vm.findClass RX11 = some m.cls := findClass_of_methodNamed B.named
  have hlocks := B.notSynchronized
  subst hH0
  generalize hAe : gA G s.heap.size = A at hE ⊢
  have hA : ∀ q : Nat, s.heap.size ≤ q → A q := fun q h => by rw [← hAe]; exact Or.inr h
  have hG := gA_of hAe
  have hS : va_S A s.heap s.heap [] := va_S.rf
  have hF : gF (dC, dI) SKc G ([(5, 11), (5, 12), (5, 13), (6, 4), (9, 2), (9, 3), (13, 2), (13, 6), (13, 8), (13, 10), (13, 11), (26, 0), (29, 0), (30, 0), (31, 0), (32, 0), (33, 0), (34, 0), (35, 0), (38, 0), (39, 0)] : List (Nat × Nat)) s.heap s.heap := gF.rf
  have hl := lv_entry ([.ref o0, .int p0]) (n := 3) (Nat.le_of_ble_eq_true rfl)
  rw [lg_entry_eq]
  generalize (lg_sl ([.ref o0, .int p0]) ++ List.replicate (3 - (lg_sl ([.ref o0, .int p0])).length) Slot.unset).toArray = ls at hl ⊢
  have hl : lv_has ls 3 [(0, .ref o0), (1, .int p0)] := hl
  refine lv_iload_n hx hb dX11_hours_0 rfl (lv_at hl 1 rfl) ?_
  refine lv_iconst (v := 0) hx hb dX11_hours_1 (by decide) ?_
  refine lv_sipush (v := 240) hx hb dX11_hours_2 (by decide) ?_
  have hFc := gA_free hG hA hS
  refine va_calli (va_runS (As := [.int p0, .int 0, .int 240]) (rest := []) ⟨hx, hb, hml, hown, hts⟩ (c_within l dC dI kA adK adV G s.heap nC nS p0 0 240 hT (by omega) (by omega)) (va_cwS 3 hts (goodIn_app (goodIn_r _ [2, 3, 4] rfl (by decide +kernel)) (goodIn_ca (goodIn_r _ [1] rfl (by decide +kernel)) (bs2_in _ _))) rfl rfl rfl (by decide +kernel) ⟨(Nat.le_of_ble_eq_true rfl), (Nat.le_of_ble_eq_true rfl)⟩) ⟨fun a U g mk q => by obtain ⟨q0, q1, qK, qE⟩ := q; exact ⟨q0, q1, va_K.moved (u := U) (U := U.calling g mk a) (Vm.Alike.refl U.vm) qK, EVC.blind g mk a qE⟩, fun U hU hW => ⟨rfl, hU, va_K.moved hW.alike hK, hE.call hS hFc hU hW⟩⟩ rfl rfl hl.1 rfl (lv_room (Nat.le_of_ble_eq_true rfl)) dX11_hours_5 ⟨(Nat.le_of_ble_eq_true rfl), (Nat.le_of_ble_eq_true rfl)⟩) hS (fun q _ h => hFc q h) hFc (fun r1 u t H locs ht hvm hw2 hB _ _ hS => ?_)
  obtain ⟨hT, hF1⟩ := hB
  rw [ht] at hT hF1
  have hF := hF.more hF1 (by decide)
  try dsimp only at hw2
  obtain ⟨h3, hi4, hi5⟩ := hw2
  have hb6 : r1 = 0 ∨ r1 = 1 := bit_of ⟨by omega, by omega⟩
  rcases hb6 with rfl | rfl
  · have t7 : (0 : Int32).toInt = 0 := by decide
    have t8 : (240 : Int32).toInt = 240 := by decide
    have t9 : p0.toInt < (0 : Int32).toInt ∨ (240 : Int32).toInt < p0.toInt := hi5 rfl
    have hFc := gA_free hG hA hS
    refine vx_callN (vx_runS (As := [.int 0]) (rest := []) ⟨hx, hb, hml, hown, hts⟩ (c_needNumbers0 l hlt dC dI kA adK adV G H nC nS hT (by omega) (by omega)) (va_cwS 1 hts (goodIn_app (goodIn_r _ [8, 9, 4] rfl (by decide +kernel)) (goodIn_ca (goodIn_r _ [5, 6, 7] rfl (by decide +kernel)) (bs2_in _ _))) rfl rfl rfl (by decide +kernel) ⟨(Nat.le_of_ble_eq_true rfl), (Nat.le_of_ble_eq_true rfl)⟩) ⟨fun a U g mk q => by obtain ⟨q0, q1, qK, qE⟩ := q; exact ⟨q0, q1, va_K.moved (u := U) (U := U.calling g mk a) (Vm.Alike.refl U.vm) qK, EVC.blind g mk a qE⟩, fun U hU hW => ⟨rfl, hU, va_K.moved hW.alike hK, hE.call hS hFc hU hW⟩⟩ rfl rfl hl.1 rfl (lv_room (Nat.le_of_ble_eq_true rfl)) dX11_hours_8 ⟨(Nat.le_of_ble_eq_true rfl), (Nat.le_of_ble_eq_true rfl)⟩) hS hFc (fun q _ h => hFc q h) (fun E ce q9 u t H locs ht hvm _ hw11 _ _ hS hce hcv hcl => ?_)
    obtain ⟨hw11, hTx, hFx⟩ := hw11; rw [ht] at hTx hFx
    exact vx_out (fun x h => (hnt x h).elim) hlocks hce hcv hcl (fun t2 h2 hW => ⟨(), trivial, ⟨((fun h9 => h9) hw11), by rw [h2]; exact hTx, by rw [h2]; exact hF.more hFx (by decide)⟩, hS.F h2⟩) hS.2.2 (by decide) (by decide)
  · have t12 : (0 : Int32).toInt = 0 := by decide
    have t13 : (240 : Int32).toInt = 240 := by decide
    have t14 : (0 : Int32).toInt ≤ p0.toInt ∧ p0.toInt ≤ (240 : Int32).toInt := hi4 rfl
    have hFc := gA_free hG hA hS
    refine vx_callv (vx_runS (As := [.int 1]) (rest := []) ⟨hx, hb, hml, hown, hts⟩ (c_needNumbers1 l hlt dC dI kA adK adV G H nC nS hT (by omega) (by omega)) (va_cwS 1 hts (goodIn_app (goodIn_r _ [8, 9, 4] rfl (by decide +kernel)) (goodIn_ca (goodIn_r _ [5] rfl (by decide +kernel)) (bs2_in _ _))) rfl rfl rfl (by decide +kernel) ⟨(Nat.le_of_ble_eq_true rfl), (Nat.le_of_ble_eq_true rfl)⟩) ⟨fun a U g mk q => by obtain ⟨q0, q1, qK, qE⟩ := q; exact ⟨q0, q1, va_K.moved (u := U) (U := U.calling g mk a) (Vm.Alike.refl U.vm) qK, EVC.blind g mk a qE⟩, fun U hU hW => ⟨rfl, hU, va_K.moved hW.alike hK, hE.call hS hFc hU hW⟩⟩ rfl rfl hl.1 rfl (lv_room (Nat.le_of_ble_eq_true rfl)) dX11_hours_8 ⟨(Nat.le_of_ble_eq_true rfl), (Nat.le_of_ble_eq_true rfl)⟩) hS (fun q _ h => hFc q h) hFc (fun q _ h => hFc q h) (fun E ce q9 u t H locs ht hvm _ hw16 _ _ hS hce hcv hcl => ?_) (fun u t H locs ht hvm hw16 hB _ _ hS => ?_)
    · obtain ⟨hw16, hTx, hFx⟩ := hw16; rw [ht] at hTx hFx
      exact vx_out (fun x h => (hnt x h).elim) hlocks hce hcv hcl (fun t2 h2 hW => ⟨(), trivial, ⟨((fun h9 => h9) hw16), by rw [h2]; exact hTx, by rw [h2]; exact hF.more hFx (by decide)⟩, hS.F h2⟩) hS.2.2 (by decide) (by decide)
    · obtain ⟨hT, hF1⟩ := hB
      rw [ht] at hT hF1
      have hF := hF.more hF1 (by decide)
      try dsimp only at hw16
      refine lv_iconst (v := 0) hx hb dX11_hours_11 (by decide) ?_
      refine lv_istore_n (lv' := [(2, .int 0), (0, .ref o0), (1, .int p0)]) hx hb dX11_hours_12 rfl hl (by decide) rfl (fun ls hl => ?_)
      have key45 : ∀ (n45 i17 : Nat), i17 + n45 = 240 → 0 ≤ i17 → ∀ (H : Heap) (locs : List Loc), gH (dC, dI) kA (SHc nC nS) G H → gF (dC, dI) SKc G ([(5, 11), (5, 12), (5, 13), (6, 4), (9, 2), (9, 3), (13, 2), (13, 6), (13, 8), (13, 10), (13, 11), (26, 0), (29, 0), (30, 0), (31, 0), (32, 0), (33, 0), (34, 0), (35, 0), (38, 0), (39, 0)] : List (Nat × Nat)) s.heap H → va_S A s.heap H locs → ∀ ls : Array Slot, lv_has ls 3 [(2, .int (nI i17)), (0, .ref o0), (1, .int p0)] → W p l e (headSpec w_c_hours ({ frames := 7, cells := 1, slots := 6, locals := 158 })).room s m #[.ref o0, .int p0] below meth c H locs 0 0 (vx_MQ below (va_Qi (fun (r : Int32) (u : Unit) => (0 ≤ r.toInt ∧ r.toInt ≤ 40000)) (fun (_ : Unit) (t : State) => gH (dC, dI) kA (SHc nC nS) G t.heap ∧ gF (dC, dI) SKc G ([(5, 11), (5, 12), (5, 13), (6, 4), (9, 2), (9, 3), (13, 2), (13, 6), (13, 8), (13, 10), (13, 11), (26, 0), (29, 0), (30, 0), (31, 0), (32, 0), (33, 0), (34, 0), (35, 0), (38, 0), (39, 0)] : List (Nat × Nat)) s.heap t.heap) A) (vx_X (fun _ : Unit => True) (fun E _ t => (E = "java/lang/IllegalArgumentException") ∧ gH (dC, dI) kA (SHc nC nS) G t.heap ∧ gF (dC, dI) SKc G ([(5, 11), (5, 12), (5, 13), (6, 4), (9, 2), (9, 3), (13, 2), (13, 6), (13, 8), (13, 10), (13, 11), (26, 0), (29, 0), (30, 0), (31, 0), (32, 0), (33, 0), (34, 0), (35, 0), (38, 0), (39, 0)] : List (Nat × Nat)) s.heap t.heap) A) #[.ref o0, .int p0] s 1 6 A) (F0 m 13 ls []) := by
        intro n45
        induction n45 with
        | zero =>
          intro i17 hn45 hlo46  H locs hT hF hS  ls hl
          obtain rfl : 240 = i17 := by omega
          refine lv_iload_n hx hb dX11_hours_13 rfl (lv_at hl 0 rfl) ?_
          refine lv_iload_n hx hb dX11_hours_14 rfl (lv_at hl 2 rfl) ?_
          refine lv_icmp_ge (tgt := 54) hx hb dX11_hours_15 (by decide) (fun c47 => ?_) (fun c47 => (by exfalso; have q9 : ((240 : Nat) : Int) < p0.toInt := ti_nle c47 rfl (nI_toInt (by omega)); omega))
          have t48 : p0.toInt ≤ ((240 : Nat) : Int) := ti_le c47 rfl (nI_toInt (by omega))
          refine lv_aload_n hx hb dX11_hours_54 rfl (lv_at hl 1 rfl) ?_
          refine tw_get hx hb hts bF2_X11 hown hK hT hr_o0 shc_14 rfl 1 (by decide) (ht_at2 hts 9 rfl) (fun _ h9 => h9) dX11_hours_55 (fun v9 m49 h9 => ?_)
          obtain ⟨b50, rfl, hg51⟩ := h9 _ rfl
          refine tw_getN hx hb hts bF2_X3 hown hK hT hg51 shc_6 rfl 4 (by decide) (hE.nw 0 rfl) (fun _ h9 => h9) dX11_hours_58 (fun v9 m52 h9 => ?_)
          obtain ⟨x53, rfl, gx53, kx53⟩ := h9 _ rfl
          refine W.widen (k := 1) (n := 6) (by decide) (by decide) ?_
          exact vx_ret (W.iret (v := x53) hx hb hr (fun t ht hW => ⟨⟨x53, (), rfl, (by exact (by have q8 := ti_all x53; omega)), by (try dsimp only); rw [ht]; exact ⟨hT, hF⟩⟩, hS.F ht⟩) hS.2.2 dX11_hours_61)
        | succ n45 ih45 =>
          intro i17 hn45 hlo46  H locs hT hF hS  ls hl
          have hlt53 : i17 < 240 := by omega
          refine lv_iload_n hx hb dX11_hours_13 rfl (lv_at hl 0 rfl) ?_
          refine lv_iload_n hx hb dX11_hours_14 rfl (lv_at hl 2 rfl) ?_
          refine lv_icmp_ge (tgt := 54) hx hb dX11_hours_15 (by decide) (fun c54 => ?_) (fun c54 => ?_)
          · have t55 : p0.toInt ≤ ((i17 : Nat) : Int) := ti_le c54 rfl (nI_toInt (by omega))
            refine lv_aload_n hx hb dX11_hours_54 rfl (lv_at hl 1 rfl) ?_
            refine tw_get hx hb hts bF2_X11 hown hK hT hr_o0 shc_14 rfl 1 (by decide) (ht_at2 hts 9 rfl) (fun _ h9 => h9) dX11_hours_55 (fun v9 m56 h9 => ?_)
            obtain ⟨b57, rfl, hg58⟩ := h9 _ rfl
            refine tw_getN hx hb hts bF2_X3 hown hK hT hg58 shc_6 rfl 4 (by decide) (hE.nw 0 rfl) (fun _ h9 => h9) dX11_hours_58 (fun v9 m59 h9 => ?_)
            obtain ⟨x60, rfl, gx60, kx60⟩ := h9 _ rfl
            refine W.widen (k := 1) (n := 6) (by decide) (by decide) ?_
            exact vx_ret (W.iret (v := x60) hx hb hr (fun t ht hW => ⟨⟨x60, (), rfl, (by exact (by have q8 := ti_all x60; omega)), by (try dsimp only); rw [ht]; exact ⟨hT, hF⟩⟩, hS.F ht⟩) hS.2.2 dX11_hours_61)
          · have t61 : ((i17 : Nat) : Int) < p0.toInt := ti_nle c54 rfl (nI_toInt (by omega))
            refine lv_aload_n hx hb dX11_hours_18 rfl (lv_at hl 1 rfl) ?_
            refine tw_get hx hb hts bF2_X11 hown hK hT hr_o0 shc_14 rfl 1 (by decide) (ht_at2 hts 9 rfl) (fun _ h9 => h9) dX11_hours_19 (fun v9 m62 h9 => ?_)
            obtain ⟨b63, rfl, hg64⟩ := h9 _ rfl
            refine tw_getN hx hb hts bF2_X3 hown hK hT hg64 shc_6 rfl 4 (by decide) (hE.nw 0 rfl) (fun _ h9 => h9) dX11_hours_22 (fun v9 m65 h9 => ?_)
            obtain ⟨x66, rfl, gx66, kx66⟩ := h9 _ rfl
            refine lv_ldc (v := 40000) hx hb hown (ht_at2 hts 10 rfl) dX11_hours_25 ?_
            refine lv_icmp_ge (tgt := 54) hx hb dX11_hours_27 (by decide) (fun c67 => ?_) (fun c67 => ?_)
            · have t68 : 40000 ≤ x66.toInt := ti_le c67 (by decide) rfl
              refine lv_aload_n hx hb dX11_hours_54 rfl (lv_at hl 1 rfl) ?_
              refine tw_getM (v := .ref b63) hx hb hts bF2_X11 hown hK hT hr_o0 shc_14 rfl 1 (by decide) (ht_at2 hts 9 rfl) (fun _ h9 => h9) m62 dX11_hours_55 ?_
              refine tw_getNM (v := .int x66) hx hb hts bF2_X3 hown hK hT hg64 shc_6 rfl 4 (by decide) (hE.nw 0 rfl) (fun _ h9 => h9) m65 dX11_hours_58 ?_
              refine W.widen (k := 1) (n := 6) (by decide) (by decide) ?_
              exact vx_ret (W.iret (v := x66) hx hb hr (fun t ht hW => ⟨⟨x66, (), rfl, (by exact (by have q8 := ti_all x66; omega)), by (try dsimp only); rw [ht]; exact ⟨hT, hF⟩⟩, hS.F ht⟩) hS.2.2 dX11_hours_61)
            · have t69 : x66.toInt < 40000 := ti_nle c67 (by decide) rfl
              refine lv_aload_n hx hb dX11_hours_30 rfl (lv_at hl 1 rfl) ?_
              refine tw_getM (v := .ref b63) hx hb hts bF2_X11 hown hK hT hr_o0 shc_14 rfl 1 (by decide) (ht_at2 hts 9 rfl) (fun _ h9 => h9) m62 dX11_hours_31 ?_
              have hFc := gA_free hG hA hS
              refine va_callv (va_runV (As := []) (rest := []) ⟨hx, hb, hml, hown, hts⟩ (c_passHour l dC dI kA adK adV G H nC nS b63 x66 hT hg64 m65 (by have q8 := ti_all x66; omega) (by omega) (by omega)) (cwV 0 hts (goodIn_app (goodIn_r _ [203, 204, 205, 82] rfl (by decide +kernel)) (goodIn_ca (goodIn_r _ [12, 13, 14, 15, 16, 17, 18, 19, 20, 21, 22, 23, 24, 25, 26, 27, 28, 29, 30, 31, 32, 33, 34, 35, 36, 37, 38, 39, 40, 41, 42, 43, 44, 45, 46, 47, 48, 49, 50, 51, 52, 53, 54, 55, 56, 57, 58, 59, 60, 61, 62, 63, 64, 65, 66, 67, 68, 69, 70, 71, 72, 73, 74, 75, 76, 77, 78, 79, 80, 81, 82, 83, 84, 85, 86, 87, 88, 89, 90, 91, 92, 93, 94, 95, 96, 97, 98, 99, 100, 101, 102, 103, 104, 105, 106, 107, 108, 109, 110, 111, 112, 113, 114, 115, 116, 117, 118, 119, 120, 121, 122, 123, 124, 125, 126, 127, 128, 129, 130, 131, 132, 133, 134, 135, 136, 137, 138, 139, 140, 141, 142, 143, 144, 145, 146, 147, 148, 149, 150, 151, 152, 153, 154, 155, 156, 157, 158, 159, 160, 161, 162, 163, 164, 165, 166, 167, 168, 169, 170, 171, 172, 173, 174, 175, 176, 177, 178, 179, 180, 181, 182, 183, 184, 185, 186, 187, 188, 189, 190, 191, 192, 193, 194, 195, 196, 197, 198, 199, 200, 201, 202] rfl (by decide +kernel)) (bs2_in _ _))) rfl rfl rfl (by decide +kernel) ⟨(Nat.le_of_ble_eq_true rfl), (Nat.le_of_ble_eq_true rfl)⟩) ⟨fun a U g mk q => by obtain ⟨q0, q1, qK, qE⟩ := q; exact ⟨q0, q1, va_K.moved (u := U) (U := U.calling g mk a) (Vm.Alike.refl U.vm) qK, EVC.blind g mk a qE⟩, gH_rc hK hT hg64 shc_6 rfl, fun U hU hW => ⟨rfl, hU, va_K.moved hW.alike hK, hE.call hS hFc hU hW⟩⟩ rfl rfl hl.1 rfl (lv_room (Nat.le_of_ble_eq_true rfl)) dX11_hours_34 ⟨(Nat.le_of_ble_eq_true rfl), (Nat.le_of_ble_eq_true rfl)⟩) hS (fun q _ h => hFc q h) hFc (fun u t H locs ht hvm hw71 hB _ _ hS => ?_)
              obtain ⟨hT, hF1⟩ := hB
              rw [ht] at hT hF1
              have m72 := (hF1.fld hr_o0 skc_14 (k := 1) (by decide) (by decide)).trans m62
              have hF := hF.more hF1 (by decide)
              try dsimp only at hw71
              refine lv_aload_n hx hb dX11_hours_37 rfl (lv_at hl 1 rfl) ?_
              refine tw_get hx hb hts bF2_X11 hown hK hT hr_o0 shc_14 rfl 2 (by decide) (ht_at2 hts 205 rfl) (fun _ h9 => h9) dX11_hours_38 (fun v9 m74 h9 => ?_)
              obtain ⟨b75, rfl, hg76⟩ := h9 _ rfl
              refine lv_aload_n hx hb dX11_hours_41 rfl (lv_at hl 1 rfl) ?_
              refine tw_getM (v := .ref b63) hx hb hts bF2_X11 hown hK hT hr_o0 shc_14 rfl 1 (by decide) (ht_at2 hts 9 rfl) (fun _ h9 => h9) m72 dX11_hours_42 ?_
              have hFc := gA_free hG hA hS
              refine va_callv (va_runV (As := [.ref b63]) (rest := []) ⟨hx, hb, hml, hown, hts⟩ (c_write l dC dI kA adK adV G H nC nS b75 b63 hT hg64 hg76 (by omega) (by omega)) (cwV 1 hts (goodIn_app (goodIn_r _ [219, 220, 221, 215] rfl (by decide +kernel)) (goodIn_ca (goodIn_r _ [207, 208, 209, 15, 16, 17, 18, 19, 20, 21, 22, 23, 24, 210, 26, 27, 28, 211, 212, 213, 214, 215, 216, 53, 54, 44, 217, 56, 57, 49, 218] rfl (by decide +kernel)) (bs2_in _ _))) rfl rfl rfl (by decide +kernel) ⟨(Nat.le_of_ble_eq_true rfl), (Nat.le_of_ble_eq_true rfl)⟩) ⟨fun a U g mk q => by obtain ⟨q0, q1, qK, qE⟩ := q; exact ⟨q0, q1, va_K.moved (u := U) (U := U.calling g mk a) (Vm.Alike.refl U.vm) qK, EVC.blind g mk a qE⟩, gH_rc hK hT hg76 shc_9 rfl, fun U hU hW => ⟨rfl, hU, va_K.moved hW.alike hK, hE.call hS hFc hU hW⟩⟩ rfl rfl hl.1 rfl (lv_room (Nat.le_of_ble_eq_true rfl)) dX11_hours_45 ⟨(Nat.le_of_ble_eq_true rfl), (Nat.le_of_ble_eq_true rfl)⟩) hS (fun q _ h => hFc q h) hFc (fun u t H locs ht hvm hw78 hB _ _ hS => ?_)
              obtain ⟨hT, hF1⟩ := hB
              rw [ht] at hT hF1
              have hF := hF.more hF1 (by decide)
              try dsimp only at hw78
              refine lv_iinc (v := nI (i17 + 1)) (lv' := [(2, .int (nI (i17 + 1))), (0, .ref o0), (1, .int p0)]) hx hb dX11_hours_48 hl (k := 0) rfl (nI_add i17 1) (by decide) rfl (fun ls hl => ?_)
              refine lv_goto (tgt := 13) hx hb dX11_hours_51 (by decide) ?_
              exact ih45 (i17 + 1) (by omega) (by omega) _ _ hT hF hS ls (lv_sub hl [0, 1, 2] rfl)
      exact key45 (240 - 0) 0 (by omega) (Nat.le_refl _) _ _ hT hF hS ls (lv_sub hl [0, 1, 2] rfl)
def w_c_square : List Cond := .code yX11_square cX11_square 4 (some .int) :: (HAppend.hAppend (α := List Cond) (β := List Cond) (γ := List Cond) [.code yX11_needSquare cX11_needSquare 1 none, .code yX11_within cX11_within 3 (some .boolean), .methodLink RX11 58 yX11_within, .static yX11_within, .initialized RX11, .classLink RX11 557 "java/lang/IndexOutOfBoundsException", .initialized "java/lang/IndexOutOfBoundsException", .methodLink RX11 55 yX11_needSquare, .static yX11_needSquare, .fieldLink RX11 16 "SeaLand" "lake" "LSeaLand$Lake;", .code yX3_levelNow cX3_levelNow 2 (some .int), .fieldLink RX3 21 "SeaLand$Lake" "ground" "LSeaLand$Ground;", .fieldLink RX3 12 "SeaLand$Lake" "sky" "LSeaLand$Sky;", .fieldLink RX3 32 "SeaLand$Lake" "hour" "I", .code yX8_outsideAt cX8_outsideAt 4 (some .int), .fieldLink RX8 9 "SeaLand$Sky" "tides" "[I", .code yJ9_floorMod_7cf53 cJ9_floorMod_7cf53 3 (some .int), .methodLink RX8 38 yJ9_floorMod_7cf53, .static yJ9_floorMod_7cf53, .initialized RJ9, .fieldLink RX8 34 "SeaLand$Sky" "storms" "I", .fieldLink RX8 15 "SeaLand$Sky" "stormFrom" "[I", .fieldLink RX8 18 "SeaLand$Sky" "stormTo" "[I", .fieldLink RX8 21 "SeaLand$Sky" "stormMore" "[I", .methodLink RX3 44 yX8_outsideAt, .instanceMethod yX8_outsideAt, .selects RX8 yX8_outsideAt yX8_outsideAt, .initialized RX8, .code yX2_levelOf cX2_levelOf 2 (some .int), .fieldLink RX2 15 "SeaLand$Ground" "height" "[I", .fieldLink RX2 25 "SeaLand$Ground" "water" "[I", .methodLink RX3 40 yX2_levelOf, .instanceMethod yX2_levelOf, .selects RX2 yX2_levelOf yX2_levelOf, .initialized RX2, .methodLink RX11 245 yX3_levelNow, .instanceMethod yX3_levelNow, .selects RX3 yX3_levelNow yX3_levelNow, .initialized RX3, .fieldLink RX11 30 "SeaLand" "board" "LSeaLand$Board;", .code yX3_workOn cX3_workOn 3 (some .int), .fieldLink RX3 47 "SeaLand$Lake" "built" "I", .fieldLink RX3 27 "SeaLand$Lake" "works" "[LSeaLand$Work;", .methodLink RX11 257 yX3_workOn, .instanceMethod yX3_workOn, .selects RX3 yX3_workOn yX3_workOn, .classLink RX11 134 "java/util/NoSuchElementException", .initialized "java/util/NoSuchElementException"] bs2)
set_option maxHeartbeats 4000000 in
set_option maxRecDepth 100000 in
theorem c_square (l : Launch) (hlt : l.stackTraces = false) (dC : Nat → ClassId) (dI : Nat → Nat → Nat) (kA : Nat → ClassId) (adK adV : Nat → Nat) (G : gT) (H0 : Heap) (nC nS : Int) (o0 : Nat) (p0 : Int32) (p1 : Int32)  (hT : gH (dC, dI) kA (SHc nC nS) G H0) (hr_o0 : G o0 = some 14) (hgC : 0 ≤ nC ∧ nC ≤ 40) (hgS : 0 ≤ nS ∧ nS ≤ 60) : vx_Met l yX11_square w_c_square ({ frames := 7, cells := 2, slots := 12, locals := 120 }) (va_Pc [.ref o0, .int p0, .int p1] (fun U => U.heap = H0 ∧ va_K (dC, dI) vwCl (tyl kA) U ∧ EVC adK adV (gA G H0.size) U U.heap)) (va_Qi (fun (r : Int32) (u : Unit) => True) (fun (_ : Unit) (t : State) => gH (dC, dI) kA (SHc nC nS) G t.heap ∧ gF (dC, dI) SKc G ([] : List (Nat × Nat)) H0 t.heap) (gA G H0.size)) (vx_X (fun _ : Unit => True) (fun E _ t => (E = "java/lang/IndexOutOfBoundsException" ∨ E = "java/util/NoSuchElementException") ∧ gH (dC, dI) kA (SHc nC nS) G t.heap ∧ gF (dC, dI) SKc G ([] : List (Nat × Nat)) H0 t.heap) (gA G H0.size)) 2 12 (gA G H0.size) := by
  refine vx_ofW (cc := cX11_square) (maxL := 4) (ret := (some .int)) (by decide) rfl ?_
  intro p e s m args below meth c s₁ B hml hnt hv
  obtain ⟨rfl, hH0, hK, hE⟩ := hv
  have hx := B.exec
  have hb := B.bytes
  have hr := B.returns
  have hts := atoms_spec (ws := w_c_square) B.pre
  have hown : s.vm.findClass RX11 = some m.cls := findClass_of_methodNamed B.named
  have hlocks := B.notSynchronized
  subst hH0
  generalize hAe : gA G s.heap.size = A at hE ⊢
  have hA : ∀ q : Nat, s.heap.size ≤ q → A q := fun q h => by rw [← hAe]; exact Or.inr h
  have hG := gA_of hAe
  have hS : va_S A s.heap s.heap [] := va_S.rf
  have hF : gF (dC, dI) SKc G ([] : List (Nat × Nat)) s.heap s.heap := gF.rf
  have hl := lv_entry ([.ref o0, .int p0, .int p1]) (n := 4) (Nat.le_of_ble_eq_true rfl)
  rw [lg_entry_eq]
  generalize (lg_sl ([.ref o0, .int p0, .int p1]) ++ List.replicate (4 - (lg_sl ([.ref o0, .int p0, .int p1])).length) Slot.unset).toArray = ls at hl ⊢
  have hl : lv_has ls 4 [(0, .ref o0), (1, .int p0), (2, .int p1)] := hl
  refine lv_iload_n hx hb dX11_square_0 rfl (lv_at hl 1 rfl) ?_
  have hFc := gA_free hG hA hS
  refine vx_callv (vx_runS (As := [.int p0]) (rest := []) ⟨hx, hb, hml, hown, hts⟩ (c_needSquare l hlt dC dI kA adK adV G s.heap nC nS p0 hT (by omega) (by omega)) (va_cwS 1 hts (goodIn_app (goodIn_r _ [8, 9, 5] rfl (by decide +kernel)) (goodIn_ca (goodIn_r _ [1, 2, 3, 4, 5, 6, 7] rfl (by decide +kernel)) (bs2_in _ _))) rfl rfl rfl (by decide +kernel) ⟨(Nat.le_of_ble_eq_true rfl), (Nat.le_of_ble_eq_true rfl)⟩) ⟨fun a U g mk q => by obtain ⟨q0, q1, qK, qE⟩ := q; exact ⟨q0, q1, va_K.moved (u := U) (U := U.calling g mk a) (Vm.Alike.refl U.vm) qK, EVC.blind g mk a qE⟩, fun U hU hW => ⟨rfl, hU, va_K.moved hW.alike hK, hE.call hS hFc hU hW⟩⟩ rfl rfl hl.1 rfl (lv_room (Nat.le_of_ble_eq_true rfl)) dX11_square_1 ⟨(Nat.le_of_ble_eq_true rfl), (Nat.le_of_ble_eq_true rfl)⟩) hS (fun q _ h => hFc q h) hFc (fun q _ h => hFc q h) (fun E ce q9 u t H locs ht hvm _ hw2 _ _ hS hce hcv hcl => ?_) (fun u t H locs ht hvm hw2 hB _ _ hS => ?_)
  · obtain ⟨hw2, hTx, hFx⟩ := hw2; rw [ht] at hTx hFx
    exact vx_out (fun x h => (hnt x h).elim) hlocks hce hcv hcl (fun t2 h2 hW => ⟨(), trivial, ⟨((fun h9 => (Or.inl h9)) hw2), by rw [h2]; exact hTx, by rw [h2]; exact hF.more hFx (by decide)⟩, hS.F h2⟩) hS.2.2 (by decide) (by decide)
  · obtain ⟨hT, hF1⟩ := hB
    rw [ht] at hT hF1
    have hF := hF.more hF1 (by decide)
    try dsimp only at hw2
    have hf3 := hw2
    refine lv_aload_n hx hb dX11_square_4 rfl (lv_at hl 0 rfl) ?_
    refine tw_get hx hb hts bF2_X11 hown hK hT hr_o0 shc_14 rfl 1 (by decide) (ht_at2 hts 9 rfl) (fun _ h9 => h9) dX11_square_5 (fun v9 m4 h9 => ?_)
    obtain ⟨b5, rfl, hg6⟩ := h9 _ rfl
    refine tw_getN hx hb hts bF2_X3 hown hK hT hg6 shc_6 rfl 1 (by decide) (hE.nw 1 rfl) (fun _ h9 => h9) dX11_square_8 (fun v9 m7 h9 => ?_)
    obtain ⟨b8, rfl, hg9⟩ := h9 _ rfl
    refine lv_astore_n (lv' := [(3, .ref b8), (0, .ref o0), (1, .int p0), (2, .int p1)]) hx hb dX11_square_11 rfl hl (by decide) rfl (fun ls hl => ?_)
    refine lv_iload_n hx hb dX11_square_12 rfl (lv_at hl 3 rfl) ?_
    by_cases hs10 : p1 = 0
    · subst hs10
      refine lv_tableIn (x := 0) (off := 59) (tgt := 72) hx hb dX11_square_13 (by decide) (by decide) (by decide) (by decide) ?_
      refine lv_aload_n hx hb dX11_square_72 rfl (lv_at hl 0 rfl) ?_
      refine tw_getN hx hb hts bF2_X2 hown hK hT hg9 shc_5 rfl 0 (by decide) (hE.nw 2 rfl) (fun _ h9 => h9) dX11_square_73 (fun v9 m11 h9 => ?_)
      obtain ⟨b12, rfl, hg13⟩ := h9 _ rfl
      refine lv_iload_n hx hb dX11_square_76 rfl (lv_at hl 2 rfl) ?_
      refine tw_zald (i := p0) hx hb hK hT hg13 shc_25 rfl (vin_t (a := p0.toInt) rfl (by omega) (by omega)) dX11_square_77 (fun v9 m14 h9 => ?_)
      obtain ⟨x15, rfl, gx15, kx15⟩ := h9
      refine lv_if_eq (tgt := 85) hx hb dX11_square_78 (by decide) (fun c16 => ?_) (fun c16 => ?_)
      · have t17 : x15.toInt = 0 := ti_eq c16 rfl (by decide)
        refine lv_iconst (v := 0) hx hb dX11_square_85 (by decide) ?_
        refine W.widen (k := 2) (n := 12) (by decide) (by decide) ?_
        exact vx_ret (W.iret (v := 0) hx hb hr (fun t ht hW => ⟨⟨0, (), rfl, (by exact trivial), by (try dsimp only); rw [ht]; exact ⟨hT, hF⟩⟩, hS.F ht⟩) hS.2.2 dX11_square_86)
      · have t18 : x15.toInt ≠ 0 := ti_ne c16 rfl (by decide)
        refine lv_iconst (v := 1) hx hb dX11_square_81 (by decide) ?_
        refine lv_goto (tgt := 86) hx hb dX11_square_82 (by decide) ?_
        refine W.widen (k := 2) (n := 12) (by decide) (by decide) ?_
        exact vx_ret (W.iret (v := 1) hx hb hr (fun t ht hW => ⟨⟨1, (), rfl, (by exact trivial), by (try dsimp only); rw [ht]; exact ⟨hT, hF⟩⟩, hS.F ht⟩) hS.2.2 dX11_square_86)
    by_cases hs19 : p1 = 1
    · subst hs19
      refine lv_tableIn (x := 1) (off := 74) (tgt := 87) hx hb dX11_square_13 (by decide) (by decide) (by decide) (by decide) ?_
      refine lv_aload_n hx hb dX11_square_87 rfl (lv_at hl 0 rfl) ?_
      refine tw_getN hx hb hts bF2_X2 hown hK hT hg9 shc_5 rfl 1 (by decide) (hE.nw 16 rfl) (fun _ h9 => h9) dX11_square_88 (fun v9 m20 h9 => ?_)
      obtain ⟨b21, rfl, hg22⟩ := h9 _ rfl
      refine lv_iload_n hx hb dX11_square_91 rfl (lv_at hl 2 rfl) ?_
      refine tw_iald (i := p0) hx hb hK hT hg22 shc_26 rfl (vin_t (a := p0.toInt) rfl (by omega) (by omega)) dX11_square_92 (fun v9 m23 h9 => ?_)
      obtain ⟨x24, rfl, gx24, kx24⟩ := h9
      refine W.widen (k := 2) (n := 12) (by decide) (by decide) ?_
      exact vx_ret (W.iret (v := x24) hx hb hr (fun t ht hW => ⟨⟨x24, (), rfl, (by exact trivial), by (try dsimp only); rw [ht]; exact ⟨hT, hF⟩⟩, hS.F ht⟩) hS.2.2 dX11_square_93)
    by_cases hs25 : p1 = 2
    · subst hs25
      refine lv_tableIn (x := 2) (off := 81) (tgt := 94) hx hb dX11_square_13 (by decide) (by decide) (by decide) (by decide) ?_
      refine lv_aload_n hx hb dX11_square_94 rfl (lv_at hl 0 rfl) ?_
      refine tw_getN hx hb hts bF2_X2 hown hK hT hg9 shc_5 rfl 2 (by decide) (hE.nw 17 rfl) (fun _ h9 => h9) dX11_square_95 (fun v9 m26 h9 => ?_)
      obtain ⟨b27, rfl, hg28⟩ := h9 _ rfl
      refine lv_iload_n hx hb dX11_square_98 rfl (lv_at hl 2 rfl) ?_
      refine tw_iald (i := p0) hx hb hK hT hg28 shc_27 rfl (vin_t (a := p0.toInt) rfl (by omega) (by omega)) dX11_square_99 (fun v9 m29 h9 => ?_)
      obtain ⟨x30, rfl, gx30, kx30⟩ := h9
      refine W.widen (k := 2) (n := 12) (by decide) (by decide) ?_
      exact vx_ret (W.iret (v := x30) hx hb hr (fun t ht hW => ⟨⟨x30, (), rfl, (by exact trivial), by (try dsimp only); rw [ht]; exact ⟨hT, hF⟩⟩, hS.F ht⟩) hS.2.2 dX11_square_100)
    by_cases hs31 : p1 = 3
    · subst hs31
      refine lv_tableIn (x := 3) (off := 88) (tgt := 101) hx hb dX11_square_13 (by decide) (by decide) (by decide) (by decide) ?_
      refine lv_aload_n hx hb dX11_square_101 rfl (lv_at hl 0 rfl) ?_
      refine tw_getN hx hb hts bF2_X2 hown hK hT hg9 shc_5 rfl 3 (by decide) (hE.nw 18 rfl) (fun _ h9 => h9) dX11_square_102 (fun v9 m32 h9 => ?_)
      obtain ⟨b33, rfl, hg34⟩ := h9 _ rfl
      refine lv_iload_n hx hb dX11_square_105 rfl (lv_at hl 2 rfl) ?_
      refine tw_iald (i := p0) hx hb hK hT hg34 shc_28 rfl (vin_t (a := p0.toInt) rfl (by omega) (by omega)) dX11_square_106 (fun v9 m35 h9 => ?_)
      obtain ⟨x36, rfl, gx36, kx36⟩ := h9
      refine W.widen (k := 2) (n := 12) (by decide) (by decide) ?_
      exact vx_ret (W.iret (v := x36) hx hb hr (fun t ht hW => ⟨⟨x36, (), rfl, (by exact trivial), by (try dsimp only); rw [ht]; exact ⟨hT, hF⟩⟩, hS.F ht⟩) hS.2.2 dX11_square_107)
    by_cases hs37 : p1 = 4
    · subst hs37
      refine lv_tableIn (x := 4) (off := 95) (tgt := 108) hx hb dX11_square_13 (by decide) (by decide) (by decide) (by decide) ?_
      refine lv_aload_n hx hb dX11_square_108 rfl (lv_at hl 0 rfl) ?_
      refine tw_getN hx hb hts bF2_X2 hown hK hT hg9 shc_5 rfl 4 (by decide) (hE.nw 19 rfl) (fun _ h9 => h9) dX11_square_109 (fun v9 m38 h9 => ?_)
      obtain ⟨b39, rfl, hg40⟩ := h9 _ rfl
      refine lv_iload_n hx hb dX11_square_112 rfl (lv_at hl 2 rfl) ?_
      refine tw_iald (i := p0) hx hb hK hT hg40 shc_29 rfl (vin_t (a := p0.toInt) rfl (by omega) (by omega)) dX11_square_113 (fun v9 m41 h9 => ?_)
      obtain ⟨x42, rfl, gx42, kx42⟩ := h9
      refine W.widen (k := 2) (n := 12) (by decide) (by decide) ?_
      exact vx_ret (W.iret (v := x42) hx hb hr (fun t ht hW => ⟨⟨x42, (), rfl, (by exact trivial), by (try dsimp only); rw [ht]; exact ⟨hT, hF⟩⟩, hS.F ht⟩) hS.2.2 dX11_square_114)
    by_cases hs43 : p1 = 5
    · subst hs43
      refine lv_tableIn (x := 5) (off := 102) (tgt := 115) hx hb dX11_square_13 (by decide) (by decide) (by decide) (by decide) ?_
      refine lv_aload_n hx hb dX11_square_115 rfl (lv_at hl 0 rfl) ?_
      refine tw_getN hx hb hts bF2_X2 hown hK hT hg9 shc_5 rfl 5 (by decide) (hE.nw 20 rfl) (fun _ h9 => h9) dX11_square_116 (fun v9 m44 h9 => ?_)
      obtain ⟨b45, rfl, hg46⟩ := h9 _ rfl
      refine lv_iload_n hx hb dX11_square_119 rfl (lv_at hl 2 rfl) ?_
      refine tw_iald (i := p0) hx hb hK hT hg46 shc_30 rfl (vin_t (a := p0.toInt) rfl (by omega) (by omega)) dX11_square_120 (fun v9 m47 h9 => ?_)
      obtain ⟨x48, rfl, gx48, kx48⟩ := h9
      refine W.widen (k := 2) (n := 12) (by decide) (by decide) ?_
      exact vx_ret (W.iret (v := x48) hx hb hr (fun t ht hW => ⟨⟨x48, (), rfl, (by exact trivial), by (try dsimp only); rw [ht]; exact ⟨hT, hF⟩⟩, hS.F ht⟩) hS.2.2 dX11_square_121)
    by_cases hs49 : p1 = 6
    · subst hs49
      refine lv_tableIn (x := 6) (off := 109) (tgt := 122) hx hb dX11_square_13 (by decide) (by decide) (by decide) (by decide) ?_
      refine lv_aload_n hx hb dX11_square_122 rfl (lv_at hl 1 rfl) ?_
      refine tw_getM (v := .ref b5) hx hb hts bF2_X11 hown hK hT hr_o0 shc_14 rfl 1 (by decide) (ht_at2 hts 9 rfl) (fun _ h9 => h9) m4 dX11_square_123 ?_
      refine lv_iload_n hx hb dX11_square_126 rfl (lv_at hl 2 rfl) ?_
      have hFc := gA_free hG hA hS
      refine va_calli (va_runV (As := [.int p0]) (rest := []) ⟨hx, hb, hml, hown, hts⟩ (c_levelNow l dC dI kA adK adV G H nC nS b5 p0 hT hg6 (by have q8 := ti_all p0; omega) (by omega) (by omega)) (cwV 1 hts (goodIn_app (goodIn_r _ [36, 37, 38, 39] rfl (by decide +kernel)) (goodIn_ca (goodIn_r _ [11, 12, 13, 14, 15, 16, 17, 18, 19, 20, 21, 22, 23, 24, 25, 26, 27, 28, 29, 30, 31, 32, 33, 34, 35] rfl (by decide +kernel)) (bs2_in _ _))) rfl rfl rfl (by decide +kernel) ⟨(Nat.le_of_ble_eq_true rfl), (Nat.le_of_ble_eq_true rfl)⟩) ⟨fun a U g mk q => by obtain ⟨q0, q1, qK, qE⟩ := q; exact ⟨q0, q1, va_K.moved (u := U) (U := U.calling g mk a) (Vm.Alike.refl U.vm) qK, EVC.blind g mk a qE⟩, gH_rc hK hT hg6 shc_6 rfl, fun U hU hW => ⟨rfl, hU, va_K.moved hW.alike hK, hE.call hS hFc hU hW⟩⟩ rfl rfl hl.1 rfl (lv_room (Nat.le_of_ble_eq_true rfl)) dX11_square_127 ⟨(Nat.le_of_ble_eq_true rfl), (Nat.le_of_ble_eq_true rfl)⟩) hS (fun q _ h => hFc q h) hFc (fun r50 u t H locs ht hvm hw51 hB _ _ hS => ?_)
      obtain ⟨hT, hF1⟩ := hB
      rw [ht] at hT hF1
      have hF := hF.more hF1 (by decide)
      try dsimp only at hw51
      refine W.widen (k := 2) (n := 12) (by decide) (by decide) ?_
      exact vx_ret (W.iret (v := r50) hx hb hr (fun t ht hW => ⟨⟨r50, (), rfl, (by exact trivial), by (try dsimp only); rw [ht]; exact ⟨hT, hF⟩⟩, hS.F ht⟩) hS.2.2 dX11_square_130)
    by_cases hs54 : p1 = 7
    · subst hs54
      refine lv_tableIn (x := 7) (off := 118) (tgt := 131) hx hb dX11_square_13 (by decide) (by decide) (by decide) (by decide) ?_
      refine lv_aload_n hx hb dX11_square_131 rfl (lv_at hl 0 rfl) ?_
      refine tw_getN hx hb hts bF2_X2 hown hK hT hg9 shc_5 rfl 6 (by decide) (hE.nw 21 rfl) (fun _ h9 => h9) dX11_square_132 (fun v9 m55 h9 => ?_)
      obtain ⟨b56, rfl, hg57⟩ := h9 _ rfl
      refine lv_iload_n hx hb dX11_square_135 rfl (lv_at hl 2 rfl) ?_
      refine tw_iald (i := p0) hx hb hK hT hg57 shc_31 rfl (vin_t (a := p0.toInt) rfl (by omega) (by omega)) dX11_square_136 (fun v9 m58 h9 => ?_)
      obtain ⟨x59, rfl, gx59, kx59⟩ := h9
      refine W.widen (k := 2) (n := 12) (by decide) (by decide) ?_
      exact vx_ret (W.iret (v := x59) hx hb hr (fun t ht hW => ⟨⟨x59, (), rfl, (by exact trivial), by (try dsimp only); rw [ht]; exact ⟨hT, hF⟩⟩, hS.F ht⟩) hS.2.2 dX11_square_137)
    by_cases hs60 : p1 = 8
    · subst hs60
      refine lv_tableIn (x := 8) (off := 125) (tgt := 138) hx hb dX11_square_13 (by decide) (by decide) (by decide) (by decide) ?_
      refine lv_aload_n hx hb dX11_square_138 rfl (lv_at hl 0 rfl) ?_
      refine tw_getN hx hb hts bF2_X2 hown hK hT hg9 shc_5 rfl 7 (by decide) (hE.nw 22 rfl) (fun _ h9 => h9) dX11_square_139 (fun v9 m61 h9 => ?_)
      obtain ⟨b62, rfl, hg63⟩ := h9 _ rfl
      refine lv_iload_n hx hb dX11_square_142 rfl (lv_at hl 2 rfl) ?_
      refine tw_iald (i := p0) hx hb hK hT hg63 shc_32 rfl (vin_t (a := p0.toInt) rfl (by omega) (by omega)) dX11_square_143 (fun v9 m64 h9 => ?_)
      obtain ⟨x65, rfl, gx65, kx65⟩ := h9
      refine W.widen (k := 2) (n := 12) (by decide) (by decide) ?_
      exact vx_ret (W.iret (v := x65) hx hb hr (fun t ht hW => ⟨⟨x65, (), rfl, (by exact trivial), by (try dsimp only); rw [ht]; exact ⟨hT, hF⟩⟩, hS.F ht⟩) hS.2.2 dX11_square_144)
    by_cases hs66 : p1 = 9
    · subst hs66
      refine lv_tableIn (x := 9) (off := 132) (tgt := 145) hx hb dX11_square_13 (by decide) (by decide) (by decide) (by decide) ?_
      refine lv_aload_n hx hb dX11_square_145 rfl (lv_at hl 1 rfl) ?_
      refine tw_get hx hb hts bF2_X11 hown hK hT hr_o0 shc_14 rfl 3 (by decide) (ht_at2 hts 39 rfl) (fun _ h9 => h9) dX11_square_146 (fun v9 m67 h9 => ?_)
      obtain ⟨b68, rfl, hg69⟩ := h9 _ rfl
      refine tw_getN hx hb hts bF2_X0 hown hK hT hg69 shc_3 rfl 1 (by decide) (hE.nw 23 rfl) (fun _ h9 => h9) dX11_square_149 (fun v9 m70 h9 => ?_)
      obtain ⟨b71, rfl, hg72⟩ := h9 _ rfl
      refine lv_iload_n hx hb dX11_square_152 rfl (lv_at hl 2 rfl) ?_
      refine tw_iald (i := p0) hx hb hK hT hg72 shc_52 rfl (vin_t (a := p0.toInt) rfl (by omega) (by omega)) dX11_square_153 (fun v9 m73 h9 => ?_)
      obtain ⟨x74, rfl, gx74, kx74⟩ := h9
      refine W.widen (k := 2) (n := 12) (by decide) (by decide) ?_
      exact vx_ret (W.iret (v := x74) hx hb hr (fun t ht hW => ⟨⟨x74, (), rfl, (by exact trivial), by (try dsimp only); rw [ht]; exact ⟨hT, hF⟩⟩, hS.F ht⟩) hS.2.2 dX11_square_154)
    by_cases hs75 : p1 = 10
    · subst hs75
      refine lv_tableIn (x := 10) (off := 142) (tgt := 155) hx hb dX11_square_13 (by decide) (by decide) (by decide) (by decide) ?_
      refine lv_aload_n hx hb dX11_square_155 rfl (lv_at hl 1 rfl) ?_
      refine tw_getM (v := .ref b5) hx hb hts bF2_X11 hown hK hT hr_o0 shc_14 rfl 1 (by decide) (ht_at2 hts 9 rfl) (fun _ h9 => h9) m4 dX11_square_156 ?_
      refine lv_iload_n hx hb dX11_square_159 rfl (lv_at hl 2 rfl) ?_
      have hFc := gA_free hG hA hS
      refine va_calli (va_runV (As := [.int p0]) (rest := []) ⟨hx, hb, hml, hown, hts⟩ (c_workOn l dC dI kA adK adV G H nC nS b5 p0 hT hg6 (by omega) (by omega)) (cwV 1 hts (goodIn_app (goodIn_r _ [44, 45, 46, 39] rfl (by decide +kernel)) (goodIn_ca (goodIn_r _ [41, 42, 43] rfl (by decide +kernel)) (bs2_in _ _))) rfl rfl rfl (by decide +kernel) ⟨(Nat.le_of_ble_eq_true rfl), (Nat.le_of_ble_eq_true rfl)⟩) ⟨fun a U g mk q => by obtain ⟨q0, q1, qK, qE⟩ := q; exact ⟨q0, q1, va_K.moved (u := U) (U := U.calling g mk a) (Vm.Alike.refl U.vm) qK, EVC.blind g mk a qE⟩, gH_rc hK hT hg6 shc_6 rfl, fun U hU hW => ⟨rfl, hU, va_K.moved hW.alike hK, hE.call hS hFc hU hW⟩⟩ rfl rfl hl.1 rfl (lv_room (Nat.le_of_ble_eq_true rfl)) dX11_square_160 ⟨(Nat.le_of_ble_eq_true rfl), (Nat.le_of_ble_eq_true rfl)⟩) hS (fun q _ h => hFc q h) hFc (fun r76 u t H locs ht hvm hw77 hB _ _ hS => ?_)
      obtain ⟨hT, hF1⟩ := hB
      rw [ht] at hT hF1
      have hF := hF.more hF1 (by decide)
      try dsimp only at hw77
      have h80 := hw77
      refine W.widen (k := 2) (n := 12) (by decide) (by decide) ?_
      exact vx_ret (W.iret (v := r76) hx hb hr (fun t ht hW => ⟨⟨r76, (), rfl, (by exact trivial), by (try dsimp only); rw [ht]; exact ⟨hT, hF⟩⟩, hS.F ht⟩) hS.2.2 dX11_square_163)
    have ho81 : p1.toInt < 0 ∨ 10 < p1.toInt := by
      by_cases hz9 : p1.toInt < 0
      · exact Or.inl hz9
      have u9 : (0 : Int) ≤ p1.toInt := Int.not_lt.mp hz9
      have u9 := ll_nx (k1 := 1) u9 hs10 (by decide) (by decide)
      have u9 := ll_nx (k1 := 2) u9 hs19 (by decide) (by decide)
      have u9 := ll_nx (k1 := 3) u9 hs25 (by decide) (by decide)
      have u9 := ll_nx (k1 := 4) u9 hs31 (by decide) (by decide)
      have u9 := ll_nx (k1 := 5) u9 hs37 (by decide) (by decide)
      have u9 := ll_nx (k1 := 6) u9 hs43 (by decide) (by decide)
      have u9 := ll_nx (k1 := 7) u9 hs49 (by decide) (by decide)
      have u9 := ll_nx (k1 := 8) u9 hs54 (by decide) (by decide)
      have u9 := ll_nx (k1 := 9) u9 hs60 (by decide) (by decide)
      have u9 := ll_nx (k1 := 10) u9 hs66 (by decide) (by decide)
      have u9 := ll_nx (k1 := 11) u9 hs75 (by decide) (by decide)
      exact Or.inr (Int.lt_of_lt_of_le (by decide) u9)
    refine lv_tableOut (tgt := 164) hx hb dX11_square_13 ho81 (by decide) ?_
    obtain ⟨sa82, hsa82⟩ := hE.str 3 rfl
    exact vy_throwSW rxN_0 rxN_1 rxN_2 rxN_5 (names := ["java/lang/RuntimeException", "java/lang/Exception"]) hx hb hlt hown (by decide +kernel) (by decide +kernel) (ht_at2 hts 46 rfl) (ht_at2 hts 47 rfl) hsa82 (bX2_at2 hts hE) bX_ok2_134 hE.1.1.2.2.1 hE.1.1.2.2.2 hS (by rw [hml]; exact hl.1) dX11_square_164 dX11_square_167 dX11_square_168 dX11_square_171 dX11_square_174 (fun x h => (hnt x h).elim) (by decide) (Nat.le_of_ble_eq_true rfl) (Nat.le_of_ble_eq_true rfl) (Nat.le_of_ble_eq_true rfl) hlocks (fun t hW hz hq => ⟨(), trivial, ⟨(Or.inr rfl), hT.ext hq, hF.ext hT hq⟩, Nat.le_trans hS.1 hz, fun q h1 h2 => (hq q (Nat.lt_of_lt_of_le h1 hS.1)).trans (hS.2.1 q h1 h2)⟩) hS.2.2 (by decide) (by decide)
def w_c_found : List Cond := .code yX11_found cX11_found 1 (some .int) :: (HAppend.hAppend (α := List Cond) (β := List Cond) (γ := List Cond) [.fieldLink RX11 30 "SeaLand" "board" "LSeaLand$Board;", .fieldLink RX11 9 "SeaLand" "tape" "[I", .fieldLink RX11 47 "SeaLand" "taped" "I", .code yX4_read cX4_read 4 (some .int), .methodLink RX4 46 Lib.Math.min.name, .static Lib.Math.min.name, .initialized "java/lang/Math", .code Lib.Math.min.name Lib.Math.min.code 2 (some .int), .code yX4_scan cX4_scan 6 none, .code yX4_thingEnd cX4_thingEnd 6 (some .int), .code yX4_isLetter cX4_isLetter 1 (some .boolean), .methodLink RX4 81 yX4_isLetter, .static yX4_isLetter, .initialized RX4, .code yX4_isDigit cX4_isDigit 1 (some .boolean), .methodLink RX4 84 yX4_isDigit, .static yX4_isDigit, .methodLink RX4 74 yX4_thingEnd, .static yX4_thingEnd, .fieldLink RX4 11 "SeaLand$Law" "things" "[I", .code yX4_thingAt cX4_thingAt 3 (some .int), .code yX4_signThing cX4_signThing 1 (some .int), .methodLink RX4 93 yX4_signThing, .static yX4_signThing, .code yX4_numberThing cX4_numberThing 5 (some .int), .methodLink RX4 90 yX4_numberThing, .static yX4_numberThing, .code yX4_wordThing cX4_wordThing 4 (some .int), .code yX4_factThing cX4_factThing 3 (some .int), .code yX4_wordIs cX4_wordIs 5 (some .boolean), .code yJ0_length_8abf5 cJ0_length_8abf5 1 (some .int), .fieldLink RJ0 9 "java/lang/String" "value" "[B", .code yJ0_coder_7d493 cJ0_coder_7d493 1 (some .byte), .fieldLink RJ0 38 "java/lang/String" "COMPACT_STRINGS" "Z", .fieldLink RJ0 15 "java/lang/String" "coder" "B", .methodLink RJ0 335 yJ0_coder_7d493, .instanceMethod yJ0_coder_7d493, .selects RJ0 yJ0_coder_7d493 yJ0_coder_7d493, .initialized RJ0, .methodLink RX4 155 yJ0_length_8abf5, .instanceMethod yJ0_length_8abf5, .selects RJ0 yJ0_length_8abf5 yJ0_length_8abf5, .code yJ0_charAt_5068e cJ0_charAt_5068e 2 (some .char), .code yJ0_isLatin1_aae02 cJ0_isLatin1_aae02 1 (some .boolean), .methodLink RJ0 492 yJ0_isLatin1_aae02, .instanceMethod yJ0_isLatin1_aae02, .selects RJ0 yJ0_isLatin1_aae02 yJ0_isLatin1_aae02, .code yJ1_charAt_3b067 cJ1_charAt_3b067 2 (some .char), .code yJ0_checkIndex_df160 cJ0_checkIndex_df160 2 none, .fieldLink RJ0 1053 "jdk/internal/util/Preconditions" "SIOOBE_FORMATTER" "Ljava/util/function/BiFunction;", .code yJ3_checkIndex_8e157 cJ3_checkIndex_8e157 3 (some .int), .methodLink RJ0 1059 yJ3_checkIndex_8e157, .static yJ3_checkIndex_8e157, .initialized RJ3, .methodLink RJ1 9 yJ0_checkIndex_df160, .static yJ0_checkIndex_df160, .methodLink RJ0 495 yJ1_charAt_3b067, .static yJ1_charAt_3b067, .initialized RJ1, .methodLink RX4 161 yJ0_charAt_5068e, .instanceMethod yJ0_charAt_5068e, .selects RJ0 yJ0_charAt_5068e yJ0_charAt_5068e, .methodLink RX4 105 yX4_wordIs, .static yX4_wordIs, .methodLink RX4 97 yX4_factThing, .static yX4_factThing, .code yX4_lineThing cX4_lineThing 4 (some .int), .methodLink RX4 100 yX4_lineThing, .static yX4_lineThing, .methodLink RX4 87 yX4_wordThing, .static yX4_wordThing, .methodLink RX4 78 yX4_thingAt, .static yX4_thingAt, .fieldLink RX4 15 "SeaLand$Law" "begins" "[I", .methodLink RX4 52 yX4_scan, .instanceMethod yX4_scan, .selects RX4 yX4_scan yX4_scan, .fieldLink RX4 56 "SeaLand$Law" "at" "I", .fieldLink RX4 60 "SeaLand$Law" "lines" "I", .fieldLink RX4 63 "SeaLand$Law" "stepped" "I", .code yX4_readLine cX4_readLine 3 (some .boolean), .code yX4_lineKind cX4_lineKind 1 (some .int), .methodLink RX4 165 yX4_lineKind, .static yX4_lineKind, .fieldLink RX4 18 "SeaLand$Law" "kinds" "[I", .fieldLink RX4 33 "SeaLand$Law" "stepFrom" "[I", .code yX4_take cX4_take 2 (some .boolean), .methodLink RX4 70 yX4_take, .instanceMethod yX4_take, .selects RX4 yX4_take yX4_take, .code yX4_readAny cX4_readAny 4 (some .boolean), .code yX4_readAll cX4_readAll 4 (some .boolean), .code yX4_readAtom cX4_readAtom 4 (some .boolean), .code yX4_readComparison cX4_readComparison 3 (some .boolean), .code yX4_readSum cX4_readSum 3 (some .boolean), .code yX4_readPart cX4_readPart 2 (some .boolean), .code yX4_addStep cX4_addStep 2 none, .fieldLink RX4 39 "SeaLand$Law" "steps" "[I", .methodLink RX4 179 yX4_addStep, .instanceMethod yX4_addStep, .selects RX4 yX4_addStep yX4_addStep, .methodLink RX4 192 yX4_readPart, .instanceMethod yX4_readPart, .selects RX4 yX4_readPart yX4_readPart, .methodLink RX4 189 yX4_readSum, .instanceMethod yX4_readSum, .selects RX4 yX4_readSum yX4_readSum, .methodLink RX4 186 yX4_readComparison, .instanceMethod yX4_readComparison, .selects RX4 yX4_readComparison yX4_readComparison, .methodLink RX4 183 yX4_readAtom, .instanceMethod yX4_readAtom, .selects RX4 yX4_readAtom yX4_readAtom, .methodLink RX4 176 yX4_readAll, .instanceMethod yX4_readAll, .selects RX4 yX4_readAll yX4_readAll, .methodLink RX4 173 yX4_readAny, .instanceMethod yX4_readAny, .selects RX4 yX4_readAny yX4_readAny, .fieldLink RX4 36 "SeaLand$Law" "stepTo" "[I", .fieldLink RX4 21 "SeaLand$Law" "firsts" "[I", .code yX4_takeNumber cX4_takeNumber 4 (some .boolean), .methodLink RX4 168 yX4_takeNumber, .instanceMethod yX4_takeNumber, .selects RX4 yX4_takeNumber yX4_takeNumber, .fieldLink RX4 24 "SeaLand$Law" "seconds" "[I", .fieldLink RX4 27 "SeaLand$Law" "froms" "[I", .fieldLink RX4 30 "SeaLand$Law" "tos" "[I", .constant RX4 172 99999, .methodLink RX4 66 yX4_readLine, .instanceMethod yX4_readLine, .selects RX4 yX4_readLine yX4_readLine, .methodLink RX11 266 yX4_read, .instanceMethod yX4_read, .selects RX4 yX4_read yX4_read, .code yX11_needNumbers cX11_needNumbers 1 none, .classLink RX11 547 "java/lang/IllegalArgumentException", .initialized "java/lang/IllegalArgumentException", .methodLink RX11 62 yX11_needNumbers, .static yX11_needNumbers, .initialized RX11, .code yX0_foundSpare cX0_foundSpare 2 (some .int), .fieldLink RX0 41 "SeaLand$Board" "force" "LSeaLand$Law;", .fieldLink RX0 48 "SeaLand$Board" "spare" "LSeaLand$Law;", .methodLink RX11 280 yX0_foundSpare, .instanceMethod yX0_foundSpare, .selects RX0 yX0_foundSpare yX0_foundSpare, .initialized RX0, .classLink RX11 69 "java/lang/IllegalStateException", .initialized "java/lang/IllegalStateException"] bs2)
set_option maxHeartbeats 4000000 in
set_option maxRecDepth 100000 in
theorem c_found (l : Launch) (hlt : l.stackTraces = false) (dC : Nat → ClassId) (dI : Nat → Nat → Nat) (kA : Nat → ClassId) (adK adV : Nat → Nat) (G : gT) (H0 : Heap) (nC nS : Int) (o0 : Nat)  (hT : gH (dC, dI) kA (SHc nC nS) G H0) (hr_o0 : G o0 = some 14) (hgC : 0 ≤ nC ∧ nC ≤ 40) (hgS : 0 ≤ nS ∧ nS ≤ 60) : vx_Met l yX11_found w_c_found ({ frames := 27, cells := 1, slots := 6, locals := 614 }) (va_Pc [.ref o0] (fun U => U.heap = H0 ∧ va_K (dC, dI) vwCl (tyl kA) U ∧ EVC adK adV (gA G H0.size) U U.heap)) (va_Qi (fun (r : Int32) (u : Unit) => (0 ≤ r.toInt ∧ r.toInt ≤ 20)) (fun (_ : Unit) (t : State) => gH (dC, dI) kA (SHc nC nS) G t.heap ∧ gF (dC, dI) SKc G ([(3, 7), (3, 9), (3, 10), (7, 11), (7, 12), (7, 13), (14, 7), (40, 0), (41, 0), (42, 0), (43, 0), (44, 0), (45, 0), (46, 0), (47, 0), (48, 0), (49, 0)] : List (Nat × Nat)) H0 t.heap) (gA G H0.size)) (vx_X (fun _ : Unit => True) (fun E _ t => (E = "java/lang/IllegalArgumentException" ∨ E = "java/lang/IllegalStateException") ∧ gH (dC, dI) kA (SHc nC nS) G t.heap ∧ gF (dC, dI) SKc G ([(3, 7), (3, 9), (3, 10), (7, 11), (7, 12), (7, 13), (14, 7), (40, 0), (41, 0), (42, 0), (43, 0), (44, 0), (45, 0), (46, 0), (47, 0), (48, 0), (49, 0)] : List (Nat × Nat)) H0 t.heap) (gA G H0.size)) 1 6 (gA G H0.size) := by
  refine vx_ofW (cc := cX11_found) (maxL := 1) (ret := (some .int)) (by decide) rfl ?_
  intro p e s m args below meth c s₁ B hml hnt hv
  obtain ⟨rfl, hH0, hK, hE⟩ := hv
  have hx := B.exec
  have hb := B.bytes
  have hr := B.returns
  have hts := atoms_spec (ws := w_c_found) B.pre
  have hown : s.vm.findClass RX11 = some m.cls := findClass_of_methodNamed B.named
  have hlocks := B.notSynchronized
  subst hH0
  generalize hAe : gA G s.heap.size = A at hE ⊢
  have hA : ∀ q : Nat, s.heap.size ≤ q → A q := fun q h => by rw [← hAe]; exact Or.inr h
  have hG := gA_of hAe
  have hS : va_S A s.heap s.heap [] := va_S.rf
  have hF : gF (dC, dI) SKc G ([(3, 7), (3, 9), (3, 10), (7, 11), (7, 12), (7, 13), (14, 7), (40, 0), (41, 0), (42, 0), (43, 0), (44, 0), (45, 0), (46, 0), (47, 0), (48, 0), (49, 0)] : List (Nat × Nat)) s.heap s.heap := gF.rf
  have hl := lv_entry ([.ref o0]) (n := 1) (Nat.le_of_ble_eq_true rfl)
  rw [lg_entry_eq]
  generalize (lg_sl ([.ref o0]) ++ List.replicate (1 - (lg_sl ([.ref o0])).length) Slot.unset).toArray = ls at hl ⊢
  have hl : lv_has ls 1 [(0, .ref o0)] := hl
  refine lv_aload_n hx hb dX11_found_0 rfl (lv_at hl 0 rfl) ?_
  refine tw_get hx hb hts bF2_X11 hown hK hT hr_o0 shc_14 rfl 3 (by decide) (ht_at2 hts 0 rfl) (fun _ h9 => h9) dX11_found_1 (fun v9 m1 h9 => ?_)
  obtain ⟨b2, rfl, hg3⟩ := h9 _ rfl
  refine lv_aload_n hx hb dX11_found_4 rfl (lv_at hl 0 rfl) ?_
  refine tw_getM (v := .ref b2) hx hb hts bF2_X11 hown hK hT hr_o0 shc_14 rfl 3 (by decide) (ht_at2 hts 0 rfl) (fun _ h9 => h9) m1 dX11_found_5 ?_
  refine tw_getN hx hb hts bF2_X0 hown hK hT hg3 shc_3 rfl 9 (by decide) (hE.nw 24 rfl) (fun _ h9 => h9) dX11_found_8 (fun v9 m4 h9 => ?_)
  obtain ⟨b5, rfl, hg6⟩ := h9 _ rfl
  refine lv_aload_n hx hb dX11_found_11 rfl (lv_at hl 0 rfl) ?_
  refine tw_get hx hb hts bF2_X11 hown hK hT hr_o0 shc_14 rfl 0 (by decide) (ht_at2 hts 1 rfl) (fun _ h9 => h9) dX11_found_12 (fun v9 m7 h9 => ?_)
  obtain ⟨b8, rfl, hg9⟩ := h9 _ rfl
  refine lv_aload_n hx hb dX11_found_15 rfl (lv_at hl 0 rfl) ?_
  refine tw_get hx hb hts bF2_X11 hown hK hT hr_o0 shc_14 rfl 7 (by decide) (ht_at2 hts 2 rfl) (fun _ h9 => h9) dX11_found_16 (fun v9 m10 h9 => ?_)
  obtain ⟨x11, rfl, gx11, kx11⟩ := h9 _ rfl
  have hFc := gA_free hG hA hS
  refine va_calli (va_runV (As := [.ref b8, .int x11]) (rest := [.ref b2]) ⟨hx, hb, hml, hown, hts⟩ (c_read l dC dI kA adK adV G s.heap nC nS b5 b8 x11 hT hg9 hg6 (by have q8 := ti_all x11; omega) (by omega) (by omega)) (cwV 2 hts (goodIn_app (goodIn_r _ [133, 134, 135, 14] rfl (by decide +kernel)) (goodIn_ca (goodIn_r _ [4, 5, 6, 7, 8, 9, 10, 11, 12, 13, 14, 15, 16, 17, 18, 19, 20, 21, 22, 23, 24, 25, 26, 27, 28, 29, 30, 31, 32, 33, 34, 35, 36, 37, 38, 39, 40, 41, 42, 43, 44, 45, 46, 47, 48, 49, 50, 51, 52, 53, 54, 55, 56, 57, 58, 59, 60, 61, 62, 63, 64, 65, 66, 67, 68, 69, 70, 71, 72, 73, 74, 75, 76, 77, 78, 79, 80, 81, 82, 83, 84, 85, 86, 87, 88, 89, 90, 91, 92, 93, 94, 95, 96, 97, 98, 99, 100, 101, 102, 103, 104, 105, 106, 107, 108, 109, 110, 111, 112, 113, 114, 115, 116, 117, 118, 119, 120, 121, 122, 123, 124, 125, 126, 127, 128, 129, 130, 131, 132] rfl (by decide +kernel)) (bs2_in _ _))) rfl rfl rfl (by decide +kernel) ⟨(Nat.le_of_ble_eq_true rfl), (Nat.le_of_ble_eq_true rfl)⟩) ⟨fun a U g mk q => by obtain ⟨q0, q1, qK, qE⟩ := q; exact ⟨q0, q1, va_K.moved (u := U) (U := U.calling g mk a) (Vm.Alike.refl U.vm) qK, EVC.blind g mk a qE⟩, gH_rc hK hT hg6 shc_7 rfl, fun U hU hW => ⟨rfl, hU, va_K.moved hW.alike hK, hE.call hS hFc hU hW⟩⟩ rfl rfl hl.1 rfl (lv_room (Nat.le_of_ble_eq_true rfl)) dX11_found_19 ⟨(Nat.le_of_ble_eq_true rfl), (Nat.le_of_ble_eq_true rfl)⟩) hS (fun q _ h => hFc q h) hFc (fun r12 u t H locs ht hvm hw13 hB _ _ hS => ?_)
  obtain ⟨hT, hF1⟩ := hB
  rw [ht] at hT hF1
  have m14 := (hF1.fld hr_o0 skc_14 (k := 3) (by decide) (by decide)).trans m1
  have hF := hF.more hF1 (by decide)
  try dsimp only at hw13
  refine tw_putN (v := .int r12) (ty := .int) hx hb hts bF2_X0 tyX0 tyX0_ok nmX0 hown hK hT hG hS hg3 shc_3 rfl 10 (by decide) (hE.nw 25 rfl) (fun _ h9 => h9) rfl (by decide +kernel) rfl rfl (gl_at rfl (gi_all _)) dX11_found_22 (fun H locs hT oq m18 oj hS => ?_)
  have hF := hF.put hg3 skc_3 oq oj (by decide)
  have m19 := (el_kept (oq _ (gne hr_o0 hg3 (by decide)))).trans m14
  refine lv_aload_n hx hb dX11_found_25 rfl (lv_at hl 0 rfl) ?_
  refine lv_iconst (v := 0) hx hb dX11_found_26 (by decide) ?_
  refine tw_put (v := .int 0) (ty := .int) hx hb hts bF2_X11 tyX11 tyX11_ok nmX11 hown hK hT hG hS hr_o0 shc_14 rfl 7 (by decide) (ht_at2 hts 2 rfl) (fun _ h9 => h9) rfl (by decide +kernel) rfl rfl (gl_at rfl (gi_of (show (0 : Int32).toInt = 0 from (by decide)) (by first | decide | omega) (by first | decide | omega))) dX11_found_27 (fun H locs hT oq m23 oj hS => ?_)
  have hF := hF.put hr_o0 skc_14 oq oj (by decide)
  have m24 := (oj 3 (by decide) (by decide)).trans m19
  have m27 := (el_kept (oq _ (gne hg3 hr_o0 (by decide)))).trans m18
  refine lv_aload_n hx hb dX11_found_30 rfl (lv_at hl 0 rfl) ?_
  refine tw_getM (v := .ref b2) hx hb hts bF2_X11 hown hK hT hr_o0 shc_14 rfl 3 (by decide) (ht_at2 hts 0 rfl) (fun _ h9 => h9) m24 dX11_found_31 ?_
  refine tw_getNM (v := .int r12) hx hb hts bF2_X0 hown hK hT hg3 shc_3 rfl 10 (by decide) (hE.nw 25 rfl) (fun _ h9 => h9) m27 dX11_found_34 ?_
  refine lv_iconst (v := (-1)) hx hb dX11_found_37 (by decide) ?_
  have t28 : -2147483648 ≤ r12.toInt ∧ r12.toInt ≤ 2147483647 := ti_all r12
  refine lv_icmp_ne (tgt := 45) hx hb dX11_found_38 (by decide) (fun c29 => ?_) (fun c29 => ?_)
  · have t30 : r12.toInt ≠ (-1) := ti_ne c29 rfl (by decide)
    refine lv_iconst (v := 0) hx hb dX11_found_45 (by decide) ?_
    have hFc := gA_free hG hA hS
    refine vx_callN (vx_runS (As := [.int 0]) (rest := []) ⟨hx, hb, hml, hown, hts⟩ (c_needNumbers0 l hlt dC dI kA adK adV G H nC nS hT (by omega) (by omega)) (va_cwS 1 hts (goodIn_app (goodIn_r _ [139, 140, 141] rfl (by decide +kernel)) (goodIn_ca (goodIn_r _ [136, 137, 138] rfl (by decide +kernel)) (bs2_in _ _))) rfl rfl rfl (by decide +kernel) ⟨(Nat.le_of_ble_eq_true rfl), (Nat.le_of_ble_eq_true rfl)⟩) ⟨fun a U g mk q => by obtain ⟨q0, q1, qK, qE⟩ := q; exact ⟨q0, q1, va_K.moved (u := U) (U := U.calling g mk a) (Vm.Alike.refl U.vm) qK, EVC.blind g mk a qE⟩, fun U hU hW => ⟨rfl, hU, va_K.moved hW.alike hK, hE.call hS hFc hU hW⟩⟩ rfl rfl hl.1 rfl (lv_room (Nat.le_of_ble_eq_true rfl)) dX11_found_46 ⟨(Nat.le_of_ble_eq_true rfl), (Nat.le_of_ble_eq_true rfl)⟩) hS hFc (fun q _ h => hFc q h) (fun E ce q9 u t H locs ht hvm _ hw32 _ _ hS hce hcv hcl => ?_)
    obtain ⟨hw32, hTx, hFx⟩ := hw32; rw [ht] at hTx hFx
    exact vx_out (fun x h => (hnt x h).elim) hlocks hce hcv hcl (fun t2 h2 hW => ⟨(), trivial, ⟨((fun h9 => (Or.inl h9)) hw32), by rw [h2]; exact hTx, by rw [h2]; exact hF.more hFx (by decide)⟩, hS.F h2⟩) hS.2.2 (by decide) (by decide)
  · have t33 : r12.toInt = (-1) := ti_eq c29 rfl (by decide)
    refine lv_iconst (v := 1) hx hb dX11_found_41 (by decide) ?_
    refine lv_goto (tgt := 46) hx hb dX11_found_42 (by decide) ?_
    have hFc := gA_free hG hA hS
    refine vx_callv (vx_runS (As := [.int 1]) (rest := []) ⟨hx, hb, hml, hown, hts⟩ (c_needNumbers1 l hlt dC dI kA adK adV G H nC nS hT (by omega) (by omega)) (va_cwS 1 hts (goodIn_app (goodIn_r _ [139, 140, 141] rfl (by decide +kernel)) (goodIn_ca (goodIn_r _ [136] rfl (by decide +kernel)) (bs2_in _ _))) rfl rfl rfl (by decide +kernel) ⟨(Nat.le_of_ble_eq_true rfl), (Nat.le_of_ble_eq_true rfl)⟩) ⟨fun a U g mk q => by obtain ⟨q0, q1, qK, qE⟩ := q; exact ⟨q0, q1, va_K.moved (u := U) (U := U.calling g mk a) (Vm.Alike.refl U.vm) qK, EVC.blind g mk a qE⟩, fun U hU hW => ⟨rfl, hU, va_K.moved hW.alike hK, hE.call hS hFc hU hW⟩⟩ rfl rfl hl.1 rfl (lv_room (Nat.le_of_ble_eq_true rfl)) dX11_found_46 ⟨(Nat.le_of_ble_eq_true rfl), (Nat.le_of_ble_eq_true rfl)⟩) hS (fun q _ h => hFc q h) hFc (fun q _ h => hFc q h) (fun E ce q9 u t H locs ht hvm _ hw35 _ _ hS hce hcv hcl => ?_) (fun u t H locs ht hvm hw35 hB _ _ hS => ?_)
    · obtain ⟨hw35, hTx, hFx⟩ := hw35; rw [ht] at hTx hFx
      exact vx_out (fun x h => (hnt x h).elim) hlocks hce hcv hcl (fun t2 h2 hW => ⟨(), trivial, ⟨((fun h9 => (Or.inl h9)) hw35), by rw [h2]; exact hTx, by rw [h2]; exact hF.more hFx (by decide)⟩, hS.F h2⟩) hS.2.2 (by decide) (by decide)
    · obtain ⟨hT, hF1⟩ := hB
      rw [ht] at hT hF1
      have m36 := (hF1.fld hr_o0 skc_14 (k := 3) (by decide) (by decide)).trans m24
      have hF := hF.more hF1 (by decide)
      try dsimp only at hw35
      refine lv_aload_n hx hb dX11_found_49 rfl (lv_at hl 0 rfl) ?_
      refine tw_getM (v := .ref b2) hx hb hts bF2_X11 hown hK hT hr_o0 shc_14 rfl 3 (by decide) (ht_at2 hts 0 rfl) (fun _ h9 => h9) m36 dX11_found_50 ?_
      refine tw_getN hx hb hts bF2_X0 hown hK hT hg3 shc_3 rfl 15 (by decide) (hE.nw 26 rfl) (fun _ h9 => h9) dX11_found_53 (fun v9 m41 h9 => ?_)
      obtain ⟨x42, rfl, gx42, kx42⟩ := h9 _ rfl
      have t43 : -2147483648 ≤ x42.toInt ∧ x42.toInt ≤ 2147483647 := ti_all x42
      refine lv_if_le (tgt := 70) hx hb dX11_found_56 (by decide) (fun c44 => ?_) (fun c44 => ?_)
      · have t45 : x42.toInt ≤ 0 := ti_le c44 rfl (by decide)
        refine lv_aload_n hx hb dX11_found_70 rfl (lv_at hl 0 rfl) ?_
        refine tw_getM (v := .ref b2) hx hb hts bF2_X11 hown hK hT hr_o0 shc_14 rfl 3 (by decide) (ht_at2 hts 0 rfl) (fun _ h9 => h9) m36 dX11_found_71 ?_
        have hFc := gA_free hG hA hS
        refine va_calli (va_runV (As := []) (rest := []) ⟨hx, hb, hml, hown, hts⟩ (c_foundSpare l dC dI kA adK adV G H nC nS b2 hT hg3 (by omega) (by omega)) (cwV 0 hts (goodIn_app (goodIn_r _ [145, 146, 147, 148] rfl (by decide +kernel)) (goodIn_ca (goodIn_r _ [142, 143, 144] rfl (by decide +kernel)) (bs2_in _ _))) rfl rfl rfl (by decide +kernel) ⟨(Nat.le_of_ble_eq_true rfl), (Nat.le_of_ble_eq_true rfl)⟩) ⟨fun a U g mk q => by obtain ⟨q0, q1, qK, qE⟩ := q; exact ⟨q0, q1, va_K.moved (u := U) (U := U.calling g mk a) (Vm.Alike.refl U.vm) qK, EVC.blind g mk a qE⟩, gH_rc hK hT hg3 shc_3 rfl, fun U hU hW => ⟨rfl, hU, va_K.moved hW.alike hK, hE.call hS hFc hU hW⟩⟩ rfl rfl hl.1 rfl (lv_room (Nat.le_of_ble_eq_true rfl)) dX11_found_74 ⟨(Nat.le_of_ble_eq_true rfl), (Nat.le_of_ble_eq_true rfl)⟩) hS (fun q _ h => hFc q h) hFc (fun r46 u t H locs ht hvm hw47 hB _ _ hS => ?_)
        obtain ⟨hT, hF1⟩ := hB
        rw [ht] at hT hF1
        have hF := hF.more hF1 (by decide)
        try dsimp only at hw47
        have h54 := hw47
        refine W.widen (k := 1) (n := 6) (by decide) (by decide) ?_
        exact vx_ret (W.iret (v := r46) hx hb hr (fun t ht hW => ⟨⟨r46, (), rfl, (by exact (by have q8 := ti_all r46; omega)), by (try dsimp only); rw [ht]; exact ⟨hT, hF⟩⟩, hS.F ht⟩) hS.2.2 dX11_found_77)
      · have t55 : 0 < x42.toInt := ti_nle c44 rfl (by decide)
        obtain ⟨sa56, hsa56⟩ := hE.str 4 rfl
        exact vx_throwSW (names := ["java/lang/RuntimeException", "java/lang/Exception"]) hx hb hlt hown (by decide +kernel) (by decide +kernel) (ht_at2 hts 148 rfl) (ht_at2 hts 149 rfl) hsa56 (bX2_at3 hts hE) bX_ok3_69 hE.1.1.2.2.1 hE.1.1.2.2.2 hS (by rw [hml]; exact hl.1) dX11_found_59 dX11_found_62 dX11_found_63 dX11_found_66 dX11_found_69 (fun x h => (hnt x h).elim) (by decide) (Nat.le_of_ble_eq_true rfl) (Nat.le_of_ble_eq_true rfl) (Nat.le_of_ble_eq_true rfl) hlocks (fun t hW hz hq => ⟨(), trivial, ⟨(Or.inr rfl), hT.ext hq, hF.ext hT hq⟩, Nat.le_trans hS.1 hz, fun q h1 h2 => (hq q (Nat.lt_of_lt_of_le h1 hS.1)).trans (hS.2.1 q h1 h2)⟩) hS.2.2 (by decide) (by decide)
def w_c_propose : List Cond := .code yX11_propose cX11_propose 1 (some .int) :: (HAppend.hAppend (α := List Cond) (β := List Cond) (γ := List Cond) [.fieldLink RX11 30 "SeaLand" "board" "LSeaLand$Board;", .fieldLink RX11 9 "SeaLand" "tape" "[I", .fieldLink RX11 47 "SeaLand" "taped" "I", .code yX4_read cX4_read 4 (some .int), .methodLink RX4 46 Lib.Math.min.name, .static Lib.Math.min.name, .initialized "java/lang/Math", .code Lib.Math.min.name Lib.Math.min.code 2 (some .int), .code yX4_scan cX4_scan 6 none, .code yX4_thingEnd cX4_thingEnd 6 (some .int), .code yX4_isLetter cX4_isLetter 1 (some .boolean), .methodLink RX4 81 yX4_isLetter, .static yX4_isLetter, .initialized RX4, .code yX4_isDigit cX4_isDigit 1 (some .boolean), .methodLink RX4 84 yX4_isDigit, .static yX4_isDigit, .methodLink RX4 74 yX4_thingEnd, .static yX4_thingEnd, .fieldLink RX4 11 "SeaLand$Law" "things" "[I", .code yX4_thingAt cX4_thingAt 3 (some .int), .code yX4_signThing cX4_signThing 1 (some .int), .methodLink RX4 93 yX4_signThing, .static yX4_signThing, .code yX4_numberThing cX4_numberThing 5 (some .int), .methodLink RX4 90 yX4_numberThing, .static yX4_numberThing, .code yX4_wordThing cX4_wordThing 4 (some .int), .code yX4_factThing cX4_factThing 3 (some .int), .code yX4_wordIs cX4_wordIs 5 (some .boolean), .code yJ0_length_8abf5 cJ0_length_8abf5 1 (some .int), .fieldLink RJ0 9 "java/lang/String" "value" "[B", .code yJ0_coder_7d493 cJ0_coder_7d493 1 (some .byte), .fieldLink RJ0 38 "java/lang/String" "COMPACT_STRINGS" "Z", .fieldLink RJ0 15 "java/lang/String" "coder" "B", .methodLink RJ0 335 yJ0_coder_7d493, .instanceMethod yJ0_coder_7d493, .selects RJ0 yJ0_coder_7d493 yJ0_coder_7d493, .initialized RJ0, .methodLink RX4 155 yJ0_length_8abf5, .instanceMethod yJ0_length_8abf5, .selects RJ0 yJ0_length_8abf5 yJ0_length_8abf5, .code yJ0_charAt_5068e cJ0_charAt_5068e 2 (some .char), .code yJ0_isLatin1_aae02 cJ0_isLatin1_aae02 1 (some .boolean), .methodLink RJ0 492 yJ0_isLatin1_aae02, .instanceMethod yJ0_isLatin1_aae02, .selects RJ0 yJ0_isLatin1_aae02 yJ0_isLatin1_aae02, .code yJ1_charAt_3b067 cJ1_charAt_3b067 2 (some .char), .code yJ0_checkIndex_df160 cJ0_checkIndex_df160 2 none, .fieldLink RJ0 1053 "jdk/internal/util/Preconditions" "SIOOBE_FORMATTER" "Ljava/util/function/BiFunction;", .code yJ3_checkIndex_8e157 cJ3_checkIndex_8e157 3 (some .int), .methodLink RJ0 1059 yJ3_checkIndex_8e157, .static yJ3_checkIndex_8e157, .initialized RJ3, .methodLink RJ1 9 yJ0_checkIndex_df160, .static yJ0_checkIndex_df160, .methodLink RJ0 495 yJ1_charAt_3b067, .static yJ1_charAt_3b067, .initialized RJ1, .methodLink RX4 161 yJ0_charAt_5068e, .instanceMethod yJ0_charAt_5068e, .selects RJ0 yJ0_charAt_5068e yJ0_charAt_5068e, .methodLink RX4 105 yX4_wordIs, .static yX4_wordIs, .methodLink RX4 97 yX4_factThing, .static yX4_factThing, .code yX4_lineThing cX4_lineThing 4 (some .int), .methodLink RX4 100 yX4_lineThing, .static yX4_lineThing, .methodLink RX4 87 yX4_wordThing, .static yX4_wordThing, .methodLink RX4 78 yX4_thingAt, .static yX4_thingAt, .fieldLink RX4 15 "SeaLand$Law" "begins" "[I", .methodLink RX4 52 yX4_scan, .instanceMethod yX4_scan, .selects RX4 yX4_scan yX4_scan, .fieldLink RX4 56 "SeaLand$Law" "at" "I", .fieldLink RX4 60 "SeaLand$Law" "lines" "I", .fieldLink RX4 63 "SeaLand$Law" "stepped" "I", .code yX4_readLine cX4_readLine 3 (some .boolean), .code yX4_lineKind cX4_lineKind 1 (some .int), .methodLink RX4 165 yX4_lineKind, .static yX4_lineKind, .fieldLink RX4 18 "SeaLand$Law" "kinds" "[I", .fieldLink RX4 33 "SeaLand$Law" "stepFrom" "[I", .code yX4_take cX4_take 2 (some .boolean), .methodLink RX4 70 yX4_take, .instanceMethod yX4_take, .selects RX4 yX4_take yX4_take, .code yX4_readAny cX4_readAny 4 (some .boolean), .code yX4_readAll cX4_readAll 4 (some .boolean), .code yX4_readAtom cX4_readAtom 4 (some .boolean), .code yX4_readComparison cX4_readComparison 3 (some .boolean), .code yX4_readSum cX4_readSum 3 (some .boolean), .code yX4_readPart cX4_readPart 2 (some .boolean), .code yX4_addStep cX4_addStep 2 none, .fieldLink RX4 39 "SeaLand$Law" "steps" "[I", .methodLink RX4 179 yX4_addStep, .instanceMethod yX4_addStep, .selects RX4 yX4_addStep yX4_addStep, .methodLink RX4 192 yX4_readPart, .instanceMethod yX4_readPart, .selects RX4 yX4_readPart yX4_readPart, .methodLink RX4 189 yX4_readSum, .instanceMethod yX4_readSum, .selects RX4 yX4_readSum yX4_readSum, .methodLink RX4 186 yX4_readComparison, .instanceMethod yX4_readComparison, .selects RX4 yX4_readComparison yX4_readComparison, .methodLink RX4 183 yX4_readAtom, .instanceMethod yX4_readAtom, .selects RX4 yX4_readAtom yX4_readAtom, .methodLink RX4 176 yX4_readAll, .instanceMethod yX4_readAll, .selects RX4 yX4_readAll yX4_readAll, .methodLink RX4 173 yX4_readAny, .instanceMethod yX4_readAny, .selects RX4 yX4_readAny yX4_readAny, .fieldLink RX4 36 "SeaLand$Law" "stepTo" "[I", .fieldLink RX4 21 "SeaLand$Law" "firsts" "[I", .code yX4_takeNumber cX4_takeNumber 4 (some .boolean), .methodLink RX4 168 yX4_takeNumber, .instanceMethod yX4_takeNumber, .selects RX4 yX4_takeNumber yX4_takeNumber, .fieldLink RX4 24 "SeaLand$Law" "seconds" "[I", .fieldLink RX4 27 "SeaLand$Law" "froms" "[I", .fieldLink RX4 30 "SeaLand$Law" "tos" "[I", .constant RX4 172 99999, .methodLink RX4 66 yX4_readLine, .instanceMethod yX4_readLine, .selects RX4 yX4_readLine yX4_readLine, .methodLink RX11 266 yX4_read, .instanceMethod yX4_read, .selects RX4 yX4_read yX4_read, .code yX11_needNumbers cX11_needNumbers 1 none, .classLink RX11 547 "java/lang/IllegalArgumentException", .initialized "java/lang/IllegalArgumentException", .methodLink RX11 62 yX11_needNumbers, .static yX11_needNumbers, .initialized RX11, .code yX0_proposeSpare cX0_proposeSpare 3 (some .int), .fieldLink RX0 45 "SeaLand$Board" "proposed" "LSeaLand$Law;", .fieldLink RX0 48 "SeaLand$Board" "spare" "LSeaLand$Law;", .fieldLink RX0 64 "SeaLand$Board" "voting" "Z", .fieldLink RX0 68 "SeaLand$Board" "yesVotes" "J", .fieldLink RX0 72 "SeaLand$Board" "allVotes" "J", .fieldLink RX0 75 "SeaLand$Board" "settled" "I", .fieldLink RX0 11 "SeaLand$Board" "settlers" "[LSeaLand$Settler;", .methodLink RX11 289 yX0_proposeSpare, .instanceMethod yX0_proposeSpare, .selects RX0 yX0_proposeSpare yX0_proposeSpare, .initialized RX0, .classLink RX11 69 "java/lang/IllegalStateException", .initialized "java/lang/IllegalStateException"] bs2)
set_option maxHeartbeats 4000000 in
set_option maxRecDepth 100000 in
theorem c_propose (l : Launch) (hlt : l.stackTraces = false) (dC : Nat → ClassId) (dI : Nat → Nat → Nat) (kA : Nat → ClassId) (adK adV : Nat → Nat) (G : gT) (H0 : Heap) (nC nS : Int) (o0 : Nat)  (hT : gH (dC, dI) kA (SHc nC nS) G H0) (hr_o0 : G o0 = some 14) (hgC : 0 ≤ nC ∧ nC ≤ 40) (hgS : 0 ≤ nS ∧ nS ≤ 60) : vx_Met l yX11_propose w_c_propose ({ frames := 27, cells := 1, slots := 6, locals := 614 }) (va_Pc [.ref o0] (fun U => U.heap = H0 ∧ va_K (dC, dI) vwCl (tyl kA) U ∧ EVC adK adV (gA G H0.size) U U.heap)) (va_Qi (fun (r : Int32) (u : Unit) => (0 ≤ r.toInt ∧ r.toInt ≤ 20)) (fun (_ : Unit) (t : State) => gH (dC, dI) kA (SHc nC nS) G t.heap ∧ gF (dC, dI) SKc G ([(3, 8), (3, 9), (3, 10), (3, 11), (3, 12), (3, 13), (7, 11), (7, 12), (7, 13), (10, 11), (14, 7), (40, 0), (41, 0), (42, 0), (43, 0), (44, 0), (45, 0), (46, 0), (47, 0), (48, 0), (49, 0)] : List (Nat × Nat)) H0 t.heap) (gA G H0.size)) (vx_X (fun _ : Unit => True) (fun E _ t => (E = "java/lang/IllegalArgumentException" ∨ E = "java/lang/IllegalStateException") ∧ gH (dC, dI) kA (SHc nC nS) G t.heap ∧ gF (dC, dI) SKc G ([(3, 8), (3, 9), (3, 10), (3, 11), (3, 12), (3, 13), (7, 11), (7, 12), (7, 13), (10, 11), (14, 7), (40, 0), (41, 0), (42, 0), (43, 0), (44, 0), (45, 0), (46, 0), (47, 0), (48, 0), (49, 0)] : List (Nat × Nat)) H0 t.heap) (gA G H0.size)) 1 6 (gA G H0.size) := by
  refine vx_ofW (cc := cX11_propose) (maxL := 1) (ret := (some .int)) (by decide) rfl ?_
  intro p e s m args below meth c s₁ B hml hnt hv
  obtain ⟨rfl, hH0, hK, hE⟩ := hv
  have hx := B.exec
  have hb := B.bytes
  have hr := B.returns
  have hts := atoms_spec (ws := w_c_propose) B.pre
  have hown : s.vm.findClass RX11 = some m.cls := findClass_of_methodNamed B.named
  have hlocks := B.notSynchronized
  subst hH0
  generalize hAe : gA G s.heap.size = A at hE ⊢
  have hA : ∀ q : Nat, s.heap.size ≤ q → A q := fun q h => by rw [← hAe]; exact Or.inr h
  have hG := gA_of hAe
  have hS : va_S A s.heap s.heap [] := va_S.rf
  have hF : gF (dC, dI) SKc G ([(3, 8), (3, 9), (3, 10), (3, 11), (3, 12), (3, 13), (7, 11), (7, 12), (7, 13), (10, 11), (14, 7), (40, 0), (41, 0), (42, 0), (43, 0), (44, 0), (45, 0), (46, 0), (47, 0), (48, 0), (49, 0)] : List (Nat × Nat)) s.heap s.heap := gF.rf
  have hl := lv_entry ([.ref o0]) (n := 1) (Nat.le_of_ble_eq_true rfl)
  rw [lg_entry_eq]
  generalize (lg_sl ([.ref o0]) ++ List.replicate (1 - (lg_sl ([.ref o0])).length) Slot.unset).toArray = ls at hl ⊢
  have hl : lv_has ls 1 [(0, .ref o0)] := hl
  refine lv_aload_n hx hb dX11_propose_0 rfl (lv_at hl 0 rfl) ?_
  refine tw_get hx hb hts bF2_X11 hown hK hT hr_o0 shc_14 rfl 3 (by decide) (ht_at2 hts 0 rfl) (fun _ h9 => h9) dX11_propose_1 (fun v9 m1 h9 => ?_)
  obtain ⟨b2, rfl, hg3⟩ := h9 _ rfl
  refine lv_aload_n hx hb dX11_propose_4 rfl (lv_at hl 0 rfl) ?_
  refine tw_getM (v := .ref b2) hx hb hts bF2_X11 hown hK hT hr_o0 shc_14 rfl 3 (by decide) (ht_at2 hts 0 rfl) (fun _ h9 => h9) m1 dX11_propose_5 ?_
  refine tw_getN hx hb hts bF2_X0 hown hK hT hg3 shc_3 rfl 9 (by decide) (hE.nw 24 rfl) (fun _ h9 => h9) dX11_propose_8 (fun v9 m4 h9 => ?_)
  obtain ⟨b5, rfl, hg6⟩ := h9 _ rfl
  refine lv_aload_n hx hb dX11_propose_11 rfl (lv_at hl 0 rfl) ?_
  refine tw_get hx hb hts bF2_X11 hown hK hT hr_o0 shc_14 rfl 0 (by decide) (ht_at2 hts 1 rfl) (fun _ h9 => h9) dX11_propose_12 (fun v9 m7 h9 => ?_)
  obtain ⟨b8, rfl, hg9⟩ := h9 _ rfl
  refine lv_aload_n hx hb dX11_propose_15 rfl (lv_at hl 0 rfl) ?_
  refine tw_get hx hb hts bF2_X11 hown hK hT hr_o0 shc_14 rfl 7 (by decide) (ht_at2 hts 2 rfl) (fun _ h9 => h9) dX11_propose_16 (fun v9 m10 h9 => ?_)
  obtain ⟨x11, rfl, gx11, kx11⟩ := h9 _ rfl
  have hFc := gA_free hG hA hS
  refine va_calli (va_runV (As := [.ref b8, .int x11]) (rest := [.ref b2]) ⟨hx, hb, hml, hown, hts⟩ (c_read l dC dI kA adK adV G s.heap nC nS b5 b8 x11 hT hg9 hg6 (by have q8 := ti_all x11; omega) (by omega) (by omega)) (cwV 2 hts (goodIn_app (goodIn_r _ [133, 134, 135, 14] rfl (by decide +kernel)) (goodIn_ca (goodIn_r _ [4, 5, 6, 7, 8, 9, 10, 11, 12, 13, 14, 15, 16, 17, 18, 19, 20, 21, 22, 23, 24, 25, 26, 27, 28, 29, 30, 31, 32, 33, 34, 35, 36, 37, 38, 39, 40, 41, 42, 43, 44, 45, 46, 47, 48, 49, 50, 51, 52, 53, 54, 55, 56, 57, 58, 59, 60, 61, 62, 63, 64, 65, 66, 67, 68, 69, 70, 71, 72, 73, 74, 75, 76, 77, 78, 79, 80, 81, 82, 83, 84, 85, 86, 87, 88, 89, 90, 91, 92, 93, 94, 95, 96, 97, 98, 99, 100, 101, 102, 103, 104, 105, 106, 107, 108, 109, 110, 111, 112, 113, 114, 115, 116, 117, 118, 119, 120, 121, 122, 123, 124, 125, 126, 127, 128, 129, 130, 131, 132] rfl (by decide +kernel)) (bs2_in _ _))) rfl rfl rfl (by decide +kernel) ⟨(Nat.le_of_ble_eq_true rfl), (Nat.le_of_ble_eq_true rfl)⟩) ⟨fun a U g mk q => by obtain ⟨q0, q1, qK, qE⟩ := q; exact ⟨q0, q1, va_K.moved (u := U) (U := U.calling g mk a) (Vm.Alike.refl U.vm) qK, EVC.blind g mk a qE⟩, gH_rc hK hT hg6 shc_7 rfl, fun U hU hW => ⟨rfl, hU, va_K.moved hW.alike hK, hE.call hS hFc hU hW⟩⟩ rfl rfl hl.1 rfl (lv_room (Nat.le_of_ble_eq_true rfl)) dX11_propose_19 ⟨(Nat.le_of_ble_eq_true rfl), (Nat.le_of_ble_eq_true rfl)⟩) hS (fun q _ h => hFc q h) hFc (fun r12 u t H locs ht hvm hw13 hB _ _ hS => ?_)
  obtain ⟨hT, hF1⟩ := hB
  rw [ht] at hT hF1
  have m14 := (hF1.fld hr_o0 skc_14 (k := 3) (by decide) (by decide)).trans m1
  have hF := hF.more hF1 (by decide)
  try dsimp only at hw13
  refine tw_putN (v := .int r12) (ty := .int) hx hb hts bF2_X0 tyX0 tyX0_ok nmX0 hown hK hT hG hS hg3 shc_3 rfl 10 (by decide) (hE.nw 25 rfl) (fun _ h9 => h9) rfl (by decide +kernel) rfl rfl (gl_at rfl (gi_all _)) dX11_propose_22 (fun H locs hT oq m18 oj hS => ?_)
  have hF := hF.put hg3 skc_3 oq oj (by decide)
  have m19 := (el_kept (oq _ (gne hr_o0 hg3 (by decide)))).trans m14
  refine lv_aload_n hx hb dX11_propose_25 rfl (lv_at hl 0 rfl) ?_
  refine lv_iconst (v := 0) hx hb dX11_propose_26 (by decide) ?_
  refine tw_put (v := .int 0) (ty := .int) hx hb hts bF2_X11 tyX11 tyX11_ok nmX11 hown hK hT hG hS hr_o0 shc_14 rfl 7 (by decide) (ht_at2 hts 2 rfl) (fun _ h9 => h9) rfl (by decide +kernel) rfl rfl (gl_at rfl (gi_of (show (0 : Int32).toInt = 0 from (by decide)) (by first | decide | omega) (by first | decide | omega))) dX11_propose_27 (fun H locs hT oq m23 oj hS => ?_)
  have hF := hF.put hr_o0 skc_14 oq oj (by decide)
  have m24 := (oj 3 (by decide) (by decide)).trans m19
  have m27 := (el_kept (oq _ (gne hg3 hr_o0 (by decide)))).trans m18
  refine lv_aload_n hx hb dX11_propose_30 rfl (lv_at hl 0 rfl) ?_
  refine tw_getM (v := .ref b2) hx hb hts bF2_X11 hown hK hT hr_o0 shc_14 rfl 3 (by decide) (ht_at2 hts 0 rfl) (fun _ h9 => h9) m24 dX11_propose_31 ?_
  refine tw_getNM (v := .int r12) hx hb hts bF2_X0 hown hK hT hg3 shc_3 rfl 10 (by decide) (hE.nw 25 rfl) (fun _ h9 => h9) m27 dX11_propose_34 ?_
  refine lv_iconst (v := (-1)) hx hb dX11_propose_37 (by decide) ?_
  have t28 : -2147483648 ≤ r12.toInt ∧ r12.toInt ≤ 2147483647 := ti_all r12
  refine lv_icmp_ne (tgt := 45) hx hb dX11_propose_38 (by decide) (fun c29 => ?_) (fun c29 => ?_)
  · have t30 : r12.toInt ≠ (-1) := ti_ne c29 rfl (by decide)
    refine lv_iconst (v := 0) hx hb dX11_propose_45 (by decide) ?_
    have hFc := gA_free hG hA hS
    refine vx_callN (vx_runS (As := [.int 0]) (rest := []) ⟨hx, hb, hml, hown, hts⟩ (c_needNumbers0 l hlt dC dI kA adK adV G H nC nS hT (by omega) (by omega)) (va_cwS 1 hts (goodIn_app (goodIn_r _ [139, 140, 141] rfl (by decide +kernel)) (goodIn_ca (goodIn_r _ [136, 137, 138] rfl (by decide +kernel)) (bs2_in _ _))) rfl rfl rfl (by decide +kernel) ⟨(Nat.le_of_ble_eq_true rfl), (Nat.le_of_ble_eq_true rfl)⟩) ⟨fun a U g mk q => by obtain ⟨q0, q1, qK, qE⟩ := q; exact ⟨q0, q1, va_K.moved (u := U) (U := U.calling g mk a) (Vm.Alike.refl U.vm) qK, EVC.blind g mk a qE⟩, fun U hU hW => ⟨rfl, hU, va_K.moved hW.alike hK, hE.call hS hFc hU hW⟩⟩ rfl rfl hl.1 rfl (lv_room (Nat.le_of_ble_eq_true rfl)) dX11_propose_46 ⟨(Nat.le_of_ble_eq_true rfl), (Nat.le_of_ble_eq_true rfl)⟩) hS hFc (fun q _ h => hFc q h) (fun E ce q9 u t H locs ht hvm _ hw32 _ _ hS hce hcv hcl => ?_)
    obtain ⟨hw32, hTx, hFx⟩ := hw32; rw [ht] at hTx hFx
    exact vx_out (fun x h => (hnt x h).elim) hlocks hce hcv hcl (fun t2 h2 hW => ⟨(), trivial, ⟨((fun h9 => (Or.inl h9)) hw32), by rw [h2]; exact hTx, by rw [h2]; exact hF.more hFx (by decide)⟩, hS.F h2⟩) hS.2.2 (by decide) (by decide)
  · have t33 : r12.toInt = (-1) := ti_eq c29 rfl (by decide)
    refine lv_iconst (v := 1) hx hb dX11_propose_41 (by decide) ?_
    refine lv_goto (tgt := 46) hx hb dX11_propose_42 (by decide) ?_
    have hFc := gA_free hG hA hS
    refine vx_callv (vx_runS (As := [.int 1]) (rest := []) ⟨hx, hb, hml, hown, hts⟩ (c_needNumbers1 l hlt dC dI kA adK adV G H nC nS hT (by omega) (by omega)) (va_cwS 1 hts (goodIn_app (goodIn_r _ [139, 140, 141] rfl (by decide +kernel)) (goodIn_ca (goodIn_r _ [136] rfl (by decide +kernel)) (bs2_in _ _))) rfl rfl rfl (by decide +kernel) ⟨(Nat.le_of_ble_eq_true rfl), (Nat.le_of_ble_eq_true rfl)⟩) ⟨fun a U g mk q => by obtain ⟨q0, q1, qK, qE⟩ := q; exact ⟨q0, q1, va_K.moved (u := U) (U := U.calling g mk a) (Vm.Alike.refl U.vm) qK, EVC.blind g mk a qE⟩, fun U hU hW => ⟨rfl, hU, va_K.moved hW.alike hK, hE.call hS hFc hU hW⟩⟩ rfl rfl hl.1 rfl (lv_room (Nat.le_of_ble_eq_true rfl)) dX11_propose_46 ⟨(Nat.le_of_ble_eq_true rfl), (Nat.le_of_ble_eq_true rfl)⟩) hS (fun q _ h => hFc q h) hFc (fun q _ h => hFc q h) (fun E ce q9 u t H locs ht hvm _ hw35 _ _ hS hce hcv hcl => ?_) (fun u t H locs ht hvm hw35 hB _ _ hS => ?_)
    · obtain ⟨hw35, hTx, hFx⟩ := hw35; rw [ht] at hTx hFx
      exact vx_out (fun x h => (hnt x h).elim) hlocks hce hcv hcl (fun t2 h2 hW => ⟨(), trivial, ⟨((fun h9 => (Or.inl h9)) hw35), by rw [h2]; exact hTx, by rw [h2]; exact hF.more hFx (by decide)⟩, hS.F h2⟩) hS.2.2 (by decide) (by decide)
    · obtain ⟨hT, hF1⟩ := hB
      rw [ht] at hT hF1
      have m36 := (hF1.fld hr_o0 skc_14 (k := 3) (by decide) (by decide)).trans m24
      have hF := hF.more hF1 (by decide)
      try dsimp only at hw35
      refine lv_aload_n hx hb dX11_propose_49 rfl (lv_at hl 0 rfl) ?_
      refine tw_getM (v := .ref b2) hx hb hts bF2_X11 hown hK hT hr_o0 shc_14 rfl 3 (by decide) (ht_at2 hts 0 rfl) (fun _ h9 => h9) m36 dX11_propose_50 ?_
      refine tw_getN hx hb hts bF2_X0 hown hK hT hg3 shc_3 rfl 11 (by decide) (hE.nw 27 rfl) (fun _ h9 => h9) dX11_propose_53 (fun v9 m41 h9 => ?_)
      obtain ⟨x42, rfl, gx42, kx42⟩ := h9 _ rfl
      refine lv_if_eq (tgt := 70) hx hb dX11_propose_56 (by decide) (fun c43 => ?_) (fun c43 => ?_)
      · have t44 : x42.toInt = 0 := ti_eq c43 rfl (by decide)
        refine lv_aload_n hx hb dX11_propose_70 rfl (lv_at hl 0 rfl) ?_
        refine tw_getM (v := .ref b2) hx hb hts bF2_X11 hown hK hT hr_o0 shc_14 rfl 3 (by decide) (ht_at2 hts 0 rfl) (fun _ h9 => h9) m36 dX11_propose_71 ?_
        have hFc := gA_free hG hA hS
        refine va_calli (va_runV (As := []) (rest := []) ⟨hx, hb, hml, hown, hts⟩ (c_proposeSpare l dC dI kA adK adV G H nC nS b2 hT hg3 (by omega) (by omega)) (cwV 0 hts (goodIn_app (goodIn_r _ [150, 151, 152, 153] rfl (by decide +kernel)) (goodIn_ca (goodIn_r _ [142, 143, 144, 145, 146, 147, 148, 149] rfl (by decide +kernel)) (bs2_in _ _))) rfl rfl rfl (by decide +kernel) ⟨(Nat.le_of_ble_eq_true rfl), (Nat.le_of_ble_eq_true rfl)⟩) ⟨fun a U g mk q => by obtain ⟨q0, q1, qK, qE⟩ := q; exact ⟨q0, q1, va_K.moved (u := U) (U := U.calling g mk a) (Vm.Alike.refl U.vm) qK, EVC.blind g mk a qE⟩, gH_rc hK hT hg3 shc_3 rfl, fun U hU hW => ⟨rfl, hU, va_K.moved hW.alike hK, hE.call hS hFc hU hW⟩⟩ rfl rfl hl.1 rfl (lv_room (Nat.le_of_ble_eq_true rfl)) dX11_propose_74 ⟨(Nat.le_of_ble_eq_true rfl), (Nat.le_of_ble_eq_true rfl)⟩) hS (fun q _ h => hFc q h) hFc (fun r45 u t H locs ht hvm hw46 hB _ _ hS => ?_)
        obtain ⟨hT, hF1⟩ := hB
        rw [ht] at hT hF1
        have hF := hF.more hF1 (by decide)
        try dsimp only at hw46
        have h53 := hw46
        refine W.widen (k := 1) (n := 6) (by decide) (by decide) ?_
        exact vx_ret (W.iret (v := r45) hx hb hr (fun t ht hW => ⟨⟨r45, (), rfl, (by exact (by have q8 := ti_all r45; omega)), by (try dsimp only); rw [ht]; exact ⟨hT, hF⟩⟩, hS.F ht⟩) hS.2.2 dX11_propose_77)
      · have t54 : x42.toInt ≠ 0 := ti_ne c43 rfl (by decide)
        obtain ⟨sa55, hsa55⟩ := hE.str 5 rfl
        exact vx_throwSW (names := ["java/lang/RuntimeException", "java/lang/Exception"]) hx hb hlt hown (by decide +kernel) (by decide +kernel) (ht_at2 hts 153 rfl) (ht_at2 hts 154 rfl) hsa55 (bX2_at3 hts hE) bX_ok3_69 hE.1.1.2.2.1 hE.1.1.2.2.2 hS (by rw [hml]; exact hl.1) dX11_propose_59 dX11_propose_62 dX11_propose_63 dX11_propose_66 dX11_propose_69 (fun x h => (hnt x h).elim) (by decide) (Nat.le_of_ble_eq_true rfl) (Nat.le_of_ble_eq_true rfl) (Nat.le_of_ble_eq_true rfl) hlocks (fun t hW hz hq => ⟨(), trivial, ⟨(Or.inr rfl), hT.ext hq, hF.ext hT hq⟩, Nat.le_trans hS.1 hz, fun q h1 h2 => (hq q (Nat.lt_of_lt_of_le h1 hS.1)).trans (hS.2.1 q h1 h2)⟩) hS.2.2 (by decide) (by decide)
def w_c_fault : List Cond := .code yX11_fault cX11_fault 1 (some .int) :: (HAppend.hAppend (α := List Cond) (β := List Cond) (γ := List Cond) [.fieldLink RX11 30 "SeaLand" "board" "LSeaLand$Board;"] bs2)
set_option maxHeartbeats 4000000 in
set_option maxRecDepth 100000 in
theorem c_fault (l : Launch) (dC : Nat → ClassId) (dI : Nat → Nat → Nat) (kA : Nat → ClassId) (adK adV : Nat → Nat) (G : gT) (H0 : Heap) (nC nS : Int) (o0 : Nat)  (hT : gH (dC, dI) kA (SHc nC nS) G H0) (hr_o0 : G o0 = some 14) (hgC : 0 ≤ nC ∧ nC ≤ 40) (hgS : 0 ≤ nS ∧ nS ≤ 60) : Met l yX11_fault w_c_fault ({ frames := 0, cells := 0, slots := 0, locals := 0 }) (va_Pc [.ref o0] (fun U => U.heap = H0 ∧ va_K (dC, dI) vwCl (tyl kA) U ∧ EVC adK adV (gA G H0.size) U U.heap)) (va_Qi (fun (r : Int32) (u : Unit) => True) (fun (_ : Unit) (t : State) => gH (dC, dI) kA (SHc nC nS) G t.heap ∧ gF (dC, dI) SKc G ([] : List (Nat × Nat)) H0 t.heap) (gA G H0.size)) 0 0 (gA G H0.size) := by
  refine Met.ofW (cc := cX11_fault) (maxL := 1) (ret := (some .int)) (by decide) rfl ?_
  intro p e s m args below meth c s₁ B hml hv
  obtain ⟨rfl, hH0, hK, hE⟩ := hv
  have hx := B.exec
  have hb := B.bytes
  have hr := B.returns
  have hts := atoms_spec (ws := w_c_fault) B.pre
  have hown : s.vm.findClass RX11 = some m.cls := findClass_of_methodNamed B.named
  have hlocks := B.notSynchronized
  subst hH0
  generalize hAe : gA G s.heap.size = A at hE ⊢
  have hA : ∀ q : Nat, s.heap.size ≤ q → A q := fun q h => by rw [← hAe]; exact Or.inr h
  have hG := gA_of hAe
  have hS : va_S A s.heap s.heap [] := va_S.rf
  have hF : gF (dC, dI) SKc G ([] : List (Nat × Nat)) s.heap s.heap := gF.rf
  have hl := lv_entry ([.ref o0]) (n := 1) (Nat.le_of_ble_eq_true rfl)
  rw [lg_entry_eq]
  generalize (lg_sl ([.ref o0]) ++ List.replicate (1 - (lg_sl ([.ref o0])).length) Slot.unset).toArray = ls at hl ⊢
  have hl : lv_has ls 1 [(0, .ref o0)] := hl
  refine lv_aload_n hx hb dX11_fault_0 rfl (lv_at hl 0 rfl) ?_
  refine tw_get hx hb hts bF2_X11 hown hK hT hr_o0 shc_14 rfl 3 (by decide) (ht_at2 hts 0 rfl) (fun _ h9 => h9) dX11_fault_1 (fun v9 m1 h9 => ?_)
  obtain ⟨b2, rfl, hg3⟩ := h9 _ rfl
  refine tw_getN hx hb hts bF2_X0 hown hK hT hg3 shc_3 rfl 10 (by decide) (hE.nw 25 rfl) (fun _ h9 => h9) dX11_fault_4 (fun v9 m4 h9 => ?_)
  obtain ⟨x5, rfl, gx5, kx5⟩ := h9 _ rfl
  exact W.iret (v := x5) hx hb hr (fun t ht hW => ⟨⟨x5, (), rfl, (by exact trivial), by (try dsimp only); rw [ht]; exact ⟨hT, hF⟩⟩, hS.F ht⟩) hS.2.2 dX11_fault_7
def w_c_vote : List Cond := .code yX11_vote cX11_vote 4 (some .int) :: (HAppend.hAppend (α := List Cond) (β := List Cond) (γ := List Cond) [.code yX11_settlerOf cX11_settlerOf 2 (some (.object "SeaLand$Settler")), .fieldLink RX11 30 "SeaLand" "board" "LSeaLand$Board;", .code yX11_within cX11_within 3 (some .boolean), .methodLink RX11 58 yX11_within, .static yX11_within, .initialized RX11, .classLink RX11 557 "java/lang/IndexOutOfBoundsException", .initialized "java/lang/IndexOutOfBoundsException", .methodLink RX11 292 yX11_settlerOf, .instanceMethod yX11_settlerOf, .selects RX11 yX11_settlerOf yX11_settlerOf, .code yX11_needVote cX11_needVote 1 none, .classLink RX11 69 "java/lang/IllegalStateException", .initialized "java/lang/IllegalStateException", .methodLink RX11 296 yX11_needVote, .instanceMethod yX11_needVote, .selects RX11 yX11_needVote yX11_needVote, .fieldLink RX11 16 "SeaLand" "lake" "LSeaLand$Lake;", .code yX0_hear cX0_hear 5 (some .int), .code yX0_gatherFacts cX0_gatherFacts 3 none, .fieldLink RX0 33 "SeaLand$Board" "facts" "[J", .code yX0_acresOf cX0_acresOf 4 (some .int), .fieldLink RX0 17 "SeaLand$Board" "farmOf" "[I", .methodLink RX0 98 yX0_acresOf, .instanceMethod yX0_acresOf, .selects RX0 yX0_acresOf yX0_acresOf, .initialized RX0, .code yX0_nearOf cX0_nearOf 5 (some .int), .code yX3_stepsToBank cX3_stepsToBank 4 (some .int), .fieldLink RX3 47 "SeaLand$Lake" "built" "I", .fieldLink RX3 27 "SeaLand$Lake" "works" "[LSeaLand$Work;", .code yX10_isBank cX10_isBank 1 (some .boolean), .fieldLink RX10 18 "SeaLand$Work" "kind" "I", .methodLink RX3 67 yX10_isBank, .instanceMethod yX10_isBank, .selects RX10 yX10_isBank yX10_isBank, .initialized RX10, .code yX11_stepsApart cX11_stepsApart 2 (some .int), .methodLink RX11 580 Lib.Math.abs.name, .static Lib.Math.abs.name, .initialized "java/lang/Math", .code Lib.Math.abs.name Lib.Math.abs.code 1 (some .int), .static yX11_stepsApart, .methodLink RX3 71 Lib.Math.min.name, .static Lib.Math.min.name, .code Lib.Math.min.name Lib.Math.min.code 2 (some .int), .methodLink RX0 138 yX3_stepsToBank, .instanceMethod yX3_stepsToBank, .selects RX3 yX3_stepsToBank yX3_stepsToBank, .initialized RX3, .methodLink RX0 166 Lib.Math.min.name, .methodLink RX0 123 yX0_nearOf, .instanceMethod yX0_nearOf, .selects RX0 yX0_nearOf yX0_nearOf, .methodLink RX0 84 yX0_gatherFacts, .instanceMethod yX0_gatherFacts, .selects RX0 yX0_gatherFacts yX0_gatherFacts, .code yX0_ruled cX0_ruled 2 (some .int), .fieldLink RX0 41 "SeaLand$Board" "force" "LSeaLand$Law;", .code yX4_sumThatHolds cX4_sumThatHolds 6 (some .long), .fieldLink RX4 60 "SeaLand$Law" "lines" "I", .fieldLink RX4 18 "SeaLand$Law" "kinds" "[I", .code yX4_lineHolds cX4_lineHolds 6 (some .boolean), .fieldLink RX4 33 "SeaLand$Law" "stepFrom" "[I", .fieldLink RX4 36 "SeaLand$Law" "stepTo" "[I", .fieldLink RX4 39 "SeaLand$Law" "steps" "[I", .fieldLink RX4 42 "SeaLand$Law" "stack" "[J", .code yX4_joined cX4_joined 5 (some .long), .methodLink RX4 199 Lib.MathLoose.max_long.x, .static Lib.MathLoose.max_long.x, .code Lib.MathLoose.max_long.x Lib.MathLoose.max_long.code 4 (some .long), .methodLink RX4 195 yX4_joined, .static yX4_joined, .initialized RX4, .methodLink RX4 203 yX4_lineHolds, .instanceMethod yX4_lineHolds, .selects RX4 yX4_lineHolds yX4_lineHolds, .fieldLink RX4 21 "SeaLand$Law" "firsts" "[I", .methodLink RX0 130 yX4_sumThatHolds, .instanceMethod yX4_sumThatHolds, .selects RX4 yX4_sumThatHolds yX4_sumThatHolds, .methodLink RX0 88 yX0_ruled, .instanceMethod yX0_ruled, .selects RX0 yX0_ruled yX0_ruled, .fieldLink RX0 72 "SeaLand$Board" "allVotes" "J", .fieldLink RX0 68 "SeaLand$Board" "yesVotes" "J", .methodLink RX11 299 yX0_hear, .instanceMethod yX0_hear, .selects RX0 yX0_hear yX0_hear] bs2)
set_option maxHeartbeats 4000000 in
set_option maxRecDepth 100000 in
theorem c_vote (l : Launch) (hlt : l.stackTraces = false) (dC : Nat → ClassId) (dI : Nat → Nat → Nat) (kA : Nat → ClassId) (adK adV : Nat → Nat) (G : gT) (H0 : Heap) (nC nS : Int) (o0 : Nat) (p0 : Int32) (p1 : Int32)  (hT : gH (dC, dI) kA (SHc nC nS) G H0) (hr_o0 : G o0 = some 14) (hq0 : 0 ≤ p1.toInt ∧ p1.toInt ≤ 1) (hgC : 0 ≤ nC ∧ nC ≤ 40) (hgS : 0 ≤ nS ∧ nS ≤ 60) : vx_Met l yX11_vote w_c_vote ({ frames := 7, cells := 2, slots := 12, locals := 159 }) (va_Pc [.ref o0, .int p0, .int p1] (fun U => U.heap = H0 ∧ va_K (dC, dI) vwCl (tyl kA) U ∧ EVC adK adV (gA G H0.size) U U.heap)) (va_Qi (fun (r : Int32) (u : Unit) => True) (fun (_ : Unit) (t : State) => gH (dC, dI) kA (SHc nC nS) G t.heap ∧ gF (dC, dI) SKc G ([(3, 12), (3, 13), (10, 11), (50, 0), (56, 0)] : List (Nat × Nat)) H0 t.heap) (gA G H0.size)) (vx_X (fun _ : Unit => True) (fun E _ t => (E = "java/lang/IllegalStateException" ∨ E = "java/lang/IndexOutOfBoundsException") ∧ gH (dC, dI) kA (SHc nC nS) G t.heap ∧ gF (dC, dI) SKc G ([(3, 12), (3, 13), (10, 11), (50, 0), (56, 0)] : List (Nat × Nat)) H0 t.heap) (gA G H0.size)) 2 12 (gA G H0.size) := by
  refine vx_ofW (cc := cX11_vote) (maxL := 4) (ret := (some .int)) (by decide) rfl ?_
  intro p e s m args below meth c s₁ B hml hnt hv
  obtain ⟨rfl, hH0, hK, hE⟩ := hv
  have hx := B.exec
  have hb := B.bytes
  have hr := B.returns
  have hts := atoms_spec (ws := w_c_vote) B.pre
  have hown : s.vm.findClass RX11 = some m.cls := findClass_of_methodNamed B.named
  have hlocks := B.notSynchronized
  subst hH0
  generalize hAe : gA G s.heap.size = A at hE ⊢
  have hA : ∀ q : Nat, s.heap.size ≤ q → A q := fun q h => by rw [← hAe]; exact Or.inr h
  have hG := gA_of hAe
  have hS : va_S A s.heap s.heap [] := va_S.rf
  have hF : gF (dC, dI) SKc G ([(3, 12), (3, 13), (10, 11), (50, 0), (56, 0)] : List (Nat × Nat)) s.heap s.heap := gF.rf
  have hl := lv_entry ([.ref o0, .int p0, .int p1]) (n := 4) (Nat.le_of_ble_eq_true rfl)
  rw [lg_entry_eq]
  generalize (lg_sl ([.ref o0, .int p0, .int p1]) ++ List.replicate (4 - (lg_sl ([.ref o0, .int p0, .int p1])).length) Slot.unset).toArray = ls at hl ⊢
  have hl : lv_has ls 4 [(0, .ref o0), (1, .int p0), (2, .int p1)] := hl
  refine lv_aload_n hx hb dX11_vote_0 rfl (lv_at hl 0 rfl) ?_
  refine lv_iload_n hx hb dX11_vote_1 rfl (lv_at hl 1 rfl) ?_
  have hFc := gA_free hG hA hS
  refine vx_callr (vx_runV (As := [.int p0]) (rest := []) ⟨hx, hb, hml, hown, hts⟩ (c_settlerOf l hlt dC dI kA adK adV G s.heap nC nS o0 p0 hT hr_o0 (by omega) (by omega)) (cwV 1 hts (goodIn_app (goodIn_r _ [9, 10, 11, 6] rfl (by decide +kernel)) (goodIn_ca (goodIn_r _ [1, 2, 3, 4, 5, 6, 7, 8] rfl (by decide +kernel)) (bs2_in _ _))) rfl rfl rfl (by decide +kernel) ⟨(Nat.le_of_ble_eq_true rfl), (Nat.le_of_ble_eq_true rfl)⟩) ⟨fun a U g mk q => by obtain ⟨q0, q1, qK, qE⟩ := q; exact ⟨q0, q1, va_K.moved (u := U) (U := U.calling g mk a) (Vm.Alike.refl U.vm) qK, EVC.blind g mk a qE⟩, gH_rc hK hT hr_o0 shc_14 rfl, fun U hU hW => ⟨rfl, hU, va_K.moved hW.alike hK, hE.call hS hFc hU hW⟩⟩ rfl rfl hl.1 rfl (lv_room (Nat.le_of_ble_eq_true rfl)) dX11_vote_2 ⟨(Nat.le_of_ble_eq_true rfl), (Nat.le_of_ble_eq_true rfl)⟩) hS (fun q _ h => hFc q h) hFc (fun q _ h => hFc q h) (fun E ce q9 u t H locs ht hvm _ hw2 _ _ hS hce hcv hcl => ?_) (fun u r1 t H locs ht hvm hw2 hB _ _ hS => ?_)
  · obtain ⟨hw2, hTx, hFx⟩ := hw2; rw [ht] at hTx hFx
    exact vx_out (fun x h => (hnt x h).elim) hlocks hce hcv hcl (fun t2 h2 hW => ⟨(), trivial, ⟨((fun h9 => (Or.inr h9)) hw2), by rw [h2]; exact hTx, by rw [h2]; exact hF.more hFx (by decide)⟩, hS.F h2⟩) hS.2.2 (by decide) (by decide)
  · obtain ⟨hr9, hT, hF1⟩ := hB
    rw [ht] at hT hF1
    have hF := hF.more hF1 (by decide)
    have hg3 := hr9
    try dsimp only at hw2
    refine lv_astore_n (lv' := [(3, .ref r1), (0, .ref o0), (1, .int p0), (2, .int p1)]) hx hb dX11_vote_5 rfl hl (by decide) rfl (fun ls hl => ?_)
    refine lv_aload_n hx hb dX11_vote_6 rfl (lv_at hl 1 rfl) ?_
    have hFc := gA_free hG hA hS
    refine vx_callv (vx_runV (As := []) (rest := []) ⟨hx, hb, hml, hown, hts⟩ (c_needVote l hlt dC dI kA adK adV G H nC nS o0 hT hr_o0 (by omega) (by omega)) (cwV 0 hts (goodIn_app (goodIn_r _ [15, 16, 17, 6] rfl (by decide +kernel)) (goodIn_ca (goodIn_r _ [12, 2, 13, 14] rfl (by decide +kernel)) (bs2_in _ _))) rfl rfl rfl (by decide +kernel) ⟨(Nat.le_of_ble_eq_true rfl), (Nat.le_of_ble_eq_true rfl)⟩) ⟨fun a U g mk q => by obtain ⟨q0, q1, qK, qE⟩ := q; exact ⟨q0, q1, va_K.moved (u := U) (U := U.calling g mk a) (Vm.Alike.refl U.vm) qK, EVC.blind g mk a qE⟩, gH_rc hK hT hr_o0 shc_14 rfl, fun U hU hW => ⟨rfl, hU, va_K.moved hW.alike hK, hE.call hS hFc hU hW⟩⟩ rfl rfl hl.1 rfl (lv_room (Nat.le_of_ble_eq_true rfl)) dX11_vote_7 ⟨(Nat.le_of_ble_eq_true rfl), (Nat.le_of_ble_eq_true rfl)⟩) hS (fun q _ h => hFc q h) hFc (fun q _ h => hFc q h) (fun E ce q9 u t H locs ht hvm _ hw5 _ _ hS hce hcv hcl => ?_) (fun u t H locs ht hvm hw5 hB _ _ hS => ?_)
    · obtain ⟨hw5, hTx, hFx⟩ := hw5; rw [ht] at hTx hFx
      exact vx_out (fun x h => (hnt x h).elim) hlocks hce hcv hcl (fun t2 h2 hW => ⟨(), trivial, ⟨((fun h9 => (Or.inl h9)) hw5), by rw [h2]; exact hTx, by rw [h2]; exact hF.more hFx (by decide)⟩, hS.F h2⟩) hS.2.2 (by decide) (by decide)
    · obtain ⟨hT, hF1⟩ := hB
      rw [ht] at hT hF1
      have hF := hF.more hF1 (by decide)
      try dsimp only at hw5
      refine lv_aload_n hx hb dX11_vote_10 rfl (lv_at hl 1 rfl) ?_
      refine tw_get hx hb hts bF2_X11 hown hK hT hr_o0 shc_14 rfl 3 (by decide) (ht_at2 hts 1 rfl) (fun _ h9 => h9) dX11_vote_11 (fun v9 m6 h9 => ?_)
      obtain ⟨b7, rfl, hg8⟩ := h9 _ rfl
      refine lv_aload_n hx hb dX11_vote_14 rfl (lv_at hl 0 rfl) ?_
      refine lv_iload_n hx hb dX11_vote_15 rfl (lv_at hl 3 rfl) ?_
      refine lv_aload_n hx hb dX11_vote_16 rfl (lv_at hl 1 rfl) ?_
      refine tw_get hx hb hts bF2_X11 hown hK hT hr_o0 shc_14 rfl 1 (by decide) (ht_at2 hts 17 rfl) (fun _ h9 => h9) dX11_vote_17 (fun v9 m9 h9 => ?_)
      obtain ⟨b10, rfl, hg11⟩ := h9 _ rfl
      have hFc := gA_free hG hA hS
      refine va_calli (va_runV (As := [.ref r1, .int p1, .ref b10]) (rest := []) ⟨hx, hb, hml, hown, hts⟩ (c_hear l dC dI kA adK adV G H nC nS b7 r1 p1 b10 hT hg3 hg11 hg8 (by have q8 := ti_all p1; omega) (by omega) (by omega)) (cwV 3 hts (goodIn_app (goodIn_r _ [87, 88, 89, 27] rfl (by decide +kernel)) (goodIn_ca (goodIn_r _ [19, 20, 21, 22, 23, 24, 25, 26, 27, 28, 29, 30, 31, 32, 33, 34, 35, 36, 37, 38, 39, 40, 41, 42, 6, 43, 44, 45, 46, 47, 48, 49, 50, 51, 52, 53, 54, 55, 56, 57, 58, 59, 60, 61, 62, 63, 64, 65, 66, 67, 68, 69, 70, 71, 72, 73, 74, 75, 76, 77, 78, 79, 80, 81, 82, 83, 84, 85, 86] rfl (by decide +kernel)) (bs2_in _ _))) rfl rfl rfl (by decide +kernel) ⟨(Nat.le_of_ble_eq_true rfl), (Nat.le_of_ble_eq_true rfl)⟩) ⟨fun a U g mk q => by obtain ⟨q0, q1, qK, qE⟩ := q; exact ⟨q0, q1, va_K.moved (u := U) (U := U.calling g mk a) (Vm.Alike.refl U.vm) qK, EVC.blind g mk a qE⟩, gH_rc hK hT hg8 shc_3 rfl, fun U hU hW => ⟨rfl, hU, va_K.moved hW.alike hK, hE.call hS hFc hU hW⟩⟩ rfl rfl hl.1 rfl (lv_room (Nat.le_of_ble_eq_true rfl)) dX11_vote_20 ⟨(Nat.le_of_ble_eq_true rfl), (Nat.le_of_ble_eq_true rfl)⟩) hS (fun q _ h => hFc q h) hFc (fun r12 u t H locs ht hvm hw13 hB _ _ hS => ?_)
      obtain ⟨hT, hF1⟩ := hB
      rw [ht] at hT hF1
      have hF := hF.more hF1 (by decide)
      try dsimp only at hw13
      exact vx_ret (W.iret (v := r12) hx hb hr (fun t ht hW => ⟨⟨r12, (), rfl, (by exact trivial), by (try dsimp only); rw [ht]; exact ⟨hT, hF⟩⟩, hS.F ht⟩) hS.2.2 dX11_vote_23)
def w_c_close : List Cond := .code yX11_close cX11_close 1 (some .boolean) :: (HAppend.hAppend (α := List Cond) (β := List Cond) (γ := List Cond) [.code yX11_needVote cX11_needVote 1 none, .fieldLink RX11 30 "SeaLand" "board" "LSeaLand$Board;", .classLink RX11 69 "java/lang/IllegalStateException", .initialized "java/lang/IllegalStateException", .methodLink RX11 296 yX11_needVote, .instanceMethod yX11_needVote, .selects RX11 yX11_needVote yX11_needVote, .initialized RX11, .code yX0_closeVote cX0_closeVote 3 (some .boolean), .fieldLink RX0 68 "SeaLand$Board" "yesVotes" "J", .constantLong RX0 92 100, .fieldLink RX0 72 "SeaLand$Board" "allVotes" "J", .fieldLink RX0 41 "SeaLand$Board" "force" "LSeaLand$Law;", .code yX4_lastOf cX4_lastOf 5 (some .int), .fieldLink RX4 60 "SeaLand$Law" "lines" "I", .fieldLink RX4 18 "SeaLand$Law" "kinds" "[I", .fieldLink RX4 21 "SeaLand$Law" "firsts" "[I", .methodLink RX0 94 yX4_lastOf, .instanceMethod yX4_lastOf, .selects RX4 yX4_lastOf yX4_lastOf, .initialized RX4, .fieldLink RX0 64 "SeaLand$Board" "voting" "Z", .fieldLink RX0 45 "SeaLand$Board" "proposed" "LSeaLand$Law;", .methodLink RX11 303 yX0_closeVote, .instanceMethod yX0_closeVote, .selects RX0 yX0_closeVote yX0_closeVote, .initialized RX0] bs2)
set_option maxHeartbeats 4000000 in
set_option maxRecDepth 100000 in
theorem c_close (l : Launch) (hlt : l.stackTraces = false) (dC : Nat → ClassId) (dI : Nat → Nat → Nat) (kA : Nat → ClassId) (adK adV : Nat → Nat) (G : gT) (H0 : Heap) (nC nS : Int) (o0 : Nat)  (hT : gH (dC, dI) kA (SHc nC nS) G H0) (hr_o0 : G o0 = some 14) (hgC : 0 ≤ nC ∧ nC ≤ 40) (hgS : 0 ≤ nS ∧ nS ≤ 60) : vx_Met l yX11_close w_c_close ({ frames := 7, cells := 1, slots := 6, locals := 120 }) (va_Pc [.ref o0] (fun U => U.heap = H0 ∧ va_K (dC, dI) vwCl (tyl kA) U ∧ EVC adK adV (gA G H0.size) U U.heap)) (va_Qi (fun (r : Int32) (u : Unit) => (0 ≤ r.toInt ∧ r.toInt ≤ 1)) (fun (_ : Unit) (t : State) => gH (dC, dI) kA (SHc nC nS) G t.heap ∧ gF (dC, dI) SKc G ([(3, 7), (3, 8), (3, 11)] : List (Nat × Nat)) H0 t.heap) (gA G H0.size)) (vx_X (fun _ : Unit => True) (fun E _ t => (E = "java/lang/IllegalStateException") ∧ gH (dC, dI) kA (SHc nC nS) G t.heap ∧ gF (dC, dI) SKc G ([(3, 7), (3, 8), (3, 11)] : List (Nat × Nat)) H0 t.heap) (gA G H0.size)) 1 6 (gA G H0.size) := by
  refine vx_ofW (cc := cX11_close) (maxL := 1) (ret := (some .boolean)) (by decide) rfl ?_
  intro p e s m args below meth c s₁ B hml hnt hv
  obtain ⟨rfl, hH0, hK, hE⟩ := hv
  have hx := B.exec
  have hb := B.bytes
  have hr := B.returns
  have hts := atoms_spec (ws := w_c_close) B.pre
  have hown : s.vm.findClass RX11 = some m.cls := findClass_of_methodNamed B.named
  have hlocks := B.notSynchronized
  subst hH0
  generalize hAe : gA G s.heap.size = A at hE ⊢
  have hA : ∀ q : Nat, s.heap.size ≤ q → A q := fun q h => by rw [← hAe]; exact Or.inr h
  have hG := gA_of hAe
  have hS : va_S A s.heap s.heap [] := va_S.rf
  have hF : gF (dC, dI) SKc G ([(3, 7), (3, 8), (3, 11)] : List (Nat × Nat)) s.heap s.heap := gF.rf
  have hl := lv_entry ([.ref o0]) (n := 1) (Nat.le_of_ble_eq_true rfl)
  rw [lg_entry_eq]
  generalize (lg_sl ([.ref o0]) ++ List.replicate (1 - (lg_sl ([.ref o0])).length) Slot.unset).toArray = ls at hl ⊢
  have hl : lv_has ls 1 [(0, .ref o0)] := hl
  refine lv_aload_n hx hb dX11_close_0 rfl (lv_at hl 0 rfl) ?_
  have hFc := gA_free hG hA hS
  refine vx_callv (vx_runV (As := []) (rest := []) ⟨hx, hb, hml, hown, hts⟩ (c_needVote l hlt dC dI kA adK adV G s.heap nC nS o0 hT hr_o0 (by omega) (by omega)) (cwV 0 hts (goodIn_app (goodIn_r _ [5, 6, 7, 8] rfl (by decide +kernel)) (goodIn_ca (goodIn_r _ [1, 2, 3, 4] rfl (by decide +kernel)) (bs2_in _ _))) rfl rfl rfl (by decide +kernel) ⟨(Nat.le_of_ble_eq_true rfl), (Nat.le_of_ble_eq_true rfl)⟩) ⟨fun a U g mk q => by obtain ⟨q0, q1, qK, qE⟩ := q; exact ⟨q0, q1, va_K.moved (u := U) (U := U.calling g mk a) (Vm.Alike.refl U.vm) qK, EVC.blind g mk a qE⟩, gH_rc hK hT hr_o0 shc_14 rfl, fun U hU hW => ⟨rfl, hU, va_K.moved hW.alike hK, hE.call hS hFc hU hW⟩⟩ rfl rfl hl.1 rfl (lv_room (Nat.le_of_ble_eq_true rfl)) dX11_close_1 ⟨(Nat.le_of_ble_eq_true rfl), (Nat.le_of_ble_eq_true rfl)⟩) hS (fun q _ h => hFc q h) hFc (fun q _ h => hFc q h) (fun E ce q9 u t H locs ht hvm _ hw2 _ _ hS hce hcv hcl => ?_) (fun u t H locs ht hvm hw2 hB _ _ hS => ?_)
  · obtain ⟨hw2, hTx, hFx⟩ := hw2; rw [ht] at hTx hFx
    exact vx_out (fun x h => (hnt x h).elim) hlocks hce hcv hcl (fun t2 h2 hW => ⟨(), trivial, ⟨((fun h9 => h9) hw2), by rw [h2]; exact hTx, by rw [h2]; exact hF.more hFx (by decide)⟩, hS.F h2⟩) hS.2.2 (by decide) (by decide)
  · obtain ⟨hT, hF1⟩ := hB
    rw [ht] at hT hF1
    have hF := hF.more hF1 (by decide)
    try dsimp only at hw2
    refine lv_aload_n hx hb dX11_close_4 rfl (lv_at hl 0 rfl) ?_
    refine tw_get hx hb hts bF2_X11 hown hK hT hr_o0 shc_14 rfl 3 (by decide) (ht_at2 hts 1 rfl) (fun _ h9 => h9) dX11_close_5 (fun v9 m3 h9 => ?_)
    obtain ⟨b4, rfl, hg5⟩ := h9 _ rfl
    have hFc := gA_free hG hA hS
    refine va_calli (va_runV (As := []) (rest := []) ⟨hx, hb, hml, hown, hts⟩ (c_closeVote l dC dI kA adK adV G H nC nS b4 hT hg5 (by omega) (by omega)) (cwV 0 hts (goodIn_app (goodIn_r _ [24, 25, 26, 27] rfl (by decide +kernel)) (goodIn_ca (goodIn_r _ [9, 10, 11, 12, 13, 14, 15, 16, 17, 18, 19, 20, 21, 22, 23] rfl (by decide +kernel)) (bs2_in _ _))) rfl rfl rfl (by decide +kernel) ⟨(Nat.le_of_ble_eq_true rfl), (Nat.le_of_ble_eq_true rfl)⟩) ⟨fun a U g mk q => by obtain ⟨q0, q1, qK, qE⟩ := q; exact ⟨q0, q1, va_K.moved (u := U) (U := U.calling g mk a) (Vm.Alike.refl U.vm) qK, EVC.blind g mk a qE⟩, gH_rc hK hT hg5 shc_3 rfl, fun U hU hW => ⟨rfl, hU, va_K.moved hW.alike hK, hE.call hS hFc hU hW⟩⟩ rfl rfl hl.1 rfl (lv_room (Nat.le_of_ble_eq_true rfl)) dX11_close_8 ⟨(Nat.le_of_ble_eq_true rfl), (Nat.le_of_ble_eq_true rfl)⟩) hS (fun q _ h => hFc q h) hFc (fun r6 u t H locs ht hvm hw7 hB _ _ hS => ?_)
    obtain ⟨hT, hF1⟩ := hB
    rw [ht] at hT hF1
    have hF := hF.more hF1 (by decide)
    try dsimp only at hw7
    have h9 := hw7
    exact vx_ret (W.zret (v := r6) hx hb hr (nar_b (by have q8 := ti_all r6; omega)) (fun t ht hW => ⟨⟨r6, (), rfl, (by exact (by have q8 := ti_all r6; omega)), by (try dsimp only); rw [ht]; exact ⟨hT, hF⟩⟩, hS.F ht⟩) hS.2.2 dX11_close_11)
def w_c_rules : List Cond := .code yX11_rules cX11_rules 4 (some .int) :: (HAppend.hAppend (α := List Cond) (β := List Cond) (γ := List Cond) [.code yX11_settlerOf cX11_settlerOf 2 (some (.object "SeaLand$Settler")), .fieldLink RX11 30 "SeaLand" "board" "LSeaLand$Board;", .code yX11_within cX11_within 3 (some .boolean), .methodLink RX11 58 yX11_within, .static yX11_within, .initialized RX11, .classLink RX11 557 "java/lang/IndexOutOfBoundsException", .initialized "java/lang/IndexOutOfBoundsException", .methodLink RX11 292 yX11_settlerOf, .instanceMethod yX11_settlerOf, .selects RX11 yX11_settlerOf yX11_settlerOf, .fieldLink RX11 16 "SeaLand" "lake" "LSeaLand$Lake;", .code yX0_gatherFacts cX0_gatherFacts 3 none, .fieldLink RX0 33 "SeaLand$Board" "facts" "[J", .code yX0_acresOf cX0_acresOf 4 (some .int), .fieldLink RX0 17 "SeaLand$Board" "farmOf" "[I", .methodLink RX0 98 yX0_acresOf, .instanceMethod yX0_acresOf, .selects RX0 yX0_acresOf yX0_acresOf, .initialized RX0, .code yX0_nearOf cX0_nearOf 5 (some .int), .code yX3_stepsToBank cX3_stepsToBank 4 (some .int), .fieldLink RX3 47 "SeaLand$Lake" "built" "I", .fieldLink RX3 27 "SeaLand$Lake" "works" "[LSeaLand$Work;", .code yX10_isBank cX10_isBank 1 (some .boolean), .fieldLink RX10 18 "SeaLand$Work" "kind" "I", .methodLink RX3 67 yX10_isBank, .instanceMethod yX10_isBank, .selects RX10 yX10_isBank yX10_isBank, .initialized RX10, .code yX11_stepsApart cX11_stepsApart 2 (some .int), .methodLink RX11 580 Lib.Math.abs.name, .static Lib.Math.abs.name, .initialized "java/lang/Math", .code Lib.Math.abs.name Lib.Math.abs.code 1 (some .int), .static yX11_stepsApart, .methodLink RX3 71 Lib.Math.min.name, .static Lib.Math.min.name, .code Lib.Math.min.name Lib.Math.min.code 2 (some .int), .methodLink RX0 138 yX3_stepsToBank, .instanceMethod yX3_stepsToBank, .selects RX3 yX3_stepsToBank yX3_stepsToBank, .initialized RX3, .methodLink RX0 166 Lib.Math.min.name, .methodLink RX0 123 yX0_nearOf, .instanceMethod yX0_nearOf, .selects RX0 yX0_nearOf yX0_nearOf, .methodLink RX11 306 yX0_gatherFacts, .instanceMethod yX0_gatherFacts, .selects RX0 yX0_gatherFacts yX0_gatherFacts, .code yX0_duesAndGain cX0_duesAndGain 3 (some .int), .fieldLink RX0 41 "SeaLand$Board" "force" "LSeaLand$Law;", .code yX4_sumThatHolds cX4_sumThatHolds 6 (some .long), .fieldLink RX4 60 "SeaLand$Law" "lines" "I", .fieldLink RX4 18 "SeaLand$Law" "kinds" "[I", .code yX4_lineHolds cX4_lineHolds 6 (some .boolean), .fieldLink RX4 33 "SeaLand$Law" "stepFrom" "[I", .fieldLink RX4 36 "SeaLand$Law" "stepTo" "[I", .fieldLink RX4 39 "SeaLand$Law" "steps" "[I", .fieldLink RX4 42 "SeaLand$Law" "stack" "[J", .code yX4_joined cX4_joined 5 (some .long), .methodLink RX4 199 Lib.MathLoose.max_long.x, .static Lib.MathLoose.max_long.x, .code Lib.MathLoose.max_long.x Lib.MathLoose.max_long.code 4 (some .long), .methodLink RX4 195 yX4_joined, .static yX4_joined, .initialized RX4, .methodLink RX4 203 yX4_lineHolds, .instanceMethod yX4_lineHolds, .selects RX4 yX4_lineHolds yX4_lineHolds, .fieldLink RX4 21 "SeaLand$Law" "firsts" "[I", .methodLink RX0 130 yX4_sumThatHolds, .instanceMethod yX4_sumThatHolds, .selects RX4 yX4_sumThatHolds yX4_sumThatHolds, .constantLong RX0 92 100, .methodLink RX11 310 yX0_duesAndGain, .instanceMethod yX0_duesAndGain, .selects RX0 yX0_duesAndGain yX0_duesAndGain, .code yX0_ruled cX0_ruled 2 (some .int), .methodLink RX11 313 yX0_ruled, .instanceMethod yX0_ruled, .selects RX0 yX0_ruled yX0_ruled, .code yX0_isRuled cX0_isRuled 2 (some .boolean), .code yX4_firstThatHolds cX4_firstThatHolds 4 (some .int), .methodLink RX0 134 yX4_firstThatHolds, .instanceMethod yX4_firstThatHolds, .selects RX4 yX4_firstThatHolds yX4_firstThatHolds, .methodLink RX11 316 yX0_isRuled, .instanceMethod yX0_isRuled, .selects RX0 yX0_isRuled yX0_isRuled, .classLink RX11 134 "java/util/NoSuchElementException", .initialized "java/util/NoSuchElementException"] bs2)
set_option maxHeartbeats 4000000 in
set_option maxRecDepth 100000 in
theorem c_rules (l : Launch) (hlt : l.stackTraces = false) (dC : Nat → ClassId) (dI : Nat → Nat → Nat) (kA : Nat → ClassId) (adK adV : Nat → Nat) (G : gT) (H0 : Heap) (nC nS : Int) (o0 : Nat) (p0 : Int32) (p1 : Int32)  (hT : gH (dC, dI) kA (SHc nC nS) G H0) (hr_o0 : G o0 = some 14) (hgC : 0 ≤ nC ∧ nC ≤ 40) (hgS : 0 ≤ nS ∧ nS ≤ 60) : vx_Met l yX11_rules w_c_rules ({ frames := 7, cells := 2, slots := 12, locals := 136 }) (va_Pc [.ref o0, .int p0, .int p1] (fun U => U.heap = H0 ∧ va_K (dC, dI) vwCl (tyl kA) U ∧ EVC adK adV (gA G H0.size) U U.heap)) (va_Qi (fun (r : Int32) (u : Unit) => True) (fun (_ : Unit) (t : State) => gH (dC, dI) kA (SHc nC nS) G t.heap ∧ gF (dC, dI) SKc G ([(50, 0), (56, 0)] : List (Nat × Nat)) H0 t.heap) (gA G H0.size)) (vx_X (fun _ : Unit => True) (fun E _ t => (E = "java/lang/IndexOutOfBoundsException" ∨ E = "java/util/NoSuchElementException") ∧ gH (dC, dI) kA (SHc nC nS) G t.heap ∧ gF (dC, dI) SKc G ([(50, 0), (56, 0)] : List (Nat × Nat)) H0 t.heap) (gA G H0.size)) 2 12 (gA G H0.size) := by
  refine vx_ofW (cc := cX11_rules) (maxL := 4) (ret := (some .int)) (by decide) rfl ?_
  intro p e s m args below meth c s₁ B hml hnt hv
  obtain ⟨rfl, hH0, hK, hE⟩ := hv
  have hx := B.exec
  have hb := B.bytes
  have hr := B.returns
  have hts := atoms_spec (ws := w_c_rules) B.pre
  have hown : s.vm.findClass RX11 = some m.cls := findClass_of_methodNamed B.named
  have hlocks := B.notSynchronized
  subst hH0
  generalize hAe : gA G s.heap.size = A at hE ⊢
  have hA : ∀ q : Nat, s.heap.size ≤ q → A q := fun q h => by rw [← hAe]; exact Or.inr h
  have hG := gA_of hAe
  have hS : va_S A s.heap s.heap [] := va_S.rf
  have hF : gF (dC, dI) SKc G ([(50, 0), (56, 0)] : List (Nat × Nat)) s.heap s.heap := gF.rf
  have hl := lv_entry ([.ref o0, .int p0, .int p1]) (n := 4) (Nat.le_of_ble_eq_true rfl)
  rw [lg_entry_eq]
  generalize (lg_sl ([.ref o0, .int p0, .int p1]) ++ List.replicate (4 - (lg_sl ([.ref o0, .int p0, .int p1])).length) Slot.unset).toArray = ls at hl ⊢
  have hl : lv_has ls 4 [(0, .ref o0), (1, .int p0), (2, .int p1)] := hl
  refine lv_aload_n hx hb dX11_rules_0 rfl (lv_at hl 0 rfl) ?_
  refine lv_iload_n hx hb dX11_rules_1 rfl (lv_at hl 1 rfl) ?_
  have hFc := gA_free hG hA hS
  refine vx_callr (vx_runV (As := [.int p0]) (rest := []) ⟨hx, hb, hml, hown, hts⟩ (c_settlerOf l hlt dC dI kA adK adV G s.heap nC nS o0 p0 hT hr_o0 (by omega) (by omega)) (cwV 1 hts (goodIn_app (goodIn_r _ [9, 10, 11, 6] rfl (by decide +kernel)) (goodIn_ca (goodIn_r _ [1, 2, 3, 4, 5, 6, 7, 8] rfl (by decide +kernel)) (bs2_in _ _))) rfl rfl rfl (by decide +kernel) ⟨(Nat.le_of_ble_eq_true rfl), (Nat.le_of_ble_eq_true rfl)⟩) ⟨fun a U g mk q => by obtain ⟨q0, q1, qK, qE⟩ := q; exact ⟨q0, q1, va_K.moved (u := U) (U := U.calling g mk a) (Vm.Alike.refl U.vm) qK, EVC.blind g mk a qE⟩, gH_rc hK hT hr_o0 shc_14 rfl, fun U hU hW => ⟨rfl, hU, va_K.moved hW.alike hK, hE.call hS hFc hU hW⟩⟩ rfl rfl hl.1 rfl (lv_room (Nat.le_of_ble_eq_true rfl)) dX11_rules_2 ⟨(Nat.le_of_ble_eq_true rfl), (Nat.le_of_ble_eq_true rfl)⟩) hS (fun q _ h => hFc q h) hFc (fun q _ h => hFc q h) (fun E ce q9 u t H locs ht hvm _ hw2 _ _ hS hce hcv hcl => ?_) (fun u r1 t H locs ht hvm hw2 hB _ _ hS => ?_)
  · obtain ⟨hw2, hTx, hFx⟩ := hw2; rw [ht] at hTx hFx
    exact vx_out (fun x h => (hnt x h).elim) hlocks hce hcv hcl (fun t2 h2 hW => ⟨(), trivial, ⟨((fun h9 => (Or.inl h9)) hw2), by rw [h2]; exact hTx, by rw [h2]; exact hF.more hFx (by decide)⟩, hS.F h2⟩) hS.2.2 (by decide) (by decide)
  · obtain ⟨hr9, hT, hF1⟩ := hB
    rw [ht] at hT hF1
    have hF := hF.more hF1 (by decide)
    have hg3 := hr9
    try dsimp only at hw2
    refine lv_astore_n (lv' := [(3, .ref r1), (0, .ref o0), (1, .int p0), (2, .int p1)]) hx hb dX11_rules_5 rfl hl (by decide) rfl (fun ls hl => ?_)
    refine lv_aload_n hx hb dX11_rules_6 rfl (lv_at hl 1 rfl) ?_
    refine tw_get hx hb hts bF2_X11 hown hK hT hr_o0 shc_14 rfl 3 (by decide) (ht_at2 hts 1 rfl) (fun _ h9 => h9) dX11_rules_7 (fun v9 m4 h9 => ?_)
    obtain ⟨b5, rfl, hg6⟩ := h9 _ rfl
    refine lv_aload_n hx hb dX11_rules_10 rfl (lv_at hl 0 rfl) ?_
    refine lv_aload_n hx hb dX11_rules_11 rfl (lv_at hl 1 rfl) ?_
    refine tw_get hx hb hts bF2_X11 hown hK hT hr_o0 shc_14 rfl 1 (by decide) (ht_at2 hts 11 rfl) (fun _ h9 => h9) dX11_rules_12 (fun v9 m7 h9 => ?_)
    obtain ⟨b8, rfl, hg9⟩ := h9 _ rfl
    have hFc := gA_free hG hA hS
    refine va_callv (va_runV (As := [.ref r1, .ref b8]) (rest := []) ⟨hx, hb, hml, hown, hts⟩ (c_gatherFacts l dC dI kA adK adV G H nC nS b5 r1 b8 hT hg3 hg9 hg6 (by omega) (by omega)) (cwV 2 hts (goodIn_app (goodIn_r _ [48, 49, 50, 20] rfl (by decide +kernel)) (goodIn_ca (goodIn_r _ [13, 14, 15, 16, 17, 18, 19, 20, 21, 22, 23, 24, 25, 26, 27, 28, 29, 30, 31, 32, 33, 34, 35, 6, 36, 37, 38, 39, 40, 41, 42, 43, 44, 45, 46, 47] rfl (by decide +kernel)) (bs2_in _ _))) rfl rfl rfl (by decide +kernel) ⟨(Nat.le_of_ble_eq_true rfl), (Nat.le_of_ble_eq_true rfl)⟩) ⟨fun a U g mk q => by obtain ⟨q0, q1, qK, qE⟩ := q; exact ⟨q0, q1, va_K.moved (u := U) (U := U.calling g mk a) (Vm.Alike.refl U.vm) qK, EVC.blind g mk a qE⟩, gH_rc hK hT hg6 shc_3 rfl, fun U hU hW => ⟨rfl, hU, va_K.moved hW.alike hK, hE.call hS hFc hU hW⟩⟩ rfl rfl hl.1 rfl (lv_room (Nat.le_of_ble_eq_true rfl)) dX11_rules_15 ⟨(Nat.le_of_ble_eq_true rfl), (Nat.le_of_ble_eq_true rfl)⟩) hS (fun q _ h => hFc q h) hFc (fun u t H locs ht hvm hw11 hB _ _ hS => ?_)
    obtain ⟨hT, hF1⟩ := hB
    rw [ht] at hT hF1
    have m12 := (hF1.fld hr_o0 skc_14 (k := 3) (by decide) (by decide)).trans m4
    have hF := hF.more hF1 (by decide)
    try dsimp only at hw11
    refine lv_iload_n hx hb dX11_rules_18 rfl (lv_at hl 3 rfl) ?_
    by_cases hs14 : p1 = 0
    · subst hs14
      refine lv_tableIn (x := 0) (off := 37) (tgt := 56) hx hb dX11_rules_19 (by decide) (by decide) (by decide) (by decide) ?_
      refine lv_aload_n hx hb dX11_rules_56 rfl (lv_at hl 1 rfl) ?_
      refine tw_getM (v := .ref b5) hx hb hts bF2_X11 hown hK hT hr_o0 shc_14 rfl 3 (by decide) (ht_at2 hts 1 rfl) (fun _ h9 => h9) m12 dX11_rules_57 ?_
      have hFc := gA_free hG hA hS
      refine va_calli (va_runV (As := []) (rest := []) ⟨hx, hb, hml, hown, hts⟩ (c_duesAndGain l dC dI kA adK adV G H nC nS b5 hT hg6 (by omega) (by omega)) (cwV 0 hts (goodIn_app (goodIn_r _ [76, 77, 78, 20] rfl (by decide +kernel)) (goodIn_ca (goodIn_r _ [51, 52, 14, 53, 54, 55, 56, 57, 58, 59, 60, 61, 62, 63, 34, 64, 65, 66, 67, 68, 69, 70, 71, 72, 73, 74, 75] rfl (by decide +kernel)) (bs2_in _ _))) rfl rfl rfl (by decide +kernel) ⟨(Nat.le_of_ble_eq_true rfl), (Nat.le_of_ble_eq_true rfl)⟩) ⟨fun a U g mk q => by obtain ⟨q0, q1, qK, qE⟩ := q; exact ⟨q0, q1, va_K.moved (u := U) (U := U.calling g mk a) (Vm.Alike.refl U.vm) qK, EVC.blind g mk a qE⟩, gH_rc hK hT hg6 shc_3 rfl, fun U hU hW => ⟨rfl, hU, va_K.moved hW.alike hK, hE.call hS hFc hU hW⟩⟩ rfl rfl hl.1 rfl (lv_room (Nat.le_of_ble_eq_true rfl)) dX11_rules_60 ⟨(Nat.le_of_ble_eq_true rfl), (Nat.le_of_ble_eq_true rfl)⟩) hS (fun q _ h => hFc q h) hFc (fun r15 u t H locs ht hvm hw16 hB _ _ hS => ?_)
      obtain ⟨hT, hF1⟩ := hB
      rw [ht] at hT hF1
      have hF := hF.more hF1 (by decide)
      try dsimp only at hw16
      refine W.widen (k := 2) (n := 12) (by decide) (by decide) ?_
      exact vx_ret (W.iret (v := r15) hx hb hr (fun t ht hW => ⟨⟨r15, (), rfl, (by exact trivial), by (try dsimp only); rw [ht]; exact ⟨hT, hF⟩⟩, hS.F ht⟩) hS.2.2 dX11_rules_63)
    by_cases hs19 : p1 = 1
    · subst hs19
      refine lv_tableIn (x := 1) (off := 45) (tgt := 64) hx hb dX11_rules_19 (by decide) (by decide) (by decide) (by decide) ?_
      refine lv_aload_n hx hb dX11_rules_64 rfl (lv_at hl 1 rfl) ?_
      refine tw_getM (v := .ref b5) hx hb hts bF2_X11 hown hK hT hr_o0 shc_14 rfl 3 (by decide) (ht_at2 hts 1 rfl) (fun _ h9 => h9) m12 dX11_rules_65 ?_
      refine lv_iconst (v := 2) hx hb dX11_rules_68 (by decide) ?_
      have hFc := gA_free hG hA hS
      refine va_calli (va_runV (As := [.int 2]) (rest := []) ⟨hx, hb, hml, hown, hts⟩ (c_ruled l dC dI kA adK adV G H nC nS b5 2 hT hg6 (by omega) (by omega)) (cwV 1 hts (goodIn_app (goodIn_r _ [80, 81, 82, 20] rfl (by decide +kernel)) (goodIn_ca (goodIn_r _ [79, 52, 14, 53, 54, 55, 56, 57, 58, 59, 60, 61, 62, 63, 34, 64, 65, 66, 67, 68, 69, 70, 71, 72, 73, 74] rfl (by decide +kernel)) (bs2_in _ _))) rfl rfl rfl (by decide +kernel) ⟨(Nat.le_of_ble_eq_true rfl), (Nat.le_of_ble_eq_true rfl)⟩) ⟨fun a U g mk q => by obtain ⟨q0, q1, qK, qE⟩ := q; exact ⟨q0, q1, va_K.moved (u := U) (U := U.calling g mk a) (Vm.Alike.refl U.vm) qK, EVC.blind g mk a qE⟩, gH_rc hK hT hg6 shc_3 rfl, fun U hU hW => ⟨rfl, hU, va_K.moved hW.alike hK, hE.call hS hFc hU hW⟩⟩ rfl rfl hl.1 rfl (lv_room (Nat.le_of_ble_eq_true rfl)) dX11_rules_69 ⟨(Nat.le_of_ble_eq_true rfl), (Nat.le_of_ble_eq_true rfl)⟩) hS (fun q _ h => hFc q h) hFc (fun r20 u t H locs ht hvm hw21 hB _ _ hS => ?_)
      obtain ⟨hT, hF1⟩ := hB
      rw [ht] at hT hF1
      have hF := hF.more hF1 (by decide)
      try dsimp only at hw21
      refine W.widen (k := 2) (n := 12) (by decide) (by decide) ?_
      exact vx_ret (W.iret (v := r20) hx hb hr (fun t ht hW => ⟨⟨r20, (), rfl, (by exact trivial), by (try dsimp only); rw [ht]; exact ⟨hT, hF⟩⟩, hS.F ht⟩) hS.2.2 dX11_rules_72)
    by_cases hs24 : p1 = 2
    · subst hs24
      refine lv_tableIn (x := 2) (off := 54) (tgt := 73) hx hb dX11_rules_19 (by decide) (by decide) (by decide) (by decide) ?_
      refine lv_aload_n hx hb dX11_rules_73 rfl (lv_at hl 1 rfl) ?_
      refine tw_getM (v := .ref b5) hx hb hts bF2_X11 hown hK hT hr_o0 shc_14 rfl 3 (by decide) (ht_at2 hts 1 rfl) (fun _ h9 => h9) m12 dX11_rules_74 ?_
      refine lv_iconst (v := 3) hx hb dX11_rules_77 (by decide) ?_
      have hFc := gA_free hG hA hS
      refine va_calli (va_runV (As := [.int 3]) (rest := []) ⟨hx, hb, hml, hown, hts⟩ (c_ruled l dC dI kA adK adV G H nC nS b5 3 hT hg6 (by omega) (by omega)) (cwV 1 hts (goodIn_app (goodIn_r _ [80, 81, 82, 20] rfl (by decide +kernel)) (goodIn_ca (goodIn_r _ [79, 52, 14, 53, 54, 55, 56, 57, 58, 59, 60, 61, 62, 63, 34, 64, 65, 66, 67, 68, 69, 70, 71, 72, 73, 74] rfl (by decide +kernel)) (bs2_in _ _))) rfl rfl rfl (by decide +kernel) ⟨(Nat.le_of_ble_eq_true rfl), (Nat.le_of_ble_eq_true rfl)⟩) ⟨fun a U g mk q => by obtain ⟨q0, q1, qK, qE⟩ := q; exact ⟨q0, q1, va_K.moved (u := U) (U := U.calling g mk a) (Vm.Alike.refl U.vm) qK, EVC.blind g mk a qE⟩, gH_rc hK hT hg6 shc_3 rfl, fun U hU hW => ⟨rfl, hU, va_K.moved hW.alike hK, hE.call hS hFc hU hW⟩⟩ rfl rfl hl.1 rfl (lv_room (Nat.le_of_ble_eq_true rfl)) dX11_rules_78 ⟨(Nat.le_of_ble_eq_true rfl), (Nat.le_of_ble_eq_true rfl)⟩) hS (fun q _ h => hFc q h) hFc (fun r25 u t H locs ht hvm hw26 hB _ _ hS => ?_)
      obtain ⟨hT, hF1⟩ := hB
      rw [ht] at hT hF1
      have hF := hF.more hF1 (by decide)
      try dsimp only at hw26
      refine W.widen (k := 2) (n := 12) (by decide) (by decide) ?_
      exact vx_ret (W.iret (v := r25) hx hb hr (fun t ht hW => ⟨⟨r25, (), rfl, (by exact trivial), by (try dsimp only); rw [ht]; exact ⟨hT, hF⟩⟩, hS.F ht⟩) hS.2.2 dX11_rules_81)
    by_cases hs29 : p1 = 3
    · subst hs29
      refine lv_tableIn (x := 3) (off := 63) (tgt := 82) hx hb dX11_rules_19 (by decide) (by decide) (by decide) (by decide) ?_
      refine lv_aload_n hx hb dX11_rules_82 rfl (lv_at hl 1 rfl) ?_
      refine tw_getM (v := .ref b5) hx hb hts bF2_X11 hown hK hT hr_o0 shc_14 rfl 3 (by decide) (ht_at2 hts 1 rfl) (fun _ h9 => h9) m12 dX11_rules_83 ?_
      refine lv_iconst (v := 4) hx hb dX11_rules_86 (by decide) ?_
      have hFc := gA_free hG hA hS
      refine va_calli (va_runV (As := [.int 4]) (rest := []) ⟨hx, hb, hml, hown, hts⟩ (c_ruled l dC dI kA adK adV G H nC nS b5 4 hT hg6 (by omega) (by omega)) (cwV 1 hts (goodIn_app (goodIn_r _ [80, 81, 82, 20] rfl (by decide +kernel)) (goodIn_ca (goodIn_r _ [79, 52, 14, 53, 54, 55, 56, 57, 58, 59, 60, 61, 62, 63, 34, 64, 65, 66, 67, 68, 69, 70, 71, 72, 73, 74] rfl (by decide +kernel)) (bs2_in _ _))) rfl rfl rfl (by decide +kernel) ⟨(Nat.le_of_ble_eq_true rfl), (Nat.le_of_ble_eq_true rfl)⟩) ⟨fun a U g mk q => by obtain ⟨q0, q1, qK, qE⟩ := q; exact ⟨q0, q1, va_K.moved (u := U) (U := U.calling g mk a) (Vm.Alike.refl U.vm) qK, EVC.blind g mk a qE⟩, gH_rc hK hT hg6 shc_3 rfl, fun U hU hW => ⟨rfl, hU, va_K.moved hW.alike hK, hE.call hS hFc hU hW⟩⟩ rfl rfl hl.1 rfl (lv_room (Nat.le_of_ble_eq_true rfl)) dX11_rules_87 ⟨(Nat.le_of_ble_eq_true rfl), (Nat.le_of_ble_eq_true rfl)⟩) hS (fun q _ h => hFc q h) hFc (fun r30 u t H locs ht hvm hw31 hB _ _ hS => ?_)
      obtain ⟨hT, hF1⟩ := hB
      rw [ht] at hT hF1
      have hF := hF.more hF1 (by decide)
      try dsimp only at hw31
      refine W.widen (k := 2) (n := 12) (by decide) (by decide) ?_
      exact vx_ret (W.iret (v := r30) hx hb hr (fun t ht hW => ⟨⟨r30, (), rfl, (by exact trivial), by (try dsimp only); rw [ht]; exact ⟨hT, hF⟩⟩, hS.F ht⟩) hS.2.2 dX11_rules_90)
    by_cases hs34 : p1 = 4
    · subst hs34
      refine lv_tableIn (x := 4) (off := 72) (tgt := 91) hx hb dX11_rules_19 (by decide) (by decide) (by decide) (by decide) ?_
      refine lv_aload_n hx hb dX11_rules_91 rfl (lv_at hl 1 rfl) ?_
      refine tw_getM (v := .ref b5) hx hb hts bF2_X11 hown hK hT hr_o0 shc_14 rfl 3 (by decide) (ht_at2 hts 1 rfl) (fun _ h9 => h9) m12 dX11_rules_92 ?_
      refine lv_iconst (v := 5) hx hb dX11_rules_95 (by decide) ?_
      have hFc := gA_free hG hA hS
      refine va_calli (va_runV (As := [.int 5]) (rest := []) ⟨hx, hb, hml, hown, hts⟩ (c_isRuled l dC dI kA adK adV G H nC nS b5 5 hT hg6 (by omega) (by omega)) (cwV 1 hts (goodIn_app (goodIn_r _ [88, 89, 90, 20] rfl (by decide +kernel)) (goodIn_ca (goodIn_r _ [83, 52, 14, 84, 54, 55, 56, 57, 58, 59, 60, 61, 62, 63, 34, 64, 65, 66, 67, 68, 69, 70, 85, 86, 87] rfl (by decide +kernel)) (bs2_in _ _))) rfl rfl rfl (by decide +kernel) ⟨(Nat.le_of_ble_eq_true rfl), (Nat.le_of_ble_eq_true rfl)⟩) ⟨fun a U g mk q => by obtain ⟨q0, q1, qK, qE⟩ := q; exact ⟨q0, q1, va_K.moved (u := U) (U := U.calling g mk a) (Vm.Alike.refl U.vm) qK, EVC.blind g mk a qE⟩, gH_rc hK hT hg6 shc_3 rfl, fun U hU hW => ⟨rfl, hU, va_K.moved hW.alike hK, hE.call hS hFc hU hW⟩⟩ rfl rfl hl.1 rfl (lv_room (Nat.le_of_ble_eq_true rfl)) dX11_rules_96 ⟨(Nat.le_of_ble_eq_true rfl), (Nat.le_of_ble_eq_true rfl)⟩) hS (fun q _ h => hFc q h) hFc (fun r35 u t H locs ht hvm hw36 hB _ _ hS => ?_)
      obtain ⟨hT, hF1⟩ := hB
      rw [ht] at hT hF1
      have hF := hF.more hF1 (by decide)
      try dsimp only at hw36
      have h39 := hw36
      refine lv_if_eq (tgt := 106) hx hb dX11_rules_99 (by decide) (fun c40 => ?_) (fun c40 => ?_)
      · have t41 : r35.toInt = 0 := ti_eq c40 rfl (by decide)
        refine lv_iconst (v := 0) hx hb dX11_rules_106 (by decide) ?_
        refine W.widen (k := 2) (n := 12) (by decide) (by decide) ?_
        exact vx_ret (W.iret (v := 0) hx hb hr (fun t ht hW => ⟨⟨0, (), rfl, (by exact trivial), by (try dsimp only); rw [ht]; exact ⟨hT, hF⟩⟩, hS.F ht⟩) hS.2.2 dX11_rules_107)
      · have t42 : r35.toInt ≠ 0 := ti_ne c40 rfl (by decide)
        refine lv_iconst (v := 1) hx hb dX11_rules_102 (by decide) ?_
        refine lv_goto (tgt := 107) hx hb dX11_rules_103 (by decide) ?_
        refine W.widen (k := 2) (n := 12) (by decide) (by decide) ?_
        exact vx_ret (W.iret (v := 1) hx hb hr (fun t ht hW => ⟨⟨1, (), rfl, (by exact trivial), by (try dsimp only); rw [ht]; exact ⟨hT, hF⟩⟩, hS.F ht⟩) hS.2.2 dX11_rules_107)
    by_cases hs43 : p1 = 5
    · subst hs43
      refine lv_tableIn (x := 5) (off := 89) (tgt := 108) hx hb dX11_rules_19 (by decide) (by decide) (by decide) (by decide) ?_
      refine lv_aload_n hx hb dX11_rules_108 rfl (lv_at hl 1 rfl) ?_
      refine tw_getM (v := .ref b5) hx hb hts bF2_X11 hown hK hT hr_o0 shc_14 rfl 3 (by decide) (ht_at2 hts 1 rfl) (fun _ h9 => h9) m12 dX11_rules_109 ?_
      refine lv_bipush (v := 6) hx hb dX11_rules_112 (by decide) ?_
      have hFc := gA_free hG hA hS
      refine va_calli (va_runV (As := [.int 6]) (rest := []) ⟨hx, hb, hml, hown, hts⟩ (c_isRuled l dC dI kA adK adV G H nC nS b5 6 hT hg6 (by omega) (by omega)) (cwV 1 hts (goodIn_app (goodIn_r _ [88, 89, 90, 20] rfl (by decide +kernel)) (goodIn_ca (goodIn_r _ [83, 52, 14, 84, 54, 55, 56, 57, 58, 59, 60, 61, 62, 63, 34, 64, 65, 66, 67, 68, 69, 70, 85, 86, 87] rfl (by decide +kernel)) (bs2_in _ _))) rfl rfl rfl (by decide +kernel) ⟨(Nat.le_of_ble_eq_true rfl), (Nat.le_of_ble_eq_true rfl)⟩) ⟨fun a U g mk q => by obtain ⟨q0, q1, qK, qE⟩ := q; exact ⟨q0, q1, va_K.moved (u := U) (U := U.calling g mk a) (Vm.Alike.refl U.vm) qK, EVC.blind g mk a qE⟩, gH_rc hK hT hg6 shc_3 rfl, fun U hU hW => ⟨rfl, hU, va_K.moved hW.alike hK, hE.call hS hFc hU hW⟩⟩ rfl rfl hl.1 rfl (lv_room (Nat.le_of_ble_eq_true rfl)) dX11_rules_114 ⟨(Nat.le_of_ble_eq_true rfl), (Nat.le_of_ble_eq_true rfl)⟩) hS (fun q _ h => hFc q h) hFc (fun r44 u t H locs ht hvm hw45 hB _ _ hS => ?_)
      obtain ⟨hT, hF1⟩ := hB
      rw [ht] at hT hF1
      have hF := hF.more hF1 (by decide)
      try dsimp only at hw45
      have h48 := hw45
      refine lv_if_eq (tgt := 124) hx hb dX11_rules_117 (by decide) (fun c49 => ?_) (fun c49 => ?_)
      · have t50 : r44.toInt = 0 := ti_eq c49 rfl (by decide)
        refine lv_iconst (v := 0) hx hb dX11_rules_124 (by decide) ?_
        refine W.widen (k := 2) (n := 12) (by decide) (by decide) ?_
        exact vx_ret (W.iret (v := 0) hx hb hr (fun t ht hW => ⟨⟨0, (), rfl, (by exact trivial), by (try dsimp only); rw [ht]; exact ⟨hT, hF⟩⟩, hS.F ht⟩) hS.2.2 dX11_rules_125)
      · have t51 : r44.toInt ≠ 0 := ti_ne c49 rfl (by decide)
        refine lv_iconst (v := 1) hx hb dX11_rules_120 (by decide) ?_
        refine lv_goto (tgt := 125) hx hb dX11_rules_121 (by decide) ?_
        refine W.widen (k := 2) (n := 12) (by decide) (by decide) ?_
        exact vx_ret (W.iret (v := 1) hx hb hr (fun t ht hW => ⟨⟨1, (), rfl, (by exact trivial), by (try dsimp only); rw [ht]; exact ⟨hT, hF⟩⟩, hS.F ht⟩) hS.2.2 dX11_rules_125)
    have ho52 : p1.toInt < 0 ∨ 5 < p1.toInt := by
      by_cases hz9 : p1.toInt < 0
      · exact Or.inl hz9
      have u9 : (0 : Int) ≤ p1.toInt := Int.not_lt.mp hz9
      have u9 := ll_nx (k1 := 1) u9 hs14 (by decide) (by decide)
      have u9 := ll_nx (k1 := 2) u9 hs19 (by decide) (by decide)
      have u9 := ll_nx (k1 := 3) u9 hs24 (by decide) (by decide)
      have u9 := ll_nx (k1 := 4) u9 hs29 (by decide) (by decide)
      have u9 := ll_nx (k1 := 5) u9 hs34 (by decide) (by decide)
      have u9 := ll_nx (k1 := 6) u9 hs43 (by decide) (by decide)
      exact Or.inr (Int.lt_of_lt_of_le (by decide) u9)
    refine lv_tableOut (tgt := 126) hx hb dX11_rules_19 ho52 (by decide) ?_
    obtain ⟨sa53, hsa53⟩ := hE.str 6 rfl
    exact vy_throwSW rxN_0 rxN_1 rxN_2 rxN_5 (names := ["java/lang/RuntimeException", "java/lang/Exception"]) hx hb hlt hown (by decide +kernel) (by decide +kernel) (ht_at2 hts 90 rfl) (ht_at2 hts 91 rfl) hsa53 (bX2_at2 hts hE) bX_ok2_134 hE.1.1.2.2.1 hE.1.1.2.2.2 hS (by rw [hml]; exact hl.1) dX11_rules_126 dX11_rules_129 dX11_rules_130 dX11_rules_133 dX11_rules_136 (fun x h => (hnt x h).elim) (by decide) (Nat.le_of_ble_eq_true rfl) (Nat.le_of_ble_eq_true rfl) (Nat.le_of_ble_eq_true rfl) hlocks (fun t hW hz hq => ⟨(), trivial, ⟨(Or.inr rfl), hT.ext hq, hF.ext hT hq⟩, Nat.le_trans hS.1 hz, fun q h1 h2 => (hq q (Nat.lt_of_lt_of_le h1 hS.1)).trans (hS.2.1 q h1 h2)⟩) hS.2.2 (by decide) (by decide)
def w_c_why : List Cond := .code yX11_why cX11_why 4 (some .int) :: (HAppend.hAppend (α := List Cond) (β := List Cond) (γ := List Cond) [.code yX11_settlerOf cX11_settlerOf 2 (some (.object "SeaLand$Settler")), .fieldLink RX11 30 "SeaLand" "board" "LSeaLand$Board;", .code yX11_within cX11_within 3 (some .boolean), .methodLink RX11 58 yX11_within, .static yX11_within, .initialized RX11, .classLink RX11 557 "java/lang/IndexOutOfBoundsException", .initialized "java/lang/IndexOutOfBoundsException", .methodLink RX11 292 yX11_settlerOf, .instanceMethod yX11_settlerOf, .selects RX11 yX11_settlerOf yX11_settlerOf, .fieldLink RX11 16 "SeaLand" "lake" "LSeaLand$Lake;", .code yX0_gatherFacts cX0_gatherFacts 3 none, .fieldLink RX0 33 "SeaLand$Board" "facts" "[J", .code yX0_acresOf cX0_acresOf 4 (some .int), .fieldLink RX0 17 "SeaLand$Board" "farmOf" "[I", .methodLink RX0 98 yX0_acresOf, .instanceMethod yX0_acresOf, .selects RX0 yX0_acresOf yX0_acresOf, .initialized RX0, .code yX0_nearOf cX0_nearOf 5 (some .int), .code yX3_stepsToBank cX3_stepsToBank 4 (some .int), .fieldLink RX3 47 "SeaLand$Lake" "built" "I", .fieldLink RX3 27 "SeaLand$Lake" "works" "[LSeaLand$Work;", .code yX10_isBank cX10_isBank 1 (some .boolean), .fieldLink RX10 18 "SeaLand$Work" "kind" "I", .methodLink RX3 67 yX10_isBank, .instanceMethod yX10_isBank, .selects RX10 yX10_isBank yX10_isBank, .initialized RX10, .code yX11_stepsApart cX11_stepsApart 2 (some .int), .methodLink RX11 580 Lib.Math.abs.name, .static Lib.Math.abs.name, .initialized "java/lang/Math", .code Lib.Math.abs.name Lib.Math.abs.code 1 (some .int), .static yX11_stepsApart, .methodLink RX3 71 Lib.Math.min.name, .static Lib.Math.min.name, .code Lib.Math.min.name Lib.Math.min.code 2 (some .int), .methodLink RX0 138 yX3_stepsToBank, .instanceMethod yX3_stepsToBank, .selects RX3 yX3_stepsToBank yX3_stepsToBank, .initialized RX3, .methodLink RX0 166 Lib.Math.min.name, .methodLink RX0 123 yX0_nearOf, .instanceMethod yX0_nearOf, .selects RX0 yX0_nearOf yX0_nearOf, .methodLink RX11 306 yX0_gatherFacts, .instanceMethod yX0_gatherFacts, .selects RX0 yX0_gatherFacts yX0_gatherFacts, .code yX4_firstThatHolds cX4_firstThatHolds 4 (some .int), .fieldLink RX4 60 "SeaLand$Law" "lines" "I", .fieldLink RX4 18 "SeaLand$Law" "kinds" "[I", .code yX4_lineHolds cX4_lineHolds 6 (some .boolean), .fieldLink RX4 33 "SeaLand$Law" "stepFrom" "[I", .fieldLink RX4 36 "SeaLand$Law" "stepTo" "[I", .fieldLink RX4 39 "SeaLand$Law" "steps" "[I", .fieldLink RX4 42 "SeaLand$Law" "stack" "[J", .code yX4_joined cX4_joined 5 (some .long), .methodLink RX4 199 Lib.MathLoose.max_long.x, .static Lib.MathLoose.max_long.x, .code Lib.MathLoose.max_long.x Lib.MathLoose.max_long.code 4 (some .long), .methodLink RX4 195 yX4_joined, .static yX4_joined, .initialized RX4, .methodLink RX4 203 yX4_lineHolds, .instanceMethod yX4_lineHolds, .selects RX4 yX4_lineHolds yX4_lineHolds, .methodLink RX11 330 yX4_firstThatHolds, .instanceMethod yX4_firstThatHolds, .selects RX4 yX4_firstThatHolds yX4_firstThatHolds, .classLink RX11 134 "java/util/NoSuchElementException", .initialized "java/util/NoSuchElementException"] bs2)
set_option maxHeartbeats 4000000 in
set_option maxRecDepth 100000 in
theorem c_why (l : Launch) (hlt : l.stackTraces = false) (dC : Nat → ClassId) (dI : Nat → Nat → Nat) (kA : Nat → ClassId) (adK adV : Nat → Nat) (G : gT) (H0 : Heap) (nC nS : Int) (o0 : Nat) (p0 : Int32) (p1 : Int32)  (hT : gH (dC, dI) kA (SHc nC nS) G H0) (hr_o0 : G o0 = some 14) (hgC : 0 ≤ nC ∧ nC ≤ 40) (hgS : 0 ≤ nS ∧ nS ≤ 60) : vx_Met l yX11_why w_c_why ({ frames := 7, cells := 2, slots := 12, locals := 130 }) (va_Pc [.ref o0, .int p0, .int p1] (fun U => U.heap = H0 ∧ va_K (dC, dI) vwCl (tyl kA) U ∧ EVC adK adV (gA G H0.size) U U.heap)) (va_Qi (fun (r : Int32) (u : Unit) => (-1 ≤ r.toInt ∧ r.toInt ≤ 19)) (fun (_ : Unit) (t : State) => gH (dC, dI) kA (SHc nC nS) G t.heap ∧ gF (dC, dI) SKc G ([(50, 0), (56, 0)] : List (Nat × Nat)) H0 t.heap) (gA G H0.size)) (vx_X (fun _ : Unit => True) (fun E _ t => (E = "java/lang/IndexOutOfBoundsException" ∨ E = "java/util/NoSuchElementException") ∧ gH (dC, dI) kA (SHc nC nS) G t.heap ∧ gF (dC, dI) SKc G ([(50, 0), (56, 0)] : List (Nat × Nat)) H0 t.heap) (gA G H0.size)) 2 12 (gA G H0.size) := by
  refine vx_ofW (cc := cX11_why) (maxL := 4) (ret := (some .int)) (by decide) rfl ?_
  intro p e s m args below meth c s₁ B hml hnt hv
  obtain ⟨rfl, hH0, hK, hE⟩ := hv
  have hx := B.exec
  have hb := B.bytes
  have hr := B.returns
  have hts := atoms_spec (ws := w_c_why) B.pre
  have hown : s.vm.findClass RX11 = some m.cls := findClass_of_methodNamed B.named
  have hlocks := B.notSynchronized
  subst hH0
  generalize hAe : gA G s.heap.size = A at hE ⊢
  have hA : ∀ q : Nat, s.heap.size ≤ q → A q := fun q h => by rw [← hAe]; exact Or.inr h
  have hG := gA_of hAe
  have hS : va_S A s.heap s.heap [] := va_S.rf
  have hF : gF (dC, dI) SKc G ([(50, 0), (56, 0)] : List (Nat × Nat)) s.heap s.heap := gF.rf
  have hl := lv_entry ([.ref o0, .int p0, .int p1]) (n := 4) (Nat.le_of_ble_eq_true rfl)
  rw [lg_entry_eq]
  generalize (lg_sl ([.ref o0, .int p0, .int p1]) ++ List.replicate (4 - (lg_sl ([.ref o0, .int p0, .int p1])).length) Slot.unset).toArray = ls at hl ⊢
  have hl : lv_has ls 4 [(0, .ref o0), (1, .int p0), (2, .int p1)] := hl
  refine lv_aload_n hx hb dX11_why_0 rfl (lv_at hl 0 rfl) ?_
  refine lv_iload_n hx hb dX11_why_1 rfl (lv_at hl 1 rfl) ?_
  have hFc := gA_free hG hA hS
  refine vx_callr (vx_runV (As := [.int p0]) (rest := []) ⟨hx, hb, hml, hown, hts⟩ (c_settlerOf l hlt dC dI kA adK adV G s.heap nC nS o0 p0 hT hr_o0 (by omega) (by omega)) (cwV 1 hts (goodIn_app (goodIn_r _ [9, 10, 11, 6] rfl (by decide +kernel)) (goodIn_ca (goodIn_r _ [1, 2, 3, 4, 5, 6, 7, 8] rfl (by decide +kernel)) (bs2_in _ _))) rfl rfl rfl (by decide +kernel) ⟨(Nat.le_of_ble_eq_true rfl), (Nat.le_of_ble_eq_true rfl)⟩) ⟨fun a U g mk q => by obtain ⟨q0, q1, qK, qE⟩ := q; exact ⟨q0, q1, va_K.moved (u := U) (U := U.calling g mk a) (Vm.Alike.refl U.vm) qK, EVC.blind g mk a qE⟩, gH_rc hK hT hr_o0 shc_14 rfl, fun U hU hW => ⟨rfl, hU, va_K.moved hW.alike hK, hE.call hS hFc hU hW⟩⟩ rfl rfl hl.1 rfl (lv_room (Nat.le_of_ble_eq_true rfl)) dX11_why_2 ⟨(Nat.le_of_ble_eq_true rfl), (Nat.le_of_ble_eq_true rfl)⟩) hS (fun q _ h => hFc q h) hFc (fun q _ h => hFc q h) (fun E ce q9 u t H locs ht hvm _ hw2 _ _ hS hce hcv hcl => ?_) (fun u r1 t H locs ht hvm hw2 hB _ _ hS => ?_)
  · obtain ⟨hw2, hTx, hFx⟩ := hw2; rw [ht] at hTx hFx
    exact vx_out (fun x h => (hnt x h).elim) hlocks hce hcv hcl (fun t2 h2 hW => ⟨(), trivial, ⟨((fun h9 => (Or.inl h9)) hw2), by rw [h2]; exact hTx, by rw [h2]; exact hF.more hFx (by decide)⟩, hS.F h2⟩) hS.2.2 (by decide) (by decide)
  · obtain ⟨hr9, hT, hF1⟩ := hB
    rw [ht] at hT hF1
    have hF := hF.more hF1 (by decide)
    have hg3 := hr9
    try dsimp only at hw2
    refine lv_astore_n (lv' := [(3, .ref r1), (0, .ref o0), (1, .int p0), (2, .int p1)]) hx hb dX11_why_5 rfl hl (by decide) rfl (fun ls hl => ?_)
    refine lv_iload_n hx hb dX11_why_6 rfl (lv_at hl 3 rfl) ?_
    refine lv_iconst (v := 0) hx hb dX11_why_7 (by decide) ?_
    refine lv_bipush (v := 6) hx hb dX11_why_8 (by decide) ?_
    have hFc := gA_free hG hA hS
    refine va_calli (va_runS (As := [.int p1, .int 0, .int 6]) (rest := []) ⟨hx, hb, hml, hown, hts⟩ (c_within l dC dI kA adK adV G H nC nS p1 0 6 hT (by omega) (by omega)) (va_cwS 3 hts (goodIn_app (goodIn_r _ [4, 5, 6] rfl (by decide +kernel)) (goodIn_ca (goodIn_r _ [3] rfl (by decide +kernel)) (bs2_in _ _))) rfl rfl rfl (by decide +kernel) ⟨(Nat.le_of_ble_eq_true rfl), (Nat.le_of_ble_eq_true rfl)⟩) ⟨fun a U g mk q => by obtain ⟨q0, q1, qK, qE⟩ := q; exact ⟨q0, q1, va_K.moved (u := U) (U := U.calling g mk a) (Vm.Alike.refl U.vm) qK, EVC.blind g mk a qE⟩, fun U hU hW => ⟨rfl, hU, va_K.moved hW.alike hK, hE.call hS hFc hU hW⟩⟩ rfl rfl hl.1 rfl (lv_room (Nat.le_of_ble_eq_true rfl)) dX11_why_10 ⟨(Nat.le_of_ble_eq_true rfl), (Nat.le_of_ble_eq_true rfl)⟩) hS (fun q _ h => hFc q h) hFc (fun r4 u t H locs ht hvm hw5 hB _ _ hS => ?_)
    obtain ⟨hT, hF1⟩ := hB
    rw [ht] at hT hF1
    have hF := hF.more hF1 (by decide)
    try dsimp only at hw5
    obtain ⟨h6, hi7, hi8⟩ := hw5
    refine lv_if_ne (tgt := 27) hx hb dX11_why_13 (by decide) (fun c9 => ?_) (fun c9 => ?_)
    · have t10 : r4.toInt ≠ 0 := ti_ne c9 rfl (by decide)
      have t11 : (0 : Int32).toInt = 0 := by decide
      have t12 : (6 : Int32).toInt = 6 := by decide
      have t13 : (0 : Int32).toInt ≤ p1.toInt ∧ p1.toInt ≤ (6 : Int32).toInt := hi7 ((bit_of ⟨by omega, by omega⟩).resolve_left c9)
      refine lv_aload_n hx hb dX11_why_27 rfl (lv_at hl 1 rfl) ?_
      refine tw_get hx hb hts bF2_X11 hown hK hT hr_o0 shc_14 rfl 3 (by decide) (ht_at2 hts 1 rfl) (fun _ h9 => h9) dX11_why_28 (fun v9 m14 h9 => ?_)
      obtain ⟨b15, rfl, hg16⟩ := h9 _ rfl
      refine lv_aload_n hx hb dX11_why_31 rfl (lv_at hl 0 rfl) ?_
      refine lv_aload_n hx hb dX11_why_32 rfl (lv_at hl 1 rfl) ?_
      refine tw_get hx hb hts bF2_X11 hown hK hT hr_o0 shc_14 rfl 1 (by decide) (ht_at2 hts 11 rfl) (fun _ h9 => h9) dX11_why_33 (fun v9 m17 h9 => ?_)
      obtain ⟨b18, rfl, hg19⟩ := h9 _ rfl
      have hFc := gA_free hG hA hS
      refine va_callv (va_runV (As := [.ref r1, .ref b18]) (rest := []) ⟨hx, hb, hml, hown, hts⟩ (c_gatherFacts l dC dI kA adK adV G H nC nS b15 r1 b18 hT hg3 hg19 hg16 (by omega) (by omega)) (cwV 2 hts (goodIn_app (goodIn_r _ [48, 49, 50, 20] rfl (by decide +kernel)) (goodIn_ca (goodIn_r _ [13, 14, 15, 16, 17, 18, 19, 20, 21, 22, 23, 24, 25, 26, 27, 28, 29, 30, 31, 32, 33, 34, 35, 6, 36, 37, 38, 39, 40, 41, 42, 43, 44, 45, 46, 47] rfl (by decide +kernel)) (bs2_in _ _))) rfl rfl rfl (by decide +kernel) ⟨(Nat.le_of_ble_eq_true rfl), (Nat.le_of_ble_eq_true rfl)⟩) ⟨fun a U g mk q => by obtain ⟨q0, q1, qK, qE⟩ := q; exact ⟨q0, q1, va_K.moved (u := U) (U := U.calling g mk a) (Vm.Alike.refl U.vm) qK, EVC.blind g mk a qE⟩, gH_rc hK hT hg16 shc_3 rfl, fun U hU hW => ⟨rfl, hU, va_K.moved hW.alike hK, hE.call hS hFc hU hW⟩⟩ rfl rfl hl.1 rfl (lv_room (Nat.le_of_ble_eq_true rfl)) dX11_why_36 ⟨(Nat.le_of_ble_eq_true rfl), (Nat.le_of_ble_eq_true rfl)⟩) hS (fun q _ h => hFc q h) hFc (fun u t H locs ht hvm hw21 hB _ _ hS => ?_)
      obtain ⟨hT, hF1⟩ := hB
      rw [ht] at hT hF1
      have m22 := (hF1.fld hr_o0 skc_14 (k := 3) (by decide) (by decide)).trans m14
      have hF := hF.more hF1 (by decide)
      try dsimp only at hw21
      refine lv_aload_n hx hb dX11_why_39 rfl (lv_at hl 1 rfl) ?_
      refine tw_getM (v := .ref b15) hx hb hts bF2_X11 hown hK hT hr_o0 shc_14 rfl 3 (by decide) (ht_at2 hts 1 rfl) (fun _ h9 => h9) m22 dX11_why_40 ?_
      refine tw_getN hx hb hts bF2_X0 hown hK hT hg16 shc_3 rfl 7 (by decide) (hE.nw 28 rfl) (fun _ h9 => h9) dX11_why_43 (fun v9 m24 h9 => ?_)
      obtain ⟨b25, rfl, hg26⟩ := h9 _ rfl
      refine lv_iload_n hx hb dX11_why_46 rfl (lv_at hl 3 rfl) ?_
      refine lv_aload_n hx hb dX11_why_47 rfl (lv_at hl 1 rfl) ?_
      refine tw_getM (v := .ref b15) hx hb hts bF2_X11 hown hK hT hr_o0 shc_14 rfl 3 (by decide) (ht_at2 hts 1 rfl) (fun _ h9 => h9) m22 dX11_why_48 ?_
      refine tw_getN hx hb hts bF2_X0 hown hK hT hg16 shc_3 rfl 5 (by decide) (hE.nw 29 rfl) (fun _ h9 => h9) dX11_why_51 (fun v9 m27 h9 => ?_)
      obtain ⟨b28, rfl, hg29⟩ := h9 _ rfl
      have hFc := gA_free hG hA hS
      refine va_calli (va_runV (As := [.int p1, .ref b28]) (rest := []) ⟨hx, hb, hml, hown, hts⟩ (c_firstThatHolds l dC dI kA adK adV G H nC nS b25 p1 b28 hT hg29 hg26 (by omega) (by omega)) (cwV 2 hts (goodIn_app (goodIn_r _ [69, 70, 71, 65] rfl (by decide +kernel)) (goodIn_ca (goodIn_r _ [51, 52, 53, 54, 55, 56, 57, 58, 59, 60, 61, 34, 62, 63, 64, 65, 66, 67, 68] rfl (by decide +kernel)) (bs2_in _ _))) rfl rfl rfl (by decide +kernel) ⟨(Nat.le_of_ble_eq_true rfl), (Nat.le_of_ble_eq_true rfl)⟩) ⟨fun a U g mk q => by obtain ⟨q0, q1, qK, qE⟩ := q; exact ⟨q0, q1, va_K.moved (u := U) (U := U.calling g mk a) (Vm.Alike.refl U.vm) qK, EVC.blind g mk a qE⟩, gH_rc hK hT hg26 shc_7 rfl, fun U hU hW => ⟨rfl, hU, va_K.moved hW.alike hK, hE.call hS hFc hU hW⟩⟩ rfl rfl hl.1 rfl (lv_room (Nat.le_of_ble_eq_true rfl)) dX11_why_54 ⟨(Nat.le_of_ble_eq_true rfl), (Nat.le_of_ble_eq_true rfl)⟩) hS (fun q _ h => hFc q h) hFc (fun r30 u t H locs ht hvm hw31 hB _ _ hS => ?_)
      obtain ⟨hT, hF1⟩ := hB
      rw [ht] at hT hF1
      have hF := hF.more hF1 (by decide)
      try dsimp only at hw31
      have h36 := hw31
      refine W.widen (k := 2) (n := 12) (by decide) (by decide) ?_
      exact vx_ret (W.iret (v := r30) hx hb hr (fun t ht hW => ⟨⟨r30, (), rfl, (by exact (by have q8 := ti_all r30; omega)), by (try dsimp only); rw [ht]; exact ⟨hT, hF⟩⟩, hS.F ht⟩) hS.2.2 dX11_why_57)
    · have t37 : r4.toInt = 0 := ti_eq c9 rfl (by decide)
      have t38 : (0 : Int32).toInt = 0 := by decide
      have t39 : (6 : Int32).toInt = 6 := by decide
      have t40 : p1.toInt < (0 : Int32).toInt ∨ (6 : Int32).toInt < p1.toInt := hi8 c9
      obtain ⟨sa41, hsa41⟩ := hE.str 7 rfl
      exact vy_throwSW rxN_0 rxN_1 rxN_2 rxN_5 (names := ["java/lang/RuntimeException", "java/lang/Exception"]) hx hb hlt hown (by decide +kernel) (by decide +kernel) (ht_at2 hts 71 rfl) (ht_at2 hts 72 rfl) hsa41 (bX2_at2 hts hE) bX_ok2_134 hE.1.1.2.2.1 hE.1.1.2.2.2 hS (by rw [hml]; exact hl.1) dX11_why_16 dX11_why_19 dX11_why_20 dX11_why_23 dX11_why_26 (fun x h => (hnt x h).elim) (by decide) (Nat.le_of_ble_eq_true rfl) (Nat.le_of_ble_eq_true rfl) (Nat.le_of_ble_eq_true rfl) hlocks (fun t hW hz hq => ⟨(), trivial, ⟨(Or.inr rfl), hT.ext hq, hF.ext hT hq⟩, Nat.le_trans hS.1 hz, fun q h1 h2 => (hq q (Nat.lt_of_lt_of_le h1 hS.1)).trans (hS.2.1 q h1 h2)⟩) hS.2.2 (by decide) (by decide)
def w_c_lawLevel : List Cond := .code yX11_lawLevel cX11_lawLevel 3 (some .int) :: (HAppend.hAppend (α := List Cond) (β := List Cond) (γ := List Cond) [.code yX11_needSquare cX11_needSquare 1 none, .code yX11_within cX11_within 3 (some .boolean), .methodLink RX11 58 yX11_within, .static yX11_within, .initialized RX11, .classLink RX11 557 "java/lang/IndexOutOfBoundsException", .initialized "java/lang/IndexOutOfBoundsException", .methodLink RX11 55 yX11_needSquare, .static yX11_needSquare, .fieldLink RX11 16 "SeaLand" "lake" "LSeaLand$Lake;", .code yX3_dayNow cX3_dayNow 1 (some .int), .fieldLink RX3 32 "SeaLand$Lake" "hour" "I", .methodLink RX11 334 yX3_dayNow, .instanceMethod yX3_dayNow, .selects RX3 yX3_dayNow yX3_dayNow, .initialized RX3, .fieldLink RX11 30 "SeaLand" "board" "LSeaLand$Board;", .code yX4_levelFor cX4_levelFor 5 (some .int), .fieldLink RX4 60 "SeaLand$Law" "lines" "I", .fieldLink RX4 18 "SeaLand$Law" "kinds" "[I", .fieldLink RX4 27 "SeaLand$Law" "froms" "[I", .fieldLink RX4 30 "SeaLand$Law" "tos" "[I", .code yX11_inRectangle cX11_inRectangle 3 (some .boolean), .code yX11_isBetween cX11_isBetween 3 (some .boolean), .methodLink RX11 588 Lib.Math.min.name, .static Lib.Math.min.name, .initialized "java/lang/Math", .code Lib.Math.min.name Lib.Math.min.code 2 (some .int), .methodLink RX11 591 Lib.Math.max.name, .static Lib.Math.max.name, .code Lib.Math.max.name Lib.Math.max.code 2 (some .int), .methodLink RX11 585 yX11_isBetween, .static yX11_isBetween, .static yX11_inRectangle, .fieldLink RX4 24 "SeaLand$Law" "seconds" "[I", .fieldLink RX4 21 "SeaLand$Law" "firsts" "[I", .methodLink RX11 337 yX4_levelFor, .instanceMethod yX4_levelFor, .selects RX4 yX4_levelFor yX4_levelFor, .initialized RX4] bs2)
set_option maxHeartbeats 4000000 in
set_option maxRecDepth 100000 in
theorem c_lawLevel (l : Launch) (hlt : l.stackTraces = false) (dC : Nat → ClassId) (dI : Nat → Nat → Nat) (kA : Nat → ClassId) (adK adV : Nat → Nat) (G : gT) (H0 : Heap) (nC nS : Int) (o0 : Nat) (p0 : Int32)  (hT : gH (dC, dI) kA (SHc nC nS) G H0) (hr_o0 : G o0 = some 14) (hgC : 0 ≤ nC ∧ nC ≤ 40) (hgS : 0 ≤ nS ∧ nS ≤ 60) : vx_Met l yX11_lawLevel w_c_lawLevel ({ frames := 7, cells := 1, slots := 6, locals := 120 }) (va_Pc [.ref o0, .int p0] (fun U => U.heap = H0 ∧ va_K (dC, dI) vwCl (tyl kA) U ∧ EVC adK adV (gA G H0.size) U U.heap)) (va_Qi (fun (r : Int32) (u : Unit) => True) (fun (_ : Unit) (t : State) => gH (dC, dI) kA (SHc nC nS) G t.heap ∧ gF (dC, dI) SKc G ([] : List (Nat × Nat)) H0 t.heap) (gA G H0.size)) (vx_X (fun _ : Unit => True) (fun E _ t => (E = "java/lang/IndexOutOfBoundsException") ∧ gH (dC, dI) kA (SHc nC nS) G t.heap ∧ gF (dC, dI) SKc G ([] : List (Nat × Nat)) H0 t.heap) (gA G H0.size)) 1 6 (gA G H0.size) := by
  refine vx_ofW (cc := cX11_lawLevel) (maxL := 3) (ret := (some .int)) (by decide) rfl ?_
  intro p e s m args below meth c s₁ B hml hnt hv
  obtain ⟨rfl, hH0, hK, hE⟩ := hv
  have hx := B.exec
  have hb := B.bytes
  have hr := B.returns
  have hts := atoms_spec (ws := w_c_lawLevel) B.pre
  have hown : s.vm.findClass RX11 = some m.cls := findClass_of_methodNamed B.named
  have hlocks := B.notSynchronized
  subst hH0
  generalize hAe : gA G s.heap.size = A at hE ⊢
  have hA : ∀ q : Nat, s.heap.size ≤ q → A q := fun q h => by rw [← hAe]; exact Or.inr h
  have hG := gA_of hAe
  have hS : va_S A s.heap s.heap [] := va_S.rf
  have hF : gF (dC, dI) SKc G ([] : List (Nat × Nat)) s.heap s.heap := gF.rf
  have hl := lv_entry ([.ref o0, .int p0]) (n := 3) (Nat.le_of_ble_eq_true rfl)
  rw [lg_entry_eq]
  generalize (lg_sl ([.ref o0, .int p0]) ++ List.replicate (3 - (lg_sl ([.ref o0, .int p0])).length) Slot.unset).toArray = ls at hl ⊢
  have hl : lv_has ls 3 [(0, .ref o0), (1, .int p0)] := hl
  refine lv_iload_n hx hb dX11_lawLevel_0 rfl (lv_at hl 1 rfl) ?_
  have hFc := gA_free hG hA hS
  refine vx_callv (vx_runS (As := [.int p0]) (rest := []) ⟨hx, hb, hml, hown, hts⟩ (c_needSquare l hlt dC dI kA adK adV G s.heap nC nS p0 hT (by omega) (by omega)) (va_cwS 1 hts (goodIn_app (goodIn_r _ [8, 9, 5] rfl (by decide +kernel)) (goodIn_ca (goodIn_r _ [1, 2, 3, 4, 5, 6, 7] rfl (by decide +kernel)) (bs2_in _ _))) rfl rfl rfl (by decide +kernel) ⟨(Nat.le_of_ble_eq_true rfl), (Nat.le_of_ble_eq_true rfl)⟩) ⟨fun a U g mk q => by obtain ⟨q0, q1, qK, qE⟩ := q; exact ⟨q0, q1, va_K.moved (u := U) (U := U.calling g mk a) (Vm.Alike.refl U.vm) qK, EVC.blind g mk a qE⟩, fun U hU hW => ⟨rfl, hU, va_K.moved hW.alike hK, hE.call hS hFc hU hW⟩⟩ rfl rfl hl.1 rfl (lv_room (Nat.le_of_ble_eq_true rfl)) dX11_lawLevel_1 ⟨(Nat.le_of_ble_eq_true rfl), (Nat.le_of_ble_eq_true rfl)⟩) hS (fun q _ h => hFc q h) hFc (fun q _ h => hFc q h) (fun E ce q9 u t H locs ht hvm _ hw2 _ _ hS hce hcv hcl => ?_) (fun u t H locs ht hvm hw2 hB _ _ hS => ?_)
  · obtain ⟨hw2, hTx, hFx⟩ := hw2; rw [ht] at hTx hFx
    exact vx_out (fun x h => (hnt x h).elim) hlocks hce hcv hcl (fun t2 h2 hW => ⟨(), trivial, ⟨((fun h9 => h9) hw2), by rw [h2]; exact hTx, by rw [h2]; exact hF.more hFx (by decide)⟩, hS.F h2⟩) hS.2.2 (by decide) (by decide)
  · obtain ⟨hT, hF1⟩ := hB
    rw [ht] at hT hF1
    have hF := hF.more hF1 (by decide)
    try dsimp only at hw2
    have hf3 := hw2
    refine lv_aload_n hx hb dX11_lawLevel_4 rfl (lv_at hl 0 rfl) ?_
    refine tw_get hx hb hts bF2_X11 hown hK hT hr_o0 shc_14 rfl 1 (by decide) (ht_at2 hts 9 rfl) (fun _ h9 => h9) dX11_lawLevel_5 (fun v9 m4 h9 => ?_)
    obtain ⟨b5, rfl, hg6⟩ := h9 _ rfl
    have hFc := gA_free hG hA hS
    refine va_calli (va_runV (As := []) (rest := []) ⟨hx, hb, hml, hown, hts⟩ (c_dayNow l dC dI kA adK adV G H nC nS b5 hT hg6 (by omega) (by omega)) (cwV 0 hts (goodIn_app (goodIn_r _ [13, 14, 15, 16] rfl (by decide +kernel)) (goodIn_ca (goodIn_r _ [11, 12] rfl (by decide +kernel)) (bs2_in _ _))) rfl rfl rfl (by decide +kernel) ⟨(Nat.le_of_ble_eq_true rfl), (Nat.le_of_ble_eq_true rfl)⟩) ⟨fun a U g mk q => by obtain ⟨q0, q1, qK, qE⟩ := q; exact ⟨q0, q1, va_K.moved (u := U) (U := U.calling g mk a) (Vm.Alike.refl U.vm) qK, EVC.blind g mk a qE⟩, gH_rc hK hT hg6 shc_6 rfl, fun U hU hW => ⟨rfl, hU, va_K.moved hW.alike hK, hE.call hS hFc hU hW⟩⟩ rfl rfl hl.1 rfl (lv_room (Nat.le_of_ble_eq_true rfl)) dX11_lawLevel_8 ⟨(Nat.le_of_ble_eq_true rfl), (Nat.le_of_ble_eq_true rfl)⟩) hS (fun q _ h => hFc q h) hFc (fun r7 u t H locs ht hvm hw8 hB _ _ hS => ?_)
    obtain ⟨hT, hF1⟩ := hB
    rw [ht] at hT hF1
    have hF := hF.more hF1 (by decide)
    try dsimp only at hw8
    have h10 := hw8
    refine lv_sipush (v := 360) hx hb dX11_lawLevel_11 (by decide) ?_
    refine lv_irem hx hb dX11_lawLevel_14 (by decide) ?_
    refine lv_topi (fun x11 ex11 => ?_)
    have t12 : x11.toInt = r7.toInt % 360 := ti_rem ex11 rfl (by decide) (by omega) (by omega)
    refine lv_istore_n (lv' := [(2, .int x11), (0, .ref o0), (1, .int p0)]) hx hb dX11_lawLevel_15 rfl hl (by decide) rfl (fun ls hl => ?_)
    refine lv_aload_n hx hb dX11_lawLevel_16 rfl (lv_at hl 1 rfl) ?_
    refine tw_get hx hb hts bF2_X11 hown hK hT hr_o0 shc_14 rfl 3 (by decide) (ht_at2 hts 16 rfl) (fun _ h9 => h9) dX11_lawLevel_17 (fun v9 m13 h9 => ?_)
    obtain ⟨b14, rfl, hg15⟩ := h9 _ rfl
    refine tw_getN hx hb hts bF2_X0 hown hK hT hg15 shc_3 rfl 7 (by decide) (hE.nw 28 rfl) (fun _ h9 => h9) dX11_lawLevel_20 (fun v9 m16 h9 => ?_)
    obtain ⟨b17, rfl, hg18⟩ := h9 _ rfl
    refine lv_iload_n hx hb dX11_lawLevel_23 rfl (lv_at hl 2 rfl) ?_
    refine lv_iload_n hx hb dX11_lawLevel_24 rfl (lv_at hl 0 rfl) ?_
    refine lv_bipush (v := 90) hx hb dX11_lawLevel_25 (by decide) ?_
    refine lv_sipush (v := 269) hx hb dX11_lawLevel_27 (by decide) ?_
    have hFc := gA_free hG hA hS
    refine va_calli (va_runS (As := [.int x11, .int 90, .int 269]) (rest := [.int p0, .ref b17]) ⟨hx, hb, hml, hown, hts⟩ (c_within l dC dI kA adK adV G H nC nS x11 90 269 hT (by omega) (by omega)) (va_cwS 3 hts (goodIn_app (goodIn_r _ [3, 4, 5] rfl (by decide +kernel)) (goodIn_ca (goodIn_r _ [2] rfl (by decide +kernel)) (bs2_in _ _))) rfl rfl rfl (by decide +kernel) ⟨(Nat.le_of_ble_eq_true rfl), (Nat.le_of_ble_eq_true rfl)⟩) ⟨fun a U g mk q => by obtain ⟨q0, q1, qK, qE⟩ := q; exact ⟨q0, q1, va_K.moved (u := U) (U := U.calling g mk a) (Vm.Alike.refl U.vm) qK, EVC.blind g mk a qE⟩, fun U hU hW => ⟨rfl, hU, va_K.moved hW.alike hK, hE.call hS hFc hU hW⟩⟩ rfl rfl hl.1 rfl (lv_room (Nat.le_of_ble_eq_true rfl)) dX11_lawLevel_30 ⟨(Nat.le_of_ble_eq_true rfl), (Nat.le_of_ble_eq_true rfl)⟩) hS (fun q _ h => hFc q h) hFc (fun r19 u t H locs ht hvm hw20 hB _ _ hS => ?_)
    obtain ⟨hT, hF1⟩ := hB
    rw [ht] at hT hF1
    have hF := hF.more hF1 (by decide)
    try dsimp only at hw20
    obtain ⟨h24, hi25, hi26⟩ := hw20
    have hFc := gA_free hG hA hS
    refine va_calli (va_runV (As := [.int p0, .int r19]) (rest := []) ⟨hx, hb, hml, hown, hts⟩ (c_levelFor l dC dI kA adK adV G H nC nS b17 p0 r19 hT hg18 (by have q8 := ti_all r19; omega) (by omega) (by omega)) (cwV 2 hts (goodIn_app (goodIn_r _ [37, 38, 39, 40] rfl (by decide +kernel)) (goodIn_ca (goodIn_r _ [18, 19, 20, 21, 22, 23, 24, 25, 26, 27, 28, 29, 30, 31, 32, 33, 5, 34, 35, 36] rfl (by decide +kernel)) (bs2_in _ _))) rfl rfl rfl (by decide +kernel) ⟨(Nat.le_of_ble_eq_true rfl), (Nat.le_of_ble_eq_true rfl)⟩) ⟨fun a U g mk q => by obtain ⟨q0, q1, qK, qE⟩ := q; exact ⟨q0, q1, va_K.moved (u := U) (U := U.calling g mk a) (Vm.Alike.refl U.vm) qK, EVC.blind g mk a qE⟩, gH_rc hK hT hg18 shc_7 rfl, fun U hU hW => ⟨rfl, hU, va_K.moved hW.alike hK, hE.call hS hFc hU hW⟩⟩ rfl rfl hl.1 rfl (lv_room (Nat.le_of_ble_eq_true rfl)) dX11_lawLevel_33 ⟨(Nat.le_of_ble_eq_true rfl), (Nat.le_of_ble_eq_true rfl)⟩) hS (fun q _ h => hFc q h) hFc (fun r27 u t H locs ht hvm hw28 hB _ _ hS => ?_)
    obtain ⟨hT, hF1⟩ := hB
    rw [ht] at hT hF1
    have hF := hF.more hF1 (by decide)
    try dsimp only at hw28
    exact vx_ret (W.iret (v := r27) hx hb hr (fun t ht hW => ⟨⟨r27, (), rfl, (by exact trivial), by (try dsimp only); rw [ht]; exact ⟨hT, hF⟩⟩, hS.F ht⟩) hS.2.2 dX11_lawLevel_36)
def w_c_mayBuild : List Cond := .code yX11_mayBuild cX11_mayBuild 2 (some .boolean) :: (HAppend.hAppend (α := List Cond) (β := List Cond) (γ := List Cond) [.code yX11_needSquare cX11_needSquare 1 none, .code yX11_within cX11_within 3 (some .boolean), .methodLink RX11 58 yX11_within, .static yX11_within, .initialized RX11, .classLink RX11 557 "java/lang/IndexOutOfBoundsException", .initialized "java/lang/IndexOutOfBoundsException", .methodLink RX11 55 yX11_needSquare, .static yX11_needSquare, .fieldLink RX11 30 "SeaLand" "board" "LSeaLand$Board;", .fieldLink RX11 16 "SeaLand" "lake" "LSeaLand$Lake;", .code yX0_buildingAllowed cX0_buildingAllowed 3 (some .boolean), .code yX3_stepsToBank cX3_stepsToBank 4 (some .int), .fieldLink RX3 47 "SeaLand$Lake" "built" "I", .fieldLink RX3 27 "SeaLand$Lake" "works" "[LSeaLand$Work;", .code yX10_isBank cX10_isBank 1 (some .boolean), .fieldLink RX10 18 "SeaLand$Work" "kind" "I", .methodLink RX3 67 yX10_isBank, .instanceMethod yX10_isBank, .selects RX10 yX10_isBank yX10_isBank, .initialized RX10, .code yX11_stepsApart cX11_stepsApart 2 (some .int), .methodLink RX11 580 Lib.Math.abs.name, .static Lib.Math.abs.name, .initialized "java/lang/Math", .code Lib.Math.abs.name Lib.Math.abs.code 1 (some .int), .static yX11_stepsApart, .methodLink RX3 71 Lib.Math.min.name, .static Lib.Math.min.name, .code Lib.Math.min.name Lib.Math.min.code 2 (some .int), .methodLink RX0 138 yX3_stepsToBank, .instanceMethod yX3_stepsToBank, .selects RX3 yX3_stepsToBank yX3_stepsToBank, .initialized RX3, .fieldLink RX0 41 "SeaLand$Board" "force" "LSeaLand$Law;", .code yX4_lastOf cX4_lastOf 5 (some .int), .fieldLink RX4 60 "SeaLand$Law" "lines" "I", .fieldLink RX4 18 "SeaLand$Law" "kinds" "[I", .fieldLink RX4 21 "SeaLand$Law" "firsts" "[I", .methodLink RX0 94 yX4_lastOf, .instanceMethod yX4_lastOf, .selects RX4 yX4_lastOf yX4_lastOf, .initialized RX4, .methodLink RX11 190 yX0_buildingAllowed, .instanceMethod yX0_buildingAllowed, .selects RX0 yX0_buildingAllowed yX0_buildingAllowed, .initialized RX0] bs2)
set_option maxHeartbeats 4000000 in
set_option maxRecDepth 100000 in
theorem c_mayBuild (l : Launch) (hlt : l.stackTraces = false) (dC : Nat → ClassId) (dI : Nat → Nat → Nat) (kA : Nat → ClassId) (adK adV : Nat → Nat) (G : gT) (H0 : Heap) (nC nS : Int) (o0 : Nat) (p0 : Int32)  (hT : gH (dC, dI) kA (SHc nC nS) G H0) (hr_o0 : G o0 = some 14) (hgC : 0 ≤ nC ∧ nC ≤ 40) (hgS : 0 ≤ nS ∧ nS ≤ 60) : vx_Met l yX11_mayBuild w_c_mayBuild ({ frames := 7, cells := 1, slots := 6, locals := 120 }) (va_Pc [.ref o0, .int p0] (fun U => U.heap = H0 ∧ va_K (dC, dI) vwCl (tyl kA) U ∧ EVC adK adV (gA G H0.size) U U.heap)) (va_Qi (fun (r : Int32) (u : Unit) => (0 ≤ r.toInt ∧ r.toInt ≤ 1)) (fun (_ : Unit) (t : State) => gH (dC, dI) kA (SHc nC nS) G t.heap ∧ gF (dC, dI) SKc G ([] : List (Nat × Nat)) H0 t.heap) (gA G H0.size)) (vx_X (fun _ : Unit => True) (fun E _ t => (E = "java/lang/IndexOutOfBoundsException") ∧ gH (dC, dI) kA (SHc nC nS) G t.heap ∧ gF (dC, dI) SKc G ([] : List (Nat × Nat)) H0 t.heap) (gA G H0.size)) 1 6 (gA G H0.size) := by
  refine vx_ofW (cc := cX11_mayBuild) (maxL := 2) (ret := (some .boolean)) (by decide) rfl ?_
  intro p e s m args below meth c s₁ B hml hnt hv
  obtain ⟨rfl, hH0, hK, hE⟩ := hv
  have hx := B.exec
  have hb := B.bytes
  have hr := B.returns
  have hts := atoms_spec (ws := w_c_mayBuild) B.pre
  have hown : s.vm.findClass RX11 = some m.cls := findClass_of_methodNamed B.named
  have hlocks := B.notSynchronized
  subst hH0
  generalize hAe : gA G s.heap.size = A at hE ⊢
  have hA : ∀ q : Nat, s.heap.size ≤ q → A q := fun q h => by rw [← hAe]; exact Or.inr h
  have hG := gA_of hAe
  have hS : va_S A s.heap s.heap [] := va_S.rf
  have hF : gF (dC, dI) SKc G ([] : List (Nat × Nat)) s.heap s.heap := gF.rf
  have hl := lv_entry ([.ref o0, .int p0]) (n := 2) (Nat.le_of_ble_eq_true rfl)
  rw [lg_entry_eq]
  generalize (lg_sl ([.ref o0, .int p0]) ++ List.replicate (2 - (lg_sl ([.ref o0, .int p0])).length) Slot.unset).toArray = ls at hl ⊢
  have hl : lv_has ls 2 [(0, .ref o0), (1, .int p0)] := hl
  refine lv_iload_n hx hb dX11_mayBuild_0 rfl (lv_at hl 1 rfl) ?_
  have hFc := gA_free hG hA hS
  refine vx_callv (vx_runS (As := [.int p0]) (rest := []) ⟨hx, hb, hml, hown, hts⟩ (c_needSquare l hlt dC dI kA adK adV G s.heap nC nS p0 hT (by omega) (by omega)) (va_cwS 1 hts (goodIn_app (goodIn_r _ [8, 9, 5] rfl (by decide +kernel)) (goodIn_ca (goodIn_r _ [1, 2, 3, 4, 5, 6, 7] rfl (by decide +kernel)) (bs2_in _ _))) rfl rfl rfl (by decide +kernel) ⟨(Nat.le_of_ble_eq_true rfl), (Nat.le_of_ble_eq_true rfl)⟩) ⟨fun a U g mk q => by obtain ⟨q0, q1, qK, qE⟩ := q; exact ⟨q0, q1, va_K.moved (u := U) (U := U.calling g mk a) (Vm.Alike.refl U.vm) qK, EVC.blind g mk a qE⟩, fun U hU hW => ⟨rfl, hU, va_K.moved hW.alike hK, hE.call hS hFc hU hW⟩⟩ rfl rfl hl.1 rfl (lv_room (Nat.le_of_ble_eq_true rfl)) dX11_mayBuild_1 ⟨(Nat.le_of_ble_eq_true rfl), (Nat.le_of_ble_eq_true rfl)⟩) hS (fun q _ h => hFc q h) hFc (fun q _ h => hFc q h) (fun E ce q9 u t H locs ht hvm _ hw2 _ _ hS hce hcv hcl => ?_) (fun u t H locs ht hvm hw2 hB _ _ hS => ?_)
  · obtain ⟨hw2, hTx, hFx⟩ := hw2; rw [ht] at hTx hFx
    exact vx_out (fun x h => (hnt x h).elim) hlocks hce hcv hcl (fun t2 h2 hW => ⟨(), trivial, ⟨((fun h9 => h9) hw2), by rw [h2]; exact hTx, by rw [h2]; exact hF.more hFx (by decide)⟩, hS.F h2⟩) hS.2.2 (by decide) (by decide)
  · obtain ⟨hT, hF1⟩ := hB
    rw [ht] at hT hF1
    have hF := hF.more hF1 (by decide)
    try dsimp only at hw2
    have hf3 := hw2
    refine lv_aload_n hx hb dX11_mayBuild_4 rfl (lv_at hl 0 rfl) ?_
    refine tw_get hx hb hts bF2_X11 hown hK hT hr_o0 shc_14 rfl 3 (by decide) (ht_at2 hts 9 rfl) (fun _ h9 => h9) dX11_mayBuild_5 (fun v9 m4 h9 => ?_)
    obtain ⟨b5, rfl, hg6⟩ := h9 _ rfl
    refine lv_iload_n hx hb dX11_mayBuild_8 rfl (lv_at hl 1 rfl) ?_
    refine lv_aload_n hx hb dX11_mayBuild_9 rfl (lv_at hl 0 rfl) ?_
    refine tw_get hx hb hts bF2_X11 hown hK hT hr_o0 shc_14 rfl 1 (by decide) (ht_at2 hts 10 rfl) (fun _ h9 => h9) dX11_mayBuild_10 (fun v9 m7 h9 => ?_)
    obtain ⟨b8, rfl, hg9⟩ := h9 _ rfl
    have hFc := gA_free hG hA hS
    refine va_calli (va_runV (As := [.int p0, .ref b8]) (rest := []) ⟨hx, hb, hml, hown, hts⟩ (c_buildingAllowed l dC dI kA adK adV G H nC nS b5 p0 b8 hT hg9 hg6 (by omega) (by omega)) (cwV 2 hts (goodIn_app (goodIn_r _ [44, 45, 46, 47] rfl (by decide +kernel)) (goodIn_ca (goodIn_r _ [12, 13, 14, 15, 16, 17, 18, 19, 20, 21, 22, 23, 24, 25, 26, 5, 27, 28, 29, 30, 31, 32, 33, 34, 35, 36, 37, 38, 39, 40, 41, 42, 43] rfl (by decide +kernel)) (bs2_in _ _))) rfl rfl rfl (by decide +kernel) ⟨(Nat.le_of_ble_eq_true rfl), (Nat.le_of_ble_eq_true rfl)⟩) ⟨fun a U g mk q => by obtain ⟨q0, q1, qK, qE⟩ := q; exact ⟨q0, q1, va_K.moved (u := U) (U := U.calling g mk a) (Vm.Alike.refl U.vm) qK, EVC.blind g mk a qE⟩, gH_rc hK hT hg6 shc_3 rfl, fun U hU hW => ⟨rfl, hU, va_K.moved hW.alike hK, hE.call hS hFc hU hW⟩⟩ rfl rfl hl.1 rfl (lv_room (Nat.le_of_ble_eq_true rfl)) dX11_mayBuild_13 ⟨(Nat.le_of_ble_eq_true rfl), (Nat.le_of_ble_eq_true rfl)⟩) hS (fun q _ h => hFc q h) hFc (fun r10 u t H locs ht hvm hw11 hB _ _ hS => ?_)
    obtain ⟨hT, hF1⟩ := hB
    rw [ht] at hT hF1
    have hF := hF.more hF1 (by decide)
    try dsimp only at hw11
    have h14 := hw11
    exact vx_ret (W.zret (v := r10) hx hb hr (nar_b (by have q8 := ti_all r10; omega)) (fun t ht hW => ⟨⟨r10, (), rfl, (by exact (by have q8 := ti_all r10; omega)), by (try dsimp only); rw [ht]; exact ⟨hT, hF⟩⟩, hS.F ht⟩) hS.2.2 dX11_mayBuild_16)
