def w_s_anHour : List Cond := .code yX12_anHour cX12_anHour 6 none :: (HAppend.hAppend (α := List Cond) (β := List Cond) (γ := List Cond) [.fieldLink RX12 9 "SeaLandModel" "world" "[I", .code yX12_hour cX12_hour 1 (some .int), .methodLink RX12 228 yX12_hour, .instanceMethod yX12_hour, .selects RX12 yX12_hour yX12_hour, .initialized RX12, .code yX12_outside cX12_outside 4 (some .int), .code yX12_in cX12_in 3 (some .boolean), .methodLink RX12 197 yX12_in, .static yX12_in, .methodLink RX12 247 yX12_outside, .instanceMethod yX12_outside, .selects RX12 yX12_outside yX12_outside, .code yX12_rain cX12_rain 3 (some .int), .code yX12_telling cX12_telling 6 (some .int), .methodLink RX12 243 yX12_telling, .instanceMethod yX12_telling, .selects RX12 yX12_telling yX12_telling, .methodLink RX12 253 yX12_rain, .instanceMethod yX12_rain, .selects RX12 yX12_rain yX12_rain, .code yX12_wind cX12_wind 7 (some .int), .methodLink RX12 211 Lib.Math.max.name, .static Lib.Math.max.name, .initialized "java/lang/Math", .code Lib.Math.max.name Lib.Math.max.code 2 (some .int), .methodLink RX12 250 yX12_wind, .instanceMethod yX12_wind, .selects RX12 yX12_wind yX12_wind, .code yX12_of cX12_of 3 (some .int), .code yX12_at cX12_at 2 (some .int), .methodLink RX12 214 yX12_at, .static yX12_at, .methodLink RX12 217 yX12_of, .instanceMethod yX12_of, .selects RX12 yX12_of yX12_of, .code yX12_sluices cX12_sluices 6 none, .code yX12_level cX12_level 2 (some .int), .code yX12_isLand cX12_isLand 2 (some .boolean), .methodLink RX12 235 yX12_isLand, .instanceMethod yX12_isLand, .selects RX12 yX12_isLand yX12_isLand, .methodLink RX12 285 yX12_level, .instanceMethod yX12_level, .selects RX12 yX12_level yX12_level, .methodLink RX12 207 Lib.Math.min.name, .static Lib.Math.min.name, .code Lib.Math.min.name Lib.Math.min.code 2 (some .int), .code yX12_leaves cX12_leaves 4 (some .int), .methodLink RX12 291 yX12_leaves, .instanceMethod yX12_leaves, .selects RX12 yX12_leaves yX12_leaves, .code yX12_brings cX12_brings 3 none, .methodLink RX12 294 yX12_brings, .instanceMethod yX12_brings, .selects RX12 yX12_brings yX12_brings, .methodLink RX12 307 yX12_sluices, .instanceMethod yX12_sluices, .selects RX12 yX12_sluices yX12_sluices, .code yX12_ditches cX12_ditches 5 none, .fieldLink RX12 16 "SeaLandModel" "moves" "[I", .fieldLink RX12 22 "SeaLandModel" "movesSalt" "[I", .fieldLink RX12 19 "SeaLandModel" "movesTo" "[I", .code yX12_hasDitch cX12_hasDitch 2 (some .boolean), .methodLink RX12 298 yX12_hasDitch, .instanceMethod yX12_hasDitch, .selects RX12 yX12_hasDitch yX12_hasDitch, .code yX12_beside cX12_beside 2 (some .int), .methodLink RX12 301 yX12_beside, .static yX12_beside, .methodLink RX12 310 yX12_ditches, .instanceMethod yX12_ditches, .selects RX12 yX12_ditches yX12_ditches, .code yX12_lifts cX12_lifts 7 none, .methodLink RX12 313 yX12_lifts, .instanceMethod yX12_lifts, .selects RX12 yX12_lifts yX12_lifts, .code yX12_dayEnds cX12_dayEnds 3 none, .methodLink RX12 316 yX12_dayEnds, .instanceMethod yX12_dayEnds, .selects RX12 yX12_dayEnds yX12_dayEnds, .code yX12_writesRow cX12_writesRow 2 none, .fieldLink RX12 238 "SeaLandModel" "rows" "I", .fieldLink RX12 25 "SeaLandModel" "rowTold" "[I", .fieldLink RX12 28 "SeaLandModel" "rowTrue" "[I", .methodLink RX12 319 yX12_writesRow, .instanceMethod yX12_writesRow, .selects RX12 yX12_writesRow yX12_writesRow, .code yX12_isDike cX12_isDike 2 (some .boolean), .methodLink RX12 272 yX12_isDike, .instanceMethod yX12_isDike, .selects RX12 yX12_isDike yX12_isDike, .code yX12_dikes cX12_dikes 6 none, .code yX12_seepOf cX12_seepOf 8 (some .int), .methodLink RX12 288 yX12_seepOf, .instanceMethod yX12_seepOf, .selects RX12 yX12_seepOf yX12_seepOf, .code yX12_crest cX12_crest 4 (some .int), .methodLink RX12 282 yX12_crest, .instanceMethod yX12_crest, .selects RX12 yX12_crest yX12_crest, .methodLink RX12 304 yX12_dikes, .instanceMethod yX12_dikes, .selects RX12 yX12_dikes yX12_dikes] bs)
set_option maxHeartbeats 4000000 in
set_option maxRecDepth 100000 in
theorem s_anHour (l : Launch) (dC : Nat → ClassId) (dI : Nat → Nat → Nat) (kA : Nat → ClassId) (adK adV : Nat → Nat) (G : gT) (H0 : Heap) (q : Nat → Nat) (wZ wN : Nat → Int) (wH wB wC : Int) (wL wK : Nat → Prop) (wU wV : Nat → Nat) (PI : Nat → Int → Prop) (im : Int) (PM PT : Nat → Int → Prop) (lS lB lE : Nat → Nat → Int → Prop) (lN : Nat → Int) (o0 : Nat)  (hT : gH (dC, dI) kA (SHm q (wP wZ0 wN wH wB wC wL wK wU wV) PI im PM PT lS lB lE lN) G H0) (hr_o0 : G o0 = some 0) (hgw : wG wC wL wK wU wV) (hn_ : ∀ i, 6500000 ≤ wN i ∧ wN i ≤ 6500000 + 340 * wH) (hb_ : wB ≤ 96 * wH) (hh_ : wH < 40000) (hgz : ∀ i, 0 ≤ wZ i) (hgn : ∀ i, 6500000 ≤ wN i ∧ wN i ≤ 20200000) (hgh : 0 ≤ wH ∧ wH ≤ 40000) (hgb : 0 ≤ wB ∧ wB ≤ 3850000) (hgc : 0 ≤ wC ∧ wC ≤ 30) (hgi : 0 ≤ im ∧ im ≤ 1) (hgu : ∀ a t, G a = some (t + 1) → a = q t) : Met l yX12_anHour w_s_anHour ({ frames := 4, cells := 0, slots := 0, locals := 95 }) (va_Pc [.ref o0] (fun U => U.heap = H0 ∧ va_K (dC, dI) vwCl (tyl kA) U ∧ EVS adK adV (gA G H0.size) U U.heap)) (va_Qv (fun (u : (Nat → Int) × Int × (Nat → Int → Prop) × (Nat → Int → Prop)) => match u with | (wN1, wB1, PM1, PT1) => (∀ i, 6500000 ≤ wN1 i ∧ wN1 i ≤ 6500000 + 340 * (wH + 1)) ∧ (0 ≤ wB1 ∧ wB1 ≤ 96 * (wH + 1))) (fun (u : (Nat → Int) × Int × (Nat → Int → Prop) × (Nat → Int → Prop)) (t : State) => match u with | (wN1, wB1, PM1, PT1) => gH (dC, dI) kA (SHm q (wP wZ0 wN1 (wH + 1) wB1 wC wL wK wU wV) PI im PM1 PT1 lS lB lE lN) G t.heap ∧ gF (dC, dI) SKm G ([(0, 9), (2, 0), (5, 0), (6, 0), (7, 0), (8, 0), (9, 0)] : List (Nat × Nat)) H0 t.heap) (gA G H0.size)) 0 0 (gA G H0.size) := by
  refine Met.ofW (cc := cX12_anHour) (maxL := 6) (ret := none) (by decide) rfl ?_
  intro p e s m args below meth c s₁ B hml hv
  obtain ⟨rfl, hH0, hK, hE⟩ := hv
  have hx := B.exec
  have hb := B.bytes
  have hr := B.returns
  have hts := atoms_spec (ws := w_s_anHour) B.pre
  have hown : s.vm.findClass RX12 = some m.cls := findClass_of_methodNamed B.named
  have hlocks := B.notSynchronized
  subst hH0
  generalize hAe : gA G s.heap.size = A at hE ⊢
  have hA : ∀ q : Nat, s.heap.size ≤ q → A q := fun q h => by rw [← hAe]; exact Or.inr h
  have hG := gA_of hAe
  have hS : va_S A s.heap s.heap [] := va_S.rf
  have hF : gF (dC, dI) SKm G ([(0, 9), (2, 0), (5, 0), (6, 0), (7, 0), (8, 0), (9, 0)] : List (Nat × Nat)) s.heap s.heap := gF.rf
  have hl := lv_entry ([.ref o0]) (n := 6) (Nat.le_of_ble_eq_true rfl)
  rw [lg_entry_eq]
  generalize (lg_sl ([.ref o0]) ++ List.replicate (6 - (lg_sl ([.ref o0])).length) Slot.unset).toArray = ls at hl ⊢
  have hl : lv_has ls 6 [(0, .ref o0)] := hl
  refine lv_aload_n hx hb dX12_anHour_0 rfl (lv_at hl 0 rfl) ?_
  refine tw_get hx hb hts bF_X12 hown hK hT hr_o0 shm_0 rfl 1 (by decide) (ht_at hts 0 rfl) (fun _ h9 => h9) dX12_anHour_1 (fun v9 m1 h9 => ?_)
  obtain ⟨rfl, hg2⟩ := h9 _ rfl
  refine lv_sipush (v := 1429) hx hb dX12_anHour_4 (by decide) ?_
  refine lv_dup2_11 hx hb dX12_anHour_7 rfl rfl ?_
  refine tw_iald (i := 1429) hx hb hK hT hg2 shm_2 rfl (by unfold vp_in; decide) dX12_anHour_8 (fun v9 m3 h9 => ?_)
  obtain ⟨x4, rfl, gx4, kx4⟩ := (gp_at h9 (w_hou (by have q9 := tn_of (show (1429 : Int32).toInt = 1429 from (by decide)) (show (0 : Int) ≤ 1429 from by omega); omega)))
  refine lv_iconst (v := 1) hx hb dX12_anHour_9 (by decide) ?_
  refine lv_iadd hx hb dX12_anHour_10 ?_
  refine lv_topi (fun x5 ex5 => ?_)
  have t6 : x5.toInt = x4.toInt + 1 := ti_add ex5 rfl (by decide) (by omega) (by omega)
  refine tw_iast2 (Sg1 := (SHm q (wP wZ0 wN (wH + 1) wB wC wL wK wU wV) PI im PM PT lS lB lE lN)) (i := 1429) (x := x5) hx hb hK hT hG hS hg2 shm_2 rfl shm_2 shm_o2 (fun b9 h9 => hgu b9 1 h9) (by unfold vp_in; decide) (gp_of (gi_of (show x5.toInt = x5.toInt from rfl) (by omega) (by omega)) (w_hou (by decide)) (wX_o (by decide) (by omega))) (fun k9 hk9 hne9 v9 hv9 he9 => by obtain ⟨x9, rfl, p9⟩ := he9; exact ⟨x9, rfl, wP_mono hk9 (Int.le_refl _) (Int.le_refl _) (Int.le_refl _) (fun e9 => absurd (e9.trans (by decide)) hne9) p9⟩) dX12_anHour_11 (fun H locs hT oq m7 oi hS => ?_)
  have hF := hF.ast hg2 skm_2 oq (by decide)
  refine lv_aload_n hx hb dX12_anHour_12 rfl (lv_at hl 0 rfl) ?_
  refine lv_aload_n hx hb dX12_anHour_13 rfl (lv_at hl 0 rfl) ?_
  have hFc := gA_free hG hA hS
  refine va_calli (va_runV (As := []) (rest := [.ref o0]) ⟨hx, hb, hml, hown, hts⟩ (s_hour l dC dI kA adK adV G H q wZ0 wN (wH + 1) wB wC wL wK wU wV PI im PM PT lS lB lE lN o0 hT hr_o0 (fun _ => Int.le_refl 0) hgn (by omega) (by omega) (by omega) (by omega) hgu) (cwV 0 hts (goodIn_app (goodIn_r _ [3, 4, 5, 6] rfl (by decide +kernel)) (goodIn_ca (goodIn_r _ [2, 1] rfl (by decide +kernel)) (bs_in _ _))) rfl rfl rfl (by decide +kernel) ⟨(Nat.le_of_ble_eq_true rfl), (Nat.le_of_ble_eq_true rfl)⟩) ⟨fun a U g mk q => by obtain ⟨q0, q1, qK, qE⟩ := q; exact ⟨q0, q1, va_K.moved (u := U) (U := U.calling g mk a) (Vm.Alike.refl U.vm) qK, EVS.blind g mk a qE⟩, gH_rc hK hT hr_o0 shm_0 rfl, fun U hU hW => ⟨rfl, hU, va_K.moved hW.alike hK, hE.call hS hFc hU hW⟩⟩ rfl rfl hl.1 rfl (lv_room (Nat.le_of_ble_eq_true rfl)) dX12_anHour_14 ⟨(Nat.le_of_ble_eq_true rfl), (Nat.le_of_ble_eq_true rfl)⟩) hS (fun q _ h => hFc q h) hFc (fun r8 u t H locs ht hvm hw9 hB _ _ hS => ?_)
  obtain ⟨hT, hF1⟩ := hB
  rw [ht] at hT hF1
  have m10 := (el_kept (hF1.arr hg2 skm_2 (by decide))).trans m7
  have hF := hF.more hF1 (by decide)
  try dsimp only at hw9
  obtain ⟨h11, hf12⟩ := hw9
  have hFc := gA_free hG hA hS
  refine va_calli (va_runV (As := [.int r8]) (rest := []) ⟨hx, hb, hml, hown, hts⟩ (s_outside l dC dI kA adK adV G H q wZ0 wN (wH + 1) wB wC wL wK wU wV PI im PM PT lS lB lE lN o0 r8 hT hr_o0 (by have q8 := ti_all r8; omega) (fun _ => Int.le_refl 0) hgn (by omega) (by omega) (by omega) (by omega) hgu) (cwV 1 hts (goodIn_app (goodIn_r _ [11, 12, 13, 6] rfl (by decide +kernel)) (goodIn_ca (goodIn_r _ [7, 1, 8, 9, 10, 6] rfl (by decide +kernel)) (bs_in _ _))) rfl rfl rfl (by decide +kernel) ⟨(Nat.le_of_ble_eq_true rfl), (Nat.le_of_ble_eq_true rfl)⟩) ⟨fun a U g mk q => by obtain ⟨q0, q1, qK, qE⟩ := q; exact ⟨q0, q1, va_K.moved (u := U) (U := U.calling g mk a) (Vm.Alike.refl U.vm) qK, EVS.blind g mk a qE⟩, gH_rc hK hT hr_o0 shm_0 rfl, fun U hU hW => ⟨rfl, hU, va_K.moved hW.alike hK, hE.call hS hFc hU hW⟩⟩ rfl rfl hl.1 rfl (lv_room (Nat.le_of_ble_eq_true rfl)) dX12_anHour_17 ⟨(Nat.le_of_ble_eq_true rfl), (Nat.le_of_ble_eq_true rfl)⟩) hS (fun q _ h => hFc q h) hFc (fun r13 u t H locs ht hvm hw14 hB _ _ hS => ?_)
  obtain ⟨hT, hF1⟩ := hB
  rw [ht] at hT hF1
  have m15 := (el_kept (hF1.arr hg2 skm_2 (by decide))).trans m10
  have hF := hF.more hF1 (by decide)
  try dsimp only at hw14
  have h16 := hw14
  refine lv_istore_n (lv' := [(1, .int r13), (0, .ref o0)]) hx hb dX12_anHour_20 rfl hl (by decide) rfl (fun ls hl => ?_)
  refine lv_aload_n hx hb dX12_anHour_21 rfl (lv_at hl 1 rfl) ?_
  refine lv_aload_n hx hb dX12_anHour_22 rfl (lv_at hl 1 rfl) ?_
  have hFc := gA_free hG hA hS
  refine va_calli (va_runV (As := []) (rest := [.ref o0]) ⟨hx, hb, hml, hown, hts⟩ (s_hour l dC dI kA adK adV G H q wZ0 wN (wH + 1) wB wC wL wK wU wV PI im PM PT lS lB lE lN o0 hT hr_o0 (fun _ => Int.le_refl 0) hgn (by omega) (by omega) (by omega) (by omega) hgu) (cwV 0 hts (goodIn_app (goodIn_r _ [3, 4, 5, 6] rfl (by decide +kernel)) (goodIn_ca (goodIn_r _ [2, 1] rfl (by decide +kernel)) (bs_in _ _))) rfl rfl rfl (by decide +kernel) ⟨(Nat.le_of_ble_eq_true rfl), (Nat.le_of_ble_eq_true rfl)⟩) ⟨fun a U g mk q => by obtain ⟨q0, q1, qK, qE⟩ := q; exact ⟨q0, q1, va_K.moved (u := U) (U := U.calling g mk a) (Vm.Alike.refl U.vm) qK, EVS.blind g mk a qE⟩, gH_rc hK hT hr_o0 shm_0 rfl, fun U hU hW => ⟨rfl, hU, va_K.moved hW.alike hK, hE.call hS hFc hU hW⟩⟩ rfl rfl hl.1 rfl (lv_room (Nat.le_of_ble_eq_true rfl)) dX12_anHour_23 ⟨(Nat.le_of_ble_eq_true rfl), (Nat.le_of_ble_eq_true rfl)⟩) hS (fun q _ h => hFc q h) hFc (fun r17 u t H locs ht hvm hw18 hB _ _ hS => ?_)
  obtain ⟨hT, hF1⟩ := hB
  rw [ht] at hT hF1
  have m19 := (el_kept (hF1.arr hg2 skm_2 (by decide))).trans m15
  have hF := hF.more hF1 (by decide)
  try dsimp only at hw18
  obtain ⟨h20, hf21⟩ := hw18
  have hFc := gA_free hG hA hS
  refine va_calli (va_runV (As := [.int r17]) (rest := []) ⟨hx, hb, hml, hown, hts⟩ (s_rain l dC dI kA adK adV G H q wZ0 wN (wH + 1) wB wC wL wK wU wV PI im PM PT lS lB lE lN o0 r17 hT hr_o0 (fun _ => Int.le_refl 0) hgn (by omega) (by omega) (by omega) (by omega) hgu) (cwV 1 hts (goodIn_app (goodIn_r _ [19, 20, 21, 6] rfl (by decide +kernel)) (goodIn_ca (goodIn_r _ [14, 15, 1, 16, 17, 18, 6] rfl (by decide +kernel)) (bs_in _ _))) rfl rfl rfl (by decide +kernel) ⟨(Nat.le_of_ble_eq_true rfl), (Nat.le_of_ble_eq_true rfl)⟩) ⟨fun a U g mk q => by obtain ⟨q0, q1, qK, qE⟩ := q; exact ⟨q0, q1, va_K.moved (u := U) (U := U.calling g mk a) (Vm.Alike.refl U.vm) qK, EVS.blind g mk a qE⟩, gH_rc hK hT hr_o0 shm_0 rfl, fun U hU hW => ⟨rfl, hU, va_K.moved hW.alike hK, hE.call hS hFc hU hW⟩⟩ rfl rfl hl.1 rfl (lv_room (Nat.le_of_ble_eq_true rfl)) dX12_anHour_26 ⟨(Nat.le_of_ble_eq_true rfl), (Nat.le_of_ble_eq_true rfl)⟩) hS (fun q _ h => hFc q h) hFc (fun r22 u t H locs ht hvm hw23 hB _ _ hS => ?_)
  obtain ⟨hT, hF1⟩ := hB
  rw [ht] at hT hF1
  have m24 := (el_kept (hF1.arr hg2 skm_2 (by decide))).trans m19
  have hF := hF.more hF1 (by decide)
  try dsimp only at hw23
  have h25 := hw23
  refine lv_istore_n (lv' := [(2, .int r22), (1, .int r13), (0, .ref o0)]) hx hb dX12_anHour_29 rfl hl (by decide) rfl (fun ls hl => ?_)
  refine lv_aload_n hx hb dX12_anHour_30 rfl (lv_at hl 2 rfl) ?_
  refine lv_aload_n hx hb dX12_anHour_31 rfl (lv_at hl 2 rfl) ?_
  have hFc := gA_free hG hA hS
  refine va_calli (va_runV (As := []) (rest := [.ref o0]) ⟨hx, hb, hml, hown, hts⟩ (s_hour l dC dI kA adK adV G H q wZ0 wN (wH + 1) wB wC wL wK wU wV PI im PM PT lS lB lE lN o0 hT hr_o0 (fun _ => Int.le_refl 0) hgn (by omega) (by omega) (by omega) (by omega) hgu) (cwV 0 hts (goodIn_app (goodIn_r _ [3, 4, 5, 6] rfl (by decide +kernel)) (goodIn_ca (goodIn_r _ [2, 1] rfl (by decide +kernel)) (bs_in _ _))) rfl rfl rfl (by decide +kernel) ⟨(Nat.le_of_ble_eq_true rfl), (Nat.le_of_ble_eq_true rfl)⟩) ⟨fun a U g mk q => by obtain ⟨q0, q1, qK, qE⟩ := q; exact ⟨q0, q1, va_K.moved (u := U) (U := U.calling g mk a) (Vm.Alike.refl U.vm) qK, EVS.blind g mk a qE⟩, gH_rc hK hT hr_o0 shm_0 rfl, fun U hU hW => ⟨rfl, hU, va_K.moved hW.alike hK, hE.call hS hFc hU hW⟩⟩ rfl rfl hl.1 rfl (lv_room (Nat.le_of_ble_eq_true rfl)) dX12_anHour_32 ⟨(Nat.le_of_ble_eq_true rfl), (Nat.le_of_ble_eq_true rfl)⟩) hS (fun q _ h => hFc q h) hFc (fun r26 u t H locs ht hvm hw27 hB _ _ hS => ?_)
  obtain ⟨hT, hF1⟩ := hB
  rw [ht] at hT hF1
  have m28 := (el_kept (hF1.arr hg2 skm_2 (by decide))).trans m24
  have hF := hF.more hF1 (by decide)
  try dsimp only at hw27
  obtain ⟨h29, hf30⟩ := hw27
  have hFc := gA_free hG hA hS
  refine va_calli (va_runV (As := [.int r26]) (rest := []) ⟨hx, hb, hml, hown, hts⟩ (s_wind l dC dI kA adK adV G H q wZ0 wN (wH + 1) wB wC wL wK wU wV PI im PM PT lS lB lE lN o0 r26 hT hr_o0 (fun _ => Int.le_refl 0) hgn (by omega) (by omega) (by omega) (by omega) hgu) (cwV 1 hts (goodIn_app (goodIn_r _ [27, 28, 29, 6] rfl (by decide +kernel)) (goodIn_ca (goodIn_r _ [22, 15, 1, 16, 17, 18, 6, 23, 24, 25, 26] rfl (by decide +kernel)) (bs_in _ _))) rfl rfl rfl (by decide +kernel) ⟨(Nat.le_of_ble_eq_true rfl), (Nat.le_of_ble_eq_true rfl)⟩) ⟨fun a U g mk q => by obtain ⟨q0, q1, qK, qE⟩ := q; exact ⟨q0, q1, va_K.moved (u := U) (U := U.calling g mk a) (Vm.Alike.refl U.vm) qK, EVS.blind g mk a qE⟩, gH_rc hK hT hr_o0 shm_0 rfl, fun U hU hW => ⟨rfl, hU, va_K.moved hW.alike hK, hE.call hS hFc hU hW⟩⟩ rfl rfl hl.1 rfl (lv_room (Nat.le_of_ble_eq_true rfl)) dX12_anHour_35 ⟨(Nat.le_of_ble_eq_true rfl), (Nat.le_of_ble_eq_true rfl)⟩) hS (fun q _ h => hFc q h) hFc (fun r31 u t H locs ht hvm hw32 hB _ _ hS => ?_)
  obtain ⟨hT, hF1⟩ := hB
  rw [ht] at hT hF1
  have m33 := (el_kept (hF1.arr hg2 skm_2 (by decide))).trans m28
  have hF := hF.more hF1 (by decide)
  try dsimp only at hw32
  have h34 := hw32
  refine lv_istore_n (lv' := [(3, .int r31), (2, .int r22), (1, .int r13), (0, .ref o0)]) hx hb dX12_anHour_38 rfl hl (by decide) rfl (fun ls hl => ?_)
  refine lv_iconst (v := 0) hx hb dX12_anHour_39 (by decide) ?_
  refine lv_istore (lv' := [(4, .int 0), (3, .int r31), (2, .int r22), (1, .int r13), (0, .ref o0)]) hx hb dX12_anHour_40 hl (by decide) rfl (fun ls hl => ?_)
  have jn106 : ∀ (H : Heap) (locs : List Loc), gH (dC, dI) kA (SHm q (wP wZ0 (rnN wN 96) (wH + 1) wB wC wL wK wU wV) PI im PM PT lS lB lE lN) G H → gF (dC, dI) SKm G ([(0, 9), (2, 0), (5, 0), (6, 0), (7, 0), (8, 0), (9, 0)] : List (Nat × Nat)) s.heap H → va_S A s.heap H locs → el H (q 1) (1429 : Int32).toNatClampNeg = some (.int x5) → ∀ ls : Array Slot, lv_has ls 6 [(4, .int (nI 96)), (3, .int r31), (2, .int r22), (1, .int r13), (0, .ref o0)] → W p l e (headSpec w_s_anHour ({ frames := 4, cells := 0, slots := 0, locals := 95 })).room s m #[.ref o0] below meth c H locs 0 0 (MQ below (va_Qv (fun (u : (Nat → Int) × Int × (Nat → Int → Prop) × (Nat → Int → Prop)) => match u with | (wN1, wB1, PM1, PT1) => (∀ i, 6500000 ≤ wN1 i ∧ wN1 i ≤ 6500000 + 340 * (wH + 1)) ∧ (0 ≤ wB1 ∧ wB1 ≤ 96 * (wH + 1))) (fun (u : (Nat → Int) × Int × (Nat → Int → Prop) × (Nat → Int → Prop)) (t : State) => match u with | (wN1, wB1, PM1, PT1) => gH (dC, dI) kA (SHm q (wP wZ0 wN1 (wH + 1) wB1 wC wL wK wU wV) PI im PM1 PT1 lS lB lE lN) G t.heap ∧ gF (dC, dI) SKm G ([(0, 9), (2, 0), (5, 0), (6, 0), (7, 0), (8, 0), (9, 0)] : List (Nat × Nat)) s.heap t.heap) A) #[.ref o0] s 0 0 A) (F0 m 94 ls []) := by
    intro  H locs hT hF hS m105 ls hl
    have t107 : ∀ i, 6500000 ≤ rnN wN 96 i ∧ rnN wN 96 i ≤ 20200000 := fun i => by have q8 := hn_ i; have q9 := rn_b wN 96 i; omega
    refine lv_aload_n hx hb dX12_anHour_94 rfl (lv_at hl 4 rfl) ?_
    refine tw_get hx hb hts bF_X12 hown hK hT hr_o0 shm_0 rfl 1 (by decide) (ht_at hts 0 rfl) (fun _ h9 => h9) dX12_anHour_95 (fun v9 m108 h9 => ?_)
    obtain ⟨rfl, hg109⟩ := h9 _ rfl
    refine lv_sipush (v := 1428) hx hb dX12_anHour_98 (by decide) ?_
    refine tw_iald (i := 1428) hx hb hK hT hg2 shm_2 rfl (by unfold vp_in; decide) dX12_anHour_101 (fun v9 m110 h9 => ?_)
    obtain ⟨x111, rfl, gx111, kx111⟩ := (gp_at h9 (w_wct (by have q9 := tn_of (show (1428 : Int32).toInt = 1428 from (by decide)) (show (0 : Int) ≤ 1428 from by omega); omega)))
    refine lv_istore (lv' := [(4, .int x111), (3, .int r31), (2, .int r22), (1, .int r13), (0, .ref o0)]) hx hb dX12_anHour_102 hl (by decide) rfl (fun ls hl => ?_)
    refine lv_iconst (v := 0) hx hb dX12_anHour_104 (by decide) ?_
    refine lv_istore (lv' := [(5, .int 0), (4, .int x111), (3, .int r31), (2, .int r22), (1, .int r13), (0, .ref o0)]) hx hb dX12_anHour_105 hl (by decide) rfl (fun ls hl => ?_)
    have key528 : ∀ (n528 i112 : Nat), i112 + n528 = 30 → 0 ≤ i112 → ∀ (H : Heap) (locs : List Loc), gH (dC, dI) kA (SHm q (wP wZ0 (rnN wN 96) (wH + 1) wB wC wL wK wU wV) PI im PM PT lS lB lE lN) G H → gF (dC, dI) SKm G ([(0, 9), (2, 0), (5, 0), (6, 0), (7, 0), (8, 0), (9, 0)] : List (Nat × Nat)) s.heap H → va_S A s.heap H locs → ∀ ls : Array Slot, lv_has ls 6 [(5, .int (nI i112)), (4, .int x111), (3, .int r31), (2, .int r22), (1, .int r13), (0, .ref o0)] → W p l e (headSpec w_s_anHour ({ frames := 4, cells := 0, slots := 0, locals := 95 })).room s m #[.ref o0] below meth c H locs 0 0 (MQ below (va_Qv (fun (u : (Nat → Int) × Int × (Nat → Int → Prop) × (Nat → Int → Prop)) => match u with | (wN1, wB1, PM1, PT1) => (∀ i, 6500000 ≤ wN1 i ∧ wN1 i ≤ 6500000 + 340 * (wH + 1)) ∧ (0 ≤ wB1 ∧ wB1 ≤ 96 * (wH + 1))) (fun (u : (Nat → Int) × Int × (Nat → Int → Prop) × (Nat → Int → Prop)) (t : State) => match u with | (wN1, wB1, PM1, PT1) => gH (dC, dI) kA (SHm q (wP wZ0 wN1 (wH + 1) wB1 wC wL wK wU wV) PI im PM1 PT1 lS lB lE lN) G t.heap ∧ gF (dC, dI) SKm G ([(0, 9), (2, 0), (5, 0), (6, 0), (7, 0), (8, 0), (9, 0)] : List (Nat × Nat)) s.heap t.heap) A) #[.ref o0] s 0 0 A) (F0 m 107 ls []) := by
      intro n528
      induction n528 with
      | zero =>
        intro i112 hn528 hlo529  H locs hT hF hS  ls hl
        obtain rfl : 30 = i112 := by omega
        refine lv_iload hx hb dX12_anHour_107 (lv_at hl 0 rfl) ?_
        refine lv_iload hx hb dX12_anHour_109 (lv_at hl 1 rfl) ?_
        refine lv_icmp_ge (tgt := 136) hx hb dX12_anHour_111 (by decide) (fun c530 => ?_) (fun c530 => (by exfalso; have q9 : ((30 : Nat) : Int) < x111.toInt := ti_nle c530 rfl (nI_toInt (by omega)); omega))
        have t531 : x111.toInt ≤ ((30 : Nat) : Int) := ti_le c530 rfl (nI_toInt (by omega))
        refine lv_iconst (v := 0) hx hb dX12_anHour_136 (by decide) ?_
        refine lv_istore (lv' := [(5, .int 0), (4, .int x111), (3, .int r31), (2, .int r22), (1, .int r13), (0, .ref o0)]) hx hb dX12_anHour_137 hl (by decide) rfl (fun ls hl => ?_)
        have jn746 : ∀ (z744 : Int32), ((0 ≤ z744.toInt ∧ z744.toInt ≤ 30)) → ∀ (H : Heap) (locs : List Loc), gH (dC, dI) kA (SHm q (wP wZ0 (rnN wN 96) (wH + 1) wB wC wL wK wU wV) PI im PM PT lS lB lE lN) G H → gF (dC, dI) SKm G ([(0, 9), (2, 0), (5, 0), (6, 0), (7, 0), (8, 0), (9, 0)] : List (Nat × Nat)) s.heap H → va_S A s.heap H locs → ∀ ls : Array Slot, lv_has ls 6 [(5, .int z744), (4, .int x111), (3, .int r31), (2, .int r22), (1, .int r13), (0, .ref o0)] → W p l e (headSpec w_s_anHour ({ frames := 4, cells := 0, slots := 0, locals := 95 })).room s m #[.ref o0] below meth c H locs 0 0 (MQ below (va_Qv (fun (u : (Nat → Int) × Int × (Nat → Int → Prop) × (Nat → Int → Prop)) => match u with | (wN1, wB1, PM1, PT1) => (∀ i, 6500000 ≤ wN1 i ∧ wN1 i ≤ 6500000 + 340 * (wH + 1)) ∧ (0 ≤ wB1 ∧ wB1 ≤ 96 * (wH + 1))) (fun (u : (Nat → Int) × Int × (Nat → Int → Prop) × (Nat → Int → Prop)) (t : State) => match u with | (wN1, wB1, PM1, PT1) => gH (dC, dI) kA (SHm q (wP wZ0 wN1 (wH + 1) wB1 wC wL wK wU wV) PI im PM1 PT1 lS lB lE lN) G t.heap ∧ gF (dC, dI) SKm G ([(0, 9), (2, 0), (5, 0), (6, 0), (7, 0), (8, 0), (9, 0)] : List (Nat × Nat)) s.heap t.heap) A) #[.ref o0] s 0 0 A) (F0 m 170 ls []) := by
          intro z744 h745 H locs hT hF hS  ls hl
          refine lv_aload_n hx hb dX12_anHour_170 rfl (lv_at hl 5 rfl) ?_
          have hFc := gA_free hG hA hS
          refine va_callv (va_runV (As := []) (rest := []) ⟨hx, hb, hml, hown, hts⟩ (s_ditches l dC dI kA adK adV G H q wZ0 (rnN wN 96) (wH + 1) wB wC wL wK wU wV PI im PM PT lS lB lE lN o0 hT hr_o0 (fun i => by have q8 := hn_ i; have q9 := rn_b wN 96 i; omega) (fun _ => Int.le_refl 0) t107 (by omega) (by omega) (by omega) (by omega) hgu) (cwV 0 hts (goodIn_app (goodIn_r _ [71, 72, 73, 6] rfl (by decide +kernel)) (goodIn_ca (goodIn_r _ [60, 61, 1, 62, 63, 64, 39, 40, 41, 42, 6, 65, 66, 67, 68, 69, 70, 38, 2, 3, 4, 5, 7, 8, 9, 10, 11, 12, 13, 43, 44, 45, 46, 47, 25, 48] rfl (by decide +kernel)) (bs_in _ _))) rfl rfl rfl (by decide +kernel) ⟨(Nat.le_of_ble_eq_true rfl), (Nat.le_of_ble_eq_true rfl)⟩) ⟨fun a U g mk q => by obtain ⟨q0, q1, qK, qE⟩ := q; exact ⟨q0, q1, va_K.moved (u := U) (U := U.calling g mk a) (Vm.Alike.refl U.vm) qK, EVS.blind g mk a qE⟩, gH_rc hK hT hr_o0 shm_0 rfl, fun U hU hW => ⟨rfl, hU, va_K.moved hW.alike hK, hE.call hS hFc hU hW⟩⟩ rfl rfl hl.1 rfl (lv_room (Nat.le_of_ble_eq_true rfl)) dX12_anHour_171 ⟨(Nat.le_of_ble_eq_true rfl), (Nat.le_of_ble_eq_true rfl)⟩) hS (fun q _ h => hFc q h) hFc (fun u t H locs ht hvm hw748 hB _ _ hS => ?_)
          obtain ⟨u749, u750, u751⟩ := u
          obtain ⟨hT, hF1⟩ := hB
          rw [ht] at hT hF1
          have hF := hF.more hF1 (by decide)
          try dsimp only at hw748
          have hf752 := hw748
          have t753 : ∀ i, 6500000 ≤ u749 i ∧ u749 i ≤ 20200000 - 240 := fun i => by have q7 := hn_ i; have q8 := rn_b wN 96 i; have q9 := hf752 i; omega
          refine lv_iconst (v := 0) hx hb dX12_anHour_174 (by decide) ?_
          refine lv_istore (lv' := [(5, .int 0), (4, .int x111), (3, .int r31), (2, .int r22), (1, .int r13), (0, .ref o0)]) hx hb dX12_anHour_175 hl (by decide) rfl (fun ls hl => ?_)
          have jn860 : ∀ (gwN856 : Nat → Int), ∀ (z857 : Int32), ((0 ≤ z857.toInt ∧ z857.toInt ≤ 30) ∧ (∀ i, u749 i ≤ gwN856 i ∧ gwN856 i ≤ u749 i + 240)) → ∀ (H : Heap) (locs : List Loc), gH (dC, dI) kA (SHm q (wP wZ0 gwN856 (wH + 1) wB wC wL wK wU wV) PI im u750 u751 lS lB lE lN) G H → gF (dC, dI) SKm G ([(0, 9), (2, 0), (5, 0), (6, 0), (7, 0), (8, 0), (9, 0)] : List (Nat × Nat)) s.heap H → va_S A s.heap H locs → ∀ ls : Array Slot, lv_has ls 6 [(5, .int z857), (4, .int x111), (3, .int r31), (2, .int r22), (1, .int r13), (0, .ref o0)] → W p l e (headSpec w_s_anHour ({ frames := 4, cells := 0, slots := 0, locals := 95 })).room s m #[.ref o0] below meth c H locs 0 0 (MQ below (va_Qv (fun (u : (Nat → Int) × Int × (Nat → Int → Prop) × (Nat → Int → Prop)) => match u with | (wN1, wB1, PM1, PT1) => (∀ i, 6500000 ≤ wN1 i ∧ wN1 i ≤ 6500000 + 340 * (wH + 1)) ∧ (0 ≤ wB1 ∧ wB1 ≤ 96 * (wH + 1))) (fun (u : (Nat → Int) × Int × (Nat → Int → Prop) × (Nat → Int → Prop)) (t : State) => match u with | (wN1, wB1, PM1, PT1) => gH (dC, dI) kA (SHm q (wP wZ0 wN1 (wH + 1) wB1 wC wL wK wU wV) PI im PM1 PT1 lS lB lE lN) G t.heap ∧ gF (dC, dI) SKm G ([(0, 9), (2, 0), (5, 0), (6, 0), (7, 0), (8, 0), (9, 0)] : List (Nat × Nat)) s.heap t.heap) A) #[.ref o0] s 0 0 A) (F0 m 219 ls []) := by
            intro gwN856 z857 ⟨h858, hg859⟩ H locs hT hF hS  ls hl
            have t861 : ∀ i, 6500000 ≤ gwN856 i ∧ gwN856 i ≤ 20200000 := fun i => by have q8 := t753 i; have q9 := hg859 i; omega
            refine lv_aload_n hx hb dX12_anHour_219 rfl (lv_at hl 5 rfl) ?_
            have hFc := gA_free hG hA hS
            refine va_calli (va_runV (As := []) (rest := []) ⟨hx, hb, hml, hown, hts⟩ (s_hour l dC dI kA adK adV G H q wZ0 gwN856 (wH + 1) wB wC wL wK wU wV PI im u750 u751 lS lB lE lN o0 hT hr_o0 (fun _ => Int.le_refl 0) t861 (by omega) (by omega) (by omega) (by omega) hgu) (cwV 0 hts (goodIn_app (goodIn_r _ [3, 4, 5, 6] rfl (by decide +kernel)) (goodIn_ca (goodIn_r _ [2, 1] rfl (by decide +kernel)) (bs_in _ _))) rfl rfl rfl (by decide +kernel) ⟨(Nat.le_of_ble_eq_true rfl), (Nat.le_of_ble_eq_true rfl)⟩) ⟨fun a U g mk q => by obtain ⟨q0, q1, qK, qE⟩ := q; exact ⟨q0, q1, va_K.moved (u := U) (U := U.calling g mk a) (Vm.Alike.refl U.vm) qK, EVS.blind g mk a qE⟩, gH_rc hK hT hr_o0 shm_0 rfl, fun U hU hW => ⟨rfl, hU, va_K.moved hW.alike hK, hE.call hS hFc hU hW⟩⟩ rfl rfl hl.1 rfl (lv_room (Nat.le_of_ble_eq_true rfl)) dX12_anHour_220 ⟨(Nat.le_of_ble_eq_true rfl), (Nat.le_of_ble_eq_true rfl)⟩) hS (fun q _ h => hFc q h) hFc (fun r862 u t H locs ht hvm hw863 hB _ _ hS => ?_)
            obtain ⟨hT, hF1⟩ := hB
            rw [ht] at hT hF1
            have hF := hF.more hF1 (by decide)
            try dsimp only at hw863
            obtain ⟨h864, hf865⟩ := hw863
            refine lv_bipush (v := 24) hx hb dX12_anHour_223 (by decide) ?_
            refine lv_irem hx hb dX12_anHour_225 (by decide) ?_
            refine lv_topi (fun x866 ex866 => ?_)
            have t867 : x866.toInt = r862.toInt % 24 := ti_rem ex866 rfl (by decide) (by omega) (by omega)
            have jn872 : ∀ (gwB870 : Int), ((0 ≤ gwB870 ∧ gwB870 ≤ 96 * (wH + 1))) → ∀ (H : Heap) (locs : List Loc), gH (dC, dI) kA (SHm q (wP wZ0 gwN856 (wH + 1) gwB870 wC wL wK wU wV) PI im u750 u751 lS lB lE lN) G H → gF (dC, dI) SKm G ([(0, 9), (2, 0), (5, 0), (6, 0), (7, 0), (8, 0), (9, 0)] : List (Nat × Nat)) s.heap H → va_S A s.heap H locs → ∀ ls : Array Slot, lv_has ls 6 [(5, .int z857), (4, .int x111), (3, .int r31), (2, .int r22), (1, .int r13), (0, .ref o0)] → W p l e (headSpec w_s_anHour ({ frames := 4, cells := 0, slots := 0, locals := 95 })).room s m #[.ref o0] below meth c H locs 0 0 (MQ below (va_Qv (fun (u : (Nat → Int) × Int × (Nat → Int → Prop) × (Nat → Int → Prop)) => match u with | (wN1, wB1, PM1, PT1) => (∀ i, 6500000 ≤ wN1 i ∧ wN1 i ≤ 6500000 + 340 * (wH + 1)) ∧ (0 ≤ wB1 ∧ wB1 ≤ 96 * (wH + 1))) (fun (u : (Nat → Int) × Int × (Nat → Int → Prop) × (Nat → Int → Prop)) (t : State) => match u with | (wN1, wB1, PM1, PT1) => gH (dC, dI) kA (SHm q (wP wZ0 wN1 (wH + 1) wB1 wC wL wK wU wV) PI im PM1 PT1 lS lB lE lN) G t.heap ∧ gF (dC, dI) SKm G ([(0, 9), (2, 0), (5, 0), (6, 0), (7, 0), (8, 0), (9, 0)] : List (Nat × Nat)) s.heap t.heap) A) #[.ref o0] s 0 0 A) (F0 m 233 ls []) := by
              intro gwB870 hg871 H locs hT hF hS  ls hl
              refine lv_aload_n hx hb dX12_anHour_233 rfl (lv_at hl 5 rfl) ?_
              have hFc := gA_free hG hA hS
              refine va_callv (va_runV (As := []) (rest := []) ⟨hx, hb, hml, hown, hts⟩ (s_writesRow l dC dI kA adK adV G H q wZ0 gwN856 (wH + 1) gwB870 wC wL wK wU wV PI im u750 u751 lS lB lE lN o0 hT hr_o0 (fun _ => Int.le_refl 0) t861 (by omega) (by omega) (by omega) (by omega) hgu) (cwV 0 hts (goodIn_app (goodIn_r _ [86, 87, 88, 6] rfl (by decide +kernel)) (goodIn_ca (goodIn_r _ [82, 83, 84, 38, 39, 1, 40, 41, 42, 6, 2, 3, 4, 5, 7, 8, 9, 10, 11, 12, 13, 43, 44, 45, 85] rfl (by decide +kernel)) (bs_in _ _))) rfl rfl rfl (by decide +kernel) ⟨(Nat.le_of_ble_eq_true rfl), (Nat.le_of_ble_eq_true rfl)⟩) ⟨fun a U g mk q => by obtain ⟨q0, q1, qK, qE⟩ := q; exact ⟨q0, q1, va_K.moved (u := U) (U := U.calling g mk a) (Vm.Alike.refl U.vm) qK, EVS.blind g mk a qE⟩, gH_rc hK hT hr_o0 shm_0 rfl, fun U hU hW => ⟨rfl, hU, va_K.moved hW.alike hK, hE.call hS hFc hU hW⟩⟩ rfl rfl hl.1 rfl (lv_room (Nat.le_of_ble_eq_true rfl)) dX12_anHour_234 ⟨(Nat.le_of_ble_eq_true rfl), (Nat.le_of_ble_eq_true rfl)⟩) hS (fun q _ h => hFc q h) hFc (fun u t H locs ht hvm hw874 hB _ _ hS => ?_)
              obtain ⟨hT, hF1⟩ := hB
              rw [ht] at hT hF1
              have hF := hF.more hF1 (by decide)
              try dsimp only at hw874
              exact W.vret hx hb hr (fun t ht hW => ⟨⟨(gwN856, gwB870, u750, u751), rfl, (by exact ⟨(fun i => by have q6 := hn_ i; have q7 := rn_b wN 96 i; have q8 := hf752 i; have q9 := hg859 i; omega), (by omega)⟩), by (try dsimp only); rw [ht]; exact ⟨hT, hF⟩⟩, hS.F ht⟩) hS.2.2 dX12_anHour_237
            refine lv_if_ne (tgt := 233) hx hb dX12_anHour_226 (by decide) (fun c875 => ?_) (fun c875 => ?_)
            · have t876 : x866.toInt ≠ 0 := ti_ne c875 rfl (by decide)
              exact jn872 wB (by omega) _ _ hT hF hS ls (lv_sub hl [0, 1, 2, 3, 4, 5] rfl)
            · have t877 : x866.toInt = 0 := ti_eq c875 rfl (by decide)
              refine lv_aload_n hx hb dX12_anHour_229 rfl (lv_at hl 5 rfl) ?_
              have hFc := gA_free hG hA hS
              refine va_callv (va_runV (As := []) (rest := []) ⟨hx, hb, hml, hown, hts⟩ (s_dayEnds l dC dI kA adK adV G H q wZ0 gwN856 (wH + 1) wB wC wL wK wU wV PI im u750 u751 lS lB lE lN o0 hT hr_o0 (by omega) (fun _ => Int.le_refl 0) t861 (by omega) (by omega) (by omega) (by omega) hgu) (cwV 0 hts (goodIn_app (goodIn_r _ [79, 80, 81, 6] rfl (by decide +kernel)) (goodIn_ca (goodIn_r _ [78, 39, 1, 40, 41, 42, 6] rfl (by decide +kernel)) (bs_in _ _))) rfl rfl rfl (by decide +kernel) ⟨(Nat.le_of_ble_eq_true rfl), (Nat.le_of_ble_eq_true rfl)⟩) ⟨fun a U g mk q => by obtain ⟨q0, q1, qK, qE⟩ := q; exact ⟨q0, q1, va_K.moved (u := U) (U := U.calling g mk a) (Vm.Alike.refl U.vm) qK, EVS.blind g mk a qE⟩, gH_rc hK hT hr_o0 shm_0 rfl, fun U hU hW => ⟨rfl, hU, va_K.moved hW.alike hK, hE.call hS hFc hU hW⟩⟩ rfl rfl hl.1 rfl (lv_room (Nat.le_of_ble_eq_true rfl)) dX12_anHour_230 ⟨(Nat.le_of_ble_eq_true rfl), (Nat.le_of_ble_eq_true rfl)⟩) hS (fun q _ h => hFc q h) hFc (fun u t H locs ht hvm hw879 hB _ _ hS => ?_)
              obtain ⟨hT, hF1⟩ := hB
              rw [ht] at hT hF1
              have hF := hF.more hF1 (by decide)
              try dsimp only at hw879
              exact jn872 (wB + 96) (by omega) _ _ hT hF hS ls (lv_sub hl [0, 1, 2, 3, 4, 5] rfl)
          have key880 : ∀ (n880 i754 : Nat), i754 + n880 = 30 → 0 ≤ i754 → ∀ (H : Heap) (locs : List Loc), gH (dC, dI) kA (SHm q (wP wZ0 (lfN u749 wU wV i754) (wH + 1) wB wC wL wK wU wV) PI im u750 u751 lS lB lE lN) G H → gF (dC, dI) SKm G ([(0, 9), (2, 0), (5, 0), (6, 0), (7, 0), (8, 0), (9, 0)] : List (Nat × Nat)) s.heap H → va_S A s.heap H locs → ∀ ls : Array Slot, lv_has ls 6 [(5, .int (nI i754)), (4, .int x111), (3, .int r31), (2, .int r22), (1, .int r13), (0, .ref o0)] → W p l e (headSpec w_s_anHour ({ frames := 4, cells := 0, slots := 0, locals := 95 })).room s m #[.ref o0] below meth c H locs 0 0 (MQ below (va_Qv (fun (u : (Nat → Int) × Int × (Nat → Int → Prop) × (Nat → Int → Prop)) => match u with | (wN1, wB1, PM1, PT1) => (∀ i, 6500000 ≤ wN1 i ∧ wN1 i ≤ 6500000 + 340 * (wH + 1)) ∧ (0 ≤ wB1 ∧ wB1 ≤ 96 * (wH + 1))) (fun (u : (Nat → Int) × Int × (Nat → Int → Prop) × (Nat → Int → Prop)) (t : State) => match u with | (wN1, wB1, PM1, PT1) => gH (dC, dI) kA (SHm q (wP wZ0 wN1 (wH + 1) wB1 wC wL wK wU wV) PI im PM1 PT1 lS lB lE lN) G t.heap ∧ gF (dC, dI) SKm G ([(0, 9), (2, 0), (5, 0), (6, 0), (7, 0), (8, 0), (9, 0)] : List (Nat × Nat)) s.heap t.heap) A) #[.ref o0] s 0 0 A) (F0 m 177 ls []) := by
            intro n880
            induction n880 with
            | zero =>
              intro i754 hn880 hlo881  H locs hT hF hS  ls hl
              obtain rfl : 30 = i754 := by omega
              have t882 : ∀ i, 6500000 ≤ lfN u749 wU wV 30 i ∧ lfN u749 wU wV 30 i ≤ 20200000 := fun i => by have q8 := t753 i; have q9 := lf_b u749 wU wV 30 i; omega
              refine lv_iload hx hb dX12_anHour_177 (lv_at hl 0 rfl) ?_
              refine lv_iload hx hb dX12_anHour_179 (lv_at hl 1 rfl) ?_
              refine lv_icmp_ge (tgt := 219) hx hb dX12_anHour_181 (by decide) (fun c883 => ?_) (fun c883 => (by exfalso; have q9 : ((30 : Nat) : Int) < x111.toInt := ti_nle c883 rfl (nI_toInt (by omega)); omega))
              have t884 : x111.toInt ≤ ((30 : Nat) : Int) := ti_le c883 rfl (nI_toInt (by omega))
              exact jn860 (lfN u749 wU wV 30) (nI 30) ⟨(rg_t (a := ((30 : Nat) : Int)) (nI_toInt (by omega)) (by omega) (by omega)), (fun i => lf_b _ _ _ _ i)⟩ _ _ hT hF hS ls (lv_sub hl [0, 1, 2, 3, 4, 5] rfl)
            | succ n880 ih880 =>
              intro i754 hn880 hlo881  H locs hT hF hS  ls hl
              have hlt884 : i754 < 30 := by omega
              have t885 : ∀ i, 6500000 ≤ lfN u749 wU wV i754 i ∧ lfN u749 wU wV i754 i ≤ 20200000 := fun i => by have q8 := t753 i; have q9 := lf_b u749 wU wV i754 i; omega
              refine lv_iload hx hb dX12_anHour_177 (lv_at hl 0 rfl) ?_
              refine lv_iload hx hb dX12_anHour_179 (lv_at hl 1 rfl) ?_
              refine lv_icmp_ge (tgt := 219) hx hb dX12_anHour_181 (by decide) (fun c886 => ?_) (fun c886 => ?_)
              · have t887 : x111.toInt ≤ ((i754 : Nat) : Int) := ti_le c886 rfl (nI_toInt (by omega))
                exact jn860 (lfN u749 wU wV i754) (nI i754) ⟨(rg_t (a := ((i754 : Nat) : Int)) (nI_toInt (by omega)) (by omega) (by omega)), (fun i => lf_b _ _ _ _ i)⟩ _ _ hT hF hS ls (lv_sub hl [0, 1, 2, 3, 4, 5] rfl)
              · have t888 : ((i754 : Nat) : Int) < x111.toInt := ti_nle c886 rfl (nI_toInt (by omega))
                refine lv_aload_n hx hb dX12_anHour_184 rfl (lv_at hl 5 rfl) ?_
                refine lv_iload hx hb dX12_anHour_185 (lv_at hl 0 rfl) ?_
                refine lv_iconst (v := 0) hx hb dX12_anHour_187 (by decide) ?_
                have hFc := gA_free hG hA hS
                refine va_calli (va_runV (As := [.int (nI i754), .int 0]) (rest := []) ⟨hx, hb, hml, hown, hts⟩ (s_of0 l dC dI kA adK adV G H q wZ0 (lfN u749 wU wV i754) (wH + 1) wB wC wL wK wU wV PI im u750 u751 lS lB lE lN o0 (nI i754) hT hr_o0 (rg_t (a := ((i754 : Nat) : Int)) (nI_toInt (by omega)) (by omega) (by omega)) (fun _ => Int.le_refl 0) t885 (by omega) (by omega) (by omega) (by omega) hgu) (cwV 2 hts (goodIn_app (goodIn_r _ [34, 35, 36, 6] rfl (by decide +kernel)) (goodIn_ca (goodIn_r _ [30, 1, 31, 32, 33, 6] rfl (by decide +kernel)) (bs_in _ _))) rfl rfl rfl (by decide +kernel) ⟨(Nat.le_of_ble_eq_true rfl), (Nat.le_of_ble_eq_true rfl)⟩) ⟨fun a U g mk q => by obtain ⟨q0, q1, qK, qE⟩ := q; exact ⟨q0, q1, va_K.moved (u := U) (U := U.calling g mk a) (Vm.Alike.refl U.vm) qK, EVS.blind g mk a qE⟩, gH_rc hK hT hr_o0 shm_0 rfl, fun U hU hW => ⟨rfl, hU, va_K.moved hW.alike hK, hE.call hS hFc hU hW⟩⟩ rfl rfl hl.1 rfl (lv_room (Nat.le_of_ble_eq_true rfl)) dX12_anHour_188 ⟨(Nat.le_of_ble_eq_true rfl), (Nat.le_of_ble_eq_true rfl)⟩) hS (fun q _ h => hFc q h) hFc (fun r889 u t H locs ht hvm hw890 hB _ _ hS => ?_)
                obtain ⟨hT, hF1⟩ := hB
                rw [ht] at hT hF1
                have hF := hF.more hF1 (by decide)
                try dsimp only at hw890
                have ⟨ix891, hix891, m892⟩ := hw890
                have t893 : (nI i754).toInt = ((i754 : Nat) : Int) := nI_toInt (by omega)
                have m894 := (el_kept (hF1.arr hg2 skm_2 (by decide))).trans m892
                refine lv_iconst (v := 2) hx hb dX12_anHour_191 (by decide) ?_
                refine lv_icmp_eq (tgt := 206) hx hb dX12_anHour_192 (by decide) (fun c895 => ?_) (fun c895 => ?_)
                · have t896 : r889.toInt = 2 := ti_eq c895 rfl (by decide)
                  have hT : gH (dC, dI) kA (SHm q (wP wZ0 (lfN u749 wU wV (nI i754).toNatClampNeg) (wH + 1) wB wC wL wK wU wV) PI im u750 u751 lS lB lE lN) G H := by rw [show (nI i754).toNatClampNeg = i754 from tn_nI (by omega)]; exact hT
                  refine lv_aload_n hx hb dX12_anHour_206 rfl (lv_at hl 5 rfl) ?_
                  refine lv_iload hx hb dX12_anHour_207 (lv_at hl 0 rfl) ?_
                  refine lv_iload_n hx hb dX12_anHour_209 rfl (lv_at hl 2 rfl) ?_
                  have hFc := gA_free hG hA hS
                  refine va_callv (va_runV (As := [.int (nI i754), .int r31]) (rest := []) ⟨hx, hb, hml, hown, hts⟩ (s_lifts l dC dI kA adK adV G H q wZ0 u749 (wH + 1) wB wC wL wK wU wV PI im u750 u751 lS lB lE lN o0 (nI i754) r31 hT hr_o0 (rg_t (a := ((i754 : Nat) : Int)) (nI_toInt (by omega)) (by omega) (by omega)) (by have q8 := ti_all r31; omega) (by have q9 := (show (nI i754).toInt = ((i754 : Nat) : Int) from (nI_toInt (by omega))); omega) (by assumption) t753 (fun _ => Int.le_refl 0) (fun i => ⟨(t753 i).1, by have := (t753 i).2; omega⟩) (by omega) (by omega) (by omega) (by omega) hgu) (cwV 2 hts (goodIn_app (goodIn_r _ [75, 76, 77, 6] rfl (by decide +kernel)) (goodIn_ca (goodIn_r _ [74, 30, 1, 31, 32, 33, 6, 34, 35, 36, 46, 47, 25, 48, 49, 50, 51, 52, 39, 40, 41, 42, 53, 54, 55, 56] rfl (by decide +kernel)) (bs_in _ _))) rfl rfl rfl (by decide +kernel) ⟨(Nat.le_of_ble_eq_true rfl), (Nat.le_of_ble_eq_true rfl)⟩) ⟨fun a U g mk q => by obtain ⟨q0, q1, qK, qE⟩ := q; exact ⟨q0, q1, va_K.moved (u := U) (U := U.calling g mk a) (Vm.Alike.refl U.vm) qK, EVS.blind g mk a qE⟩, gH_rc hK hT hr_o0 shm_0 rfl, fun U hU hW => ⟨rfl, hU, va_K.moved hW.alike hK, hE.call hS hFc hU hW⟩⟩ rfl rfl hl.1 rfl (lv_room (Nat.le_of_ble_eq_true rfl)) dX12_anHour_210 ⟨(Nat.le_of_ble_eq_true rfl), (Nat.le_of_ble_eq_true rfl)⟩) hS (fun q _ h => hFc q h) hFc (fun u t H locs ht hvm hw898 hB _ _ hS => ?_)
                  obtain ⟨hT, hF1⟩ := hB
                  rw [ht] at hT hF1
                  have hF := hF.more hF1 (by decide)
                  try dsimp only at hw898
                  refine lv_iinc (v := nI (i754 + 1)) (lv' := [(5, .int (nI (i754 + 1))), (4, .int x111), (3, .int r31), (2, .int r22), (1, .int r13), (0, .ref o0)]) hx hb dX12_anHour_213 hl (k := 0) rfl (nI_add i754 1) (by decide) rfl (fun ls hl => ?_)
                  refine lv_goto (tgt := 177) hx hb dX12_anHour_216 (by decide) ?_
                  have hT : gH (dC, dI) kA (SHm q (wP wZ0 (lfN u749 wU wV (i754 + 1)) (wH + 1) wB wC wL wK wU wV) PI im u750 u751 lS lB lE lN) G H := by rw [show (nI i754).toNatClampNeg = i754 from tn_nI (by omega)] at hT; exact hT
                  exact ih880 (i754 + 1) (by omega) (by omega) _ _ hT hF hS ls (lv_sub hl [0, 1, 2, 3, 4, 5] rfl)
                · have t900 : r889.toInt ≠ 2 := ti_ne c895 rfl (by decide)
                  refine lv_aload_n hx hb dX12_anHour_195 rfl (lv_at hl 5 rfl) ?_
                  refine lv_iload hx hb dX12_anHour_196 (lv_at hl 0 rfl) ?_
                  refine lv_iconst (v := 0) hx hb dX12_anHour_198 (by decide) ?_
                  have hFc := gA_free hG hA hS
                  refine va_calli (va_runV (As := [.int (nI i754), .int 0]) (rest := []) ⟨hx, hb, hml, hown, hts⟩ (s_of0 l dC dI kA adK adV G H q wZ0 (lfN u749 wU wV i754) (wH + 1) wB wC wL wK wU wV PI im u750 u751 lS lB lE lN o0 (nI i754) hT hr_o0 (rg_t (a := ((i754 : Nat) : Int)) (nI_toInt (by omega)) (by omega) (by omega)) (fun _ => Int.le_refl 0) t885 (by omega) (by omega) (by omega) (by omega) hgu) (cwV 2 hts (goodIn_app (goodIn_r _ [34, 35, 36, 6] rfl (by decide +kernel)) (goodIn_ca (goodIn_r _ [30, 1, 31, 32, 33, 6] rfl (by decide +kernel)) (bs_in _ _))) rfl rfl rfl (by decide +kernel) ⟨(Nat.le_of_ble_eq_true rfl), (Nat.le_of_ble_eq_true rfl)⟩) ⟨fun a U g mk q => by obtain ⟨q0, q1, qK, qE⟩ := q; exact ⟨q0, q1, va_K.moved (u := U) (U := U.calling g mk a) (Vm.Alike.refl U.vm) qK, EVS.blind g mk a qE⟩, gH_rc hK hT hr_o0 shm_0 rfl, fun U hU hW => ⟨rfl, hU, va_K.moved hW.alike hK, hE.call hS hFc hU hW⟩⟩ rfl rfl hl.1 rfl (lv_room (Nat.le_of_ble_eq_true rfl)) dX12_anHour_199 ⟨(Nat.le_of_ble_eq_true rfl), (Nat.le_of_ble_eq_true rfl)⟩) hS (fun q _ h => hFc q h) hFc (fun r901 u t H locs ht hvm hw902 hB _ _ hS => ?_)
                  obtain ⟨hT, hF1⟩ := hB
                  rw [ht] at hT hF1
                  have m903 := (el_kept (hF1.arr hg2 skm_2 (by decide))).trans m894
                  have hF := hF.more hF1 (by decide)
                  try dsimp only at hw902
                  have ⟨ix904, hix904, m905⟩ := hw902
                  have t906 : (nI i754).toInt = ((i754 : Nat) : Int) := nI_toInt (by omega)
                  have m907 := (el_kept (hF1.arr hg2 skm_2 (by decide))).trans m905
                  obtain rfl : r889 = r901 := (el_same m907 m903 (by have q8 := (show ix891.toInt = ix891.toInt from rfl); omega)).symm
                  refine lv_iconst (v := 3) hx hb dX12_anHour_202 (by decide) ?_
                  refine lv_icmp_ne (tgt := 213) hx hb dX12_anHour_203 (by decide) (fun c908 => ?_) (fun c908 => ?_)
                  · have t909 : r889.toInt ≠ 3 := ti_ne c908 rfl (by decide)
                    refine lv_iinc (v := nI (i754 + 1)) (lv' := [(5, .int (nI (i754 + 1))), (4, .int x111), (3, .int r31), (2, .int r22), (1, .int r13), (0, .ref o0)]) hx hb dX12_anHour_213 hl (k := 0) rfl (nI_add i754 1) (by decide) rfl (fun ls hl => ?_)
                    refine lv_goto (tgt := 177) hx hb dX12_anHour_216 (by decide) ?_
                    have hT : gH (dC, dI) kA (SHm q (wP wZ0 (lfN u749 wU wV (i754 + 1)) (wH + 1) wB wC wL wK wU wV) PI im u750 u751 lS lB lE lN) G H := SHm_w hT (fun i hi x p => wP_mono hi (Int.le_refl _) (lf_m u749 wU wV i754 i) (Int.le_refl _) (fun _ => rfl) p)
                    exact ih880 (i754 + 1) (by omega) (by omega) _ _ hT hF hS ls (lv_sub hl [0, 1, 2, 3, 4, 5] rfl)
                  · have t910 : r889.toInt = 3 := ti_eq c908 rfl (by decide)
                    have hT : gH (dC, dI) kA (SHm q (wP wZ0 (lfN u749 wU wV (nI i754).toNatClampNeg) (wH + 1) wB wC wL wK wU wV) PI im u750 u751 lS lB lE lN) G H := by rw [show (nI i754).toNatClampNeg = i754 from tn_nI (by omega)]; exact hT
                    refine lv_aload_n hx hb dX12_anHour_206 rfl (lv_at hl 5 rfl) ?_
                    refine lv_iload hx hb dX12_anHour_207 (lv_at hl 0 rfl) ?_
                    refine lv_iload_n hx hb dX12_anHour_209 rfl (lv_at hl 2 rfl) ?_
                    have hFc := gA_free hG hA hS
                    refine va_callv (va_runV (As := [.int (nI i754), .int r31]) (rest := []) ⟨hx, hb, hml, hown, hts⟩ (s_lifts l dC dI kA adK adV G H q wZ0 u749 (wH + 1) wB wC wL wK wU wV PI im u750 u751 lS lB lE lN o0 (nI i754) r31 hT hr_o0 (rg_t (a := ((i754 : Nat) : Int)) (nI_toInt (by omega)) (by omega) (by omega)) (by have q8 := ti_all r31; omega) (by have q9 := (show (nI i754).toInt = ((i754 : Nat) : Int) from (nI_toInt (by omega))); omega) (by assumption) t753 (fun _ => Int.le_refl 0) (fun i => ⟨(t753 i).1, by have := (t753 i).2; omega⟩) (by omega) (by omega) (by omega) (by omega) hgu) (cwV 2 hts (goodIn_app (goodIn_r _ [75, 76, 77, 6] rfl (by decide +kernel)) (goodIn_ca (goodIn_r _ [74, 30, 1, 31, 32, 33, 6, 34, 35, 36, 46, 47, 25, 48, 49, 50, 51, 52, 39, 40, 41, 42, 53, 54, 55, 56] rfl (by decide +kernel)) (bs_in _ _))) rfl rfl rfl (by decide +kernel) ⟨(Nat.le_of_ble_eq_true rfl), (Nat.le_of_ble_eq_true rfl)⟩) ⟨fun a U g mk q => by obtain ⟨q0, q1, qK, qE⟩ := q; exact ⟨q0, q1, va_K.moved (u := U) (U := U.calling g mk a) (Vm.Alike.refl U.vm) qK, EVS.blind g mk a qE⟩, gH_rc hK hT hr_o0 shm_0 rfl, fun U hU hW => ⟨rfl, hU, va_K.moved hW.alike hK, hE.call hS hFc hU hW⟩⟩ rfl rfl hl.1 rfl (lv_room (Nat.le_of_ble_eq_true rfl)) dX12_anHour_210 ⟨(Nat.le_of_ble_eq_true rfl), (Nat.le_of_ble_eq_true rfl)⟩) hS (fun q _ h => hFc q h) hFc (fun u t H locs ht hvm hw912 hB _ _ hS => ?_)
                    obtain ⟨hT, hF1⟩ := hB
                    rw [ht] at hT hF1
                    have hF := hF.more hF1 (by decide)
                    try dsimp only at hw912
                    refine lv_iinc (v := nI (i754 + 1)) (lv' := [(5, .int (nI (i754 + 1))), (4, .int x111), (3, .int r31), (2, .int r22), (1, .int r13), (0, .ref o0)]) hx hb dX12_anHour_213 hl (k := 0) rfl (nI_add i754 1) (by decide) rfl (fun ls hl => ?_)
                    refine lv_goto (tgt := 177) hx hb dX12_anHour_216 (by decide) ?_
                    have hT : gH (dC, dI) kA (SHm q (wP wZ0 (lfN u749 wU wV (i754 + 1)) (wH + 1) wB wC wL wK wU wV) PI im u750 u751 lS lB lE lN) G H := by rw [show (nI i754).toNatClampNeg = i754 from tn_nI (by omega)] at hT; exact hT
                    exact ih880 (i754 + 1) (by omega) (by omega) _ _ hT hF hS ls (lv_sub hl [0, 1, 2, 3, 4, 5] rfl)
          have hT : gH (dC, dI) kA (SHm q (wP wZ0 (lfN u749 wU wV 0) (wH + 1) wB wC wL wK wU wV) PI im u750 u751 lS lB lE lN) G H := SHm_w hT (fun i hi x p => wP_mono hi (Int.le_refl _) ((lf_b u749 wU wV 0 i).1) (Int.le_refl _) (fun _ => rfl) p)
          exact key880 (30 - 0) 0 (by omega) (Nat.le_refl _) _ _ hT hF hS ls (lv_sub hl [0, 1, 2, 3, 4, 5] rfl)
        have key914 : ∀ (n914 i532 : Nat), i532 + n914 = 30 → 0 ≤ i532 → ∀ (H : Heap) (locs : List Loc), gH (dC, dI) kA (SHm q (wP wZ0 (rnN wN 96) (wH + 1) wB wC wL wK wU wV) PI im PM PT lS lB lE lN) G H → gF (dC, dI) SKm G ([(0, 9), (2, 0), (5, 0), (6, 0), (7, 0), (8, 0), (9, 0)] : List (Nat × Nat)) s.heap H → va_S A s.heap H locs → ∀ ls : Array Slot, lv_has ls 6 [(5, .int (nI i532)), (4, .int x111), (3, .int r31), (2, .int r22), (1, .int r13), (0, .ref o0)] → W p l e (headSpec w_s_anHour ({ frames := 4, cells := 0, slots := 0, locals := 95 })).room s m #[.ref o0] below meth c H locs 0 0 (MQ below (va_Qv (fun (u : (Nat → Int) × Int × (Nat → Int → Prop) × (Nat → Int → Prop)) => match u with | (wN1, wB1, PM1, PT1) => (∀ i, 6500000 ≤ wN1 i ∧ wN1 i ≤ 6500000 + 340 * (wH + 1)) ∧ (0 ≤ wB1 ∧ wB1 ≤ 96 * (wH + 1))) (fun (u : (Nat → Int) × Int × (Nat → Int → Prop) × (Nat → Int → Prop)) (t : State) => match u with | (wN1, wB1, PM1, PT1) => gH (dC, dI) kA (SHm q (wP wZ0 wN1 (wH + 1) wB1 wC wL wK wU wV) PI im PM1 PT1 lS lB lE lN) G t.heap ∧ gF (dC, dI) SKm G ([(0, 9), (2, 0), (5, 0), (6, 0), (7, 0), (8, 0), (9, 0)] : List (Nat × Nat)) s.heap t.heap) A) #[.ref o0] s 0 0 A) (F0 m 139 ls []) := by
          intro n914
          induction n914 with
          | zero =>
            intro i532 hn914 hlo915  H locs hT hF hS  ls hl
            obtain rfl : 30 = i532 := by omega
            refine lv_iload hx hb dX12_anHour_139 (lv_at hl 0 rfl) ?_
            refine lv_iload hx hb dX12_anHour_141 (lv_at hl 1 rfl) ?_
            refine lv_icmp_ge (tgt := 170) hx hb dX12_anHour_143 (by decide) (fun c916 => ?_) (fun c916 => (by exfalso; have q9 : ((30 : Nat) : Int) < x111.toInt := ti_nle c916 rfl (nI_toInt (by omega)); omega))
            have t917 : x111.toInt ≤ ((30 : Nat) : Int) := ti_le c916 rfl (nI_toInt (by omega))
            exact jn746 (nI 30) (rg_t (a := ((30 : Nat) : Int)) (nI_toInt (by omega)) (by omega) (by omega)) _ _ hT hF hS ls (lv_sub hl [0, 1, 2, 3, 4, 5] rfl)
          | succ n914 ih914 =>
            intro i532 hn914 hlo915  H locs hT hF hS  ls hl
            have hlt917 : i532 < 30 := by omega
            refine lv_iload hx hb dX12_anHour_139 (lv_at hl 0 rfl) ?_
            refine lv_iload hx hb dX12_anHour_141 (lv_at hl 1 rfl) ?_
            refine lv_icmp_ge (tgt := 170) hx hb dX12_anHour_143 (by decide) (fun c918 => ?_) (fun c918 => ?_)
            · have t919 : x111.toInt ≤ ((i532 : Nat) : Int) := ti_le c918 rfl (nI_toInt (by omega))
              exact jn746 (nI i532) (rg_t (a := ((i532 : Nat) : Int)) (nI_toInt (by omega)) (by omega) (by omega)) _ _ hT hF hS ls (lv_sub hl [0, 1, 2, 3, 4, 5] rfl)
            · have t920 : ((i532 : Nat) : Int) < x111.toInt := ti_nle c918 rfl (nI_toInt (by omega))
              refine lv_aload_n hx hb dX12_anHour_146 rfl (lv_at hl 5 rfl) ?_
              refine lv_iload hx hb dX12_anHour_147 (lv_at hl 0 rfl) ?_
              refine lv_iconst (v := 0) hx hb dX12_anHour_149 (by decide) ?_
              have hFc := gA_free hG hA hS
              refine va_calli (va_runV (As := [.int (nI i532), .int 0]) (rest := []) ⟨hx, hb, hml, hown, hts⟩ (s_of0 l dC dI kA adK adV G H q wZ0 (rnN wN 96) (wH + 1) wB wC wL wK wU wV PI im PM PT lS lB lE lN o0 (nI i532) hT hr_o0 (rg_t (a := ((i532 : Nat) : Int)) (nI_toInt (by omega)) (by omega) (by omega)) (fun _ => Int.le_refl 0) t107 (by omega) (by omega) (by omega) (by omega) hgu) (cwV 2 hts (goodIn_app (goodIn_r _ [34, 35, 36, 6] rfl (by decide +kernel)) (goodIn_ca (goodIn_r _ [30, 1, 31, 32, 33, 6] rfl (by decide +kernel)) (bs_in _ _))) rfl rfl rfl (by decide +kernel) ⟨(Nat.le_of_ble_eq_true rfl), (Nat.le_of_ble_eq_true rfl)⟩) ⟨fun a U g mk q => by obtain ⟨q0, q1, qK, qE⟩ := q; exact ⟨q0, q1, va_K.moved (u := U) (U := U.calling g mk a) (Vm.Alike.refl U.vm) qK, EVS.blind g mk a qE⟩, gH_rc hK hT hr_o0 shm_0 rfl, fun U hU hW => ⟨rfl, hU, va_K.moved hW.alike hK, hE.call hS hFc hU hW⟩⟩ rfl rfl hl.1 rfl (lv_room (Nat.le_of_ble_eq_true rfl)) dX12_anHour_150 ⟨(Nat.le_of_ble_eq_true rfl), (Nat.le_of_ble_eq_true rfl)⟩) hS (fun q _ h => hFc q h) hFc (fun r921 u t H locs ht hvm hw922 hB _ _ hS => ?_)
              obtain ⟨hT, hF1⟩ := hB
              rw [ht] at hT hF1
              have hF := hF.more hF1 (by decide)
              try dsimp only at hw922
              have ⟨ix923, hix923, m924⟩ := hw922
              have t925 : (nI i532).toInt = ((i532 : Nat) : Int) := nI_toInt (by omega)
              have m926 := (el_kept (hF1.arr hg2 skm_2 (by decide))).trans m924
              refine lv_iconst (v := 4) hx hb dX12_anHour_153 (by decide) ?_
              refine lv_icmp_ne (tgt := 164) hx hb dX12_anHour_154 (by decide) (fun c927 => ?_) (fun c927 => ?_)
              · have t928 : r921.toInt ≠ 4 := ti_ne c927 rfl (by decide)
                refine lv_iinc (v := nI (i532 + 1)) (lv' := [(5, .int (nI (i532 + 1))), (4, .int x111), (3, .int r31), (2, .int r22), (1, .int r13), (0, .ref o0)]) hx hb dX12_anHour_164 hl (k := 0) rfl (nI_add i532 1) (by decide) rfl (fun ls hl => ?_)
                refine lv_goto (tgt := 139) hx hb dX12_anHour_167 (by decide) ?_
                exact ih914 (i532 + 1) (by omega) (by omega) _ _ hT hF hS ls (lv_sub hl [0, 1, 2, 3, 4, 5] rfl)
              · have t929 : r921.toInt = 4 := ti_eq c927 rfl (by decide)
                refine lv_aload_n hx hb dX12_anHour_157 rfl (lv_at hl 5 rfl) ?_
                refine lv_iload hx hb dX12_anHour_158 (lv_at hl 0 rfl) ?_
                refine lv_iload_n hx hb dX12_anHour_160 rfl (lv_at hl 4 rfl) ?_
                have hFc := gA_free hG hA hS
                refine va_callv (va_runV (As := [.int (nI i532), .int r13]) (rest := []) ⟨hx, hb, hml, hown, hts⟩ (s_sluices l dC dI kA adK adV G H q wZ0 (rnN wN 96) (wH + 1) wB wC wL wK wU wV PI im PM PT lS lB lE lN o0 (nI i532) r13 hT hr_o0 (rg_t (a := ((i532 : Nat) : Int)) (nI_toInt (by omega)) (by omega) (by omega)) (by have q8 := ti_all r13; omega) (by have q9 := (show (nI i532).toInt = ((i532 : Nat) : Int) from (nI_toInt (by omega))); omega) (by assumption) (fun _ => Int.le_refl 0) t107 (by omega) (by omega) (by omega) (by omega) hgu) (cwV 2 hts (goodIn_app (goodIn_r _ [57, 58, 59, 6] rfl (by decide +kernel)) (goodIn_ca (goodIn_r _ [37, 30, 1, 31, 32, 33, 6, 34, 35, 36, 38, 39, 40, 41, 42, 43, 44, 45, 46, 47, 25, 48, 49, 50, 51, 52, 53, 54, 55, 56] rfl (by decide +kernel)) (bs_in _ _))) rfl rfl rfl (by decide +kernel) ⟨(Nat.le_of_ble_eq_true rfl), (Nat.le_of_ble_eq_true rfl)⟩) ⟨fun a U g mk q => by obtain ⟨q0, q1, qK, qE⟩ := q; exact ⟨q0, q1, va_K.moved (u := U) (U := U.calling g mk a) (Vm.Alike.refl U.vm) qK, EVS.blind g mk a qE⟩, gH_rc hK hT hr_o0 shm_0 rfl, fun U hU hW => ⟨rfl, hU, va_K.moved hW.alike hK, hE.call hS hFc hU hW⟩⟩ rfl rfl hl.1 rfl (lv_room (Nat.le_of_ble_eq_true rfl)) dX12_anHour_161 ⟨(Nat.le_of_ble_eq_true rfl), (Nat.le_of_ble_eq_true rfl)⟩) hS (fun q _ h => hFc q h) hFc (fun u t H locs ht hvm hw931 hB _ _ hS => ?_)
                obtain ⟨hT, hF1⟩ := hB
                rw [ht] at hT hF1
                have hF := hF.more hF1 (by decide)
                try dsimp only at hw931
                refine lv_iinc (v := nI (i532 + 1)) (lv' := [(5, .int (nI (i532 + 1))), (4, .int x111), (3, .int r31), (2, .int r22), (1, .int r13), (0, .ref o0)]) hx hb dX12_anHour_164 hl (k := 0) rfl (nI_add i532 1) (by decide) rfl (fun ls hl => ?_)
                refine lv_goto (tgt := 139) hx hb dX12_anHour_167 (by decide) ?_
                exact ih914 (i532 + 1) (by omega) (by omega) _ _ hT hF hS ls (lv_sub hl [0, 1, 2, 3, 4, 5] rfl)
        exact key914 (30 - 0) 0 (by omega) (Nat.le_refl _) _ _ hT hF hS ls (lv_sub hl [0, 1, 2, 3, 4, 5] rfl)
      | succ n528 ih528 =>
        intro i112 hn528 hlo529  H locs hT hF hS  ls hl
        have hlt932 : i112 < 30 := by omega
        refine lv_iload hx hb dX12_anHour_107 (lv_at hl 0 rfl) ?_
        refine lv_iload hx hb dX12_anHour_109 (lv_at hl 1 rfl) ?_
        refine lv_icmp_ge (tgt := 136) hx hb dX12_anHour_111 (by decide) (fun c933 => ?_) (fun c933 => ?_)
        · have t934 : x111.toInt ≤ ((i112 : Nat) : Int) := ti_le c933 rfl (nI_toInt (by omega))
          refine lv_iconst (v := 0) hx hb dX12_anHour_136 (by decide) ?_
          refine lv_istore (lv' := [(5, .int 0), (4, .int x111), (3, .int r31), (2, .int r22), (1, .int r13), (0, .ref o0)]) hx hb dX12_anHour_137 hl (by decide) rfl (fun ls hl => ?_)
          have jn1149 : ∀ (z1147 : Int32), ((0 ≤ z1147.toInt ∧ z1147.toInt ≤ 29)) → ∀ (H : Heap) (locs : List Loc), gH (dC, dI) kA (SHm q (wP wZ0 (rnN wN 96) (wH + 1) wB wC wL wK wU wV) PI im PM PT lS lB lE lN) G H → gF (dC, dI) SKm G ([(0, 9), (2, 0), (5, 0), (6, 0), (7, 0), (8, 0), (9, 0)] : List (Nat × Nat)) s.heap H → va_S A s.heap H locs → ∀ ls : Array Slot, lv_has ls 6 [(5, .int z1147), (4, .int x111), (3, .int r31), (2, .int r22), (1, .int r13), (0, .ref o0)] → W p l e (headSpec w_s_anHour ({ frames := 4, cells := 0, slots := 0, locals := 95 })).room s m #[.ref o0] below meth c H locs 0 0 (MQ below (va_Qv (fun (u : (Nat → Int) × Int × (Nat → Int → Prop) × (Nat → Int → Prop)) => match u with | (wN1, wB1, PM1, PT1) => (∀ i, 6500000 ≤ wN1 i ∧ wN1 i ≤ 6500000 + 340 * (wH + 1)) ∧ (0 ≤ wB1 ∧ wB1 ≤ 96 * (wH + 1))) (fun (u : (Nat → Int) × Int × (Nat → Int → Prop) × (Nat → Int → Prop)) (t : State) => match u with | (wN1, wB1, PM1, PT1) => gH (dC, dI) kA (SHm q (wP wZ0 wN1 (wH + 1) wB1 wC wL wK wU wV) PI im PM1 PT1 lS lB lE lN) G t.heap ∧ gF (dC, dI) SKm G ([(0, 9), (2, 0), (5, 0), (6, 0), (7, 0), (8, 0), (9, 0)] : List (Nat × Nat)) s.heap t.heap) A) #[.ref o0] s 0 0 A) (F0 m 170 ls []) := by
            intro z1147 h1148 H locs hT hF hS  ls hl
            refine lv_aload_n hx hb dX12_anHour_170 rfl (lv_at hl 5 rfl) ?_
            have hFc := gA_free hG hA hS
            refine va_callv (va_runV (As := []) (rest := []) ⟨hx, hb, hml, hown, hts⟩ (s_ditches l dC dI kA adK adV G H q wZ0 (rnN wN 96) (wH + 1) wB wC wL wK wU wV PI im PM PT lS lB lE lN o0 hT hr_o0 (fun i => by have q8 := hn_ i; have q9 := rn_b wN 96 i; omega) (fun _ => Int.le_refl 0) t107 (by omega) (by omega) (by omega) (by omega) hgu) (cwV 0 hts (goodIn_app (goodIn_r _ [71, 72, 73, 6] rfl (by decide +kernel)) (goodIn_ca (goodIn_r _ [60, 61, 1, 62, 63, 64, 39, 40, 41, 42, 6, 65, 66, 67, 68, 69, 70, 38, 2, 3, 4, 5, 7, 8, 9, 10, 11, 12, 13, 43, 44, 45, 46, 47, 25, 48] rfl (by decide +kernel)) (bs_in _ _))) rfl rfl rfl (by decide +kernel) ⟨(Nat.le_of_ble_eq_true rfl), (Nat.le_of_ble_eq_true rfl)⟩) ⟨fun a U g mk q => by obtain ⟨q0, q1, qK, qE⟩ := q; exact ⟨q0, q1, va_K.moved (u := U) (U := U.calling g mk a) (Vm.Alike.refl U.vm) qK, EVS.blind g mk a qE⟩, gH_rc hK hT hr_o0 shm_0 rfl, fun U hU hW => ⟨rfl, hU, va_K.moved hW.alike hK, hE.call hS hFc hU hW⟩⟩ rfl rfl hl.1 rfl (lv_room (Nat.le_of_ble_eq_true rfl)) dX12_anHour_171 ⟨(Nat.le_of_ble_eq_true rfl), (Nat.le_of_ble_eq_true rfl)⟩) hS (fun q _ h => hFc q h) hFc (fun u t H locs ht hvm hw1151 hB _ _ hS => ?_)
            obtain ⟨u1152, u1153, u1154⟩ := u
            obtain ⟨hT, hF1⟩ := hB
            rw [ht] at hT hF1
            have hF := hF.more hF1 (by decide)
            try dsimp only at hw1151
            have hf1155 := hw1151
            have t1156 : ∀ i, 6500000 ≤ u1152 i ∧ u1152 i ≤ 20200000 - 240 := fun i => by have q7 := hn_ i; have q8 := rn_b wN 96 i; have q9 := hf1155 i; omega
            refine lv_iconst (v := 0) hx hb dX12_anHour_174 (by decide) ?_
            refine lv_istore (lv' := [(5, .int 0), (4, .int x111), (3, .int r31), (2, .int r22), (1, .int r13), (0, .ref o0)]) hx hb dX12_anHour_175 hl (by decide) rfl (fun ls hl => ?_)
            have jn1263 : ∀ (gwN1259 : Nat → Int), ∀ (z1260 : Int32), ((0 ≤ z1260.toInt ∧ z1260.toInt ≤ 29) ∧ (∀ i, u1152 i ≤ gwN1259 i ∧ gwN1259 i ≤ u1152 i + 240)) → ∀ (H : Heap) (locs : List Loc), gH (dC, dI) kA (SHm q (wP wZ0 gwN1259 (wH + 1) wB wC wL wK wU wV) PI im u1153 u1154 lS lB lE lN) G H → gF (dC, dI) SKm G ([(0, 9), (2, 0), (5, 0), (6, 0), (7, 0), (8, 0), (9, 0)] : List (Nat × Nat)) s.heap H → va_S A s.heap H locs → ∀ ls : Array Slot, lv_has ls 6 [(5, .int z1260), (4, .int x111), (3, .int r31), (2, .int r22), (1, .int r13), (0, .ref o0)] → W p l e (headSpec w_s_anHour ({ frames := 4, cells := 0, slots := 0, locals := 95 })).room s m #[.ref o0] below meth c H locs 0 0 (MQ below (va_Qv (fun (u : (Nat → Int) × Int × (Nat → Int → Prop) × (Nat → Int → Prop)) => match u with | (wN1, wB1, PM1, PT1) => (∀ i, 6500000 ≤ wN1 i ∧ wN1 i ≤ 6500000 + 340 * (wH + 1)) ∧ (0 ≤ wB1 ∧ wB1 ≤ 96 * (wH + 1))) (fun (u : (Nat → Int) × Int × (Nat → Int → Prop) × (Nat → Int → Prop)) (t : State) => match u with | (wN1, wB1, PM1, PT1) => gH (dC, dI) kA (SHm q (wP wZ0 wN1 (wH + 1) wB1 wC wL wK wU wV) PI im PM1 PT1 lS lB lE lN) G t.heap ∧ gF (dC, dI) SKm G ([(0, 9), (2, 0), (5, 0), (6, 0), (7, 0), (8, 0), (9, 0)] : List (Nat × Nat)) s.heap t.heap) A) #[.ref o0] s 0 0 A) (F0 m 219 ls []) := by
              intro gwN1259 z1260 ⟨h1261, hg1262⟩ H locs hT hF hS  ls hl
              have t1264 : ∀ i, 6500000 ≤ gwN1259 i ∧ gwN1259 i ≤ 20200000 := fun i => by have q8 := t1156 i; have q9 := hg1262 i; omega
              refine lv_aload_n hx hb dX12_anHour_219 rfl (lv_at hl 5 rfl) ?_
              have hFc := gA_free hG hA hS
              refine va_calli (va_runV (As := []) (rest := []) ⟨hx, hb, hml, hown, hts⟩ (s_hour l dC dI kA adK adV G H q wZ0 gwN1259 (wH + 1) wB wC wL wK wU wV PI im u1153 u1154 lS lB lE lN o0 hT hr_o0 (fun _ => Int.le_refl 0) t1264 (by omega) (by omega) (by omega) (by omega) hgu) (cwV 0 hts (goodIn_app (goodIn_r _ [3, 4, 5, 6] rfl (by decide +kernel)) (goodIn_ca (goodIn_r _ [2, 1] rfl (by decide +kernel)) (bs_in _ _))) rfl rfl rfl (by decide +kernel) ⟨(Nat.le_of_ble_eq_true rfl), (Nat.le_of_ble_eq_true rfl)⟩) ⟨fun a U g mk q => by obtain ⟨q0, q1, qK, qE⟩ := q; exact ⟨q0, q1, va_K.moved (u := U) (U := U.calling g mk a) (Vm.Alike.refl U.vm) qK, EVS.blind g mk a qE⟩, gH_rc hK hT hr_o0 shm_0 rfl, fun U hU hW => ⟨rfl, hU, va_K.moved hW.alike hK, hE.call hS hFc hU hW⟩⟩ rfl rfl hl.1 rfl (lv_room (Nat.le_of_ble_eq_true rfl)) dX12_anHour_220 ⟨(Nat.le_of_ble_eq_true rfl), (Nat.le_of_ble_eq_true rfl)⟩) hS (fun q _ h => hFc q h) hFc (fun r1265 u t H locs ht hvm hw1266 hB _ _ hS => ?_)
              obtain ⟨hT, hF1⟩ := hB
              rw [ht] at hT hF1
              have hF := hF.more hF1 (by decide)
              try dsimp only at hw1266
              obtain ⟨h1267, hf1268⟩ := hw1266
              refine lv_bipush (v := 24) hx hb dX12_anHour_223 (by decide) ?_
              refine lv_irem hx hb dX12_anHour_225 (by decide) ?_
              refine lv_topi (fun x1269 ex1269 => ?_)
              have t1270 : x1269.toInt = r1265.toInt % 24 := ti_rem ex1269 rfl (by decide) (by omega) (by omega)
              have jn1275 : ∀ (gwB1273 : Int), ((0 ≤ gwB1273 ∧ gwB1273 ≤ 96 * (wH + 1))) → ∀ (H : Heap) (locs : List Loc), gH (dC, dI) kA (SHm q (wP wZ0 gwN1259 (wH + 1) gwB1273 wC wL wK wU wV) PI im u1153 u1154 lS lB lE lN) G H → gF (dC, dI) SKm G ([(0, 9), (2, 0), (5, 0), (6, 0), (7, 0), (8, 0), (9, 0)] : List (Nat × Nat)) s.heap H → va_S A s.heap H locs → ∀ ls : Array Slot, lv_has ls 6 [(5, .int z1260), (4, .int x111), (3, .int r31), (2, .int r22), (1, .int r13), (0, .ref o0)] → W p l e (headSpec w_s_anHour ({ frames := 4, cells := 0, slots := 0, locals := 95 })).room s m #[.ref o0] below meth c H locs 0 0 (MQ below (va_Qv (fun (u : (Nat → Int) × Int × (Nat → Int → Prop) × (Nat → Int → Prop)) => match u with | (wN1, wB1, PM1, PT1) => (∀ i, 6500000 ≤ wN1 i ∧ wN1 i ≤ 6500000 + 340 * (wH + 1)) ∧ (0 ≤ wB1 ∧ wB1 ≤ 96 * (wH + 1))) (fun (u : (Nat → Int) × Int × (Nat → Int → Prop) × (Nat → Int → Prop)) (t : State) => match u with | (wN1, wB1, PM1, PT1) => gH (dC, dI) kA (SHm q (wP wZ0 wN1 (wH + 1) wB1 wC wL wK wU wV) PI im PM1 PT1 lS lB lE lN) G t.heap ∧ gF (dC, dI) SKm G ([(0, 9), (2, 0), (5, 0), (6, 0), (7, 0), (8, 0), (9, 0)] : List (Nat × Nat)) s.heap t.heap) A) #[.ref o0] s 0 0 A) (F0 m 233 ls []) := by
                intro gwB1273 hg1274 H locs hT hF hS  ls hl
                refine lv_aload_n hx hb dX12_anHour_233 rfl (lv_at hl 5 rfl) ?_
                have hFc := gA_free hG hA hS
                refine va_callv (va_runV (As := []) (rest := []) ⟨hx, hb, hml, hown, hts⟩ (s_writesRow l dC dI kA adK adV G H q wZ0 gwN1259 (wH + 1) gwB1273 wC wL wK wU wV PI im u1153 u1154 lS lB lE lN o0 hT hr_o0 (fun _ => Int.le_refl 0) t1264 (by omega) (by omega) (by omega) (by omega) hgu) (cwV 0 hts (goodIn_app (goodIn_r _ [86, 87, 88, 6] rfl (by decide +kernel)) (goodIn_ca (goodIn_r _ [82, 83, 84, 38, 39, 1, 40, 41, 42, 6, 2, 3, 4, 5, 7, 8, 9, 10, 11, 12, 13, 43, 44, 45, 85] rfl (by decide +kernel)) (bs_in _ _))) rfl rfl rfl (by decide +kernel) ⟨(Nat.le_of_ble_eq_true rfl), (Nat.le_of_ble_eq_true rfl)⟩) ⟨fun a U g mk q => by obtain ⟨q0, q1, qK, qE⟩ := q; exact ⟨q0, q1, va_K.moved (u := U) (U := U.calling g mk a) (Vm.Alike.refl U.vm) qK, EVS.blind g mk a qE⟩, gH_rc hK hT hr_o0 shm_0 rfl, fun U hU hW => ⟨rfl, hU, va_K.moved hW.alike hK, hE.call hS hFc hU hW⟩⟩ rfl rfl hl.1 rfl (lv_room (Nat.le_of_ble_eq_true rfl)) dX12_anHour_234 ⟨(Nat.le_of_ble_eq_true rfl), (Nat.le_of_ble_eq_true rfl)⟩) hS (fun q _ h => hFc q h) hFc (fun u t H locs ht hvm hw1277 hB _ _ hS => ?_)
                obtain ⟨hT, hF1⟩ := hB
                rw [ht] at hT hF1
                have hF := hF.more hF1 (by decide)
                try dsimp only at hw1277
                exact W.vret hx hb hr (fun t ht hW => ⟨⟨(gwN1259, gwB1273, u1153, u1154), rfl, (by exact ⟨(fun i => by have q6 := hn_ i; have q7 := rn_b wN 96 i; have q8 := hf1155 i; have q9 := hg1262 i; omega), (by omega)⟩), by (try dsimp only); rw [ht]; exact ⟨hT, hF⟩⟩, hS.F ht⟩) hS.2.2 dX12_anHour_237
              refine lv_if_ne (tgt := 233) hx hb dX12_anHour_226 (by decide) (fun c1278 => ?_) (fun c1278 => ?_)
              · have t1279 : x1269.toInt ≠ 0 := ti_ne c1278 rfl (by decide)
                exact jn1275 wB (by omega) _ _ hT hF hS ls (lv_sub hl [0, 1, 2, 3, 4, 5] rfl)
              · have t1280 : x1269.toInt = 0 := ti_eq c1278 rfl (by decide)
                refine lv_aload_n hx hb dX12_anHour_229 rfl (lv_at hl 5 rfl) ?_
                have hFc := gA_free hG hA hS
                refine va_callv (va_runV (As := []) (rest := []) ⟨hx, hb, hml, hown, hts⟩ (s_dayEnds l dC dI kA adK adV G H q wZ0 gwN1259 (wH + 1) wB wC wL wK wU wV PI im u1153 u1154 lS lB lE lN o0 hT hr_o0 (by omega) (fun _ => Int.le_refl 0) t1264 (by omega) (by omega) (by omega) (by omega) hgu) (cwV 0 hts (goodIn_app (goodIn_r _ [79, 80, 81, 6] rfl (by decide +kernel)) (goodIn_ca (goodIn_r _ [78, 39, 1, 40, 41, 42, 6] rfl (by decide +kernel)) (bs_in _ _))) rfl rfl rfl (by decide +kernel) ⟨(Nat.le_of_ble_eq_true rfl), (Nat.le_of_ble_eq_true rfl)⟩) ⟨fun a U g mk q => by obtain ⟨q0, q1, qK, qE⟩ := q; exact ⟨q0, q1, va_K.moved (u := U) (U := U.calling g mk a) (Vm.Alike.refl U.vm) qK, EVS.blind g mk a qE⟩, gH_rc hK hT hr_o0 shm_0 rfl, fun U hU hW => ⟨rfl, hU, va_K.moved hW.alike hK, hE.call hS hFc hU hW⟩⟩ rfl rfl hl.1 rfl (lv_room (Nat.le_of_ble_eq_true rfl)) dX12_anHour_230 ⟨(Nat.le_of_ble_eq_true rfl), (Nat.le_of_ble_eq_true rfl)⟩) hS (fun q _ h => hFc q h) hFc (fun u t H locs ht hvm hw1282 hB _ _ hS => ?_)
                obtain ⟨hT, hF1⟩ := hB
                rw [ht] at hT hF1
                have hF := hF.more hF1 (by decide)
                try dsimp only at hw1282
                exact jn1275 (wB + 96) (by omega) _ _ hT hF hS ls (lv_sub hl [0, 1, 2, 3, 4, 5] rfl)
            have key1283 : ∀ (n1283 i1157 : Nat), i1157 + n1283 = 29 → 0 ≤ i1157 → ∀ (H : Heap) (locs : List Loc), gH (dC, dI) kA (SHm q (wP wZ0 (lfN u1152 wU wV i1157) (wH + 1) wB wC wL wK wU wV) PI im u1153 u1154 lS lB lE lN) G H → gF (dC, dI) SKm G ([(0, 9), (2, 0), (5, 0), (6, 0), (7, 0), (8, 0), (9, 0)] : List (Nat × Nat)) s.heap H → va_S A s.heap H locs → ∀ ls : Array Slot, lv_has ls 6 [(5, .int (nI i1157)), (4, .int x111), (3, .int r31), (2, .int r22), (1, .int r13), (0, .ref o0)] → W p l e (headSpec w_s_anHour ({ frames := 4, cells := 0, slots := 0, locals := 95 })).room s m #[.ref o0] below meth c H locs 0 0 (MQ below (va_Qv (fun (u : (Nat → Int) × Int × (Nat → Int → Prop) × (Nat → Int → Prop)) => match u with | (wN1, wB1, PM1, PT1) => (∀ i, 6500000 ≤ wN1 i ∧ wN1 i ≤ 6500000 + 340 * (wH + 1)) ∧ (0 ≤ wB1 ∧ wB1 ≤ 96 * (wH + 1))) (fun (u : (Nat → Int) × Int × (Nat → Int → Prop) × (Nat → Int → Prop)) (t : State) => match u with | (wN1, wB1, PM1, PT1) => gH (dC, dI) kA (SHm q (wP wZ0 wN1 (wH + 1) wB1 wC wL wK wU wV) PI im PM1 PT1 lS lB lE lN) G t.heap ∧ gF (dC, dI) SKm G ([(0, 9), (2, 0), (5, 0), (6, 0), (7, 0), (8, 0), (9, 0)] : List (Nat × Nat)) s.heap t.heap) A) #[.ref o0] s 0 0 A) (F0 m 177 ls []) := by
              intro n1283
              induction n1283 with
              | zero =>
                intro i1157 hn1283 hlo1284  H locs hT hF hS  ls hl
                obtain rfl : 29 = i1157 := by omega
                have t1285 : ∀ i, 6500000 ≤ lfN u1152 wU wV 29 i ∧ lfN u1152 wU wV 29 i ≤ 20200000 := fun i => by have q8 := t1156 i; have q9 := lf_b u1152 wU wV 29 i; omega
                refine lv_iload hx hb dX12_anHour_177 (lv_at hl 0 rfl) ?_
                refine lv_iload hx hb dX12_anHour_179 (lv_at hl 1 rfl) ?_
                refine lv_icmp_ge (tgt := 219) hx hb dX12_anHour_181 (by decide) (fun c1286 => ?_) (fun c1286 => (by exfalso; have q9 : ((29 : Nat) : Int) < x111.toInt := ti_nle c1286 rfl (nI_toInt (by omega)); omega))
                have t1287 : x111.toInt ≤ ((29 : Nat) : Int) := ti_le c1286 rfl (nI_toInt (by omega))
                exact jn1263 (lfN u1152 wU wV 29) (nI 29) ⟨(rg_t (a := ((29 : Nat) : Int)) (nI_toInt (by omega)) (by omega) (by omega)), (fun i => lf_b _ _ _ _ i)⟩ _ _ hT hF hS ls (lv_sub hl [0, 1, 2, 3, 4, 5] rfl)
              | succ n1283 ih1283 =>
                intro i1157 hn1283 hlo1284  H locs hT hF hS  ls hl
                have hlt1287 : i1157 < 29 := by omega
                have t1288 : ∀ i, 6500000 ≤ lfN u1152 wU wV i1157 i ∧ lfN u1152 wU wV i1157 i ≤ 20200000 := fun i => by have q8 := t1156 i; have q9 := lf_b u1152 wU wV i1157 i; omega
                refine lv_iload hx hb dX12_anHour_177 (lv_at hl 0 rfl) ?_
                refine lv_iload hx hb dX12_anHour_179 (lv_at hl 1 rfl) ?_
                refine lv_icmp_ge (tgt := 219) hx hb dX12_anHour_181 (by decide) (fun c1289 => ?_) (fun c1289 => ?_)
                · have t1290 : x111.toInt ≤ ((i1157 : Nat) : Int) := ti_le c1289 rfl (nI_toInt (by omega))
                  exact jn1263 (lfN u1152 wU wV i1157) (nI i1157) ⟨(rg_t (a := ((i1157 : Nat) : Int)) (nI_toInt (by omega)) (by omega) (by omega)), (fun i => lf_b _ _ _ _ i)⟩ _ _ hT hF hS ls (lv_sub hl [0, 1, 2, 3, 4, 5] rfl)
                · have t1291 : ((i1157 : Nat) : Int) < x111.toInt := ti_nle c1289 rfl (nI_toInt (by omega))
                  refine lv_aload_n hx hb dX12_anHour_184 rfl (lv_at hl 5 rfl) ?_
                  refine lv_iload hx hb dX12_anHour_185 (lv_at hl 0 rfl) ?_
                  refine lv_iconst (v := 0) hx hb dX12_anHour_187 (by decide) ?_
                  have hFc := gA_free hG hA hS
                  refine va_calli (va_runV (As := [.int (nI i1157), .int 0]) (rest := []) ⟨hx, hb, hml, hown, hts⟩ (s_of0 l dC dI kA adK adV G H q wZ0 (lfN u1152 wU wV i1157) (wH + 1) wB wC wL wK wU wV PI im u1153 u1154 lS lB lE lN o0 (nI i1157) hT hr_o0 (rg_t (a := ((i1157 : Nat) : Int)) (nI_toInt (by omega)) (by omega) (by omega)) (fun _ => Int.le_refl 0) t1288 (by omega) (by omega) (by omega) (by omega) hgu) (cwV 2 hts (goodIn_app (goodIn_r _ [34, 35, 36, 6] rfl (by decide +kernel)) (goodIn_ca (goodIn_r _ [30, 1, 31, 32, 33, 6] rfl (by decide +kernel)) (bs_in _ _))) rfl rfl rfl (by decide +kernel) ⟨(Nat.le_of_ble_eq_true rfl), (Nat.le_of_ble_eq_true rfl)⟩) ⟨fun a U g mk q => by obtain ⟨q0, q1, qK, qE⟩ := q; exact ⟨q0, q1, va_K.moved (u := U) (U := U.calling g mk a) (Vm.Alike.refl U.vm) qK, EVS.blind g mk a qE⟩, gH_rc hK hT hr_o0 shm_0 rfl, fun U hU hW => ⟨rfl, hU, va_K.moved hW.alike hK, hE.call hS hFc hU hW⟩⟩ rfl rfl hl.1 rfl (lv_room (Nat.le_of_ble_eq_true rfl)) dX12_anHour_188 ⟨(Nat.le_of_ble_eq_true rfl), (Nat.le_of_ble_eq_true rfl)⟩) hS (fun q _ h => hFc q h) hFc (fun r1292 u t H locs ht hvm hw1293 hB _ _ hS => ?_)
                  obtain ⟨hT, hF1⟩ := hB
                  rw [ht] at hT hF1
                  have hF := hF.more hF1 (by decide)
                  try dsimp only at hw1293
                  have ⟨ix1294, hix1294, m1295⟩ := hw1293
                  have t1296 : (nI i1157).toInt = ((i1157 : Nat) : Int) := nI_toInt (by omega)
                  have m1297 := (el_kept (hF1.arr hg2 skm_2 (by decide))).trans m1295
                  refine lv_iconst (v := 2) hx hb dX12_anHour_191 (by decide) ?_
                  refine lv_icmp_eq (tgt := 206) hx hb dX12_anHour_192 (by decide) (fun c1298 => ?_) (fun c1298 => ?_)
                  · have t1299 : r1292.toInt = 2 := ti_eq c1298 rfl (by decide)
                    have hT : gH (dC, dI) kA (SHm q (wP wZ0 (lfN u1152 wU wV (nI i1157).toNatClampNeg) (wH + 1) wB wC wL wK wU wV) PI im u1153 u1154 lS lB lE lN) G H := by rw [show (nI i1157).toNatClampNeg = i1157 from tn_nI (by omega)]; exact hT
                    refine lv_aload_n hx hb dX12_anHour_206 rfl (lv_at hl 5 rfl) ?_
                    refine lv_iload hx hb dX12_anHour_207 (lv_at hl 0 rfl) ?_
                    refine lv_iload_n hx hb dX12_anHour_209 rfl (lv_at hl 2 rfl) ?_
                    have hFc := gA_free hG hA hS
                    refine va_callv (va_runV (As := [.int (nI i1157), .int r31]) (rest := []) ⟨hx, hb, hml, hown, hts⟩ (s_lifts l dC dI kA adK adV G H q wZ0 u1152 (wH + 1) wB wC wL wK wU wV PI im u1153 u1154 lS lB lE lN o0 (nI i1157) r31 hT hr_o0 (rg_t (a := ((i1157 : Nat) : Int)) (nI_toInt (by omega)) (by omega) (by omega)) (by have q8 := ti_all r31; omega) (by have q9 := (show (nI i1157).toInt = ((i1157 : Nat) : Int) from (nI_toInt (by omega))); omega) (by assumption) t1156 (fun _ => Int.le_refl 0) (fun i => ⟨(t1156 i).1, by have := (t1156 i).2; omega⟩) (by omega) (by omega) (by omega) (by omega) hgu) (cwV 2 hts (goodIn_app (goodIn_r _ [75, 76, 77, 6] rfl (by decide +kernel)) (goodIn_ca (goodIn_r _ [74, 30, 1, 31, 32, 33, 6, 34, 35, 36, 46, 47, 25, 48, 49, 50, 51, 52, 39, 40, 41, 42, 53, 54, 55, 56] rfl (by decide +kernel)) (bs_in _ _))) rfl rfl rfl (by decide +kernel) ⟨(Nat.le_of_ble_eq_true rfl), (Nat.le_of_ble_eq_true rfl)⟩) ⟨fun a U g mk q => by obtain ⟨q0, q1, qK, qE⟩ := q; exact ⟨q0, q1, va_K.moved (u := U) (U := U.calling g mk a) (Vm.Alike.refl U.vm) qK, EVS.blind g mk a qE⟩, gH_rc hK hT hr_o0 shm_0 rfl, fun U hU hW => ⟨rfl, hU, va_K.moved hW.alike hK, hE.call hS hFc hU hW⟩⟩ rfl rfl hl.1 rfl (lv_room (Nat.le_of_ble_eq_true rfl)) dX12_anHour_210 ⟨(Nat.le_of_ble_eq_true rfl), (Nat.le_of_ble_eq_true rfl)⟩) hS (fun q _ h => hFc q h) hFc (fun u t H locs ht hvm hw1301 hB _ _ hS => ?_)
                    obtain ⟨hT, hF1⟩ := hB
                    rw [ht] at hT hF1
                    have hF := hF.more hF1 (by decide)
                    try dsimp only at hw1301
                    refine lv_iinc (v := nI (i1157 + 1)) (lv' := [(5, .int (nI (i1157 + 1))), (4, .int x111), (3, .int r31), (2, .int r22), (1, .int r13), (0, .ref o0)]) hx hb dX12_anHour_213 hl (k := 0) rfl (nI_add i1157 1) (by decide) rfl (fun ls hl => ?_)
                    refine lv_goto (tgt := 177) hx hb dX12_anHour_216 (by decide) ?_
                    have hT : gH (dC, dI) kA (SHm q (wP wZ0 (lfN u1152 wU wV (i1157 + 1)) (wH + 1) wB wC wL wK wU wV) PI im u1153 u1154 lS lB lE lN) G H := by rw [show (nI i1157).toNatClampNeg = i1157 from tn_nI (by omega)] at hT; exact hT
                    exact ih1283 (i1157 + 1) (by omega) (by omega) _ _ hT hF hS ls (lv_sub hl [0, 1, 2, 3, 4, 5] rfl)
                  · have t1303 : r1292.toInt ≠ 2 := ti_ne c1298 rfl (by decide)
                    refine lv_aload_n hx hb dX12_anHour_195 rfl (lv_at hl 5 rfl) ?_
                    refine lv_iload hx hb dX12_anHour_196 (lv_at hl 0 rfl) ?_
                    refine lv_iconst (v := 0) hx hb dX12_anHour_198 (by decide) ?_
                    have hFc := gA_free hG hA hS
                    refine va_calli (va_runV (As := [.int (nI i1157), .int 0]) (rest := []) ⟨hx, hb, hml, hown, hts⟩ (s_of0 l dC dI kA adK adV G H q wZ0 (lfN u1152 wU wV i1157) (wH + 1) wB wC wL wK wU wV PI im u1153 u1154 lS lB lE lN o0 (nI i1157) hT hr_o0 (rg_t (a := ((i1157 : Nat) : Int)) (nI_toInt (by omega)) (by omega) (by omega)) (fun _ => Int.le_refl 0) t1288 (by omega) (by omega) (by omega) (by omega) hgu) (cwV 2 hts (goodIn_app (goodIn_r _ [34, 35, 36, 6] rfl (by decide +kernel)) (goodIn_ca (goodIn_r _ [30, 1, 31, 32, 33, 6] rfl (by decide +kernel)) (bs_in _ _))) rfl rfl rfl (by decide +kernel) ⟨(Nat.le_of_ble_eq_true rfl), (Nat.le_of_ble_eq_true rfl)⟩) ⟨fun a U g mk q => by obtain ⟨q0, q1, qK, qE⟩ := q; exact ⟨q0, q1, va_K.moved (u := U) (U := U.calling g mk a) (Vm.Alike.refl U.vm) qK, EVS.blind g mk a qE⟩, gH_rc hK hT hr_o0 shm_0 rfl, fun U hU hW => ⟨rfl, hU, va_K.moved hW.alike hK, hE.call hS hFc hU hW⟩⟩ rfl rfl hl.1 rfl (lv_room (Nat.le_of_ble_eq_true rfl)) dX12_anHour_199 ⟨(Nat.le_of_ble_eq_true rfl), (Nat.le_of_ble_eq_true rfl)⟩) hS (fun q _ h => hFc q h) hFc (fun r1304 u t H locs ht hvm hw1305 hB _ _ hS => ?_)
                    obtain ⟨hT, hF1⟩ := hB
                    rw [ht] at hT hF1
                    have m1306 := (el_kept (hF1.arr hg2 skm_2 (by decide))).trans m1297
                    have hF := hF.more hF1 (by decide)
                    try dsimp only at hw1305
                    have ⟨ix1307, hix1307, m1308⟩ := hw1305
                    have t1309 : (nI i1157).toInt = ((i1157 : Nat) : Int) := nI_toInt (by omega)
                    have m1310 := (el_kept (hF1.arr hg2 skm_2 (by decide))).trans m1308
                    obtain rfl : r1292 = r1304 := (el_same m1310 m1306 (by have q8 := (show ix1294.toInt = ix1294.toInt from rfl); omega)).symm
                    refine lv_iconst (v := 3) hx hb dX12_anHour_202 (by decide) ?_
                    refine lv_icmp_ne (tgt := 213) hx hb dX12_anHour_203 (by decide) (fun c1311 => ?_) (fun c1311 => ?_)
                    · have t1312 : r1292.toInt ≠ 3 := ti_ne c1311 rfl (by decide)
                      refine lv_iinc (v := nI (i1157 + 1)) (lv' := [(5, .int (nI (i1157 + 1))), (4, .int x111), (3, .int r31), (2, .int r22), (1, .int r13), (0, .ref o0)]) hx hb dX12_anHour_213 hl (k := 0) rfl (nI_add i1157 1) (by decide) rfl (fun ls hl => ?_)
                      refine lv_goto (tgt := 177) hx hb dX12_anHour_216 (by decide) ?_
                      have hT : gH (dC, dI) kA (SHm q (wP wZ0 (lfN u1152 wU wV (i1157 + 1)) (wH + 1) wB wC wL wK wU wV) PI im u1153 u1154 lS lB lE lN) G H := SHm_w hT (fun i hi x p => wP_mono hi (Int.le_refl _) (lf_m u1152 wU wV i1157 i) (Int.le_refl _) (fun _ => rfl) p)
                      exact ih1283 (i1157 + 1) (by omega) (by omega) _ _ hT hF hS ls (lv_sub hl [0, 1, 2, 3, 4, 5] rfl)
                    · have t1313 : r1292.toInt = 3 := ti_eq c1311 rfl (by decide)
                      have hT : gH (dC, dI) kA (SHm q (wP wZ0 (lfN u1152 wU wV (nI i1157).toNatClampNeg) (wH + 1) wB wC wL wK wU wV) PI im u1153 u1154 lS lB lE lN) G H := by rw [show (nI i1157).toNatClampNeg = i1157 from tn_nI (by omega)]; exact hT
                      refine lv_aload_n hx hb dX12_anHour_206 rfl (lv_at hl 5 rfl) ?_
                      refine lv_iload hx hb dX12_anHour_207 (lv_at hl 0 rfl) ?_
                      refine lv_iload_n hx hb dX12_anHour_209 rfl (lv_at hl 2 rfl) ?_
                      have hFc := gA_free hG hA hS
                      refine va_callv (va_runV (As := [.int (nI i1157), .int r31]) (rest := []) ⟨hx, hb, hml, hown, hts⟩ (s_lifts l dC dI kA adK adV G H q wZ0 u1152 (wH + 1) wB wC wL wK wU wV PI im u1153 u1154 lS lB lE lN o0 (nI i1157) r31 hT hr_o0 (rg_t (a := ((i1157 : Nat) : Int)) (nI_toInt (by omega)) (by omega) (by omega)) (by have q8 := ti_all r31; omega) (by have q9 := (show (nI i1157).toInt = ((i1157 : Nat) : Int) from (nI_toInt (by omega))); omega) (by assumption) t1156 (fun _ => Int.le_refl 0) (fun i => ⟨(t1156 i).1, by have := (t1156 i).2; omega⟩) (by omega) (by omega) (by omega) (by omega) hgu) (cwV 2 hts (goodIn_app (goodIn_r _ [75, 76, 77, 6] rfl (by decide +kernel)) (goodIn_ca (goodIn_r _ [74, 30, 1, 31, 32, 33, 6, 34, 35, 36, 46, 47, 25, 48, 49, 50, 51, 52, 39, 40, 41, 42, 53, 54, 55, 56] rfl (by decide +kernel)) (bs_in _ _))) rfl rfl rfl (by decide +kernel) ⟨(Nat.le_of_ble_eq_true rfl), (Nat.le_of_ble_eq_true rfl)⟩) ⟨fun a U g mk q => by obtain ⟨q0, q1, qK, qE⟩ := q; exact ⟨q0, q1, va_K.moved (u := U) (U := U.calling g mk a) (Vm.Alike.refl U.vm) qK, EVS.blind g mk a qE⟩, gH_rc hK hT hr_o0 shm_0 rfl, fun U hU hW => ⟨rfl, hU, va_K.moved hW.alike hK, hE.call hS hFc hU hW⟩⟩ rfl rfl hl.1 rfl (lv_room (Nat.le_of_ble_eq_true rfl)) dX12_anHour_210 ⟨(Nat.le_of_ble_eq_true rfl), (Nat.le_of_ble_eq_true rfl)⟩) hS (fun q _ h => hFc q h) hFc (fun u t H locs ht hvm hw1315 hB _ _ hS => ?_)
                      obtain ⟨hT, hF1⟩ := hB
                      rw [ht] at hT hF1
                      have hF := hF.more hF1 (by decide)
                      try dsimp only at hw1315
                      refine lv_iinc (v := nI (i1157 + 1)) (lv' := [(5, .int (nI (i1157 + 1))), (4, .int x111), (3, .int r31), (2, .int r22), (1, .int r13), (0, .ref o0)]) hx hb dX12_anHour_213 hl (k := 0) rfl (nI_add i1157 1) (by decide) rfl (fun ls hl => ?_)
                      refine lv_goto (tgt := 177) hx hb dX12_anHour_216 (by decide) ?_
                      have hT : gH (dC, dI) kA (SHm q (wP wZ0 (lfN u1152 wU wV (i1157 + 1)) (wH + 1) wB wC wL wK wU wV) PI im u1153 u1154 lS lB lE lN) G H := by rw [show (nI i1157).toNatClampNeg = i1157 from tn_nI (by omega)] at hT; exact hT
                      exact ih1283 (i1157 + 1) (by omega) (by omega) _ _ hT hF hS ls (lv_sub hl [0, 1, 2, 3, 4, 5] rfl)
            have hT : gH (dC, dI) kA (SHm q (wP wZ0 (lfN u1152 wU wV 0) (wH + 1) wB wC wL wK wU wV) PI im u1153 u1154 lS lB lE lN) G H := SHm_w hT (fun i hi x p => wP_mono hi (Int.le_refl _) ((lf_b u1152 wU wV 0 i).1) (Int.le_refl _) (fun _ => rfl) p)
            exact key1283 (29 - 0) 0 (by omega) (Nat.le_refl _) _ _ hT hF hS ls (lv_sub hl [0, 1, 2, 3, 4, 5] rfl)
          have key1317 : ∀ (n1317 i935 : Nat), i935 + n1317 = 29 → 0 ≤ i935 → ∀ (H : Heap) (locs : List Loc), gH (dC, dI) kA (SHm q (wP wZ0 (rnN wN 96) (wH + 1) wB wC wL wK wU wV) PI im PM PT lS lB lE lN) G H → gF (dC, dI) SKm G ([(0, 9), (2, 0), (5, 0), (6, 0), (7, 0), (8, 0), (9, 0)] : List (Nat × Nat)) s.heap H → va_S A s.heap H locs → ∀ ls : Array Slot, lv_has ls 6 [(5, .int (nI i935)), (4, .int x111), (3, .int r31), (2, .int r22), (1, .int r13), (0, .ref o0)] → W p l e (headSpec w_s_anHour ({ frames := 4, cells := 0, slots := 0, locals := 95 })).room s m #[.ref o0] below meth c H locs 0 0 (MQ below (va_Qv (fun (u : (Nat → Int) × Int × (Nat → Int → Prop) × (Nat → Int → Prop)) => match u with | (wN1, wB1, PM1, PT1) => (∀ i, 6500000 ≤ wN1 i ∧ wN1 i ≤ 6500000 + 340 * (wH + 1)) ∧ (0 ≤ wB1 ∧ wB1 ≤ 96 * (wH + 1))) (fun (u : (Nat → Int) × Int × (Nat → Int → Prop) × (Nat → Int → Prop)) (t : State) => match u with | (wN1, wB1, PM1, PT1) => gH (dC, dI) kA (SHm q (wP wZ0 wN1 (wH + 1) wB1 wC wL wK wU wV) PI im PM1 PT1 lS lB lE lN) G t.heap ∧ gF (dC, dI) SKm G ([(0, 9), (2, 0), (5, 0), (6, 0), (7, 0), (8, 0), (9, 0)] : List (Nat × Nat)) s.heap t.heap) A) #[.ref o0] s 0 0 A) (F0 m 139 ls []) := by
            intro n1317
            induction n1317 with
            | zero =>
              intro i935 hn1317 hlo1318  H locs hT hF hS  ls hl
              obtain rfl : 29 = i935 := by omega
              refine lv_iload hx hb dX12_anHour_139 (lv_at hl 0 rfl) ?_
              refine lv_iload hx hb dX12_anHour_141 (lv_at hl 1 rfl) ?_
              refine lv_icmp_ge (tgt := 170) hx hb dX12_anHour_143 (by decide) (fun c1319 => ?_) (fun c1319 => (by exfalso; have q9 : ((29 : Nat) : Int) < x111.toInt := ti_nle c1319 rfl (nI_toInt (by omega)); omega))
              have t1320 : x111.toInt ≤ ((29 : Nat) : Int) := ti_le c1319 rfl (nI_toInt (by omega))
              exact jn1149 (nI 29) (rg_t (a := ((29 : Nat) : Int)) (nI_toInt (by omega)) (by omega) (by omega)) _ _ hT hF hS ls (lv_sub hl [0, 1, 2, 3, 4, 5] rfl)
            | succ n1317 ih1317 =>
              intro i935 hn1317 hlo1318  H locs hT hF hS  ls hl
              have hlt1320 : i935 < 29 := by omega
              refine lv_iload hx hb dX12_anHour_139 (lv_at hl 0 rfl) ?_
              refine lv_iload hx hb dX12_anHour_141 (lv_at hl 1 rfl) ?_
              refine lv_icmp_ge (tgt := 170) hx hb dX12_anHour_143 (by decide) (fun c1321 => ?_) (fun c1321 => ?_)
              · have t1322 : x111.toInt ≤ ((i935 : Nat) : Int) := ti_le c1321 rfl (nI_toInt (by omega))
                exact jn1149 (nI i935) (rg_t (a := ((i935 : Nat) : Int)) (nI_toInt (by omega)) (by omega) (by omega)) _ _ hT hF hS ls (lv_sub hl [0, 1, 2, 3, 4, 5] rfl)
              · have t1323 : ((i935 : Nat) : Int) < x111.toInt := ti_nle c1321 rfl (nI_toInt (by omega))
                refine lv_aload_n hx hb dX12_anHour_146 rfl (lv_at hl 5 rfl) ?_
                refine lv_iload hx hb dX12_anHour_147 (lv_at hl 0 rfl) ?_
                refine lv_iconst (v := 0) hx hb dX12_anHour_149 (by decide) ?_
                have hFc := gA_free hG hA hS
                refine va_calli (va_runV (As := [.int (nI i935), .int 0]) (rest := []) ⟨hx, hb, hml, hown, hts⟩ (s_of0 l dC dI kA adK adV G H q wZ0 (rnN wN 96) (wH + 1) wB wC wL wK wU wV PI im PM PT lS lB lE lN o0 (nI i935) hT hr_o0 (rg_t (a := ((i935 : Nat) : Int)) (nI_toInt (by omega)) (by omega) (by omega)) (fun _ => Int.le_refl 0) t107 (by omega) (by omega) (by omega) (by omega) hgu) (cwV 2 hts (goodIn_app (goodIn_r _ [34, 35, 36, 6] rfl (by decide +kernel)) (goodIn_ca (goodIn_r _ [30, 1, 31, 32, 33, 6] rfl (by decide +kernel)) (bs_in _ _))) rfl rfl rfl (by decide +kernel) ⟨(Nat.le_of_ble_eq_true rfl), (Nat.le_of_ble_eq_true rfl)⟩) ⟨fun a U g mk q => by obtain ⟨q0, q1, qK, qE⟩ := q; exact ⟨q0, q1, va_K.moved (u := U) (U := U.calling g mk a) (Vm.Alike.refl U.vm) qK, EVS.blind g mk a qE⟩, gH_rc hK hT hr_o0 shm_0 rfl, fun U hU hW => ⟨rfl, hU, va_K.moved hW.alike hK, hE.call hS hFc hU hW⟩⟩ rfl rfl hl.1 rfl (lv_room (Nat.le_of_ble_eq_true rfl)) dX12_anHour_150 ⟨(Nat.le_of_ble_eq_true rfl), (Nat.le_of_ble_eq_true rfl)⟩) hS (fun q _ h => hFc q h) hFc (fun r1324 u t H locs ht hvm hw1325 hB _ _ hS => ?_)
                obtain ⟨hT, hF1⟩ := hB
                rw [ht] at hT hF1
                have hF := hF.more hF1 (by decide)
                try dsimp only at hw1325
                have ⟨ix1326, hix1326, m1327⟩ := hw1325
                have t1328 : (nI i935).toInt = ((i935 : Nat) : Int) := nI_toInt (by omega)
                have m1329 := (el_kept (hF1.arr hg2 skm_2 (by decide))).trans m1327
                refine lv_iconst (v := 4) hx hb dX12_anHour_153 (by decide) ?_
                refine lv_icmp_ne (tgt := 164) hx hb dX12_anHour_154 (by decide) (fun c1330 => ?_) (fun c1330 => ?_)
                · have t1331 : r1324.toInt ≠ 4 := ti_ne c1330 rfl (by decide)
                  refine lv_iinc (v := nI (i935 + 1)) (lv' := [(5, .int (nI (i935 + 1))), (4, .int x111), (3, .int r31), (2, .int r22), (1, .int r13), (0, .ref o0)]) hx hb dX12_anHour_164 hl (k := 0) rfl (nI_add i935 1) (by decide) rfl (fun ls hl => ?_)
                  refine lv_goto (tgt := 139) hx hb dX12_anHour_167 (by decide) ?_
                  exact ih1317 (i935 + 1) (by omega) (by omega) _ _ hT hF hS ls (lv_sub hl [0, 1, 2, 3, 4, 5] rfl)
                · have t1332 : r1324.toInt = 4 := ti_eq c1330 rfl (by decide)
                  refine lv_aload_n hx hb dX12_anHour_157 rfl (lv_at hl 5 rfl) ?_
                  refine lv_iload hx hb dX12_anHour_158 (lv_at hl 0 rfl) ?_
                  refine lv_iload_n hx hb dX12_anHour_160 rfl (lv_at hl 4 rfl) ?_
                  have hFc := gA_free hG hA hS
                  refine va_callv (va_runV (As := [.int (nI i935), .int r13]) (rest := []) ⟨hx, hb, hml, hown, hts⟩ (s_sluices l dC dI kA adK adV G H q wZ0 (rnN wN 96) (wH + 1) wB wC wL wK wU wV PI im PM PT lS lB lE lN o0 (nI i935) r13 hT hr_o0 (rg_t (a := ((i935 : Nat) : Int)) (nI_toInt (by omega)) (by omega) (by omega)) (by have q8 := ti_all r13; omega) (by have q9 := (show (nI i935).toInt = ((i935 : Nat) : Int) from (nI_toInt (by omega))); omega) (by assumption) (fun _ => Int.le_refl 0) t107 (by omega) (by omega) (by omega) (by omega) hgu) (cwV 2 hts (goodIn_app (goodIn_r _ [57, 58, 59, 6] rfl (by decide +kernel)) (goodIn_ca (goodIn_r _ [37, 30, 1, 31, 32, 33, 6, 34, 35, 36, 38, 39, 40, 41, 42, 43, 44, 45, 46, 47, 25, 48, 49, 50, 51, 52, 53, 54, 55, 56] rfl (by decide +kernel)) (bs_in _ _))) rfl rfl rfl (by decide +kernel) ⟨(Nat.le_of_ble_eq_true rfl), (Nat.le_of_ble_eq_true rfl)⟩) ⟨fun a U g mk q => by obtain ⟨q0, q1, qK, qE⟩ := q; exact ⟨q0, q1, va_K.moved (u := U) (U := U.calling g mk a) (Vm.Alike.refl U.vm) qK, EVS.blind g mk a qE⟩, gH_rc hK hT hr_o0 shm_0 rfl, fun U hU hW => ⟨rfl, hU, va_K.moved hW.alike hK, hE.call hS hFc hU hW⟩⟩ rfl rfl hl.1 rfl (lv_room (Nat.le_of_ble_eq_true rfl)) dX12_anHour_161 ⟨(Nat.le_of_ble_eq_true rfl), (Nat.le_of_ble_eq_true rfl)⟩) hS (fun q _ h => hFc q h) hFc (fun u t H locs ht hvm hw1334 hB _ _ hS => ?_)
                  obtain ⟨hT, hF1⟩ := hB
                  rw [ht] at hT hF1
                  have hF := hF.more hF1 (by decide)
                  try dsimp only at hw1334
                  refine lv_iinc (v := nI (i935 + 1)) (lv' := [(5, .int (nI (i935 + 1))), (4, .int x111), (3, .int r31), (2, .int r22), (1, .int r13), (0, .ref o0)]) hx hb dX12_anHour_164 hl (k := 0) rfl (nI_add i935 1) (by decide) rfl (fun ls hl => ?_)
                  refine lv_goto (tgt := 139) hx hb dX12_anHour_167 (by decide) ?_
                  exact ih1317 (i935 + 1) (by omega) (by omega) _ _ hT hF hS ls (lv_sub hl [0, 1, 2, 3, 4, 5] rfl)
          exact key1317 (29 - 0) 0 (by omega) (Nat.le_refl _) _ _ hT hF hS ls (lv_sub hl [0, 1, 2, 3, 4, 5] rfl)
        · have t1336 : ((i112 : Nat) : Int) < x111.toInt := ti_nle c933 rfl (nI_toInt (by omega))
          refine lv_aload_n hx hb dX12_anHour_114 rfl (lv_at hl 5 rfl) ?_
          refine lv_iload hx hb dX12_anHour_115 (lv_at hl 0 rfl) ?_
          have hFc := gA_free hG hA hS
          refine va_calli (va_runV (As := [.int (nI i112)]) (rest := []) ⟨hx, hb, hml, hown, hts⟩ (s_isDike l dC dI kA adK adV G H q wZ0 (rnN wN 96) (wH + 1) wB wC wL wK wU wV PI im PM PT lS lB lE lN o0 (nI i112) hT hr_o0 (rg_t (a := ((i112 : Nat) : Int)) (nI_toInt (by omega)) (by omega) (by omega)) (fun _ => Int.le_refl 0) t107 (by omega) (by omega) (by omega) (by omega) hgu) (cwV 1 hts (goodIn_app (goodIn_r _ [90, 91, 92, 6] rfl (by decide +kernel)) (goodIn_ca (goodIn_r _ [89, 30, 1, 31, 32, 33, 6, 34, 35, 36] rfl (by decide +kernel)) (bs_in _ _))) rfl rfl rfl (by decide +kernel) ⟨(Nat.le_of_ble_eq_true rfl), (Nat.le_of_ble_eq_true rfl)⟩) ⟨fun a U g mk q => by obtain ⟨q0, q1, qK, qE⟩ := q; exact ⟨q0, q1, va_K.moved (u := U) (U := U.calling g mk a) (Vm.Alike.refl U.vm) qK, EVS.blind g mk a qE⟩, gH_rc hK hT hr_o0 shm_0 rfl, fun U hU hW => ⟨rfl, hU, va_K.moved hW.alike hK, hE.call hS hFc hU hW⟩⟩ rfl rfl hl.1 rfl (lv_room (Nat.le_of_ble_eq_true rfl)) dX12_anHour_117 ⟨(Nat.le_of_ble_eq_true rfl), (Nat.le_of_ble_eq_true rfl)⟩) hS (fun q _ h => hFc q h) hFc (fun r1337 u t H locs ht hvm hw1338 hB _ _ hS => ?_)
          obtain ⟨hT, hF1⟩ := hB
          rw [ht] at hT hF1
          have hF := hF.more hF1 (by decide)
          try dsimp only at hw1338
          obtain ⟨h1339, hi1340⟩ := hw1338
          refine lv_if_eq (tgt := 130) hx hb dX12_anHour_120 (by decide) (fun c1341 => ?_) (fun c1341 => ?_)
          · have t1342 : r1337.toInt = 0 := ti_eq c1341 rfl (by decide)
            refine lv_iinc (v := nI (i112 + 1)) (lv' := [(5, .int (nI (i112 + 1))), (4, .int x111), (3, .int r31), (2, .int r22), (1, .int r13), (0, .ref o0)]) hx hb dX12_anHour_130 hl (k := 0) rfl (nI_add i112 1) (by decide) rfl (fun ls hl => ?_)
            refine lv_goto (tgt := 107) hx hb dX12_anHour_133 (by decide) ?_
            exact ih528 (i112 + 1) (by omega) (by omega) _ _ hT hF hS ls (lv_sub hl [0, 1, 2, 3, 4, 5] rfl)
          · have t1343 : r1337.toInt ≠ 0 := ti_ne c1341 rfl (by decide)
            have t1344 : (nI i112).toInt = ((i112 : Nat) : Int) := nI_toInt (by omega)
            have t1345 : (nI i112).toInt < wC → wK (nI i112).toNatClampNeg := hi1340 ((bit_of ⟨by omega, by omega⟩).resolve_left c1341)
            refine lv_aload_n hx hb dX12_anHour_123 rfl (lv_at hl 5 rfl) ?_
            refine lv_iload hx hb dX12_anHour_124 (lv_at hl 0 rfl) ?_
            refine lv_iload_n hx hb dX12_anHour_126 rfl (lv_at hl 4 rfl) ?_
            have hFc := gA_free hG hA hS
            refine va_callv (va_runV (As := [.int (nI i112), .int r13]) (rest := []) ⟨hx, hb, hml, hown, hts⟩ (s_dikes l dC dI kA adK adV G H q wZ0 (rnN wN 96) (wH + 1) wB wC wL wK wU wV PI im PM PT lS lB lE lN o0 (nI i112) r13 hT hr_o0 (rg_t (a := ((i112 : Nat) : Int)) (nI_toInt (by omega)) (by omega) (by omega)) (by have q8 := ti_all r13; omega) (by have q9 := (show (nI i112).toInt = ((i112 : Nat) : Int) from (nI_toInt (by omega))); omega) ((by assumption : (nI i112).toInt < wC → wK (nI i112).toNatClampNeg) (by have q9 := (show (nI i112).toInt = ((i112 : Nat) : Int) from (nI_toInt (by omega))); omega)) (by assumption) (fun _ => Int.le_refl 0) t107 (by omega) (by omega) (by omega) (by omega) hgu) (cwV 2 hts (goodIn_app (goodIn_r _ [102, 103, 104, 6] rfl (by decide +kernel)) (goodIn_ca (goodIn_r _ [93, 30, 1, 31, 32, 33, 6, 34, 35, 36, 94, 38, 39, 40, 41, 42, 43, 44, 45, 23, 24, 25, 26, 95, 96, 97, 98, 99, 100, 101, 46, 47, 48, 49, 50, 51, 52, 53, 54, 55, 56] rfl (by decide +kernel)) (bs_in _ _))) rfl rfl rfl (by decide +kernel) ⟨(Nat.le_of_ble_eq_true rfl), (Nat.le_of_ble_eq_true rfl)⟩) ⟨fun a U g mk q => by obtain ⟨q0, q1, qK, qE⟩ := q; exact ⟨q0, q1, va_K.moved (u := U) (U := U.calling g mk a) (Vm.Alike.refl U.vm) qK, EVS.blind g mk a qE⟩, gH_rc hK hT hr_o0 shm_0 rfl, fun U hU hW => ⟨rfl, hU, va_K.moved hW.alike hK, hE.call hS hFc hU hW⟩⟩ rfl rfl hl.1 rfl (lv_room (Nat.le_of_ble_eq_true rfl)) dX12_anHour_127 ⟨(Nat.le_of_ble_eq_true rfl), (Nat.le_of_ble_eq_true rfl)⟩) hS (fun q _ h => hFc q h) hFc (fun u t H locs ht hvm hw1347 hB _ _ hS => ?_)
            obtain ⟨hT, hF1⟩ := hB
            rw [ht] at hT hF1
            have hF := hF.more hF1 (by decide)
            try dsimp only at hw1347
            refine lv_iinc (v := nI (i112 + 1)) (lv' := [(5, .int (nI (i112 + 1))), (4, .int x111), (3, .int r31), (2, .int r22), (1, .int r13), (0, .ref o0)]) hx hb dX12_anHour_130 hl (k := 0) rfl (nI_add i112 1) (by decide) rfl (fun ls hl => ?_)
            refine lv_goto (tgt := 107) hx hb dX12_anHour_133 (by decide) ?_
            exact ih528 (i112 + 1) (by omega) (by omega) _ _ hT hF hS ls (lv_sub hl [0, 1, 2, 3, 4, 5] rfl)
    exact key528 (30 - 0) 0 (by omega) (Nat.le_refl _) _ _ hT hF hS ls (lv_sub hl [0, 1, 2, 3, 4, 5] rfl)
  have key1348 : ∀ (n1348 i35 : Nat), i35 + n1348 = 96 → 0 ≤ i35 → ∀ (H : Heap) (locs : List Loc), gH (dC, dI) kA (SHm q (wP wZ0 (rnN wN i35) (wH + 1) wB wC wL wK wU wV) PI im PM PT lS lB lE lN) G H → gF (dC, dI) SKm G ([(0, 9), (2, 0), (5, 0), (6, 0), (7, 0), (8, 0), (9, 0)] : List (Nat × Nat)) s.heap H → va_S A s.heap H locs → el H (q 1) (1429 : Int32).toNatClampNeg = some (.int x5) → ∀ ls : Array Slot, lv_has ls 6 [(4, .int (nI i35)), (3, .int r31), (2, .int r22), (1, .int r13), (0, .ref o0)] → W p l e (headSpec w_s_anHour ({ frames := 4, cells := 0, slots := 0, locals := 95 })).room s m #[.ref o0] below meth c H locs 0 0 (MQ below (va_Qv (fun (u : (Nat → Int) × Int × (Nat → Int → Prop) × (Nat → Int → Prop)) => match u with | (wN1, wB1, PM1, PT1) => (∀ i, 6500000 ≤ wN1 i ∧ wN1 i ≤ 6500000 + 340 * (wH + 1)) ∧ (0 ≤ wB1 ∧ wB1 ≤ 96 * (wH + 1))) (fun (u : (Nat → Int) × Int × (Nat → Int → Prop) × (Nat → Int → Prop)) (t : State) => match u with | (wN1, wB1, PM1, PT1) => gH (dC, dI) kA (SHm q (wP wZ0 wN1 (wH + 1) wB1 wC wL wK wU wV) PI im PM1 PT1 lS lB lE lN) G t.heap ∧ gF (dC, dI) SKm G ([(0, 9), (2, 0), (5, 0), (6, 0), (7, 0), (8, 0), (9, 0)] : List (Nat × Nat)) s.heap t.heap) A) #[.ref o0] s 0 0 A) (F0 m 42 ls []) := by
    intro n1348
    induction n1348 with
    | zero =>
      intro i35 hn1348 hlo1349  H locs hT hF hS m36 ls hl
      obtain rfl : 96 = i35 := by omega
      have t1350 : ∀ i, 6500000 ≤ rnN wN 96 i ∧ rnN wN 96 i ≤ 20200000 := fun i => by have q8 := hn_ i; have q9 := rn_b wN 96 i; omega
      refine lv_iload hx hb dX12_anHour_42 (lv_at hl 0 rfl) ?_
      refine lv_bipush (v := 96) hx hb dX12_anHour_44 (by decide) ?_
      refine lv_icmp_ge (tgt := 94) hx hb dX12_anHour_46 (by decide) (fun c1351 => ?_) (fun c1351 => (by exfalso; have q9 : ((96 : Nat) : Int) < 96 := ti_nle c1351 (by decide) (nI_toInt (by omega)); omega))
      have t1352 : 96 ≤ ((96 : Nat) : Int) := ti_le c1351 (by decide) (nI_toInt (by omega))
      exact jn106 _ _ hT hF hS m36 ls (lv_sub hl [0, 1, 2, 3, 4] rfl)
    | succ n1348 ih1348 =>
      intro i35 hn1348 hlo1349  H locs hT hF hS m36 ls hl
      have hlt1352 : i35 < 96 := by omega
      have t1353 : ∀ i, 6500000 ≤ rnN wN i35 i ∧ rnN wN i35 i ≤ 20200000 := fun i => by have q8 := hn_ i; have q9 := rn_b wN i35 i; omega
      refine lv_iload hx hb dX12_anHour_42 (lv_at hl 0 rfl) ?_
      refine lv_bipush (v := 96) hx hb dX12_anHour_44 (by decide) ?_
      refine lv_icmp_ge (tgt := 94) hx hb dX12_anHour_46 (by decide) (fun c1354 => (by exfalso; have q9 : 96 ≤ ((i35 : Nat) : Int) := ti_le c1354 (by decide) (nI_toInt (by omega)); omega)) (fun c1354 => ?_)
      have t1355 : ((i35 : Nat) : Int) < 96 := ti_nle c1354 (by decide) (nI_toInt (by omega))
      refine lv_aload_n hx hb dX12_anHour_49 rfl (lv_at hl 4 rfl) ?_
      refine lv_iload hx hb dX12_anHour_50 (lv_at hl 0 rfl) ?_
      have hFc := gA_free hG hA hS
      refine va_calli (va_runV (As := [.int (nI i35)]) (rest := []) ⟨hx, hb, hml, hown, hts⟩ (s_isLand l dC dI kA adK adV G H q wZ0 (rnN wN i35) (wH + 1) wB wC wL wK wU wV PI im PM PT lS lB lE lN o0 (nI i35) hT hr_o0 (rg_t (a := ((i35 : Nat) : Int)) (nI_toInt (by omega)) (by omega) (by omega)) (fun _ => Int.le_refl 0) t1353 (by omega) (by omega) (by omega) (by omega) hgu) (cwV 1 hts (goodIn_app (goodIn_r _ [40, 41, 42, 6] rfl (by decide +kernel)) (goodIn_ca (goodIn_r _ [39, 1] rfl (by decide +kernel)) (bs_in _ _))) rfl rfl rfl (by decide +kernel) ⟨(Nat.le_of_ble_eq_true rfl), (Nat.le_of_ble_eq_true rfl)⟩) ⟨fun a U g mk q => by obtain ⟨q0, q1, qK, qE⟩ := q; exact ⟨q0, q1, va_K.moved (u := U) (U := U.calling g mk a) (Vm.Alike.refl U.vm) qK, EVS.blind g mk a qE⟩, gH_rc hK hT hr_o0 shm_0 rfl, fun U hU hW => ⟨rfl, hU, va_K.moved hW.alike hK, hE.call hS hFc hU hW⟩⟩ rfl rfl hl.1 rfl (lv_room (Nat.le_of_ble_eq_true rfl)) dX12_anHour_52 ⟨(Nat.le_of_ble_eq_true rfl), (Nat.le_of_ble_eq_true rfl)⟩) hS (fun q _ h => hFc q h) hFc (fun r1356 u t H locs ht hvm hw1357 hB _ _ hS => ?_)
      obtain ⟨hT, hF1⟩ := hB
      rw [ht] at hT hF1
      have m1358 := (el_kept (hF1.arr hg2 skm_2 (by decide))).trans m36
      have hF := hF.more hF1 (by decide)
      try dsimp only at hw1357
      obtain ⟨h1359, hi1360, hi1361⟩ := hw1357
      refine lv_if_ne (tgt := 61) hx hb dX12_anHour_55 (by decide) (fun c1362 => ?_) (fun c1362 => ?_)
      · have t1363 : r1356.toInt ≠ 0 := ti_ne c1362 rfl (by decide)
        have t1364 : wL (nI i35).toNatClampNeg := hi1360 ((bit_of ⟨by omega, by omega⟩).resolve_left c1362)
        refine lv_aload_n hx hb dX12_anHour_61 rfl (lv_at hl 4 rfl) ?_
        refine tw_get hx hb hts bF_X12 hown hK hT hr_o0 shm_0 rfl 1 (by decide) (ht_at hts 0 rfl) (fun _ h9 => h9) dX12_anHour_62 (fun v9 m1365 h9 => ?_)
        obtain ⟨rfl, hg1366⟩ := h9 _ rfl
        refine lv_sipush (v := 384) hx hb dX12_anHour_65 (by decide) ?_
        refine lv_iload hx hb dX12_anHour_68 (lv_at hl 0 rfl) ?_
        refine lv_iadd hx hb dX12_anHour_70 ?_
        refine lv_topi (fun x1367 ex1367 => ?_)
        obtain rfl : nI (384 + i35) = x1367 := (ex1367.trans (nI_add 384 i35)).symm
        refine lv_dup2_11 hx hb dX12_anHour_71 rfl rfl ?_
        refine tw_iald (i := (nI (384 + i35))) hx hb hK hT hg2 shm_2 rfl (vp_in_nI (by omega) (by decide)) dX12_anHour_72 (fun v9 m1368 h9 => ?_)
        obtain ⟨x1369, rfl, gx1369, kx1369⟩ := (gw_at h9 (w_wat (by have q9 := tn_of (show (nI (384 + i35)).toInt = ((384 + i35 : Nat) : Int) from (nI_toInt (by omega))) (show (0 : Int) ≤ ((384 + i35 : Nat) : Int) from by omega); omega)) t1353 (fun _ => Int.le_refl 0))
        refine lv_iload_n hx hb dX12_anHour_73 rfl (lv_at hl 2 rfl) ?_
        refine lv_iadd hx hb dX12_anHour_74 ?_
        refine lv_topi (fun x1370 ex1370 => ?_)
        have t1371 : x1370.toInt = x1369.toInt + r22.toInt := ti_add ex1370 rfl rfl (by omega) (by omega)
        have t1372 : (((nI (384 + i35)).toNatClampNeg : Nat) : Int) = ((384 + i35 : Nat) : Int) := tn_of (show (nI (384 + i35)).toInt = ((384 + i35 : Nat) : Int) from (nI_toInt (by omega))) (by omega)
        have t1373 : rnN wN i35 (nI (384 + i35)).toNatClampNeg = wN (nI (384 + i35)).toNatClampNeg ∧ rnN wN (i35 + 1) (nI (384 + i35)).toNatClampNeg = wN (nI (384 + i35)).toNatClampNeg + 20 := (rn_b wN i35 (nI (384 + i35)).toNatClampNeg).2.2.2 (by omega)
        refine tw_iast2 (Sg1 := (SHm q (wP wZ0 (rnN wN (i35 + 1)) (wH + 1) wB wC wL wK wU wV) PI im PM PT lS lB lE lN)) (i := (nI (384 + i35))) (x := x1370) hx hb hK hT hG hS hg2 shm_2 rfl shm_2 shm_o2 (fun b9 h9 => hgu b9 1 h9) (vp_in_nI (by omega) (by decide)) (gp_of (gi_of (show x1370.toInt = x1370.toInt from rfl) (by omega) (by omega)) (w_wat0 (by omega)) (wX_o (by omega) (by omega))) (fun k9 hk9 hne9 v9 hv9 he9 => by obtain ⟨x9, rfl, p9⟩ := he9; exact ⟨x9, rfl, wP_mono hk9 (Int.le_refl _) ((rn_b wN i35 k9).2.2.1) (Int.le_refl _) (fun _ => rfl) p9⟩) dX12_anHour_75 (fun H locs hT oq m1374 oi hS => ?_)
        have hF := hF.ast hg2 skm_2 oq (by decide)
        have m1375 := (oi _ (tn_ne (show (1429 : Int32).toInt = 1429 from (by decide)) (show (nI (384 + i35)).toInt = ((384 + i35 : Nat) : Int) from (nI_toInt (by omega))) (by omega) (by omega) (by omega))).trans m1358
        have t1376 : ∀ i, 6500000 ≤ rnN wN (i35 + 1) i ∧ rnN wN (i35 + 1) i ≤ 20200000 := fun i => by have q8 := hn_ i; have q9 := rn_b wN (i35 + 1) i; omega
        refine lv_aload_n hx hb dX12_anHour_76 rfl (lv_at hl 4 rfl) ?_
        refine tw_get hx hb hts bF_X12 hown hK hT hr_o0 shm_0 rfl 1 (by decide) (ht_at hts 0 rfl) (fun _ h9 => h9) dX12_anHour_77 (fun v9 m1377 h9 => ?_)
        obtain ⟨rfl, hg1378⟩ := h9 _ rfl
        refine lv_sipush (v := 1745) hx hb dX12_anHour_80 (by decide) ?_
        refine lv_dup2_11 hx hb dX12_anHour_83 rfl rfl ?_
        refine tw_iald (i := 1745) hx hb hK hT hg2 shm_2 rfl (by unfold vp_in; decide) dX12_anHour_84 (fun v9 m1379 h9 => ?_)
        obtain ⟨x1380, rfl, gx1380, kx1380⟩ := (gp_at h9 (w_fre (by have q9 := tn_of (show (1745 : Int32).toInt = 1745 from (by decide)) (show (0 : Int) ≤ 1745 from by omega); omega)))
        refine lv_iload_n hx hb dX12_anHour_85 rfl (lv_at hl 2 rfl) ?_
        refine lv_iadd hx hb dX12_anHour_86 ?_
        refine lv_topi (fun x1381 ex1381 => ?_)
        refine tw_iast (i := 1745) (x := x1381) hx hb hK hT hG hS hg2 shm_2 rfl (by unfold vp_in; decide) (gp_of (gi_all _) (w_fre (by have q9 := tn_of (show (1745 : Int32).toInt = 1745 from (by decide)) (show (0 : Int) ≤ 1745 from by omega); omega)) (wX_o (by have q9 := tn_of (show (1745 : Int32).toInt = 1745 from (by decide)) (show (0 : Int) ≤ 1745 from by omega); omega) (by omega))) dX12_anHour_87 (fun H locs hT oq m1382 oi hS => ?_)
        have hF := hF.ast hg2 skm_2 oq (by decide)
        have m1383 := (oi _ (tn_ne (show (1429 : Int32).toInt = 1429 from (by decide)) (show (1745 : Int32).toInt = 1745 from (by decide)) (by omega) (by omega) (by omega))).trans m1375
        have m1384 := (oi _ (tn_ne (show (nI (384 + i35)).toInt = ((384 + i35 : Nat) : Int) from (nI_toInt (by omega))) (show (1745 : Int32).toInt = 1745 from (by decide)) (by omega) (by omega) (by omega))).trans m1374
        refine lv_iinc (v := nI (i35 + 1)) (lv' := [(4, .int (nI (i35 + 1))), (3, .int r31), (2, .int r22), (1, .int r13), (0, .ref o0)]) hx hb dX12_anHour_88 hl (k := 0) rfl (nI_add i35 1) (by decide) rfl (fun ls hl => ?_)
        refine lv_goto (tgt := 42) hx hb dX12_anHour_91 (by decide) ?_
        exact ih1348 (i35 + 1) (by omega) (by omega) _ _ hT hF hS m1383 ls (lv_sub hl [0, 1, 2, 3, 4] rfl)
      · have t1385 : r1356.toInt = 0 := ti_eq c1362 rfl (by decide)
        have t1386 : ¬ wL (nI i35).toNatClampNeg := hi1361 c1362
        refine lv_goto (tgt := 88) hx hb dX12_anHour_58 (by decide) ?_
        refine lv_iinc (v := nI (i35 + 1)) (lv' := [(4, .int (nI (i35 + 1))), (3, .int r31), (2, .int r22), (1, .int r13), (0, .ref o0)]) hx hb dX12_anHour_88 hl (k := 0) rfl (nI_add i35 1) (by decide) rfl (fun ls hl => ?_)
        refine lv_goto (tgt := 42) hx hb dX12_anHour_91 (by decide) ?_
        have hT : gH (dC, dI) kA (SHm q (wP wZ0 (rnN wN (i35 + 1)) (wH + 1) wB wC wL wK wU wV) PI im PM PT lS lB lE lN) G H := SHm_w hT (fun i hi x p => wP_mono hi (Int.le_refl _) ((rn_b wN i35 i).2.2.1) (Int.le_refl _) (fun _ => rfl) p)
        exact ih1348 (i35 + 1) (by omega) (by omega) _ _ hT hF hS m1358 ls (lv_sub hl [0, 1, 2, 3, 4] rfl)
  have hT : gH (dC, dI) kA (SHm q (wP wZ0 (rnN wN 0) (wH + 1) wB wC wL wK wU wV) PI im PM PT lS lB lE lN) G H := SHm_w hT (fun i hi x p => wP_mono hi (Int.le_refl _) ((rn_b wN 0 i).1) (Int.le_refl _) (fun _ => rfl) p)
  exact key1348 (96 - 0) 0 (by omega) (Nat.le_refl _) _ _ hT hF hS m33 ls (lv_sub hl [0, 1, 2, 3, 4] rfl)
