def w_s_hours : List Cond := .code yX12_hours cX12_hours 3 (some .int) :: (HAppend.hAppend (α := List Cond) (β := List Cond) (γ := List Cond) [.fieldLink RX12 194 "SeaLandModel" "thrown" "I", .code yX12_in cX12_in 3 (some .boolean), .methodLink RX12 197 yX12_in, .static yX12_in, .initialized RX12, .code yX12_throwsIf cX12_throwsIf 3 (some .boolean), .methodLink RX12 224 yX12_throwsIf, .instanceMethod yX12_throwsIf, .selects RX12 yX12_throwsIf yX12_throwsIf, .code yX12_hour cX12_hour 1 (some .int), .fieldLink RX12 9 "SeaLandModel" "world" "[I", .methodLink RX12 228 yX12_hour, .instanceMethod yX12_hour, .selects RX12 yX12_hour yX12_hour, .constant RX12 242 40000, .code yX12_anHour cX12_anHour 6 none, .code yX12_outside cX12_outside 4 (some .int), .methodLink RX12 247 yX12_outside, .instanceMethod yX12_outside, .selects RX12 yX12_outside yX12_outside, .code yX12_rain cX12_rain 3 (some .int), .code yX12_telling cX12_telling 6 (some .int), .methodLink RX12 243 yX12_telling, .instanceMethod yX12_telling, .selects RX12 yX12_telling yX12_telling, .methodLink RX12 253 yX12_rain, .instanceMethod yX12_rain, .selects RX12 yX12_rain yX12_rain, .code yX12_wind cX12_wind 7 (some .int), .methodLink RX12 211 Lib.Math.max.name, .static Lib.Math.max.name, .initialized "java/lang/Math", .code Lib.Math.max.name Lib.Math.max.code 2 (some .int), .methodLink RX12 250 yX12_wind, .instanceMethod yX12_wind, .selects RX12 yX12_wind yX12_wind, .code yX12_of cX12_of 3 (some .int), .code yX12_at cX12_at 2 (some .int), .methodLink RX12 214 yX12_at, .static yX12_at, .methodLink RX12 217 yX12_of, .instanceMethod yX12_of, .selects RX12 yX12_of yX12_of, .code yX12_sluices cX12_sluices 6 none, .code yX12_level cX12_level 2 (some .int), .code yX12_isLand cX12_isLand 2 (some .boolean), .methodLink RX12 235 yX12_isLand, .instanceMethod yX12_isLand, .selects RX12 yX12_isLand yX12_isLand, .methodLink RX12 285 yX12_level, .instanceMethod yX12_level, .selects RX12 yX12_level yX12_level, .methodLink RX12 207 Lib.Math.min.name, .static Lib.Math.min.name, .code Lib.Math.min.name Lib.Math.min.code 2 (some .int), .code yX12_leaves cX12_leaves 4 (some .int), .methodLink RX12 291 yX12_leaves, .instanceMethod yX12_leaves, .selects RX12 yX12_leaves yX12_leaves, .code yX12_brings cX12_brings 3 none, .methodLink RX12 294 yX12_brings, .instanceMethod yX12_brings, .selects RX12 yX12_brings yX12_brings, .methodLink RX12 307 yX12_sluices, .instanceMethod yX12_sluices, .selects RX12 yX12_sluices yX12_sluices, .code yX12_ditches cX12_ditches 5 none, .fieldLink RX12 16 "SeaLandModel" "moves" "[I", .fieldLink RX12 22 "SeaLandModel" "movesSalt" "[I", .fieldLink RX12 19 "SeaLandModel" "movesTo" "[I", .code yX12_hasDitch cX12_hasDitch 2 (some .boolean), .methodLink RX12 298 yX12_hasDitch, .instanceMethod yX12_hasDitch, .selects RX12 yX12_hasDitch yX12_hasDitch, .code yX12_beside cX12_beside 2 (some .int), .methodLink RX12 301 yX12_beside, .static yX12_beside, .methodLink RX12 310 yX12_ditches, .instanceMethod yX12_ditches, .selects RX12 yX12_ditches yX12_ditches, .code yX12_lifts cX12_lifts 7 none, .methodLink RX12 313 yX12_lifts, .instanceMethod yX12_lifts, .selects RX12 yX12_lifts yX12_lifts, .code yX12_dayEnds cX12_dayEnds 3 none, .methodLink RX12 316 yX12_dayEnds, .instanceMethod yX12_dayEnds, .selects RX12 yX12_dayEnds yX12_dayEnds, .code yX12_writesRow cX12_writesRow 2 none, .fieldLink RX12 238 "SeaLandModel" "rows" "I", .fieldLink RX12 25 "SeaLandModel" "rowTold" "[I", .fieldLink RX12 28 "SeaLandModel" "rowTrue" "[I", .methodLink RX12 319 yX12_writesRow, .instanceMethod yX12_writesRow, .selects RX12 yX12_writesRow yX12_writesRow, .code yX12_isDike cX12_isDike 2 (some .boolean), .methodLink RX12 272 yX12_isDike, .instanceMethod yX12_isDike, .selects RX12 yX12_isDike yX12_isDike, .code yX12_dikes cX12_dikes 6 none, .code yX12_seepOf cX12_seepOf 8 (some .int), .methodLink RX12 288 yX12_seepOf, .instanceMethod yX12_seepOf, .selects RX12 yX12_seepOf yX12_seepOf, .code yX12_crest cX12_crest 4 (some .int), .methodLink RX12 282 yX12_crest, .instanceMethod yX12_crest, .selects RX12 yX12_crest yX12_crest, .methodLink RX12 304 yX12_dikes, .instanceMethod yX12_dikes, .selects RX12 yX12_dikes yX12_dikes, .methodLink RX12 322 yX12_anHour, .instanceMethod yX12_anHour, .selects RX12 yX12_anHour yX12_anHour] bs)
set_option maxHeartbeats 4000000 in
set_option maxRecDepth 100000 in
theorem s_hours (l : Launch) (dC : Nat → ClassId) (dI : Nat → Nat → Nat) (kA : Nat → ClassId) (adK adV : Nat → Nat) (G : gT) (H0 : Heap) (q : Nat → Nat) (wZ wN : Nat → Int) (wH wB wC : Int) (wL wK : Nat → Prop) (wU wV : Nat → Nat) (PI : Nat → Int → Prop) (im : Int) (PM PT : Nat → Int → Prop) (lS lB lE : Nat → Nat → Int → Prop) (lN : Nat → Int) (o0 : Nat) (p0 : Int32)  (hT : gH (dC, dI) kA (SHm q (wP wZ0 wN wH wB wC wL wK wU wV) PI im PM PT lS lB lE lN) G H0) (hr_o0 : G o0 = some 0) (hgw : wG wC wL wK wU wV) (hn_ : ∀ i, 6500000 ≤ wN i ∧ wN i ≤ 6500000 + 340 * wH) (hb_ : wB ≤ 96 * wH) (hgz : ∀ i, 0 ≤ wZ i) (hgn : ∀ i, 6500000 ≤ wN i ∧ wN i ≤ 20200000) (hgh : 0 ≤ wH ∧ wH ≤ 40000) (hgb : 0 ≤ wB ∧ wB ≤ 3850000) (hgc : 0 ≤ wC ∧ wC ≤ 30) (hgi : 0 ≤ im ∧ im ≤ 1) (hgu : ∀ a t, G a = some (t + 1) → a = q t) : Met l yX12_hours w_s_hours ({ frames := 5, cells := 0, slots := 0, locals := 120 }) (va_Pc [.ref o0, .int p0] (fun U => U.heap = H0 ∧ va_K (dC, dI) vwCl (tyl kA) U ∧ EVS adK adV (gA G H0.size) U U.heap)) (va_Qi (fun (r : Int32) (u : Int × (Nat → Int) × Int × (Nat → Int → Prop) × (Nat → Int → Prop)) => match u with | (wH1, wN1, wB1, PM1, PT1) => (0 ≤ r.toInt ∧ r.toInt ≤ 40000) ∧ (0 ≤ wH1 ∧ wH1 ≤ 40000) ∧ (∀ i, 6500000 ≤ wN1 i ∧ wN1 i ≤ 6500000 + 340 * wH1) ∧ (0 ≤ wB1 ∧ wB1 ≤ 96 * wH1)) (fun (u : Int × (Nat → Int) × Int × (Nat → Int → Prop) × (Nat → Int → Prop)) (t : State) => match u with | (wH1, wN1, wB1, PM1, PT1) => gH (dC, dI) kA (SHm q (wP wZ0 wN1 wH1 wB1 wC wL wK wU wV) PI im PM1 PT1 lS lB lE lN) G t.heap ∧ gF (dC, dI) SKm G ([(0, 0), (0, 9), (2, 0), (5, 0), (6, 0), (7, 0), (8, 0), (9, 0)] : List (Nat × Nat)) H0 t.heap) (gA G H0.size)) 0 0 (gA G H0.size) := by
  refine Met.ofW (cc := cX12_hours) (maxL := 3) (ret := (some .int)) (by decide) rfl ?_
  intro p e s m args below meth c s₁ B hml hv
  obtain ⟨rfl, hH0, hK, hE⟩ := hv
  have hx := B.exec
  have hb := B.bytes
  have hr := B.returns
  have hts := atoms_spec (ws := w_s_hours) B.pre
  have hown : s.vm.findClass RX12 = some m.cls := findClass_of_methodNamed B.named
  have hlocks := B.notSynchronized
  subst hH0
  generalize hAe : gA G s.heap.size = A at hE ⊢
  have hA : ∀ q : Nat, s.heap.size ≤ q → A q := fun q h => by rw [← hAe]; exact Or.inr h
  have hG := gA_of hAe
  have hS : va_S A s.heap s.heap [] := va_S.rf
  have hF : gF (dC, dI) SKm G ([(0, 0), (0, 9), (2, 0), (5, 0), (6, 0), (7, 0), (8, 0), (9, 0)] : List (Nat × Nat)) s.heap s.heap := gF.rf
  have hl := lv_entry ([.ref o0, .int p0]) (n := 3) (Nat.le_of_ble_eq_true rfl)
  rw [lg_entry_eq]
  generalize (lg_sl ([.ref o0, .int p0]) ++ List.replicate (3 - (lg_sl ([.ref o0, .int p0])).length) Slot.unset).toArray = ls at hl ⊢
  have hl : lv_has ls 3 [(0, .ref o0), (1, .int p0)] := hl
  refine lv_aload_n hx hb dX12_hours_0 rfl (lv_at hl 0 rfl) ?_
  refine lv_iconst (v := 0) hx hb dX12_hours_1 (by decide) ?_
  refine tw_put (v := .int 0) (ty := .int) hx hb hts bF_X12 tyX12 tyX12_ok nmX12 hown hK hT hG hS hr_o0 shm_0 rfl 0 (by decide) (ht_at hts 0 rfl) (fun _ h9 => h9) rfl (by decide +kernel) rfl rfl (gl_at rfl (gi_all _)) dX12_hours_2 (fun H locs hT oq m1 oj hS => ?_)
  have hF := hF.put hr_o0 skm_0 oq oj (by decide)
  refine lv_aload_n hx hb dX12_hours_5 rfl (lv_at hl 0 rfl) ?_
  refine lv_iload_n hx hb dX12_hours_6 rfl (lv_at hl 1 rfl) ?_
  refine lv_iconst (v := 0) hx hb dX12_hours_7 (by decide) ?_
  refine lv_sipush (v := 240) hx hb dX12_hours_8 (by decide) ?_
  have hFc := gA_free hG hA hS
  refine va_calli (va_runS (As := [.int p0, .int 0, .int 240]) (rest := [.ref o0]) ⟨hx, hb, hml, hown, hts⟩ (s_in l dC dI kA adK adV G H q wZ0 wN wH wB wC wL wK wU wV PI im PM PT lS lB lE lN p0 0 240 hT (fun _ => Int.le_refl 0) hgn hgh hgb hgc hgi hgu) (va_cwS 3 hts (goodIn_app (goodIn_r _ [3, 4, 5] rfl (by decide +kernel)) (goodIn_ca (goodIn_r _ [2] rfl (by decide +kernel)) (bs_in _ _))) rfl rfl rfl (by decide +kernel) ⟨(Nat.le_of_ble_eq_true rfl), (Nat.le_of_ble_eq_true rfl)⟩) ⟨fun a U g mk q => by obtain ⟨q0, q1, qK, qE⟩ := q; exact ⟨q0, q1, va_K.moved (u := U) (U := U.calling g mk a) (Vm.Alike.refl U.vm) qK, EVS.blind g mk a qE⟩, fun U hU hW => ⟨rfl, hU, va_K.moved hW.alike hK, hE.call hS hFc hU hW⟩⟩ rfl rfl hl.1 rfl (lv_room (Nat.le_of_ble_eq_true rfl)) dX12_hours_11 ⟨(Nat.le_of_ble_eq_true rfl), (Nat.le_of_ble_eq_true rfl)⟩) hS (fun q _ h => hFc q h) hFc (fun r2 u t H locs ht hvm hw3 hB _ _ hS => ?_)
  obtain ⟨hT, hF1⟩ := hB
  rw [ht] at hT hF1
  have m4 := (hF1.fld hr_o0 skm_0 (k := 0) (by decide) (by decide)).trans m1
  have hF := hF.more hF1 (by decide)
  try dsimp only at hw3
  obtain ⟨h5, hi6, hi7⟩ := hw3
  refine lv_if_ne (tgt := 21) hx hb dX12_hours_14 (by decide) (fun c8 => ?_) (fun c8 => ?_)
  · have t9 : r2.toInt ≠ 0 := ti_ne c8 rfl (by decide)
    have t10 : (240 : Int32).toInt = 240 := by decide
    have t11 : (0 : Int32).toInt = 0 := by decide
    have t12 : (0 : Int32).toInt ≤ p0.toInt ∧ p0.toInt ≤ (240 : Int32).toInt := hi6 ((bit_of ⟨by omega, by omega⟩).resolve_left c8)
    refine lv_iconst (v := 0) hx hb dX12_hours_21 (by decide) ?_
    refine lv_iconst (v := 1) hx hb dX12_hours_22 (by decide) ?_
    have hFc := gA_free hG hA hS
    refine va_calli (va_runV (As := [.int 0, .int 1]) (rest := []) ⟨hx, hb, hml, hown, hts⟩ (s_throwsIf l dC dI kA adK adV G H q wZ0 wN wH wB wC wL wK wU wV PI im PM PT lS lB lE lN o0 0 1 hT hr_o0 (rg_t (a := 0) (by decide) (by first | decide | omega) (by first | decide | omega)) (fun _ => Int.le_refl 0) hgn hgh hgb hgc hgi hgu) (cwV 2 hts (goodIn_app (goodIn_r _ [7, 8, 9, 5] rfl (by decide +kernel)) (goodIn_ca (goodIn_r _ [6, 1] rfl (by decide +kernel)) (bs_in _ _))) rfl rfl rfl (by decide +kernel) ⟨(Nat.le_of_ble_eq_true rfl), (Nat.le_of_ble_eq_true rfl)⟩) ⟨fun a U g mk q => by obtain ⟨q0, q1, qK, qE⟩ := q; exact ⟨q0, q1, va_K.moved (u := U) (U := U.calling g mk a) (Vm.Alike.refl U.vm) qK, EVS.blind g mk a qE⟩, gH_rc hK hT hr_o0 shm_0 rfl, fun U hU hW => ⟨rfl, hU, va_K.moved hW.alike hK, hE.call hS hFc hU hW⟩⟩ rfl rfl hl.1 rfl (lv_room (Nat.le_of_ble_eq_true rfl)) dX12_hours_23 ⟨(Nat.le_of_ble_eq_true rfl), (Nat.le_of_ble_eq_true rfl)⟩) hS (fun q _ h => hFc q h) hFc (fun r13 u t H locs ht hvm hw14 hB _ _ hS => ?_)
    obtain ⟨hT, hF1⟩ := hB
    rw [ht] at hT hF1
    have hF := hF.more hF1 (by decide)
    try dsimp only at hw14
    obtain ⟨h16, hd17⟩ := hw14
    obtain rfl : (0 : Int32) = r13 := hd17.symm
    refine lv_if_eq (tgt := 31) hx hb dX12_hours_26 (by decide) (fun c18 => ?_) (fun c18 => absurd c18 (by decide))
    refine lv_iconst (v := 0) hx hb dX12_hours_31 (by decide) ?_
    refine lv_istore_n (lv' := [(2, .int 0), (0, .ref o0), (1, .int p0)]) hx hb dX12_hours_32 rfl hl (by decide) rfl (fun ls hl => ?_)
    have jn105 : ∀ (gwN95 : Nat → Int), ∀ (gwH96 : Int), ∀ (gwB97 : Int), ∀ (gPM98 : Nat → Int → Prop), ∀ (gPT99 : Nat → Int → Prop), ∀ (z100 : Int32), ((0 ≤ z100.toInt ∧ z100.toInt ≤ 240) ∧ (∀ i, 6500000 ≤ gwN95 i ∧ gwN95 i ≤ 6500000 + 340 * gwH96) ∧ (0 ≤ gwH96 ∧ gwH96 ≤ 40000) ∧ (0 ≤ gwB97 ∧ gwB97 ≤ 96 * gwH96)) → ∀ (H : Heap) (locs : List Loc), gH (dC, dI) kA (SHm q (wP wZ0 gwN95 gwH96 gwB97 wC wL wK wU wV) PI im gPM98 gPT99 lS lB lE lN) G H → gF (dC, dI) SKm G ([(0, 0), (0, 9), (2, 0), (5, 0), (6, 0), (7, 0), (8, 0), (9, 0)] : List (Nat × Nat)) s.heap H → va_S A s.heap H locs → ∀ ls : Array Slot, lv_has ls 3 [(2, .int z100), (0, .ref o0), (1, .int p0)] → W p l e (headSpec w_s_hours ({ frames := 5, cells := 0, slots := 0, locals := 120 })).room s m #[.ref o0, .int p0] below meth c H locs 0 0 (MQ below (va_Qi (fun (r : Int32) (u : Int × (Nat → Int) × Int × (Nat → Int → Prop) × (Nat → Int → Prop)) => match u with | (wH1, wN1, wB1, PM1, PT1) => (0 ≤ r.toInt ∧ r.toInt ≤ 40000) ∧ (0 ≤ wH1 ∧ wH1 ≤ 40000) ∧ (∀ i, 6500000 ≤ wN1 i ∧ wN1 i ≤ 6500000 + 340 * wH1) ∧ (0 ≤ wB1 ∧ wB1 ≤ 96 * wH1)) (fun (u : Int × (Nat → Int) × Int × (Nat → Int → Prop) × (Nat → Int → Prop)) (t : State) => match u with | (wH1, wN1, wB1, PM1, PT1) => gH (dC, dI) kA (SHm q (wP wZ0 wN1 wH1 wB1 wC wL wK wU wV) PI im PM1 PT1 lS lB lE lN) G t.heap ∧ gF (dC, dI) SKm G ([(0, 0), (0, 9), (2, 0), (5, 0), (6, 0), (7, 0), (8, 0), (9, 0)] : List (Nat × Nat)) s.heap t.heap) A) #[.ref o0, .int p0] s 0 0 A) (F0 m 57 ls []) := by
      intro gwN95 gwH96 gwB97 gPM98 gPT99 z100 ⟨h101, hg102, hg103, hg104⟩ H locs hT hF hS  ls hl
      have t106 : ∀ i, 6500000 ≤ gwN95 i ∧ gwN95 i ≤ 20200000 := fun i => by have q8 := hg102 i; omega
      refine lv_aload_n hx hb dX12_hours_57 rfl (lv_at hl 1 rfl) ?_
      have hFc := gA_free hG hA hS
      refine va_calli (va_runV (As := []) (rest := []) ⟨hx, hb, hml, hown, hts⟩ (s_hour l dC dI kA adK adV G H q wZ0 gwN95 gwH96 gwB97 wC wL wK wU wV PI im gPM98 gPT99 lS lB lE lN o0 hT hr_o0 (fun _ => Int.le_refl 0) t106 hg103 (by omega) (by omega) (by omega) hgu) (cwV 0 hts (goodIn_app (goodIn_r _ [12, 13, 14, 5] rfl (by decide +kernel)) (goodIn_ca (goodIn_r _ [10, 11] rfl (by decide +kernel)) (bs_in _ _))) rfl rfl rfl (by decide +kernel) ⟨(Nat.le_of_ble_eq_true rfl), (Nat.le_of_ble_eq_true rfl)⟩) ⟨fun a U g mk q => by obtain ⟨q0, q1, qK, qE⟩ := q; exact ⟨q0, q1, va_K.moved (u := U) (U := U.calling g mk a) (Vm.Alike.refl U.vm) qK, EVS.blind g mk a qE⟩, gH_rc hK hT hr_o0 shm_0 rfl, fun U hU hW => ⟨rfl, hU, va_K.moved hW.alike hK, hE.call hS hFc hU hW⟩⟩ rfl rfl hl.1 rfl (lv_room (Nat.le_of_ble_eq_true rfl)) dX12_hours_58 ⟨(Nat.le_of_ble_eq_true rfl), (Nat.le_of_ble_eq_true rfl)⟩) hS (fun q _ h => hFc q h) hFc (fun r107 u t H locs ht hvm hw108 hB _ _ hS => ?_)
      obtain ⟨hT, hF1⟩ := hB
      rw [ht] at hT hF1
      have hF := hF.more hF1 (by decide)
      try dsimp only at hw108
      obtain ⟨h109, hf110⟩ := hw108
      exact W.iret (v := r107) hx hb hr (fun t ht hW => ⟨⟨r107, (gwH96, gwN95, gwB97, gPM98, gPT99), rfl, (by exact ⟨(by have q8 := ti_all r107; omega), (by omega), hg102, (by omega)⟩), by (try dsimp only); rw [ht]; exact ⟨hT, hF⟩⟩, hS.F ht⟩) hS.2.2 dX12_hours_61
    have key111 : ∀ (n111 i19 : Nat), i19 + n111 = 240 → 0 ≤ i19 → ∀ (gwN20 : Nat → Int), ∀ (gwH21 : Int), ∀ (gwB22 : Int), ∀ (gPM23 : Nat → Int → Prop), ∀ (gPT24 : Nat → Int → Prop), ((∀ i, 6500000 ≤ gwN20 i ∧ gwN20 i ≤ 6500000 + 340 * gwH21) ∧ (0 ≤ gwH21 ∧ gwH21 ≤ 40000) ∧ (0 ≤ gwB22 ∧ gwB22 ≤ 96 * gwH21)) → ∀ (H : Heap) (locs : List Loc), gH (dC, dI) kA (SHm q (wP wZ0 gwN20 gwH21 gwB22 wC wL wK wU wV) PI im gPM23 gPT24 lS lB lE lN) G H → gF (dC, dI) SKm G ([(0, 0), (0, 9), (2, 0), (5, 0), (6, 0), (7, 0), (8, 0), (9, 0)] : List (Nat × Nat)) s.heap H → va_S A s.heap H locs → ∀ ls : Array Slot, lv_has ls 3 [(2, .int (nI i19)), (0, .ref o0), (1, .int p0)] → W p l e (headSpec w_s_hours ({ frames := 5, cells := 0, slots := 0, locals := 120 })).room s m #[.ref o0, .int p0] below meth c H locs 0 0 (MQ below (va_Qi (fun (r : Int32) (u : Int × (Nat → Int) × Int × (Nat → Int → Prop) × (Nat → Int → Prop)) => match u with | (wH1, wN1, wB1, PM1, PT1) => (0 ≤ r.toInt ∧ r.toInt ≤ 40000) ∧ (0 ≤ wH1 ∧ wH1 ≤ 40000) ∧ (∀ i, 6500000 ≤ wN1 i ∧ wN1 i ≤ 6500000 + 340 * wH1) ∧ (0 ≤ wB1 ∧ wB1 ≤ 96 * wH1)) (fun (u : Int × (Nat → Int) × Int × (Nat → Int → Prop) × (Nat → Int → Prop)) (t : State) => match u with | (wH1, wN1, wB1, PM1, PT1) => gH (dC, dI) kA (SHm q (wP wZ0 wN1 wH1 wB1 wC wL wK wU wV) PI im PM1 PT1 lS lB lE lN) G t.heap ∧ gF (dC, dI) SKm G ([(0, 0), (0, 9), (2, 0), (5, 0), (6, 0), (7, 0), (8, 0), (9, 0)] : List (Nat × Nat)) s.heap t.heap) A) #[.ref o0, .int p0] s 0 0 A) (F0 m 33 ls []) := by
      intro n111
      induction n111 with
      | zero =>
        intro i19 hn111 hlo112 gwN20 gwH21 gwB22 gPM23 gPT24 ⟨hg25, hg26, hg27⟩ H locs hT hF hS  ls hl
        obtain rfl : 240 = i19 := by omega
        have t113 : ∀ i, 6500000 ≤ gwN20 i ∧ gwN20 i ≤ 20200000 := fun i => by have q8 := hg25 i; omega
        refine lv_iload_n hx hb dX12_hours_33 rfl (lv_at hl 0 rfl) ?_
        refine lv_iload_n hx hb dX12_hours_34 rfl (lv_at hl 2 rfl) ?_
        refine lv_icmp_ge (tgt := 57) hx hb dX12_hours_35 (by decide) (fun c114 => ?_) (fun c114 => (by exfalso; have q9 : ((240 : Nat) : Int) < p0.toInt := ti_nle c114 rfl (nI_toInt (by omega)); omega))
        have t115 : p0.toInt ≤ ((240 : Nat) : Int) := ti_le c114 rfl (nI_toInt (by omega))
        exact jn105 gwN20 gwH21 gwB22 gPM23 gPT24 (nI 240) ⟨(rg_t (a := ((240 : Nat) : Int)) (nI_toInt (by omega)) (by omega) (by omega)), hg25, (by omega), (by omega)⟩ _ _ hT hF hS ls (lv_sub hl [0, 1, 2] rfl)
      | succ n111 ih111 =>
        intro i19 hn111 hlo112 gwN20 gwH21 gwB22 gPM23 gPT24 ⟨hg25, hg26, hg27⟩ H locs hT hF hS  ls hl
        have hlt115 : i19 < 240 := by omega
        have t116 : ∀ i, 6500000 ≤ gwN20 i ∧ gwN20 i ≤ 20200000 := fun i => by have q8 := hg25 i; omega
        refine lv_iload_n hx hb dX12_hours_33 rfl (lv_at hl 0 rfl) ?_
        refine lv_iload_n hx hb dX12_hours_34 rfl (lv_at hl 2 rfl) ?_
        refine lv_icmp_ge (tgt := 57) hx hb dX12_hours_35 (by decide) (fun c117 => ?_) (fun c117 => ?_)
        · have t118 : p0.toInt ≤ ((i19 : Nat) : Int) := ti_le c117 rfl (nI_toInt (by omega))
          exact jn105 gwN20 gwH21 gwB22 gPM23 gPT24 (nI i19) ⟨(rg_t (a := ((i19 : Nat) : Int)) (nI_toInt (by omega)) (by omega) (by omega)), hg25, (by omega), (by omega)⟩ _ _ hT hF hS ls (lv_sub hl [0, 1, 2] rfl)
        · have t119 : ((i19 : Nat) : Int) < p0.toInt := ti_nle c117 rfl (nI_toInt (by omega))
          refine lv_aload_n hx hb dX12_hours_38 rfl (lv_at hl 1 rfl) ?_
          have hFc := gA_free hG hA hS
          refine va_calli (va_runV (As := []) (rest := []) ⟨hx, hb, hml, hown, hts⟩ (s_hour l dC dI kA adK adV G H q wZ0 gwN20 gwH21 gwB22 wC wL wK wU wV PI im gPM23 gPT24 lS lB lE lN o0 hT hr_o0 (fun _ => Int.le_refl 0) t116 hg26 (by omega) (by omega) (by omega) hgu) (cwV 0 hts (goodIn_app (goodIn_r _ [12, 13, 14, 5] rfl (by decide +kernel)) (goodIn_ca (goodIn_r _ [10, 11] rfl (by decide +kernel)) (bs_in _ _))) rfl rfl rfl (by decide +kernel) ⟨(Nat.le_of_ble_eq_true rfl), (Nat.le_of_ble_eq_true rfl)⟩) ⟨fun a U g mk q => by obtain ⟨q0, q1, qK, qE⟩ := q; exact ⟨q0, q1, va_K.moved (u := U) (U := U.calling g mk a) (Vm.Alike.refl U.vm) qK, EVS.blind g mk a qE⟩, gH_rc hK hT hr_o0 shm_0 rfl, fun U hU hW => ⟨rfl, hU, va_K.moved hW.alike hK, hE.call hS hFc hU hW⟩⟩ rfl rfl hl.1 rfl (lv_room (Nat.le_of_ble_eq_true rfl)) dX12_hours_39 ⟨(Nat.le_of_ble_eq_true rfl), (Nat.le_of_ble_eq_true rfl)⟩) hS (fun q _ h => hFc q h) hFc (fun r120 u t H locs ht hvm hw121 hB _ _ hS => ?_)
          obtain ⟨hT, hF1⟩ := hB
          rw [ht] at hT hF1
          have hF := hF.more hF1 (by decide)
          try dsimp only at hw121
          obtain ⟨h122, hf123⟩ := hw121
          refine lv_ldc (v := 40000) hx hb hown (ht_at hts 14 rfl) dX12_hours_42 ?_
          refine lv_icmp_ge (tgt := 57) hx hb dX12_hours_44 (by decide) (fun c124 => ?_) (fun c124 => ?_)
          · have t125 : 40000 ≤ r120.toInt := ti_le c124 (by decide) rfl
            exact jn105 gwN20 gwH21 gwB22 gPM23 gPT24 (nI i19) ⟨(rg_t (a := ((i19 : Nat) : Int)) (nI_toInt (by omega)) (by omega) (by omega)), hg25, (by omega), (by omega)⟩ _ _ hT hF hS ls (lv_sub hl [0, 1, 2] rfl)
          · have t126 : r120.toInt < 40000 := ti_nle c124 (by decide) rfl
            refine lv_aload_n hx hb dX12_hours_47 rfl (lv_at hl 1 rfl) ?_
            have hFc := gA_free hG hA hS
            refine va_callv (va_runV (As := []) (rest := []) ⟨hx, hb, hml, hown, hts⟩ (s_anHour l dC dI kA adK adV G H q wZ0 gwN20 gwH21 gwB22 wC wL wK wU wV PI im gPM23 gPT24 lS lB lE lN o0 hT hr_o0 (by assumption) hg25 (by omega) (by omega) (fun _ => Int.le_refl 0) t116 hg26 (by omega) (by omega) (by omega) hgu) (cwV 0 hts (goodIn_app (goodIn_r _ [112, 113, 114, 5] rfl (by decide +kernel)) (goodIn_ca (goodIn_r _ [16, 11, 10, 12, 13, 14, 5, 17, 2, 3, 4, 18, 19, 20, 21, 22, 23, 24, 25, 26, 27, 28, 29, 30, 31, 32, 33, 34, 35, 36, 37, 38, 39, 40, 41, 42, 43, 44, 45, 46, 47, 48, 49, 50, 51, 52, 53, 54, 55, 56, 57, 58, 59, 60, 61, 62, 63, 64, 65, 66, 67, 68, 69, 70, 71, 72, 73, 74, 75, 76, 77, 78, 79, 80, 81, 82, 83, 84, 85, 86, 87, 88, 89, 90, 91, 92, 93, 94, 95, 96, 97, 98, 99, 100, 101, 102, 103, 104, 105, 106, 107, 108, 109, 110, 111] rfl (by decide +kernel)) (bs_in _ _))) rfl rfl rfl (by decide +kernel) ⟨(Nat.le_of_ble_eq_true rfl), (Nat.le_of_ble_eq_true rfl)⟩) ⟨fun a U g mk q => by obtain ⟨q0, q1, qK, qE⟩ := q; exact ⟨q0, q1, va_K.moved (u := U) (U := U.calling g mk a) (Vm.Alike.refl U.vm) qK, EVS.blind g mk a qE⟩, gH_rc hK hT hr_o0 shm_0 rfl, fun U hU hW => ⟨rfl, hU, va_K.moved hW.alike hK, hE.call hS hFc hU hW⟩⟩ rfl rfl hl.1 rfl (lv_room (Nat.le_of_ble_eq_true rfl)) dX12_hours_48 ⟨(Nat.le_of_ble_eq_true rfl), (Nat.le_of_ble_eq_true rfl)⟩) hS (fun q _ h => hFc q h) hFc (fun u t H locs ht hvm hw128 hB _ _ hS => ?_)
            obtain ⟨u129, u130, u131, u132⟩ := u
            obtain ⟨hT, hF1⟩ := hB
            rw [ht] at hT hF1
            have hF := hF.more hF1 (by decide)
            try dsimp only at hw128
            obtain ⟨hf133, hf134⟩ := hw128
            refine lv_iinc (v := nI (i19 + 1)) (lv' := [(2, .int (nI (i19 + 1))), (0, .ref o0), (1, .int p0)]) hx hb dX12_hours_51 hl (k := 0) rfl (nI_add i19 1) (by decide) rfl (fun ls hl => ?_)
            refine lv_goto (tgt := 33) hx hb dX12_hours_54 (by decide) ?_
            exact ih111 (i19 + 1) (by omega) (by omega) u129 (gwH21 + 1) u130 u131 u132 ⟨hf133, (by omega), (by omega)⟩ _ _ hT hF hS ls (lv_sub hl [0, 1, 2] rfl)
    exact key111 (240 - 0) 0 (by omega) (Nat.le_refl _) wN wH wB PM PT ⟨hn_, (by omega), (by omega)⟩ _ _ hT hF hS ls (lv_sub hl [0, 1, 2] rfl)
  · have t135 : r2.toInt = 0 := ti_eq c8 rfl (by decide)
    have t136 : (240 : Int32).toInt = 240 := by decide
    have t137 : (0 : Int32).toInt = 0 := by decide
    have t138 : p0.toInt < (0 : Int32).toInt ∨ (240 : Int32).toInt < p0.toInt := hi7 c8
    refine lv_iconst (v := 1) hx hb dX12_hours_17 (by decide) ?_
    refine lv_goto (tgt := 22) hx hb dX12_hours_18 (by decide) ?_
    refine lv_iconst (v := 1) hx hb dX12_hours_22 (by decide) ?_
    have hFc := gA_free hG hA hS
    refine va_calli (va_runV (As := [.int 1, .int 1]) (rest := []) ⟨hx, hb, hml, hown, hts⟩ (s_throwsIf l dC dI kA adK adV G H q wZ0 wN wH wB wC wL wK wU wV PI im PM PT lS lB lE lN o0 1 1 hT hr_o0 (rg_t (a := 1) (by decide) (by first | decide | omega) (by first | decide | omega)) (fun _ => Int.le_refl 0) hgn hgh hgb hgc hgi hgu) (cwV 2 hts (goodIn_app (goodIn_r _ [7, 8, 9, 5] rfl (by decide +kernel)) (goodIn_ca (goodIn_r _ [6, 1] rfl (by decide +kernel)) (bs_in _ _))) rfl rfl rfl (by decide +kernel) ⟨(Nat.le_of_ble_eq_true rfl), (Nat.le_of_ble_eq_true rfl)⟩) ⟨fun a U g mk q => by obtain ⟨q0, q1, qK, qE⟩ := q; exact ⟨q0, q1, va_K.moved (u := U) (U := U.calling g mk a) (Vm.Alike.refl U.vm) qK, EVS.blind g mk a qE⟩, gH_rc hK hT hr_o0 shm_0 rfl, fun U hU hW => ⟨rfl, hU, va_K.moved hW.alike hK, hE.call hS hFc hU hW⟩⟩ rfl rfl hl.1 rfl (lv_room (Nat.le_of_ble_eq_true rfl)) dX12_hours_23 ⟨(Nat.le_of_ble_eq_true rfl), (Nat.le_of_ble_eq_true rfl)⟩) hS (fun q _ h => hFc q h) hFc (fun r139 u t H locs ht hvm hw140 hB _ _ hS => ?_)
    obtain ⟨hT, hF1⟩ := hB
    rw [ht] at hT hF1
    have hF := hF.more hF1 (by decide)
    try dsimp only at hw140
    obtain ⟨h142, hd143⟩ := hw140
    obtain rfl : (1 : Int32) = r139 := hd143.symm
    refine lv_if_eq (tgt := 31) hx hb dX12_hours_26 (by decide) (fun c144 => absurd c144 (by decide)) (fun c144 => ?_)
    refine lv_iconst (v := 0) hx hb dX12_hours_29 (by decide) ?_
    exact W.iret (v := 0) hx hb hr (fun t ht hW => ⟨⟨0, (wH, wN, wB, PM, PT), rfl, (by exact ⟨(rg_t (a := 0) (by decide) (by first | decide | omega) (by first | decide | omega)), (by omega), hn_, (by omega)⟩), by (try dsimp only); rw [ht]; exact ⟨hT, hF⟩⟩, hS.F ht⟩) hS.2.2 dX12_hours_30
