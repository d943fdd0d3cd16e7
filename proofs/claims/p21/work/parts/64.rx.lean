def w_s_hoursE : List Cond := .code yX12_hours cX12_hours 3 (some .int) :: (HAppend.hAppend (α := List Cond) (β := List Cond) (γ := List Cond) [.fieldLink RX12 194 "SeaLandModel" "thrown" "I", .code yX12_in cX12_in 3 (some .boolean), .methodLink RX12 197 yX12_in, .static yX12_in, .initialized RX12, .code yX12_throwsIf cX12_throwsIf 3 (some .boolean), .methodLink RX12 224 yX12_throwsIf, .instanceMethod yX12_throwsIf, .selects RX12 yX12_throwsIf yX12_throwsIf, .code yX12_hour cX12_hour 1 (some .int), .fieldLink RX12 9 "SeaLandModel" "world" "[I", .methodLink RX12 228 yX12_hour, .instanceMethod yX12_hour, .selects RX12 yX12_hour yX12_hour, .constant RX12 242 40000, .code yX12_anHour cX12_anHour 6 none, .code yX12_outside cX12_outside 4 (some .int), .methodLink RX12 247 yX12_outside, .instanceMethod yX12_outside, .selects RX12 yX12_outside yX12_outside, .code yX12_rain cX12_rain 3 (some .int), .code yX12_telling cX12_telling 6 (some .int), .methodLink RX12 243 yX12_telling, .instanceMethod yX12_telling, .selects RX12 yX12_telling yX12_telling, .methodLink RX12 253 yX12_rain, .instanceMethod yX12_rain, .selects RX12 yX12_rain yX12_rain, .code yX12_wind cX12_wind 7 (some .int), .methodLink RX12 211 Lib.Math.max.name, .static Lib.Math.max.name, .initialized "java/lang/Math", .code Lib.Math.max.name Lib.Math.max.code 2 (some .int), .methodLink RX12 250 yX12_wind, .instanceMethod yX12_wind, .selects RX12 yX12_wind yX12_wind, .code yX12_of cX12_of 3 (some .int), .code yX12_at cX12_at 2 (some .int), .methodLink RX12 214 yX12_at, .static yX12_at, .methodLink RX12 217 yX12_of, .instanceMethod yX12_of, .selects RX12 yX12_of yX12_of, .code yX12_sluices cX12_sluices 6 none, .code yX12_level cX12_level 2 (some .int), .code yX12_isLand cX12_isLand 2 (some .boolean), .methodLink RX12 235 yX12_isLand, .instanceMethod yX12_isLand, .selects RX12 yX12_isLand yX12_isLand, .methodLink RX12 285 yX12_level, .instanceMethod yX12_level, .selects RX12 yX12_level yX12_level, .methodLink RX12 207 Lib.Math.min.name, .static Lib.Math.min.name, .code Lib.Math.min.name Lib.Math.min.code 2 (some .int), .code yX12_leaves cX12_leaves 4 (some .int), .methodLink RX12 291 yX12_leaves, .instanceMethod yX12_leaves, .selects RX12 yX12_leaves yX12_leaves, .code yX12_brings cX12_brings 3 none, .methodLink RX12 294 yX12_brings, .instanceMethod yX12_brings, .selects RX12 yX12_brings yX12_brings, .methodLink RX12 307 yX12_sluices, .instanceMethod yX12_sluices, .selects RX12 yX12_sluices yX12_sluices, .code yX12_ditches cX12_ditches 5 none, .fieldLink RX12 16 "SeaLandModel" "moves" "[I", .fieldLink RX12 22 "SeaLandModel" "movesSalt" "[I", .fieldLink RX12 19 "SeaLandModel" "movesTo" "[I", .code yX12_hasDitch cX12_hasDitch 2 (some .boolean), .methodLink RX12 298 yX12_hasDitch, .instanceMethod yX12_hasDitch, .selects RX12 yX12_hasDitch yX12_hasDitch, .code yX12_beside cX12_beside 2 (some .int), .methodLink RX12 301 yX12_beside, .static yX12_beside, .methodLink RX12 310 yX12_ditches, .instanceMethod yX12_ditches, .selects RX12 yX12_ditches yX12_ditches, .code yX12_lifts cX12_lifts 7 none, .methodLink RX12 313 yX12_lifts, .instanceMethod yX12_lifts, .selects RX12 yX12_lifts yX12_lifts, .code yX12_dayEnds cX12_dayEnds 3 none, .methodLink RX12 316 yX12_dayEnds, .instanceMethod yX12_dayEnds, .selects RX12 yX12_dayEnds yX12_dayEnds, .code yX12_writesRow cX12_writesRow 2 none, .fieldLink RX12 238 "SeaLandModel" "rows" "I", .fieldLink RX12 25 "SeaLandModel" "rowTold" "[I", .fieldLink RX12 28 "SeaLandModel" "rowTrue" "[I", .methodLink RX12 319 yX12_writesRow, .instanceMethod yX12_writesRow, .selects RX12 yX12_writesRow yX12_writesRow, .code yX12_isDike cX12_isDike 2 (some .boolean), .methodLink RX12 272 yX12_isDike, .instanceMethod yX12_isDike, .selects RX12 yX12_isDike yX12_isDike, .code yX12_dikes cX12_dikes 6 none, .code yX12_seepOf cX12_seepOf 8 (some .int), .methodLink RX12 288 yX12_seepOf, .instanceMethod yX12_seepOf, .selects RX12 yX12_seepOf yX12_seepOf, .code yX12_crest cX12_crest 4 (some .int), .methodLink RX12 282 yX12_crest, .instanceMethod yX12_crest, .selects RX12 yX12_crest yX12_crest, .methodLink RX12 304 yX12_dikes, .instanceMethod yX12_dikes, .selects RX12 yX12_dikes yX12_dikes, .methodLink RX12 322 yX12_anHour, .instanceMethod yX12_anHour, .selects RX12 yX12_anHour yX12_anHour] bs)
set_option maxHeartbeats 4000000 in
set_option maxRecDepth 100000 in
theorem s_hoursE (l : Launch) (dC : Nat → ClassId) (dI : Nat → Nat → Nat) (kA : Nat → ClassId) (adK adV : Nat → Nat) (G : gT) (H0 : Heap) (q : Nat → Nat) (wZ wN : Nat → Int) (wH wB wC : Int) (wL wK : Nat → Prop) (wU wV : Nat → Nat) (PI : Nat → Int → Prop) (im : Int) (PM PT : Nat → Int → Prop) (lS lB lE : Nat → Nat → Int → Prop) (lN : Nat → Int) (o0 : Nat) (p0 : Int32)  (hT : gH (dC, dI) kA (SHm q (wP wZ0 wN wH wB wC wL wK wU wV) PI im PM PT lS lB lE lN) G H0) (hr_o0 : G o0 = some 0) (hgw : wG wC wL wK wU wV) (hn_ : ∀ i, 6500000 ≤ wN i ∧ wN i ≤ 6500000 + 340 * wH) (hb_ : wB ≤ 96 * wH) (hgz : ∀ i, 0 ≤ wZ i) (hgn : ∀ i, 6500000 ≤ wN i ∧ wN i ≤ 20200000) (hgh : 0 ≤ wH ∧ wH ≤ 40000) (hgb : 0 ≤ wB ∧ wB ≤ 3850000) (hgc : 0 ≤ wC ∧ wC ≤ 30) (hgi : 0 ≤ im ∧ im ≤ 1) (hgu : ∀ a t, G a = some (t + 1) → a = q t) : Met l yX12_hours w_s_hoursE ({ frames := 5, cells := 0, slots := 0, locals := 120 }) (va_Pc [.ref o0, .int p0] (fun U => U.heap = H0 ∧ va_K (dC, dI) vwCl (tyl kA) U ∧ EVS adK adV (gA G H0.size) U U.heap)) (va_Qi (fun (r : Int32) (u : Int32 × Int × (Nat → Int) × Int × (Nat → Int → Prop) × (Nat → Int → Prop)) => match u with | (t1, wH1, wN1, wB1, PM1, PT1) => (0 ≤ r.toInt ∧ r.toInt ≤ 40000) ∧ (0 ≤ wH1 ∧ wH1 ≤ 40000) ∧ (∀ i, 6500000 ≤ wN1 i ∧ wN1 i ≤ 6500000 + 340 * wH1) ∧ (0 ≤ wB1 ∧ wB1 ≤ 96 * wH1) ∧ (((0 ≤ p0.toInt ∧ p0.toInt ≤ 240) ∧ t1.toInt = 0 ∧ r.toInt = wH1 ∧ ((wH1 = wH + p0.toInt ∧ wH + p0.toInt ≤ 40000) ∨ (wH1 = 40000 ∧ 40000 ≤ wH + p0.toInt))) ∨ (¬ (0 ≤ p0.toInt ∧ p0.toInt ≤ 240) ∧ t1.toInt = 1 ∧ wH1 = wH))) (fun (u : Int32 × Int × (Nat → Int) × Int × (Nat → Int → Prop) × (Nat → Int → Prop)) (t : State) => match u with | (t1, wH1, wN1, wB1, PM1, PT1) => gH (dC, dI) kA (SHm q (wP wZ0 wN1 wH1 wB1 wC wL wK wU wV) PI im PM1 PT1 lS lB lE lN) G t.heap ∧ gF (dC, dI) SKm G ([(0, 0), (0, 9), (2, 0), (5, 0), (6, 0), (7, 0), (8, 0), (9, 0)] : List (Nat × Nat)) H0 t.heap ∧ el t.heap o0 (dI 15 0) = some (.int t1)) (gA G H0.size)) 0 0 (gA G H0.size) := by
  refine Met.ofW (cc := cX12_hours) (maxL := 3) (ret := (some .int)) (by decide) rfl ?_
  intro p e s m args below meth c s₁ B hml hv
  obtain ⟨rfl, hH0, hK, hE⟩ := hv
  have hx := B.exec
  have hb := B.bytes
  have hr := B.returns
  have hts := atoms_spec (ws := w_s_hoursE) B.pre
  have hown : s.vm.findClass RX12 = some m.cls := findClass_of_methodNamed B.named
  have hlocks := B.notSynchronized
  subst hH0
  generalize hAe : gA G s.heap.size = A at hE ⊢
  have hA : ∀ q : Nat, s.heap.size ≤ q → A q := fun q h => by rw [← hAe]; exact Or.inr h
  have hG := gA_of hAe
  have hS : va_S A s.heap s.heap [] := va_S.rf
  have hF : gF (dC, dI) SKm G ([(0, 0), (0, 9), (2, 0), (5, 0), (6, 0), (7, 0), (8, 0), (9, 0)] : List (Nat × Nat)) s.heap s.heap := gF.rf
  have hl := lv_entry ([.ref o0, .int p0]) (n := 3) (Nat.le_of_ble_eq_true rfl)
  rw [lg_entry_eq]
  generalize (lg_sl ([.ref o0, .int p0]) ++ List.replicate (3 - (lg_sl ([.ref o0, .int p0])).length) Slot.unset).toArray = ls at hl ⊢
  have hl : lv_has ls 3 [(0, .ref o0), (1, .int p0)] := hl
  refine lv_aload_n hx hb dX12_hours_0 rfl (lv_at hl 0 rfl) ?_
  refine lv_iconst (v := 0) hx hb dX12_hours_1 (by decide) ?_
  refine tw_put (v := .int 0) (ty := .int) hx hb hts bF_X12 tyX12 tyX12_ok nmX12 hown hK hT hG hS hr_o0 shm_0 rfl 0 (by decide) (ht_at hts 0 rfl) (fun _ h9 => h9) rfl (by decide +kernel) rfl rfl (gl_at rfl (gi_all _)) dX12_hours_2 (fun H locs hT oq m1 oj hS => ?_)
  have hF := hF.put hr_o0 skm_0 oq oj (by decide)
  refine lv_aload_n hx hb dX12_hours_5 rfl (lv_at hl 0 rfl) ?_
  refine lv_iload_n hx hb dX12_hours_6 rfl (lv_at hl 1 rfl) ?_
  refine lv_iconst (v := 0) hx hb dX12_hours_7 (by decide) ?_
  refine lv_sipush (v := 240) hx hb dX12_hours_8 (by decide) ?_
  have hFc := gA_free hG hA hS
  refine va_calli (va_runS (As := [.int p0, .int 0, .int 240]) (rest := [.ref o0]) ⟨hx, hb, hml, hown, hts⟩ (s_in l dC dI kA adK adV G H q wZ0 wN wH wB wC wL wK wU wV PI im PM PT lS lB lE lN p0 0 240 hT (fun _ => Int.le_refl 0) hgn hgh hgb hgc hgi hgu) (va_cwS 3 hts (goodIn_app (goodIn_r _ [3, 4, 5] rfl (by decide +kernel)) (goodIn_ca (goodIn_r _ [2] rfl (by decide +kernel)) (bs_in _ _))) rfl rfl rfl (by decide +kernel) ⟨(Nat.le_of_ble_eq_true rfl), (Nat.le_of_ble_eq_true rfl)⟩) ⟨fun a U g mk q => by obtain ⟨q0, q1, qK, qE⟩ := q; exact ⟨q0, q1, va_K.moved (u := U) (U := U.calling g mk a) (Vm.Alike.refl U.vm) qK, EVS.blind g mk a qE⟩, fun U hU hW => ⟨rfl, hU, va_K.moved hW.alike hK, hE.call hS hFc hU hW⟩⟩ rfl rfl hl.1 rfl (lv_room (Nat.le_of_ble_eq_true rfl)) dX12_hours_11 ⟨(Nat.le_of_ble_eq_true rfl), (Nat.le_of_ble_eq_true rfl)⟩) hS (fun q _ h => hFc q h) hFc (fun r2 u t H locs ht hvm hw3 hB _ _ hS => ?_)
  obtain ⟨hT, hF1⟩ := hB
  rw [ht] at hT hF1
  have m4 := (hF1.fld hr_o0 skm_0 (k := 0) (by decide) (by decide)).trans m1
  have hF := hF.more hF1 (by decide)
  try dsimp only at hw3
  obtain ⟨h5, hi6, hi7⟩ := hw3
  refine lv_if_ne (tgt := 21) hx hb dX12_hours_14 (by decide) (fun c8 => ?_) (fun c8 => ?_)
  · have t9 : r2.toInt ≠ 0 := ti_ne c8 rfl (by decide)
    have t10 : (0 : Int32).toInt = 0 := by decide
    have t11 : (240 : Int32).toInt = 240 := by decide
    have t12 : (0 : Int32).toInt ≤ p0.toInt ∧ p0.toInt ≤ (240 : Int32).toInt := hi6 ((bit_of ⟨by omega, by omega⟩).resolve_left c8)
    refine lv_iconst (v := 0) hx hb dX12_hours_21 (by decide) ?_
    refine lv_iconst (v := 1) hx hb dX12_hours_22 (by decide) ?_
    have hFc := gA_free hG hA hS
    refine va_calli (va_runV (As := [.int 0, .int 1]) (rest := []) ⟨hx, hb, hml, hown, hts⟩ (s_throwsIfP l dC dI kA adK adV G H q wZ0 wN wH wB wC wL wK wU wV PI im PM PT lS lB lE lN o0 0 1 0 hT hr_o0 m4 (rg_t (a := 0) (by decide) (by first | decide | omega) (by first | decide | omega)) (fun _ => Int.le_refl 0) hgn hgh hgb hgc hgi hgu) (cwV 2 hts (goodIn_app (goodIn_r _ [7, 8, 9, 5] rfl (by decide +kernel)) (goodIn_ca (goodIn_r _ [6, 1] rfl (by decide +kernel)) (bs_in _ _))) rfl rfl rfl (by decide +kernel) ⟨(Nat.le_of_ble_eq_true rfl), (Nat.le_of_ble_eq_true rfl)⟩) ⟨fun a U g mk q => by obtain ⟨q0, q1, qK, qE⟩ := q; exact ⟨q0, q1, va_K.moved (u := U) (U := U.calling g mk a) (Vm.Alike.refl U.vm) qK, EVS.blind g mk a qE⟩, gH_rc hK hT hr_o0 shm_0 rfl, fun U hU hW => ⟨rfl, hU, va_K.moved hW.alike hK, hE.call hS hFc hU hW⟩⟩ rfl rfl hl.1 rfl (lv_room (Nat.le_of_ble_eq_true rfl)) dX12_hours_23 ⟨(Nat.le_of_ble_eq_true rfl), (Nat.le_of_ble_eq_true rfl)⟩) hS (fun q _ h => hFc q h) hFc (fun r13 u t H locs ht hvm hw14 hB _ _ hS => ?_)
    obtain ⟨u15, rfl⟩ : ∃ z, z = u := ⟨_, rfl⟩
    obtain ⟨hT, hF1, m16⟩ := hB
    rw [ht] at hT hF1 m16
    have hF := hF.more hF1 (by decide)
    try dsimp only at hw14
    obtain ⟨h18, hf19, hd20⟩ := hw14
    have t21 : (0 : Int32).toInt = 0 := by decide
    have t22 : (1 : Int32).toInt = 1 := by decide
    have t23 : (0 : Int32).toInt = 0 := by decide
    obtain rfl : (0 : Int32) = r13 := hd20.symm
    refine lv_if_eq (tgt := 31) hx hb dX12_hours_26 (by decide) (fun c24 => ?_) (fun c24 => absurd c24 (by decide))
    refine lv_iconst (v := 0) hx hb dX12_hours_31 (by decide) ?_
    refine lv_istore_n (lv' := [(2, .int 0), (0, .ref o0), (1, .int p0)]) hx hb dX12_hours_32 rfl hl (by decide) rfl (fun ls hl => ?_)
    have key66 : ∀ (n66 i25 : Nat), i25 + n66 = 240 → 0 ≤ i25 → ∀ (gwN26 : Nat → Int), ∀ (gwH27 : Int), ∀ (gwB28 : Int), ∀ (gPM29 : Nat → Int → Prop), ∀ (gPT30 : Nat → Int → Prop), ((∀ i, 6500000 ≤ gwN26 i ∧ gwN26 i ≤ 6500000 + 340 * gwH27) ∧ (0 ≤ gwH27 ∧ gwH27 ≤ 40000) ∧ (0 ≤ gwB28 ∧ gwB28 ≤ 96 * gwH27) ∧ (gwH27 = wH + ((i25 : Nat) : Int) ∧ ((i25 : Nat) : Int) ≤ p0.toInt)) → ∀ (H : Heap) (locs : List Loc), gH (dC, dI) kA (SHm q (wP wZ0 gwN26 gwH27 gwB28 wC wL wK wU wV) PI im gPM29 gPT30 lS lB lE lN) G H → gF (dC, dI) SKm G ([(0, 0), (0, 9), (2, 0), (5, 0), (6, 0), (7, 0), (8, 0), (9, 0)] : List (Nat × Nat)) s.heap H → va_S A s.heap H locs → el H o0 (dI 15 0) = some (.int u15) → ∀ ls : Array Slot, lv_has ls 3 [(2, .int (nI i25)), (0, .ref o0), (1, .int p0)] → W p l e (headSpec w_s_hoursE ({ frames := 5, cells := 0, slots := 0, locals := 120 })).room s m #[.ref o0, .int p0] below meth c H locs 0 0 (MQ below (va_Qi (fun (r : Int32) (u : Int32 × Int × (Nat → Int) × Int × (Nat → Int → Prop) × (Nat → Int → Prop)) => match u with | (t1, wH1, wN1, wB1, PM1, PT1) => (0 ≤ r.toInt ∧ r.toInt ≤ 40000) ∧ (0 ≤ wH1 ∧ wH1 ≤ 40000) ∧ (∀ i, 6500000 ≤ wN1 i ∧ wN1 i ≤ 6500000 + 340 * wH1) ∧ (0 ≤ wB1 ∧ wB1 ≤ 96 * wH1) ∧ (((0 ≤ p0.toInt ∧ p0.toInt ≤ 240) ∧ t1.toInt = 0 ∧ r.toInt = wH1 ∧ ((wH1 = wH + p0.toInt ∧ wH + p0.toInt ≤ 40000) ∨ (wH1 = 40000 ∧ 40000 ≤ wH + p0.toInt))) ∨ (¬ (0 ≤ p0.toInt ∧ p0.toInt ≤ 240) ∧ t1.toInt = 1 ∧ wH1 = wH))) (fun (u : Int32 × Int × (Nat → Int) × Int × (Nat → Int → Prop) × (Nat → Int → Prop)) (t : State) => match u with | (t1, wH1, wN1, wB1, PM1, PT1) => gH (dC, dI) kA (SHm q (wP wZ0 wN1 wH1 wB1 wC wL wK wU wV) PI im PM1 PT1 lS lB lE lN) G t.heap ∧ gF (dC, dI) SKm G ([(0, 0), (0, 9), (2, 0), (5, 0), (6, 0), (7, 0), (8, 0), (9, 0)] : List (Nat × Nat)) s.heap t.heap ∧ el t.heap o0 (dI 15 0) = some (.int t1)) A) #[.ref o0, .int p0] s 0 0 A) (F0 m 33 ls []) := by
      intro n66
      induction n66 with
      | zero =>
        intro i25 hn66 hlo67 gwN26 gwH27 gwB28 gPM29 gPT30 ⟨hg32, hg33, hg34, hj35⟩ H locs hT hF hS m31 ls hl
        obtain rfl : 240 = i25 := by omega
        have t68 : ∀ i, 6500000 ≤ gwN26 i ∧ gwN26 i ≤ 20200000 := fun i => by have q8 := hg32 i; omega
        refine lv_iload_n hx hb dX12_hours_33 rfl (lv_at hl 0 rfl) ?_
        refine lv_iload_n hx hb dX12_hours_34 rfl (lv_at hl 2 rfl) ?_
        refine lv_icmp_ge (tgt := 57) hx hb dX12_hours_35 (by decide) (fun c69 => ?_) (fun c69 => (by exfalso; have q9 : ((240 : Nat) : Int) < p0.toInt := ti_nle c69 rfl (nI_toInt (by omega)); omega))
        have t70 : p0.toInt ≤ ((240 : Nat) : Int) := ti_le c69 rfl (nI_toInt (by omega))
        refine lv_aload_n hx hb dX12_hours_57 rfl (lv_at hl 1 rfl) ?_
        have hFc := gA_free hG hA hS
        refine va_calli (va_runV (As := []) (rest := []) ⟨hx, hb, hml, hown, hts⟩ (s_hour l dC dI kA adK adV G H q wZ0 gwN26 gwH27 gwB28 wC wL wK wU wV PI im gPM29 gPT30 lS lB lE lN o0 hT hr_o0 (fun _ => Int.le_refl 0) t68 hg33 (by omega) (by omega) (by omega) hgu) (cwV 0 hts (goodIn_app (goodIn_r _ [12, 13, 14, 5] rfl (by decide +kernel)) (goodIn_ca (goodIn_r _ [10, 11] rfl (by decide +kernel)) (bs_in _ _))) rfl rfl rfl (by decide +kernel) ⟨(Nat.le_of_ble_eq_true rfl), (Nat.le_of_ble_eq_true rfl)⟩) ⟨fun a U g mk q => by obtain ⟨q0, q1, qK, qE⟩ := q; exact ⟨q0, q1, va_K.moved (u := U) (U := U.calling g mk a) (Vm.Alike.refl U.vm) qK, EVS.blind g mk a qE⟩, gH_rc hK hT hr_o0 shm_0 rfl, fun U hU hW => ⟨rfl, hU, va_K.moved hW.alike hK, hE.call hS hFc hU hW⟩⟩ rfl rfl hl.1 rfl (lv_room (Nat.le_of_ble_eq_true rfl)) dX12_hours_58 ⟨(Nat.le_of_ble_eq_true rfl), (Nat.le_of_ble_eq_true rfl)⟩) hS (fun q _ h => hFc q h) hFc (fun r71 u t H locs ht hvm hw72 hB _ _ hS => ?_)
        obtain ⟨hT, hF1⟩ := hB
        rw [ht] at hT hF1
        have m73 := (hF1.fld hr_o0 skm_0 (k := 0) (by decide) (by decide)).trans m31
        have hF := hF.more hF1 (by decide)
        try dsimp only at hw72
        obtain ⟨h74, hf75⟩ := hw72
        exact W.iret (v := r71) hx hb hr (fun t ht hW => ⟨⟨r71, (u15, gwH27, gwN26, gwB28, gPM29, gPT30), rfl, (by exact ⟨(by have q8 := ti_all r71; omega), (by omega), hg32, (by omega), (by have q0 : (0 : Int32).toInt = 0 := (by decide); have q1 : (1 : Int32).toInt = 1 := (by decide); omega)⟩), by (try dsimp only); rw [ht]; exact ⟨hT, hF, m73⟩⟩, hS.F ht⟩) hS.2.2 dX12_hours_61
      | succ n66 ih66 =>
        intro i25 hn66 hlo67 gwN26 gwH27 gwB28 gPM29 gPT30 ⟨hg32, hg33, hg34, hj35⟩ H locs hT hF hS m31 ls hl
        have hlt75 : i25 < 240 := by omega
        have t76 : ∀ i, 6500000 ≤ gwN26 i ∧ gwN26 i ≤ 20200000 := fun i => by have q8 := hg32 i; omega
        refine lv_iload_n hx hb dX12_hours_33 rfl (lv_at hl 0 rfl) ?_
        refine lv_iload_n hx hb dX12_hours_34 rfl (lv_at hl 2 rfl) ?_
        refine lv_icmp_ge (tgt := 57) hx hb dX12_hours_35 (by decide) (fun c77 => ?_) (fun c77 => ?_)
        · have t78 : p0.toInt ≤ ((i25 : Nat) : Int) := ti_le c77 rfl (nI_toInt (by omega))
          refine lv_aload_n hx hb dX12_hours_57 rfl (lv_at hl 1 rfl) ?_
          have hFc := gA_free hG hA hS
          refine va_calli (va_runV (As := []) (rest := []) ⟨hx, hb, hml, hown, hts⟩ (s_hour l dC dI kA adK adV G H q wZ0 gwN26 gwH27 gwB28 wC wL wK wU wV PI im gPM29 gPT30 lS lB lE lN o0 hT hr_o0 (fun _ => Int.le_refl 0) t76 hg33 (by omega) (by omega) (by omega) hgu) (cwV 0 hts (goodIn_app (goodIn_r _ [12, 13, 14, 5] rfl (by decide +kernel)) (goodIn_ca (goodIn_r _ [10, 11] rfl (by decide +kernel)) (bs_in _ _))) rfl rfl rfl (by decide +kernel) ⟨(Nat.le_of_ble_eq_true rfl), (Nat.le_of_ble_eq_true rfl)⟩) ⟨fun a U g mk q => by obtain ⟨q0, q1, qK, qE⟩ := q; exact ⟨q0, q1, va_K.moved (u := U) (U := U.calling g mk a) (Vm.Alike.refl U.vm) qK, EVS.blind g mk a qE⟩, gH_rc hK hT hr_o0 shm_0 rfl, fun U hU hW => ⟨rfl, hU, va_K.moved hW.alike hK, hE.call hS hFc hU hW⟩⟩ rfl rfl hl.1 rfl (lv_room (Nat.le_of_ble_eq_true rfl)) dX12_hours_58 ⟨(Nat.le_of_ble_eq_true rfl), (Nat.le_of_ble_eq_true rfl)⟩) hS (fun q _ h => hFc q h) hFc (fun r79 u t H locs ht hvm hw80 hB _ _ hS => ?_)
          obtain ⟨hT, hF1⟩ := hB
          rw [ht] at hT hF1
          have m81 := (hF1.fld hr_o0 skm_0 (k := 0) (by decide) (by decide)).trans m31
          have hF := hF.more hF1 (by decide)
          try dsimp only at hw80
          obtain ⟨h82, hf83⟩ := hw80
          exact W.iret (v := r79) hx hb hr (fun t ht hW => ⟨⟨r79, (u15, gwH27, gwN26, gwB28, gPM29, gPT30), rfl, (by exact ⟨(by have q8 := ti_all r79; omega), (by omega), hg32, (by omega), (by have q0 : (0 : Int32).toInt = 0 := (by decide); have q1 : (1 : Int32).toInt = 1 := (by decide); omega)⟩), by (try dsimp only); rw [ht]; exact ⟨hT, hF, m81⟩⟩, hS.F ht⟩) hS.2.2 dX12_hours_61
        · have t84 : ((i25 : Nat) : Int) < p0.toInt := ti_nle c77 rfl (nI_toInt (by omega))
          refine lv_aload_n hx hb dX12_hours_38 rfl (lv_at hl 1 rfl) ?_
          have hFc := gA_free hG hA hS
          refine va_calli (va_runV (As := []) (rest := []) ⟨hx, hb, hml, hown, hts⟩ (s_hour l dC dI kA adK adV G H q wZ0 gwN26 gwH27 gwB28 wC wL wK wU wV PI im gPM29 gPT30 lS lB lE lN o0 hT hr_o0 (fun _ => Int.le_refl 0) t76 hg33 (by omega) (by omega) (by omega) hgu) (cwV 0 hts (goodIn_app (goodIn_r _ [12, 13, 14, 5] rfl (by decide +kernel)) (goodIn_ca (goodIn_r _ [10, 11] rfl (by decide +kernel)) (bs_in _ _))) rfl rfl rfl (by decide +kernel) ⟨(Nat.le_of_ble_eq_true rfl), (Nat.le_of_ble_eq_true rfl)⟩) ⟨fun a U g mk q => by obtain ⟨q0, q1, qK, qE⟩ := q; exact ⟨q0, q1, va_K.moved (u := U) (U := U.calling g mk a) (Vm.Alike.refl U.vm) qK, EVS.blind g mk a qE⟩, gH_rc hK hT hr_o0 shm_0 rfl, fun U hU hW => ⟨rfl, hU, va_K.moved hW.alike hK, hE.call hS hFc hU hW⟩⟩ rfl rfl hl.1 rfl (lv_room (Nat.le_of_ble_eq_true rfl)) dX12_hours_39 ⟨(Nat.le_of_ble_eq_true rfl), (Nat.le_of_ble_eq_true rfl)⟩) hS (fun q _ h => hFc q h) hFc (fun r85 u t H locs ht hvm hw86 hB _ _ hS => ?_)
          obtain ⟨hT, hF1⟩ := hB
          rw [ht] at hT hF1
          have m87 := (hF1.fld hr_o0 skm_0 (k := 0) (by decide) (by decide)).trans m31
          have hF := hF.more hF1 (by decide)
          try dsimp only at hw86
          obtain ⟨h88, hf89⟩ := hw86
          refine lv_ldc (v := 40000) hx hb hown (ht_at hts 14 rfl) dX12_hours_42 ?_
          refine lv_icmp_ge (tgt := 57) hx hb dX12_hours_44 (by decide) (fun c90 => ?_) (fun c90 => ?_)
          · have t91 : 40000 ≤ r85.toInt := ti_le c90 (by decide) rfl
            refine lv_aload_n hx hb dX12_hours_57 rfl (lv_at hl 1 rfl) ?_
            have hFc := gA_free hG hA hS
            refine va_calli (va_runV (As := []) (rest := []) ⟨hx, hb, hml, hown, hts⟩ (s_hour l dC dI kA adK adV G H q wZ0 gwN26 gwH27 gwB28 wC wL wK wU wV PI im gPM29 gPT30 lS lB lE lN o0 hT hr_o0 (fun _ => Int.le_refl 0) t76 hg33 (by omega) (by omega) (by omega) hgu) (cwV 0 hts (goodIn_app (goodIn_r _ [12, 13, 14, 5] rfl (by decide +kernel)) (goodIn_ca (goodIn_r _ [10, 11] rfl (by decide +kernel)) (bs_in _ _))) rfl rfl rfl (by decide +kernel) ⟨(Nat.le_of_ble_eq_true rfl), (Nat.le_of_ble_eq_true rfl)⟩) ⟨fun a U g mk q => by obtain ⟨q0, q1, qK, qE⟩ := q; exact ⟨q0, q1, va_K.moved (u := U) (U := U.calling g mk a) (Vm.Alike.refl U.vm) qK, EVS.blind g mk a qE⟩, gH_rc hK hT hr_o0 shm_0 rfl, fun U hU hW => ⟨rfl, hU, va_K.moved hW.alike hK, hE.call hS hFc hU hW⟩⟩ rfl rfl hl.1 rfl (lv_room (Nat.le_of_ble_eq_true rfl)) dX12_hours_58 ⟨(Nat.le_of_ble_eq_true rfl), (Nat.le_of_ble_eq_true rfl)⟩) hS (fun q _ h => hFc q h) hFc (fun r92 u t H locs ht hvm hw93 hB _ _ hS => ?_)
            obtain ⟨hT, hF1⟩ := hB
            rw [ht] at hT hF1
            have m94 := (hF1.fld hr_o0 skm_0 (k := 0) (by decide) (by decide)).trans m87
            have hF := hF.more hF1 (by decide)
            try dsimp only at hw93
            obtain ⟨h95, hf96⟩ := hw93
            exact W.iret (v := r92) hx hb hr (fun t ht hW => ⟨⟨r92, (u15, gwH27, gwN26, gwB28, gPM29, gPT30), rfl, (by exact ⟨(by have q8 := ti_all r92; omega), (by omega), hg32, (by omega), (by have q0 : (0 : Int32).toInt = 0 := (by decide); have q1 : (1 : Int32).toInt = 1 := (by decide); omega)⟩), by (try dsimp only); rw [ht]; exact ⟨hT, hF, m94⟩⟩, hS.F ht⟩) hS.2.2 dX12_hours_61
          · have t97 : r85.toInt < 40000 := ti_nle c90 (by decide) rfl
            refine lv_aload_n hx hb dX12_hours_47 rfl (lv_at hl 1 rfl) ?_
            have hFc := gA_free hG hA hS
            refine va_callv (va_runV (As := []) (rest := []) ⟨hx, hb, hml, hown, hts⟩ (s_anHour l dC dI kA adK adV G H q wZ0 gwN26 gwH27 gwB28 wC wL wK wU wV PI im gPM29 gPT30 lS lB lE lN o0 hT hr_o0 (by assumption) hg32 (by omega) (by omega) (fun _ => Int.le_refl 0) t76 hg33 (by omega) (by omega) (by omega) hgu) (cwV 0 hts (goodIn_app (goodIn_r _ [112, 113, 114, 5] rfl (by decide +kernel)) (goodIn_ca (goodIn_r _ [16, 11, 10, 12, 13, 14, 5, 17, 2, 3, 4, 18, 19, 20, 21, 22, 23, 24, 25, 26, 27, 28, 29, 30, 31, 32, 33, 34, 35, 36, 37, 38, 39, 40, 41, 42, 43, 44, 45, 46, 47, 48, 49, 50, 51, 52, 53, 54, 55, 56, 57, 58, 59, 60, 61, 62, 63, 64, 65, 66, 67, 68, 69, 70, 71, 72, 73, 74, 75, 76, 77, 78, 79, 80, 81, 82, 83, 84, 85, 86, 87, 88, 89, 90, 91, 92, 93, 94, 95, 96, 97, 98, 99, 100, 101, 102, 103, 104, 105, 106, 107, 108, 109, 110, 111] rfl (by decide +kernel)) (bs_in _ _))) rfl rfl rfl (by decide +kernel) ⟨(Nat.le_of_ble_eq_true rfl), (Nat.le_of_ble_eq_true rfl)⟩) ⟨fun a U g mk q => by obtain ⟨q0, q1, qK, qE⟩ := q; exact ⟨q0, q1, va_K.moved (u := U) (U := U.calling g mk a) (Vm.Alike.refl U.vm) qK, EVS.blind g mk a qE⟩, gH_rc hK hT hr_o0 shm_0 rfl, fun U hU hW => ⟨rfl, hU, va_K.moved hW.alike hK, hE.call hS hFc hU hW⟩⟩ rfl rfl hl.1 rfl (lv_room (Nat.le_of_ble_eq_true rfl)) dX12_hours_48 ⟨(Nat.le_of_ble_eq_true rfl), (Nat.le_of_ble_eq_true rfl)⟩) hS (fun q _ h => hFc q h) hFc (fun u t H locs ht hvm hw99 hB _ _ hS => ?_)
            obtain ⟨u100, u101, u102, u103⟩ := u
            obtain ⟨hT, hF1⟩ := hB
            rw [ht] at hT hF1
            have m104 := (hF1.fld hr_o0 skm_0 (k := 0) (by decide) (by decide)).trans m87
            have hF := hF.more hF1 (by decide)
            try dsimp only at hw99
            obtain ⟨hf105, hf106⟩ := hw99
            refine lv_iinc (v := nI (i25 + 1)) (lv' := [(2, .int (nI (i25 + 1))), (0, .ref o0), (1, .int p0)]) hx hb dX12_hours_51 hl (k := 0) rfl (nI_add i25 1) (by decide) rfl (fun ls hl => ?_)
            refine lv_goto (tgt := 33) hx hb dX12_hours_54 (by decide) ?_
            exact ih66 (i25 + 1) (by omega) (by omega) u100 (gwH27 + 1) u101 u102 u103 ⟨hf105, (by omega), (by omega), (by omega)⟩ _ _ hT hF hS m104 ls (lv_sub hl [0, 1, 2] rfl)
    exact key66 (240 - 0) 0 (by omega) (Nat.le_refl _) wN wH wB PM PT ⟨hn_, (by omega), (by omega), (by omega)⟩ _ _ hT hF hS m16 ls (lv_sub hl [0, 1, 2] rfl)
  · have t107 : r2.toInt = 0 := ti_eq c8 rfl (by decide)
    have t108 : (0 : Int32).toInt = 0 := by decide
    have t109 : (240 : Int32).toInt = 240 := by decide
    have t110 : p0.toInt < (0 : Int32).toInt ∨ (240 : Int32).toInt < p0.toInt := hi7 c8
    refine lv_iconst (v := 1) hx hb dX12_hours_17 (by decide) ?_
    refine lv_goto (tgt := 22) hx hb dX12_hours_18 (by decide) ?_
    refine lv_iconst (v := 1) hx hb dX12_hours_22 (by decide) ?_
    have hFc := gA_free hG hA hS
    refine va_calli (va_runV (As := [.int 1, .int 1]) (rest := []) ⟨hx, hb, hml, hown, hts⟩ (s_throwsIfP l dC dI kA adK adV G H q wZ0 wN wH wB wC wL wK wU wV PI im PM PT lS lB lE lN o0 1 1 0 hT hr_o0 m4 (rg_t (a := 1) (by decide) (by first | decide | omega) (by first | decide | omega)) (fun _ => Int.le_refl 0) hgn hgh hgb hgc hgi hgu) (cwV 2 hts (goodIn_app (goodIn_r _ [7, 8, 9, 5] rfl (by decide +kernel)) (goodIn_ca (goodIn_r _ [6, 1] rfl (by decide +kernel)) (bs_in _ _))) rfl rfl rfl (by decide +kernel) ⟨(Nat.le_of_ble_eq_true rfl), (Nat.le_of_ble_eq_true rfl)⟩) ⟨fun a U g mk q => by obtain ⟨q0, q1, qK, qE⟩ := q; exact ⟨q0, q1, va_K.moved (u := U) (U := U.calling g mk a) (Vm.Alike.refl U.vm) qK, EVS.blind g mk a qE⟩, gH_rc hK hT hr_o0 shm_0 rfl, fun U hU hW => ⟨rfl, hU, va_K.moved hW.alike hK, hE.call hS hFc hU hW⟩⟩ rfl rfl hl.1 rfl (lv_room (Nat.le_of_ble_eq_true rfl)) dX12_hours_23 ⟨(Nat.le_of_ble_eq_true rfl), (Nat.le_of_ble_eq_true rfl)⟩) hS (fun q _ h => hFc q h) hFc (fun r111 u t H locs ht hvm hw112 hB _ _ hS => ?_)
    obtain ⟨u113, rfl⟩ : ∃ z, z = u := ⟨_, rfl⟩
    obtain ⟨hT, hF1, m114⟩ := hB
    rw [ht] at hT hF1 m114
    have hF := hF.more hF1 (by decide)
    try dsimp only at hw112
    obtain ⟨h116, hf117, hd118⟩ := hw112
    have t119 : (1 : Int32).toInt = 1 := by decide
    have t120 : (1 : Int32).toInt = 1 := by decide
    have t121 : (0 : Int32).toInt = 0 := by decide
    obtain rfl : (1 : Int32) = r111 := hd118.symm
    refine lv_if_eq (tgt := 31) hx hb dX12_hours_26 (by decide) (fun c122 => absurd c122 (by decide)) (fun c122 => ?_)
    refine lv_iconst (v := 0) hx hb dX12_hours_29 (by decide) ?_
    exact W.iret (v := 0) hx hb hr (fun t ht hW => ⟨⟨0, (u113, wH, wN, wB, PM, PT), rfl, (by exact ⟨(rg_t (a := 0) (by decide) (by first | decide | omega) (by first | decide | omega)), (by omega), hn_, (by omega), (by have q0 : (0 : Int32).toInt = 0 := (by decide); have q1 : (1 : Int32).toInt = 1 := (by decide); omega)⟩), by (try dsimp only); rw [ht]; exact ⟨hT, hF, m114⟩⟩, hS.F ht⟩) hS.2.2 dX12_hours_30
def w_s_keepE : List Cond := .code yX12_keep cX12_keep 2 (some .boolean) :: (HAppend.hAppend (α := List Cond) (β := List Cond) (γ := List Cond) [.fieldLink RX12 194 "SeaLandModel" "thrown" "I", .code yX12_hour cX12_hour 1 (some .int), .fieldLink RX12 9 "SeaLandModel" "world" "[I", .methodLink RX12 228 yX12_hour, .instanceMethod yX12_hour, .selects RX12 yX12_hour yX12_hour, .initialized RX12, .fieldLink RX12 325 "SeaLandModel" "hasImage" "Z", .fieldLink RX12 13 "SeaLandModel" "image" "[I"] bs)
set_option maxHeartbeats 4000000 in
set_option maxRecDepth 100000 in
theorem s_keepE (l : Launch) (dC : Nat → ClassId) (dI : Nat → Nat → Nat) (kA : Nat → ClassId) (adK adV : Nat → Nat) (G : gT) (H0 : Heap) (q : Nat → Nat) (wZ wN : Nat → Int) (wH wB wC : Int) (wL wK : Nat → Prop) (wU wV : Nat → Nat) (PI : Nat → Int → Prop) (im : Int) (PM PT : Nat → Int → Prop) (lS lB lE : Nat → Nat → Int → Prop) (lN : Nat → Int) (o0 : Nat) (him : Int32)  (hT : gH (dC, dI) kA (SHm q (wP wZ0 wN wH wB wC wL wK wU wV) PI im PM PT lS lB lE lN) G H0) (hr_o0 : G o0 = some 0) (hm_him : el H0 o0 (dI 15 3) = some (.int him)) (hq0 : 0 ≤ him.toInt ∧ him.toInt ≤ 1) (hgz : ∀ i, 0 ≤ wZ i) (hgn : ∀ i, 6500000 ≤ wN i ∧ wN i ≤ 20200000) (hgh : 0 ≤ wH ∧ wH ≤ 40000) (hgb : 0 ≤ wB ∧ wB ≤ 3850000) (hgc : 0 ≤ wC ∧ wC ≤ 30) (hgi : 0 ≤ im ∧ im ≤ 1) (hgu : ∀ a t, G a = some (t + 1) → a = q t) : Met l yX12_keep w_s_keepE ({ frames := 1, cells := 0, slots := 0, locals := 20 }) (va_Pc [.ref o0] (fun U => U.heap = H0 ∧ va_K (dC, dI) vwCl (tyl kA) U ∧ EVS adK adV (gA G H0.size) U U.heap)) (va_Qi (fun (r : Int32) (u : Int32 × (Nat → Int → Prop)) => match u with | (h1, PI1) => (0 ≤ r.toInt ∧ r.toInt ≤ 1) ∧ ((wH = 0 ∧ r.toInt = 0 ∧ h1.toInt = him.toInt ∧ PI1 = PI) ∨ (wH ≠ 0 ∧ r.toInt = 1 ∧ h1.toInt = 1 ∧ PI1 = (wP wZ0 wN wH wB wC wL wK wU wV)))) (fun (u : Int32 × (Nat → Int → Prop)) (t : State) => match u with | (h1, PI1) => gH (dC, dI) kA (SHm q (wP wZ0 wN wH wB wC wL wK wU wV) PI1 im PM PT lS lB lE lN) G t.heap ∧ gF (dC, dI) SKm G ([(0, 0), (0, 3), (3, 0)] : List (Nat × Nat)) H0 t.heap ∧ el t.heap o0 (dI 15 3) = some (.int h1)) (gA G H0.size)) 0 0 (gA G H0.size) := by
  refine Met.ofW (cc := cX12_keep) (maxL := 2) (ret := (some .boolean)) (by decide) rfl ?_
  intro p e s m args below meth c s₁ B hml hv
  obtain ⟨rfl, hH0, hK, hE⟩ := hv
  have hx := B.exec
  have hb := B.bytes
  have hr := B.returns
  have hts := atoms_spec (ws := w_s_keepE) B.pre
  have hown : s.vm.findClass RX12 = some m.cls := findClass_of_methodNamed B.named
  have hlocks := B.notSynchronized
  subst hH0
  generalize hAe : gA G s.heap.size = A at hE ⊢
  have hA : ∀ q : Nat, s.heap.size ≤ q → A q := fun q h => by rw [← hAe]; exact Or.inr h
  have hG := gA_of hAe
  have hS : va_S A s.heap s.heap [] := va_S.rf
  have hF : gF (dC, dI) SKm G ([(0, 0), (0, 3), (3, 0)] : List (Nat × Nat)) s.heap s.heap := gF.rf
  have hl := lv_entry ([.ref o0]) (n := 2) (Nat.le_of_ble_eq_true rfl)
  rw [lg_entry_eq]
  generalize (lg_sl ([.ref o0]) ++ List.replicate (2 - (lg_sl ([.ref o0])).length) Slot.unset).toArray = ls at hl ⊢
  have hl : lv_has ls 2 [(0, .ref o0)] := hl
  refine lv_aload_n hx hb dX12_keep_0 rfl (lv_at hl 0 rfl) ?_
  refine lv_iconst (v := 0) hx hb dX12_keep_1 (by decide) ?_
  refine tw_put (v := .int 0) (ty := .int) hx hb hts bF_X12 tyX12 tyX12_ok nmX12 hown hK hT hG hS hr_o0 shm_0 rfl 0 (by decide) (ht_at hts 0 rfl) (fun _ h9 => h9) rfl (by decide +kernel) rfl rfl (gl_at rfl (gi_all _)) dX12_keep_2 (fun H locs hT oq m1 oj hS => ?_)
  have hF := hF.put hr_o0 skm_0 oq oj (by decide)
  have m2 := (oj 3 (by decide) (by decide)).trans hm_him
  refine lv_aload_n hx hb dX12_keep_5 rfl (lv_at hl 0 rfl) ?_
  have hFc := gA_free hG hA hS
  refine va_calli (va_runV (As := []) (rest := []) ⟨hx, hb, hml, hown, hts⟩ (s_hour l dC dI kA adK adV G H q wZ0 wN wH wB wC wL wK wU wV PI im PM PT lS lB lE lN o0 hT hr_o0 (fun _ => Int.le_refl 0) hgn hgh hgb hgc hgi hgu) (cwV 0 hts (goodIn_app (goodIn_r _ [4, 5, 6, 7] rfl (by decide +kernel)) (goodIn_ca (goodIn_r _ [2, 3] rfl (by decide +kernel)) (bs_in _ _))) rfl rfl rfl (by decide +kernel) ⟨(Nat.le_of_ble_eq_true rfl), (Nat.le_of_ble_eq_true rfl)⟩) ⟨fun a U g mk q => by obtain ⟨q0, q1, qK, qE⟩ := q; exact ⟨q0, q1, va_K.moved (u := U) (U := U.calling g mk a) (Vm.Alike.refl U.vm) qK, EVS.blind g mk a qE⟩, gH_rc hK hT hr_o0 shm_0 rfl, fun U hU hW => ⟨rfl, hU, va_K.moved hW.alike hK, hE.call hS hFc hU hW⟩⟩ rfl rfl hl.1 rfl (lv_room (Nat.le_of_ble_eq_true rfl)) dX12_keep_6 ⟨(Nat.le_of_ble_eq_true rfl), (Nat.le_of_ble_eq_true rfl)⟩) hS (fun q _ h => hFc q h) hFc (fun r3 u t H locs ht hvm hw4 hB _ _ hS => ?_)
  obtain ⟨hT, hF1⟩ := hB
  rw [ht] at hT hF1
  have m5 := (hF1.fld hr_o0 skm_0 (k := 3) (by decide) (by decide)).trans m2
  have m6 := (hF1.fld hr_o0 skm_0 (k := 0) (by decide) (by decide)).trans m1
  have hF := hF.more hF1 (by decide)
  try dsimp only at hw4
  obtain ⟨h7, hf8⟩ := hw4
  refine lv_if_ne (tgt := 14) hx hb dX12_keep_9 (by decide) (fun c9 => ?_) (fun c9 => ?_)
  · have t10 : r3.toInt ≠ 0 := ti_ne c9 rfl (by decide)
    refine lv_iconst (v := 0) hx hb dX12_keep_14 (by decide) ?_
    refine lv_istore_n (lv' := [(1, .int 0), (0, .ref o0)]) hx hb dX12_keep_15 rfl hl (by decide) rfl (fun ls hl => ?_)
    have key27 : ∀ (n27 i11 : Nat), i11 + n27 = 1749 → 0 ≤ i11 → ∀ (H : Heap) (locs : List Loc), gH (dC, dI) kA (SHm q (wP wZ0 wN wH wB wC wL wK wU wV) (pcP (wP wZ0 wN wH wB wC wL wK wU wV) PI i11) im PM PT lS lB lE lN) G H → gF (dC, dI) SKm G ([(0, 0), (0, 3), (3, 0)] : List (Nat × Nat)) s.heap H → va_S A s.heap H locs → el H o0 (dI 15 3) = some (.int him) → el H o0 (dI 15 0) = some (.int 0) → ∀ ls : Array Slot, lv_has ls 2 [(1, .int (nI i11)), (0, .ref o0)] → W p l e (headSpec w_s_keepE ({ frames := 1, cells := 0, slots := 0, locals := 20 })).room s m #[.ref o0] below meth c H locs 0 0 (MQ below (va_Qi (fun (r : Int32) (u : Int32 × (Nat → Int → Prop)) => match u with | (h1, PI1) => (0 ≤ r.toInt ∧ r.toInt ≤ 1) ∧ ((wH = 0 ∧ r.toInt = 0 ∧ h1.toInt = him.toInt ∧ PI1 = PI) ∨ (wH ≠ 0 ∧ r.toInt = 1 ∧ h1.toInt = 1 ∧ PI1 = (wP wZ0 wN wH wB wC wL wK wU wV)))) (fun (u : Int32 × (Nat → Int → Prop)) (t : State) => match u with | (h1, PI1) => gH (dC, dI) kA (SHm q (wP wZ0 wN wH wB wC wL wK wU wV) PI1 im PM PT lS lB lE lN) G t.heap ∧ gF (dC, dI) SKm G ([(0, 0), (0, 3), (3, 0)] : List (Nat × Nat)) s.heap t.heap ∧ el t.heap o0 (dI 15 3) = some (.int h1)) A) #[.ref o0] s 0 0 A) (F0 m 16 ls []) := by
      intro n27
      induction n27 with
      | zero =>
        intro i11 hn27 hlo28  H locs hT hF hS m12 m13 ls hl
        obtain rfl : 1749 = i11 := by omega
        refine lv_iload_n hx hb dX12_keep_16 rfl (lv_at hl 0 rfl) ?_
        refine lv_sipush (v := 1749) hx hb dX12_keep_17 (by decide) ?_
        refine lv_icmp_ge (tgt := 41) hx hb dX12_keep_20 (by decide) (fun c29 => ?_) (fun c29 => (by exfalso; have q9 : ((1749 : Nat) : Int) < 1749 := ti_nle c29 (by decide) (nI_toInt (by omega)); omega))
        have t30 : 1749 ≤ ((1749 : Nat) : Int) := ti_le c29 (by decide) (nI_toInt (by omega))
        have hT : gH (dC, dI) kA (SHm q (wP wZ0 wN wH wB wC wL wK wU wV) (wP wZ0 wN wH wB wC wL wK wU wV) im PM PT lS lB lE lN) G H := SHm_mono hT (fun _ _ _ z => z) (fun _ hi _ p => pc_all hi p) (fun _ _ z => z) (fun _ _ z => z) (fun _ _ _ _ z => z) (fun _ _ _ _ z => z) (fun _ _ _ _ z => z) (fun _ => Int.le_refl _)
        refine lv_aload_n hx hb dX12_keep_41 rfl (lv_at hl 1 rfl) ?_
        refine lv_iconst (v := 1) hx hb dX12_keep_42 (by decide) ?_
        refine tw_put (v := .int 1) (ty := .boolean) hx hb hts bF_X12 tyX12 tyX12_ok nmX12 hown hK hT hG hS hr_o0 shm_0 rfl 3 (by decide) (ht_at hts 7 rfl) (fun _ h9 => h9) rfl (by decide +kernel) rfl rfl (gl_at rfl (gi_of (show (1 : Int32).toInt = 1 from (by decide)) (by first | decide | omega) (by first | decide | omega))) dX12_keep_43 (fun H locs hT oq m31 oj hS => ?_)
        have hF := hF.put hr_o0 skm_0 oq oj (by decide)
        refine lv_iconst (v := 1) hx hb dX12_keep_46 (by decide) ?_
        exact W.zret (v := 1) hx hb hr (by decide) (fun t ht hW => ⟨⟨1, ((1 : Int32), (wP wZ0 wN wH wB wC wL wK wU wV)), rfl, (by exact ⟨(rg_t (a := 1) (by decide) (by first | decide | omega) (by first | decide | omega)), (Or.inr ⟨by omega, by decide, by decide, rfl⟩)⟩), by (try dsimp only); rw [ht]; exact ⟨hT, hF, m31⟩⟩, hS.F ht⟩) hS.2.2 dX12_keep_47
      | succ n27 ih27 =>
        intro i11 hn27 hlo28  H locs hT hF hS m12 m13 ls hl
        have hlt32 : i11 < 1749 := by omega
        refine lv_iload_n hx hb dX12_keep_16 rfl (lv_at hl 0 rfl) ?_
        refine lv_sipush (v := 1749) hx hb dX12_keep_17 (by decide) ?_
        refine lv_icmp_ge (tgt := 41) hx hb dX12_keep_20 (by decide) (fun c33 => (by exfalso; have q9 : 1749 ≤ ((i11 : Nat) : Int) := ti_le c33 (by decide) (nI_toInt (by omega)); omega)) (fun c33 => ?_)
        have t34 : ((i11 : Nat) : Int) < 1749 := ti_nle c33 (by decide) (nI_toInt (by omega))
        refine lv_aload_n hx hb dX12_keep_23 rfl (lv_at hl 1 rfl) ?_
        refine tw_get hx hb hts bF_X12 hown hK hT hr_o0 shm_0 rfl 2 (by decide) (ht_at hts 8 rfl) (fun _ h9 => h9) dX12_keep_24 (fun v9 m35 h9 => ?_)
        obtain ⟨rfl, hg36⟩ := h9 _ rfl
        refine lv_iload_n hx hb dX12_keep_27 rfl (lv_at hl 0 rfl) ?_
        refine lv_aload_n hx hb dX12_keep_28 rfl (lv_at hl 1 rfl) ?_
        refine tw_get hx hb hts bF_X12 hown hK hT hr_o0 shm_0 rfl 1 (by decide) (ht_at hts 2 rfl) (fun _ h9 => h9) dX12_keep_29 (fun v9 m37 h9 => ?_)
        obtain ⟨rfl, hg38⟩ := h9 _ rfl
        refine lv_iload_n hx hb dX12_keep_32 rfl (lv_at hl 0 rfl) ?_
        refine tw_iald (i := (nI i11)) hx hb hK hT hg38 shm_2 rfl (vp_in_nI (by omega) (by decide)) dX12_keep_33 (fun v9 m39 h9 => ?_)
        obtain ⟨x40, rfl, gx40, kx40⟩ := (gp_any h9)
        have t41 : (nI i11).toNatClampNeg = i11 := tn_nI (by omega)
        refine tw_iast2 (Sg1 := (SHm q (wP wZ0 wN wH wB wC wL wK wU wV) (pcP (wP wZ0 wN wH wB wC wL wK wU wV) PI (i11 + 1)) im PM PT lS lB lE lN)) (i := (nI i11)) (x := x40) hx hb hK hT hG hS hg36 shm_3 rfl shm_3 shm_o3 (fun b9 h9 => hgu b9 2 h9) (vp_in_nI (by omega) (by decide)) (⟨_, rfl, by rw [show (nI i11).toNatClampNeg = i11 from tn_nI (by omega)]; exact pc_at (by have q8 := wq_l hT hg38 (by have q9 := tn_of (show (nI i11).toInt = ((i11 : Nat) : Int) from (nI_toInt (by omega))) (by omega); omega) m39; rw [show (nI i11).toNatClampNeg = i11 from tn_nI (by omega)] at q8; exact q8)⟩) (fun k9 hk9 hne9 v9 hv9 he9 => by obtain ⟨x9, rfl, p9⟩ := he9; exact ⟨x9, rfl, pc_st (by omega) p9⟩) dX12_keep_34 (fun H locs hT oq m42 oi hS => ?_)
        have hF := hF.ast hg36 skm_3 oq (by decide)
        have m43 := (el_kept (oq _ (gne hr_o0 hg36 (by decide)))).trans m12
        have m44 := (el_kept (oq _ (gne hr_o0 hg36 (by decide)))).trans m13
        refine lv_iinc (v := nI (i11 + 1)) (lv' := [(1, .int (nI (i11 + 1))), (0, .ref o0)]) hx hb dX12_keep_35 hl (k := 0) rfl (nI_add i11 1) (by decide) rfl (fun ls hl => ?_)
        refine lv_goto (tgt := 16) hx hb dX12_keep_38 (by decide) ?_
        exact ih27 (i11 + 1) (by omega) (by omega) _ _ hT hF hS m43 m44 ls (lv_sub hl [0, 1] rfl)
    have hT : gH (dC, dI) kA (SHm q (wP wZ0 wN wH wB wC wL wK wU wV) (pcP (wP wZ0 wN wH wB wC wL wK wU wV) PI 0) im PM PT lS lB lE lN) G H := SHm_mono hT (fun _ _ _ z => z) (fun _ _ _ p => pc_0 p) (fun _ _ z => z) (fun _ _ z => z) (fun _ _ _ _ z => z) (fun _ _ _ _ z => z) (fun _ _ _ _ z => z) (fun _ => Int.le_refl _)
    exact key27 (1749 - 0) 0 (by omega) (Nat.le_refl _) _ _ hT hF hS m5 m6 ls (lv_sub hl [0, 1] rfl)
  · have t46 : r3.toInt = 0 := ti_eq c9 rfl (by decide)
    refine lv_iconst (v := 0) hx hb dX12_keep_12 (by decide) ?_
    exact W.zret (v := 0) hx hb hr (by decide) (fun t ht hW => ⟨⟨0, (him, PI), rfl, (by exact ⟨(rg_t (a := 0) (by decide) (by first | decide | omega) (by first | decide | omega)), (Or.inl ⟨by omega, by decide, by omega, rfl⟩)⟩), by (try dsimp only); rw [ht]; exact ⟨hT, hF, m5⟩⟩, hS.F ht⟩) hS.2.2 dX12_keep_13
def w_s_backE : List Cond := .code yX12_back cX12_back 2 (some .boolean) :: (HAppend.hAppend (α := List Cond) (β := List Cond) (γ := List Cond) [.fieldLink RX12 194 "SeaLandModel" "thrown" "I", .fieldLink RX12 325 "SeaLandModel" "hasImage" "Z", .fieldLink RX12 13 "SeaLandModel" "image" "[I", .code yX12_hour cX12_hour 1 (some .int), .fieldLink RX12 9 "SeaLandModel" "world" "[I", .methodLink RX12 228 yX12_hour, .instanceMethod yX12_hour, .selects RX12 yX12_hour yX12_hour, .initialized RX12, .fieldLink RX12 238 "SeaLandModel" "rows" "I"] bs)
set_option maxHeartbeats 4000000 in
set_option maxRecDepth 100000 in
theorem s_backE (l : Launch) (dC : Nat → ClassId) (dI : Nat → Nat → Nat) (kA : Nat → ClassId) (adK adV : Nat → Nat) (G : gT) (H0 : Heap) (q : Nat → Nat) (wZ wN : Nat → Int) (wH wB wC : Int) (wL wK : Nat → Prop) (wU wV : Nat → Nat) (PI : Nat → Int → Prop) (im : Int) (PM PT : Nat → Int → Prop) (lS lB lE : Nat → Nat → Int → Prop) (lN : Nat → Int) (o0 : Nat) (him : Int32) (vN : Nat → Int) (vH vB vC : Int) (vL vK : Nat → Prop) (vU vV : Nat → Nat) (hT : gH (dC, dI) kA (SHm q (wP wZ0 wN wH wB wC wL wK wU wV) (wP wZ0 vN vH vB vC vL vK vU vV) im PM PT lS lB lE lN) G H0) (hr_o0 : G o0 = some 0) (hm_him : el H0 o0 (dI 15 3) = some (.int him)) (hq0 : 0 ≤ him.toInt ∧ him.toInt ≤ 1) (hgz : ∀ i, 0 ≤ wZ i) (hgn : ∀ i, 6500000 ≤ wN i ∧ wN i ≤ 20200000) (hgh : 0 ≤ wH ∧ wH ≤ 40000) (hgb : 0 ≤ wB ∧ wB ≤ 3850000) (hgc : 0 ≤ wC ∧ wC ≤ 30) (hgi : 0 ≤ im ∧ im ≤ 1) (hgu : ∀ a t, G a = some (t + 1) → a = q t) : Met l yX12_back w_s_backE ({ frames := 1, cells := 0, slots := 0, locals := 20 }) (va_Pc [.ref o0] (fun U => U.heap = H0 ∧ va_K (dC, dI) vwCl (tyl kA) U ∧ EVS adK adV (gA G H0.size) U U.heap)) (va_Qi (fun (r : Int32) (u : (Nat → Int) × Int × Int × Int × (Nat → Prop) × (Nat → Prop) × (Nat → Nat) × (Nat → Nat)) => match u with | (wN1, wH1, wB1, wC1, wL1, wK1, wU1, wV1) => (0 ≤ r.toInt ∧ r.toInt ≤ 1) ∧ (((him.toInt = 0 ∨ wH < vH) ∧ r.toInt = 0 ∧ wN1 = wN ∧ wH1 = wH ∧ wB1 = wB ∧ wC1 = wC ∧ wL1 = wL ∧ wK1 = wK ∧ wU1 = wU ∧ wV1 = wV) ∨ (him.toInt = 1 ∧ vH ≤ wH ∧ r.toInt = 1 ∧ wN1 = vN ∧ wH1 = vH ∧ wB1 = vB ∧ wC1 = vC ∧ wL1 = vL ∧ wK1 = vK ∧ wU1 = vU ∧ wV1 = vV))) (fun (u : (Nat → Int) × Int × Int × Int × (Nat → Prop) × (Nat → Prop) × (Nat → Nat) × (Nat → Nat)) (t : State) => match u with | (wN1, wH1, wB1, wC1, wL1, wK1, wU1, wV1) => gH (dC, dI) kA (SHm q (wP wZ0 wN1 wH1 wB1 wC1 wL1 wK1 wU1 wV1) (wP wZ0 vN vH vB vC vL vK vU vV) im PM PT lS lB lE lN) G t.heap ∧ gF (dC, dI) SKm G ([(0, 0), (0, 9), (2, 0)] : List (Nat × Nat)) H0 t.heap) (gA G H0.size)) 0 0 (gA G H0.size) := by
  refine Met.ofW (cc := cX12_back) (maxL := 2) (ret := (some .boolean)) (by decide) rfl ?_
  intro p e s m args below meth c s₁ B hml hv
  obtain ⟨rfl, hH0, hK, hE⟩ := hv
  have hx := B.exec
  have hb := B.bytes
  have hr := B.returns
  have hts := atoms_spec (ws := w_s_backE) B.pre
  have hown : s.vm.findClass RX12 = some m.cls := findClass_of_methodNamed B.named
  have hlocks := B.notSynchronized
  subst hH0
  generalize hAe : gA G s.heap.size = A at hE ⊢
  have hA : ∀ q : Nat, s.heap.size ≤ q → A q := fun q h => by rw [← hAe]; exact Or.inr h
  have hG := gA_of hAe
  have hS : va_S A s.heap s.heap [] := va_S.rf
  have hF : gF (dC, dI) SKm G ([(0, 0), (0, 9), (2, 0)] : List (Nat × Nat)) s.heap s.heap := gF.rf
  have hl := lv_entry ([.ref o0]) (n := 2) (Nat.le_of_ble_eq_true rfl)
  rw [lg_entry_eq]
  generalize (lg_sl ([.ref o0]) ++ List.replicate (2 - (lg_sl ([.ref o0])).length) Slot.unset).toArray = ls at hl ⊢
  have hl : lv_has ls 2 [(0, .ref o0)] := hl
  refine lv_aload_n hx hb dX12_back_0 rfl (lv_at hl 0 rfl) ?_
  refine lv_iconst (v := 0) hx hb dX12_back_1 (by decide) ?_
  refine tw_put (v := .int 0) (ty := .int) hx hb hts bF_X12 tyX12 tyX12_ok nmX12 hown hK hT hG hS hr_o0 shm_0 rfl 0 (by decide) (ht_at hts 0 rfl) (fun _ h9 => h9) rfl (by decide +kernel) rfl rfl (gl_at rfl (gi_all _)) dX12_back_2 (fun H locs hT oq m1 oj hS => ?_)
  have hF := hF.put hr_o0 skm_0 oq oj (by decide)
  have m2 := (oj 3 (by decide) (by decide)).trans hm_him
  refine lv_aload_n hx hb dX12_back_5 rfl (lv_at hl 0 rfl) ?_
  refine tw_getM (v := .int him) hx hb hts bF_X12 hown hK hT hr_o0 shm_0 rfl 3 (by decide) (ht_at hts 1 rfl) (fun _ h9 => h9) m2 dX12_back_6 ?_
  refine lv_if_eq (tgt := 27) hx hb dX12_back_9 (by decide) (fun c3 => ?_) (fun c3 => ?_)
  · have t4 : him.toInt = 0 := ti_eq c3 rfl (by decide)
    refine lv_iconst (v := 0) hx hb dX12_back_27 (by decide) ?_
    exact W.zret (v := 0) hx hb hr (by decide) (fun t ht hW => ⟨⟨0, (wN, wH, wB, wC, wL, wK, wU, wV), rfl, (by exact ⟨(rg_t (a := 0) (by decide) (by first | decide | omega) (by first | decide | omega)), (Or.inl ⟨by omega, by decide, rfl, rfl, rfl, rfl, rfl, rfl, rfl, rfl⟩)⟩), by (try dsimp only); rw [ht]; exact ⟨hT, hF⟩⟩, hS.F ht⟩) hS.2.2 dX12_back_28
  · have t5 : him.toInt ≠ 0 := ti_ne c3 rfl (by decide)
    refine lv_aload_n hx hb dX12_back_12 rfl (lv_at hl 0 rfl) ?_
    refine tw_get hx hb hts bF_X12 hown hK hT hr_o0 shm_0 rfl 2 (by decide) (ht_at hts 2 rfl) (fun _ h9 => h9) dX12_back_13 (fun v9 m6 h9 => ?_)
    obtain ⟨rfl, hg7⟩ := h9 _ rfl
    refine lv_sipush (v := 1429) hx hb dX12_back_16 (by decide) ?_
    refine tw_iald (i := 1429) hx hb hK hT hg7 shm_3 rfl (by unfold vp_in; decide) dX12_back_19 (fun v9 m8 h9 => ?_)
    obtain ⟨x9, rfl, gx9, kx9⟩ := (gp_any h9)
    have q7 := gq_at hT hg7 shm_3 (by decide) m8
    have q6 := w_hou (z := wZ0) (n := vN) (h := vH) (b := vB) (c := vC) (i := (1429 : Int32).toNatClampNeg) (by decide)
    have t10 : vH ≤ x9.toInt ∧ x9.toInt ≤ vH := ⟨by rw [← q6.1]; exact q7.1, by rw [← q6.2]; exact q7.2.1⟩
    refine lv_aload_n hx hb dX12_back_20 rfl (lv_at hl 0 rfl) ?_
    have hFc := gA_free hG hA hS
    refine va_calli (va_runV (As := []) (rest := [.int x9]) ⟨hx, hb, hml, hown, hts⟩ (s_hour l dC dI kA adK adV G H q wZ0 wN wH wB wC wL wK wU wV (wP wZ0 vN vH vB vC vL vK vU vV) im PM PT lS lB lE lN o0 hT hr_o0 (fun _ => Int.le_refl 0) hgn hgh hgb hgc hgi hgu) (cwV 0 hts (goodIn_app (goodIn_r _ [6, 7, 8, 9] rfl (by decide +kernel)) (goodIn_ca (goodIn_r _ [4, 5] rfl (by decide +kernel)) (bs_in _ _))) rfl rfl rfl (by decide +kernel) ⟨(Nat.le_of_ble_eq_true rfl), (Nat.le_of_ble_eq_true rfl)⟩) ⟨fun a U g mk q => by obtain ⟨q0, q1, qK, qE⟩ := q; exact ⟨q0, q1, va_K.moved (u := U) (U := U.calling g mk a) (Vm.Alike.refl U.vm) qK, EVS.blind g mk a qE⟩, gH_rc hK hT hr_o0 shm_0 rfl, fun U hU hW => ⟨rfl, hU, va_K.moved hW.alike hK, hE.call hS hFc hU hW⟩⟩ rfl rfl hl.1 rfl (lv_room (Nat.le_of_ble_eq_true rfl)) dX12_back_21 ⟨(Nat.le_of_ble_eq_true rfl), (Nat.le_of_ble_eq_true rfl)⟩) hS (fun q _ h => hFc q h) hFc (fun r11 u t H locs ht hvm hw12 hB _ _ hS => ?_)
    obtain ⟨hT, hF1⟩ := hB
    rw [ht] at hT hF1
    have m13 := (hF1.fld hr_o0 skm_0 (k := 3) (by decide) (by decide)).trans m2
    have m14 := (hF1.fld hr_o0 skm_0 (k := 0) (by decide) (by decide)).trans m1
    have m15 := (el_kept (hF1.arr hg7 skm_3 (by decide))).trans m8
    have hF := hF.more hF1 (by decide)
    try dsimp only at hw12
    obtain ⟨h16, hf17⟩ := hw12
    refine lv_icmp_le (tgt := 29) hx hb dX12_back_24 (by decide) (fun c18 => ?_) (fun c18 => ?_)
    · have t19 : x9.toInt ≤ r11.toInt := ti_le c18 rfl rfl
      refine lv_iconst (v := 0) hx hb dX12_back_29 (by decide) ?_
      refine lv_istore_n (lv' := [(1, .int 0), (0, .ref o0)]) hx hb dX12_back_30 rfl hl (by decide) rfl (fun ls hl => ?_)
      have key38 : ∀ (n38 i20 : Nat), i20 + n38 = 1749 → 0 ≤ i20 → ∀ (H : Heap) (locs : List Loc), gH (dC, dI) kA (SHm q (pcP (wP wZ0 vN vH vB vC vL vK vU vV) (wP wZ0 wN wH wB wC wL wK wU wV) i20) (wP wZ0 vN vH vB vC vL vK vU vV) im PM PT lS lB lE lN) G H → gF (dC, dI) SKm G ([(0, 0), (0, 9), (2, 0)] : List (Nat × Nat)) s.heap H → va_S A s.heap H locs → el H o0 (dI 15 3) = some (.int him) → el H o0 (dI 15 0) = some (.int 0) → el H (q 2) (1429 : Int32).toNatClampNeg = some (.int x9) → ∀ ls : Array Slot, lv_has ls 2 [(1, .int (nI i20)), (0, .ref o0)] → W p l e (headSpec w_s_backE ({ frames := 1, cells := 0, slots := 0, locals := 20 })).room s m #[.ref o0] below meth c H locs 0 0 (MQ below (va_Qi (fun (r : Int32) (u : (Nat → Int) × Int × Int × Int × (Nat → Prop) × (Nat → Prop) × (Nat → Nat) × (Nat → Nat)) => match u with | (wN1, wH1, wB1, wC1, wL1, wK1, wU1, wV1) => (0 ≤ r.toInt ∧ r.toInt ≤ 1) ∧ (((him.toInt = 0 ∨ wH < vH) ∧ r.toInt = 0 ∧ wN1 = wN ∧ wH1 = wH ∧ wB1 = wB ∧ wC1 = wC ∧ wL1 = wL ∧ wK1 = wK ∧ wU1 = wU ∧ wV1 = wV) ∨ (him.toInt = 1 ∧ vH ≤ wH ∧ r.toInt = 1 ∧ wN1 = vN ∧ wH1 = vH ∧ wB1 = vB ∧ wC1 = vC ∧ wL1 = vL ∧ wK1 = vK ∧ wU1 = vU ∧ wV1 = vV))) (fun (u : (Nat → Int) × Int × Int × Int × (Nat → Prop) × (Nat → Prop) × (Nat → Nat) × (Nat → Nat)) (t : State) => match u with | (wN1, wH1, wB1, wC1, wL1, wK1, wU1, wV1) => gH (dC, dI) kA (SHm q (wP wZ0 wN1 wH1 wB1 wC1 wL1 wK1 wU1 wV1) (wP wZ0 vN vH vB vC vL vK vU vV) im PM PT lS lB lE lN) G t.heap ∧ gF (dC, dI) SKm G ([(0, 0), (0, 9), (2, 0)] : List (Nat × Nat)) s.heap t.heap) A) #[.ref o0] s 0 0 A) (F0 m 31 ls []) := by
        intro n38
        induction n38 with
        | zero =>
          intro i20 hn38 hlo39  H locs hT hF hS m21 m22 m23 ls hl
          obtain rfl : 1749 = i20 := by omega
          refine lv_iload_n hx hb dX12_back_31 rfl (lv_at hl 0 rfl) ?_
          refine lv_sipush (v := 1749) hx hb dX12_back_32 (by decide) ?_
          refine lv_icmp_ge (tgt := 56) hx hb dX12_back_35 (by decide) (fun c40 => ?_) (fun c40 => (by exfalso; have q9 : ((1749 : Nat) : Int) < 1749 := ti_nle c40 (by decide) (nI_toInt (by omega)); omega))
          have t41 : 1749 ≤ ((1749 : Nat) : Int) := ti_le c40 (by decide) (nI_toInt (by omega))
          have hT : gH (dC, dI) kA (SHm q (wP wZ0 vN vH vB vC vL vK vU vV) (wP wZ0 vN vH vB vC vL vK vU vV) im PM PT lS lB lE lN) G H := SHm_w hT (fun _ hi _ p => pc_all hi p)
          refine lv_aload_n hx hb dX12_back_56 rfl (lv_at hl 1 rfl) ?_
          refine lv_iconst (v := 0) hx hb dX12_back_57 (by decide) ?_
          refine tw_put (v := .int 0) (ty := .int) hx hb hts bF_X12 tyX12 tyX12_ok nmX12 hown hK hT hG hS hr_o0 shm_0 rfl 9 (by decide) (ht_at hts 9 rfl) (fun _ h9 => h9) rfl (by decide +kernel) rfl rfl (gl_at rfl (gi_of (show (0 : Int32).toInt = 0 from (by decide)) (by first | decide | omega) (by first | decide | omega))) dX12_back_58 (fun H locs hT oq m42 oj hS => ?_)
          have hF := hF.put hr_o0 skm_0 oq oj (by decide)
          refine lv_iconst (v := 1) hx hb dX12_back_61 (by decide) ?_
          exact W.zret (v := 1) hx hb hr (by decide) (fun t ht hW => ⟨⟨1, (vN, vH, vB, vC, vL, vK, vU, vV), rfl, (by exact ⟨(rg_t (a := 1) (by decide) (by first | decide | omega) (by first | decide | omega)), (Or.inr ⟨by omega, by omega, by decide, rfl, rfl, rfl, rfl, rfl, rfl, rfl, rfl⟩)⟩), by (try dsimp only); rw [ht]; exact ⟨hT, hF⟩⟩, hS.F ht⟩) hS.2.2 dX12_back_62
        | succ n38 ih38 =>
          intro i20 hn38 hlo39  H locs hT hF hS m21 m22 m23 ls hl
          have hlt45 : i20 < 1749 := by omega
          refine lv_iload_n hx hb dX12_back_31 rfl (lv_at hl 0 rfl) ?_
          refine lv_sipush (v := 1749) hx hb dX12_back_32 (by decide) ?_
          refine lv_icmp_ge (tgt := 56) hx hb dX12_back_35 (by decide) (fun c46 => (by exfalso; have q9 : 1749 ≤ ((i20 : Nat) : Int) := ti_le c46 (by decide) (nI_toInt (by omega)); omega)) (fun c46 => ?_)
          have t47 : ((i20 : Nat) : Int) < 1749 := ti_nle c46 (by decide) (nI_toInt (by omega))
          refine lv_aload_n hx hb dX12_back_38 rfl (lv_at hl 1 rfl) ?_
          refine tw_get hx hb hts bF_X12 hown hK hT hr_o0 shm_0 rfl 1 (by decide) (ht_at hts 4 rfl) (fun _ h9 => h9) dX12_back_39 (fun v9 m48 h9 => ?_)
          obtain ⟨rfl, hg49⟩ := h9 _ rfl
          refine lv_iload_n hx hb dX12_back_42 rfl (lv_at hl 0 rfl) ?_
          refine lv_aload_n hx hb dX12_back_43 rfl (lv_at hl 1 rfl) ?_
          refine tw_get hx hb hts bF_X12 hown hK hT hr_o0 shm_0 rfl 2 (by decide) (ht_at hts 2 rfl) (fun _ h9 => h9) dX12_back_44 (fun v9 m50 h9 => ?_)
          obtain ⟨rfl, hg51⟩ := h9 _ rfl
          refine lv_iload_n hx hb dX12_back_47 rfl (lv_at hl 0 rfl) ?_
          refine tw_iald (i := (nI i20)) hx hb hK hT hg7 shm_3 rfl (vp_in_nI (by omega) (by decide)) dX12_back_48 (fun v9 m52 h9 => ?_)
          obtain ⟨x53, rfl, gx53, kx53⟩ := (gp_any h9)
          have t54 : (nI i20).toNatClampNeg = i20 := tn_nI (by omega)
          refine tw_iast2 (Sg1 := (SHm q (pcP (wP wZ0 vN vH vB vC vL vK vU vV) (wP wZ0 wN wH wB wC wL wK wU wV) (i20 + 1)) (wP wZ0 vN vH vB vC vL vK vU vV) im PM PT lS lB lE lN)) (i := (nI i20)) (x := x53) hx hb hK hT hG hS hg49 shm_2 rfl shm_2 shm_o2 (fun b9 h9 => hgu b9 1 h9) (vp_in_nI (by omega) (by decide)) (⟨_, rfl, by rw [show (nI i20).toNatClampNeg = i20 from tn_nI (by omega)]; exact pc_at (by have q8 := gq_at hT hg7 shm_3 (by have q9 := tn_of (show (nI i20).toInt = ((i20 : Nat) : Int) from (nI_toInt (by omega))) (by omega); omega) m52; rw [show (nI i20).toNatClampNeg = i20 from tn_nI (by omega)] at q8; exact q8)⟩) (fun k9 hk9 hne9 v9 hv9 he9 => by obtain ⟨x9, rfl, p9⟩ := he9; exact ⟨x9, rfl, pc_st (by omega) p9⟩) dX12_back_49 (fun H locs hT oq m55 oi hS => ?_)
          have hF := hF.ast hg49 skm_2 oq (by decide)
          have m56 := (el_kept (oq _ (gne hr_o0 hg49 (by decide)))).trans m21
          have m57 := (el_kept (oq _ (gne hr_o0 hg49 (by decide)))).trans m22
          have m58 := (el_kept (oq _ (gne hg7 hg49 (by decide)))).trans m23
          refine lv_iinc (v := nI (i20 + 1)) (lv' := [(1, .int (nI (i20 + 1))), (0, .ref o0)]) hx hb dX12_back_50 hl (k := 0) rfl (nI_add i20 1) (by decide) rfl (fun ls hl => ?_)
          refine lv_goto (tgt := 31) hx hb dX12_back_53 (by decide) ?_
          exact ih38 (i20 + 1) (by omega) (by omega) _ _ hT hF hS m56 m57 m58 ls (lv_sub hl [0, 1] rfl)
      have hT : gH (dC, dI) kA (SHm q (pcP (wP wZ0 vN vH vB vC vL vK vU vV) (wP wZ0 wN wH wB wC wL wK wU wV) 0) (wP wZ0 vN vH vB vC vL vK vU vV) im PM PT lS lB lE lN) G H := SHm_w hT (fun _ _ _ p => pc_0 p)
      exact key38 (1749 - 0) 0 (by omega) (Nat.le_refl _) _ _ hT hF hS m13 m14 m15 ls (lv_sub hl [0, 1] rfl)
    · have t60 : r11.toInt < x9.toInt := ti_nle c18 rfl rfl
      refine lv_iconst (v := 0) hx hb dX12_back_27 (by decide) ?_
      exact W.zret (v := 0) hx hb hr (by decide) (fun t ht hW => ⟨⟨0, (wN, wH, wB, wC, wL, wK, wU, wV), rfl, (by exact ⟨(rg_t (a := 0) (by decide) (by first | decide | omega) (by first | decide | omega)), (Or.inl ⟨by omega, by decide, rfl, rfl, rfl, rfl, rfl, rfl, rfl, rfl⟩)⟩), by (try dsimp only); rw [ht]; exact ⟨hT, hF⟩⟩, hS.F ht⟩) hS.2.2 dX12_back_28
def w_s_isInE : List Cond := .code yX12_isIn cX12_isIn 5 (some .boolean) :: (HAppend.hAppend (α := List Cond) (β := List Cond) (γ := List Cond) [.methodLink RX12 207 Lib.Math.min.name, .static Lib.Math.min.name, .initialized "java/lang/Math", .code Lib.Math.min.name Lib.Math.min.code 2 (some .int), .methodLink RX12 211 Lib.Math.max.name, .static Lib.Math.max.name, .code Lib.Math.max.name Lib.Math.max.code 2 (some .int), .code yX12_in cX12_in 3 (some .boolean), .methodLink RX12 197 yX12_in, .static yX12_in, .initialized RX12] bs)
set_option maxHeartbeats 4000000 in
set_option maxRecDepth 100000 in
theorem s_isInE (l : Launch) (dC : Nat → ClassId) (dI : Nat → Nat → Nat) (kA : Nat → ClassId) (adK adV : Nat → Nat) (G : gT) (H0 : Heap) (q : Nat → Nat) (wZ wN : Nat → Int) (wH wB wC : Int) (wL wK : Nat → Prop) (wU wV : Nat → Nat) (PI : Nat → Int → Prop) (im : Int) (PM PT : Nat → Int → Prop) (lS lB lE : Nat → Nat → Int → Prop) (lN : Nat → Int) (sq : Int32) (a1 : Int32) (a2 : Int32)  (hT : gH (dC, dI) kA (SHm q (wP wZ wN wH wB wC wL wK wU wV) PI im PM PT lS lB lE lN) G H0) (hq0 : 0 ≤ sq.toInt ∧ sq.toInt ≤ 95) (hq1 : 0 ≤ a1.toInt ∧ a1.toInt ≤ 95) (hq2 : 0 ≤ a2.toInt ∧ a2.toInt ≤ 95) (hgz : ∀ i, 0 ≤ wZ i) (hgn : ∀ i, 6500000 ≤ wN i ∧ wN i ≤ 20200000) (hgh : 0 ≤ wH ∧ wH ≤ 40000) (hgb : 0 ≤ wB ∧ wB ≤ 3850000) (hgc : 0 ≤ wC ∧ wC ≤ 30) (hgi : 0 ≤ im ∧ im ≤ 1) (hgu : ∀ a t, G a = some (t + 1) → a = q t) : Met l yX12_isIn w_s_isInE ({ frames := 1, cells := 0, slots := 0, locals := 40 }) (va_Pc [.int sq, .int a1, .int a2] (fun U => U.heap = H0 ∧ va_K (dC, dI) vwCl (tyl kA) U ∧ EVS adK adV (gA G H0.size) U U.heap)) (va_Qi (fun (r : Int32) (u : Unit) => (0 ≤ r.toInt ∧ r.toInt ≤ 1) ∧ ((r.toInt = 1 ∧ (((a1.toInt % 12 ≤ sq.toInt % 12 ∨ a2.toInt % 12 ≤ sq.toInt % 12) ∧ (sq.toInt % 12 ≤ a1.toInt % 12 ∨ sq.toInt % 12 ≤ a2.toInt % 12)) ∧ ((a1.toInt / 12 ≤ sq.toInt / 12 ∨ a2.toInt / 12 ≤ sq.toInt / 12) ∧ (sq.toInt / 12 ≤ a1.toInt / 12 ∨ sq.toInt / 12 ≤ a2.toInt / 12)))) ∨ (r.toInt = 0 ∧ ¬ (((a1.toInt % 12 ≤ sq.toInt % 12 ∨ a2.toInt % 12 ≤ sq.toInt % 12) ∧ (sq.toInt % 12 ≤ a1.toInt % 12 ∨ sq.toInt % 12 ≤ a2.toInt % 12)) ∧ ((a1.toInt / 12 ≤ sq.toInt / 12 ∨ a2.toInt / 12 ≤ sq.toInt / 12) ∧ (sq.toInt / 12 ≤ a1.toInt / 12 ∨ sq.toInt / 12 ≤ a2.toInt / 12)))))) (fun (_ : Unit) (t : State) => gH (dC, dI) kA (SHm q (wP wZ wN wH wB wC wL wK wU wV) PI im PM PT lS lB lE lN) G t.heap ∧ gF (dC, dI) SKm G ([] : List (Nat × Nat)) H0 t.heap) (gA G H0.size)) 0 0 (gA G H0.size) := by
  refine Met.ofW (cc := cX12_isIn) (maxL := 5) (ret := (some .boolean)) (by decide) rfl ?_
  intro p e s m args below meth c s₁ B hml hv
  obtain ⟨rfl, hH0, hK, hE⟩ := hv
  have hx := B.exec
  have hb := B.bytes
  have hr := B.returns
  have hts := atoms_spec (ws := w_s_isInE) B.pre
  have hown : s.vm.findClass RX12 = some m.cls := findClass_of_methodNamed B.named
  have hlocks := B.notSynchronized
  subst hH0
  generalize hAe : gA G s.heap.size = A at hE ⊢
  have hA : ∀ q : Nat, s.heap.size ≤ q → A q := fun q h => by rw [← hAe]; exact Or.inr h
  have hG := gA_of hAe
  have hS : va_S A s.heap s.heap [] := va_S.rf
  have hF : gF (dC, dI) SKm G ([] : List (Nat × Nat)) s.heap s.heap := gF.rf
  have hl := lv_entry ([.int sq, .int a1, .int a2]) (n := 5) (Nat.le_of_ble_eq_true rfl)
  rw [lg_entry_eq]
  generalize (lg_sl ([.int sq, .int a1, .int a2]) ++ List.replicate (5 - (lg_sl ([.int sq, .int a1, .int a2])).length) Slot.unset).toArray = ls at hl ⊢
  have hl : lv_has ls 5 [(0, .int sq), (1, .int a1), (2, .int a2)] := hl
  refine lv_iload_n hx hb dX12_isIn_0 rfl (lv_at hl 0 rfl) ?_
  refine lv_bipush (v := 12) hx hb dX12_isIn_1 (by decide) ?_
  refine lv_irem hx hb dX12_isIn_3 (by decide) ?_
  refine lv_topi (fun x1 ex1 => ?_)
  have t2 : x1.toInt = sq.toInt % 12 := ti_rem ex1 rfl (by decide) (by omega) (by omega)
  refine lv_istore_n (lv' := [(3, .int x1), (0, .int sq), (1, .int a1), (2, .int a2)]) hx hb dX12_isIn_4 rfl hl (by decide) rfl (fun ls hl => ?_)
  refine lv_iload_n hx hb dX12_isIn_5 rfl (lv_at hl 1 rfl) ?_
  refine lv_bipush (v := 12) hx hb dX12_isIn_6 (by decide) ?_
  refine lv_idiv hx hb dX12_isIn_8 (by decide) ?_
  refine lv_topi (fun x3 ex3 => ?_)
  have t4 : x3.toInt = sq.toInt / 12 := ti_div ex3 rfl (by decide) (by omega) (by omega)
  refine lv_istore (lv' := [(4, .int x3), (3, .int x1), (0, .int sq), (1, .int a1), (2, .int a2)]) hx hb dX12_isIn_9 hl (by decide) rfl (fun ls hl => ?_)
  refine lv_iload_n hx hb dX12_isIn_11 rfl (lv_at hl 1 rfl) ?_
  refine lv_iload_n hx hb dX12_isIn_12 rfl (lv_at hl 3 rfl) ?_
  refine lv_bipush (v := 12) hx hb dX12_isIn_13 (by decide) ?_
  refine lv_irem hx hb dX12_isIn_15 (by decide) ?_
  refine lv_topi (fun x5 ex5 => ?_)
  have t6 : x5.toInt = a1.toInt % 12 := ti_rem ex5 rfl (by decide) (by omega) (by omega)
  refine lv_iload_n hx hb dX12_isIn_16 rfl (lv_at hl 4 rfl) ?_
  refine lv_bipush (v := 12) hx hb dX12_isIn_17 (by decide) ?_
  refine lv_irem hx hb dX12_isIn_19 (by decide) ?_
  refine lv_topi (fun x7 ex7 => ?_)
  have t8 : x7.toInt = a2.toInt % 12 := ti_rem ex7 rfl (by decide) (by omega) (by omega)
  refine va_mmin hx hb (hml.trans hl.1.symm) hown (ht_at hts 0 rfl) (ht_at hts 1 rfl) (ht_at hts 2 rfl) (ht_at hts 3 rfl) (Nat.le_of_ble_eq_true rfl) (Nat.le_of_ble_eq_true rfl) (Nat.le_of_ble_eq_true rfl) (Nat.le_of_ble_eq_true rfl) dX12_isIn_20 ?_
  refine lv_topi (fun x9 ex9 => ?_)
  have t10 : x9.toInt ≤ x5.toInt ∧ x9.toInt ≤ x7.toInt ∧ (x9.toInt = x5.toInt ∨ x9.toInt = x7.toInt) := mn_f ex9 rfl rfl
  refine lv_iload_n hx hb dX12_isIn_23 rfl (lv_at hl 3 rfl) ?_
  refine lv_bipush (v := 12) hx hb dX12_isIn_24 (by decide) ?_
  refine lv_irem hx hb dX12_isIn_26 (by decide) ?_
  refine lv_topi (fun x11 ex11 => ?_)
  have t12 : x11.toInt = a1.toInt % 12 := ti_rem ex11 rfl (by decide) (by omega) (by omega)
  refine lv_iload_n hx hb dX12_isIn_27 rfl (lv_at hl 4 rfl) ?_
  refine lv_bipush (v := 12) hx hb dX12_isIn_28 (by decide) ?_
  refine lv_irem hx hb dX12_isIn_30 (by decide) ?_
  refine lv_topi (fun x13 ex13 => ?_)
  have t14 : x13.toInt = a2.toInt % 12 := ti_rem ex13 rfl (by decide) (by omega) (by omega)
  refine va_mmax hx hb (hml.trans hl.1.symm) hown (ht_at hts 4 rfl) (ht_at hts 5 rfl) (ht_at hts 2 rfl) (ht_at hts 6 rfl) (Nat.le_of_ble_eq_true rfl) (Nat.le_of_ble_eq_true rfl) (Nat.le_of_ble_eq_true rfl) (Nat.le_of_ble_eq_true rfl) dX12_isIn_31 ?_
  refine lv_topi (fun x15 ex15 => ?_)
  have t16 : x11.toInt ≤ x15.toInt ∧ x13.toInt ≤ x15.toInt ∧ (x15.toInt = x11.toInt ∨ x15.toInt = x13.toInt) := mx_f ex15 rfl rfl
  have hFc := gA_free hG hA hS
  refine va_calli (va_runS (As := [.int x1, .int x9, .int x15]) (rest := []) ⟨hx, hb, hml, hown, hts⟩ (s_in l dC dI kA adK adV G s.heap q wZ wN wH wB wC wL wK wU wV PI im PM PT lS lB lE lN x1 x9 x15 hT hgz hgn hgh hgb hgc hgi hgu) (va_cwS 3 hts (goodIn_app (goodIn_r _ [9, 10, 11] rfl (by decide +kernel)) (goodIn_ca (goodIn_r _ [8] rfl (by decide +kernel)) (bs_in _ _))) rfl rfl rfl (by decide +kernel) ⟨(Nat.le_of_ble_eq_true rfl), (Nat.le_of_ble_eq_true rfl)⟩) ⟨fun a U g mk q => by obtain ⟨q0, q1, qK, qE⟩ := q; exact ⟨q0, q1, va_K.moved (u := U) (U := U.calling g mk a) (Vm.Alike.refl U.vm) qK, EVS.blind g mk a qE⟩, fun U hU hW => ⟨rfl, hU, va_K.moved hW.alike hK, hE.call hS hFc hU hW⟩⟩ rfl rfl hl.1 rfl (lv_room (Nat.le_of_ble_eq_true rfl)) dX12_isIn_34 ⟨(Nat.le_of_ble_eq_true rfl), (Nat.le_of_ble_eq_true rfl)⟩) hS (fun q _ h => hFc q h) hFc (fun r17 u t H locs ht hvm hw18 hB _ _ hS => ?_)
  obtain ⟨hT, hF1⟩ := hB
  rw [ht] at hT hF1
  have hF := hF.more hF1 (by decide)
  try dsimp only at hw18
  obtain ⟨h19, hi20, hi21⟩ := hw18
  refine lv_if_eq (tgt := 74) hx hb dX12_isIn_37 (by decide) (fun c22 => ?_) (fun c22 => ?_)
  · have t23 : r17.toInt = 0 := ti_eq c22 rfl (by decide)
    have t24 : x1.toInt < x9.toInt ∨ x15.toInt < x1.toInt := hi21 c22
    refine lv_iconst (v := 0) hx hb dX12_isIn_74 (by decide) ?_
    exact W.zret (v := 0) hx hb hr (by decide) (fun t ht hW => ⟨⟨0, (), rfl, (by exact ⟨(rg_t (a := 0) (by decide) (by first | decide | omega) (by first | decide | omega)), (by have : (0 : Int32).toInt = 0 := (by decide); omega)⟩), by (try dsimp only); rw [ht]; exact ⟨hT, hF⟩⟩, hS.F ht⟩) hS.2.2 dX12_isIn_75
  · have t25 : r17.toInt ≠ 0 := ti_ne c22 rfl (by decide)
    have t26 : x9.toInt ≤ x1.toInt ∧ x1.toInt ≤ x15.toInt := hi20 ((bit_of ⟨by omega, by omega⟩).resolve_left c22)
    refine lv_iload hx hb dX12_isIn_40 (lv_at hl 0 rfl) ?_
    refine lv_iload_n hx hb dX12_isIn_42 rfl (lv_at hl 3 rfl) ?_
    refine lv_bipush (v := 12) hx hb dX12_isIn_43 (by decide) ?_
    refine lv_idiv hx hb dX12_isIn_45 (by decide) ?_
    refine lv_topi (fun x27 ex27 => ?_)
    have t28 : x27.toInt = a1.toInt / 12 := ti_div ex27 rfl (by decide) (by omega) (by omega)
    refine lv_iload_n hx hb dX12_isIn_46 rfl (lv_at hl 4 rfl) ?_
    refine lv_bipush (v := 12) hx hb dX12_isIn_47 (by decide) ?_
    refine lv_idiv hx hb dX12_isIn_49 (by decide) ?_
    refine lv_topi (fun x29 ex29 => ?_)
    have t30 : x29.toInt = a2.toInt / 12 := ti_div ex29 rfl (by decide) (by omega) (by omega)
    refine va_mmin hx hb (hml.trans hl.1.symm) hown (ht_at hts 0 rfl) (ht_at hts 1 rfl) (ht_at hts 2 rfl) (ht_at hts 3 rfl) (Nat.le_of_ble_eq_true rfl) (Nat.le_of_ble_eq_true rfl) (Nat.le_of_ble_eq_true rfl) (Nat.le_of_ble_eq_true rfl) dX12_isIn_50 ?_
    refine lv_topi (fun x31 ex31 => ?_)
    have t32 : x31.toInt ≤ x27.toInt ∧ x31.toInt ≤ x29.toInt ∧ (x31.toInt = x27.toInt ∨ x31.toInt = x29.toInt) := mn_f ex31 rfl rfl
    refine lv_iload_n hx hb dX12_isIn_53 rfl (lv_at hl 3 rfl) ?_
    refine lv_bipush (v := 12) hx hb dX12_isIn_54 (by decide) ?_
    refine lv_idiv hx hb dX12_isIn_56 (by decide) ?_
    refine lv_topi (fun x33 ex33 => ?_)
    have t34 : x33.toInt = a1.toInt / 12 := ti_div ex33 rfl (by decide) (by omega) (by omega)
    refine lv_iload_n hx hb dX12_isIn_57 rfl (lv_at hl 4 rfl) ?_
    refine lv_bipush (v := 12) hx hb dX12_isIn_58 (by decide) ?_
    refine lv_idiv hx hb dX12_isIn_60 (by decide) ?_
    refine lv_topi (fun x35 ex35 => ?_)
    have t36 : x35.toInt = a2.toInt / 12 := ti_div ex35 rfl (by decide) (by omega) (by omega)
    refine va_mmax hx hb (hml.trans hl.1.symm) hown (ht_at hts 4 rfl) (ht_at hts 5 rfl) (ht_at hts 2 rfl) (ht_at hts 6 rfl) (Nat.le_of_ble_eq_true rfl) (Nat.le_of_ble_eq_true rfl) (Nat.le_of_ble_eq_true rfl) (Nat.le_of_ble_eq_true rfl) dX12_isIn_61 ?_
    refine lv_topi (fun x37 ex37 => ?_)
    have t38 : x33.toInt ≤ x37.toInt ∧ x35.toInt ≤ x37.toInt ∧ (x37.toInt = x33.toInt ∨ x37.toInt = x35.toInt) := mx_f ex37 rfl rfl
    have hFc := gA_free hG hA hS
    refine va_calli (va_runS (As := [.int x3, .int x31, .int x37]) (rest := []) ⟨hx, hb, hml, hown, hts⟩ (s_in l dC dI kA adK adV G H q wZ wN wH wB wC wL wK wU wV PI im PM PT lS lB lE lN x3 x31 x37 hT hgz hgn hgh hgb hgc hgi hgu) (va_cwS 3 hts (goodIn_app (goodIn_r _ [9, 10, 11] rfl (by decide +kernel)) (goodIn_ca (goodIn_r _ [8] rfl (by decide +kernel)) (bs_in _ _))) rfl rfl rfl (by decide +kernel) ⟨(Nat.le_of_ble_eq_true rfl), (Nat.le_of_ble_eq_true rfl)⟩) ⟨fun a U g mk q => by obtain ⟨q0, q1, qK, qE⟩ := q; exact ⟨q0, q1, va_K.moved (u := U) (U := U.calling g mk a) (Vm.Alike.refl U.vm) qK, EVS.blind g mk a qE⟩, fun U hU hW => ⟨rfl, hU, va_K.moved hW.alike hK, hE.call hS hFc hU hW⟩⟩ rfl rfl hl.1 rfl (lv_room (Nat.le_of_ble_eq_true rfl)) dX12_isIn_64 ⟨(Nat.le_of_ble_eq_true rfl), (Nat.le_of_ble_eq_true rfl)⟩) hS (fun q _ h => hFc q h) hFc (fun r39 u t H locs ht hvm hw40 hB _ _ hS => ?_)
    obtain ⟨hT, hF1⟩ := hB
    rw [ht] at hT hF1
    have hF := hF.more hF1 (by decide)
    try dsimp only at hw40
    obtain ⟨h41, hi42, hi43⟩ := hw40
    refine lv_if_eq (tgt := 74) hx hb dX12_isIn_67 (by decide) (fun c44 => ?_) (fun c44 => ?_)
    · have t45 : r39.toInt = 0 := ti_eq c44 rfl (by decide)
      have t46 : x3.toInt < x31.toInt ∨ x37.toInt < x3.toInt := hi43 c44
      refine lv_iconst (v := 0) hx hb dX12_isIn_74 (by decide) ?_
      exact W.zret (v := 0) hx hb hr (by decide) (fun t ht hW => ⟨⟨0, (), rfl, (by exact ⟨(rg_t (a := 0) (by decide) (by first | decide | omega) (by first | decide | omega)), (by have : (0 : Int32).toInt = 0 := (by decide); omega)⟩), by (try dsimp only); rw [ht]; exact ⟨hT, hF⟩⟩, hS.F ht⟩) hS.2.2 dX12_isIn_75
    · have t47 : r39.toInt ≠ 0 := ti_ne c44 rfl (by decide)
      have t48 : x31.toInt ≤ x3.toInt ∧ x3.toInt ≤ x37.toInt := hi42 ((bit_of ⟨by omega, by omega⟩).resolve_left c44)
      refine lv_iconst (v := 1) hx hb dX12_isIn_70 (by decide) ?_
      refine lv_goto (tgt := 75) hx hb dX12_isIn_71 (by decide) ?_
      exact W.zret (v := 1) hx hb hr (by decide) (fun t ht hW => ⟨⟨1, (), rfl, (by exact ⟨(rg_t (a := 1) (by decide) (by first | decide | omega) (by first | decide | omega)), (by have : (1 : Int32).toInt = 1 := (by decide); omega)⟩), by (try dsimp only); rw [ht]; exact ⟨hT, hF⟩⟩, hS.F ht⟩) hS.2.2 dX12_isIn_75
def w_s_noSquareE : List Cond := .code yX12_noSquare cX12_noSquare 1 (some .boolean) :: (HAppend.hAppend (α := List Cond) (β := List Cond) (γ := List Cond) [.code yX12_in cX12_in 3 (some .boolean), .methodLink RX12 197 yX12_in, .static yX12_in, .initialized RX12] bs)
set_option maxHeartbeats 4000000 in
set_option maxRecDepth 100000 in
theorem s_noSquareE (l : Launch) (dC : Nat → ClassId) (dI : Nat → Nat → Nat) (kA : Nat → ClassId) (adK adV : Nat → Nat) (G : gT) (H0 : Heap) (q : Nat → Nat) (wZ wN : Nat → Int) (wH wB wC : Int) (wL wK : Nat → Prop) (wU wV : Nat → Nat) (PI : Nat → Int → Prop) (im : Int) (PM PT : Nat → Int → Prop) (lS lB lE : Nat → Nat → Int → Prop) (lN : Nat → Int) (sq : Int32)  (hT : gH (dC, dI) kA (SHm q (wP wZ wN wH wB wC wL wK wU wV) PI im PM PT lS lB lE lN) G H0) (hgz : ∀ i, 0 ≤ wZ i) (hgn : ∀ i, 6500000 ≤ wN i ∧ wN i ≤ 20200000) (hgh : 0 ≤ wH ∧ wH ≤ 40000) (hgb : 0 ≤ wB ∧ wB ≤ 3850000) (hgc : 0 ≤ wC ∧ wC ≤ 30) (hgi : 0 ≤ im ∧ im ≤ 1) (hgu : ∀ a t, G a = some (t + 1) → a = q t) : Met l yX12_noSquare w_s_noSquareE ({ frames := 1, cells := 0, slots := 0, locals := 22 }) (va_Pc [.int sq] (fun U => U.heap = H0 ∧ va_K (dC, dI) vwCl (tyl kA) U ∧ EVS adK adV (gA G H0.size) U U.heap)) (va_Qi (fun (r : Int32) (u : Unit) => (0 ≤ r.toInt ∧ r.toInt ≤ 1) ∧ ((r.toInt = 0 ∧ (0 ≤ sq.toInt ∧ sq.toInt ≤ 95)) ∨ (r.toInt = 1 ∧ ¬ (0 ≤ sq.toInt ∧ sq.toInt ≤ 95)))) (fun (_ : Unit) (t : State) => gH (dC, dI) kA (SHm q (wP wZ wN wH wB wC wL wK wU wV) PI im PM PT lS lB lE lN) G t.heap ∧ gF (dC, dI) SKm G ([] : List (Nat × Nat)) H0 t.heap) (gA G H0.size)) 0 0 (gA G H0.size) := by
  refine Met.ofW (cc := cX12_noSquare) (maxL := 1) (ret := (some .boolean)) (by decide) rfl ?_
  intro p e s m args below meth c s₁ B hml hv
  obtain ⟨rfl, hH0, hK, hE⟩ := hv
  have hx := B.exec
  have hb := B.bytes
  have hr := B.returns
  have hts := atoms_spec (ws := w_s_noSquareE) B.pre
  have hown : s.vm.findClass RX12 = some m.cls := findClass_of_methodNamed B.named
  have hlocks := B.notSynchronized
  subst hH0
  generalize hAe : gA G s.heap.size = A at hE ⊢
  have hA : ∀ q : Nat, s.heap.size ≤ q → A q := fun q h => by rw [← hAe]; exact Or.inr h
  have hG := gA_of hAe
  have hS : va_S A s.heap s.heap [] := va_S.rf
  have hF : gF (dC, dI) SKm G ([] : List (Nat × Nat)) s.heap s.heap := gF.rf
  have hl := lv_entry ([.int sq]) (n := 1) (Nat.le_of_ble_eq_true rfl)
  rw [lg_entry_eq]
  generalize (lg_sl ([.int sq]) ++ List.replicate (1 - (lg_sl ([.int sq])).length) Slot.unset).toArray = ls at hl ⊢
  have hl : lv_has ls 1 [(0, .int sq)] := hl
  refine lv_iload_n hx hb dX12_noSquare_0 rfl (lv_at hl 0 rfl) ?_
  refine lv_iconst (v := 0) hx hb dX12_noSquare_1 (by decide) ?_
  refine lv_bipush (v := 95) hx hb dX12_noSquare_2 (by decide) ?_
  have hFc := gA_free hG hA hS
  refine va_calli (va_runS (As := [.int sq, .int 0, .int 95]) (rest := []) ⟨hx, hb, hml, hown, hts⟩ (s_in l dC dI kA adK adV G s.heap q wZ wN wH wB wC wL wK wU wV PI im PM PT lS lB lE lN sq 0 95 hT hgz hgn hgh hgb hgc hgi hgu) (va_cwS 3 hts (goodIn_app (goodIn_r _ [2, 3, 4] rfl (by decide +kernel)) (goodIn_ca (goodIn_r _ [1] rfl (by decide +kernel)) (bs_in _ _))) rfl rfl rfl (by decide +kernel) ⟨(Nat.le_of_ble_eq_true rfl), (Nat.le_of_ble_eq_true rfl)⟩) ⟨fun a U g mk q => by obtain ⟨q0, q1, qK, qE⟩ := q; exact ⟨q0, q1, va_K.moved (u := U) (U := U.calling g mk a) (Vm.Alike.refl U.vm) qK, EVS.blind g mk a qE⟩, fun U hU hW => ⟨rfl, hU, va_K.moved hW.alike hK, hE.call hS hFc hU hW⟩⟩ rfl rfl hl.1 rfl (lv_room (Nat.le_of_ble_eq_true rfl)) dX12_noSquare_4 ⟨(Nat.le_of_ble_eq_true rfl), (Nat.le_of_ble_eq_true rfl)⟩) hS (fun q _ h => hFc q h) hFc (fun r1 u t H locs ht hvm hw2 hB _ _ hS => ?_)
  obtain ⟨hT, hF1⟩ := hB
  rw [ht] at hT hF1
  have hF := hF.more hF1 (by decide)
  try dsimp only at hw2
  obtain ⟨h3, hi4, hi5⟩ := hw2
  refine lv_if_ne (tgt := 14) hx hb dX12_noSquare_7 (by decide) (fun c6 => ?_) (fun c6 => ?_)
  · have t7 : r1.toInt ≠ 0 := ti_ne c6 rfl (by decide)
    have t8 : (0 : Int32).toInt = 0 := by decide
    have t9 : (95 : Int32).toInt = 95 := by decide
    have t10 : (0 : Int32).toInt ≤ sq.toInt ∧ sq.toInt ≤ (95 : Int32).toInt := hi4 ((bit_of ⟨by omega, by omega⟩).resolve_left c6)
    refine lv_iconst (v := 0) hx hb dX12_noSquare_14 (by decide) ?_
    exact W.zret (v := 0) hx hb hr (by decide) (fun t ht hW => ⟨⟨0, (), rfl, (by exact ⟨(rg_t (a := 0) (by decide) (by first | decide | omega) (by first | decide | omega)), (by have : (0 : Int32).toInt = 0 := (by decide); omega)⟩), by (try dsimp only); rw [ht]; exact ⟨hT, hF⟩⟩, hS.F ht⟩) hS.2.2 dX12_noSquare_15
  · have t11 : r1.toInt = 0 := ti_eq c6 rfl (by decide)
    have t12 : (0 : Int32).toInt = 0 := by decide
    have t13 : (95 : Int32).toInt = 95 := by decide
    have t14 : sq.toInt < (0 : Int32).toInt ∨ (95 : Int32).toInt < sq.toInt := hi5 c6
    refine lv_iconst (v := 1) hx hb dX12_noSquare_10 (by decide) ?_
    refine lv_goto (tgt := 15) hx hb dX12_noSquare_11 (by decide) ?_
    exact W.zret (v := 1) hx hb hr (by decide) (fun t ht hW => ⟨⟨1, (), rfl, (by exact ⟨(rg_t (a := 1) (by decide) (by first | decide | omega) (by first | decide | omega)), (by have : (1 : Int32).toInt = 1 := (by decide); omega)⟩), by (try dsimp only); rw [ht]; exact ⟨hT, hF⟩⟩, hS.F ht⟩) hS.2.2 dX12_noSquare_15
def w_s_landC : List Cond := .code yX12_land cX12_land 8 (some .int) :: (HAppend.hAppend (α := List Cond) (β := List Cond) (γ := List Cond) [.fieldLink RX12 194 "SeaLandModel" "thrown" "I", .code yX12_noSquare cX12_noSquare 1 (some .boolean), .code yX12_in cX12_in 3 (some .boolean), .methodLink RX12 197 yX12_in, .static yX12_in, .initialized RX12, .methodLink RX12 220 yX12_noSquare, .static yX12_noSquare, .code yX12_throwsIf cX12_throwsIf 3 (some .boolean), .methodLink RX12 224 yX12_throwsIf, .instanceMethod yX12_throwsIf, .selects RX12 yX12_throwsIf yX12_throwsIf, .code yX12_hour cX12_hour 1 (some .int), .fieldLink RX12 9 "SeaLandModel" "world" "[I", .methodLink RX12 228 yX12_hour, .instanceMethod yX12_hour, .selects RX12 yX12_hour yX12_hour, .fieldLink RX12 238 "SeaLandModel" "rows" "I", .code yX12_isIn cX12_isIn 5 (some .boolean), .methodLink RX12 207 Lib.Math.min.name, .static Lib.Math.min.name, .initialized "java/lang/Math", .code Lib.Math.min.name Lib.Math.min.code 2 (some .int), .methodLink RX12 211 Lib.Math.max.name, .static Lib.Math.max.name, .code Lib.Math.max.name Lib.Math.max.code 2 (some .int), .methodLink RX12 232 yX12_isIn, .static yX12_isIn, .code yX12_isLand cX12_isLand 2 (some .boolean), .methodLink RX12 235 yX12_isLand, .instanceMethod yX12_isLand, .selects RX12 yX12_isLand yX12_isLand] bs)
set_option maxHeartbeats 4000000 in
set_option maxRecDepth 100000 in
theorem s_landC (l : Launch) (dC : Nat → ClassId) (dI : Nat → Nat → Nat) (kA : Nat → ClassId) (adK adV : Nat → Nat) (G : gT) (H0 : Heap) (q : Nat → Nat) (wZ wN : Nat → Int) (wH wB wC : Int) (wL wK : Nat → Prop) (wU wV : Nat → Nat) (PI : Nat → Int → Prop) (im : Int) (PM PT : Nat → Int → Prop) (lS lB lE : Nat → Nat → Int → Prop) (lN : Nat → Int) (o0 : Nat) (p0 : Int32) (p1 : Int32) (p2 : Int32) (p3 : Int32) (p4 : Int32) (L : Nat → Int) (hT : gH (dC, dI) kA (SHm q (wP wZ0 wN wH wB wC wL wK wU wV) PI im PM PT lS lB lE lN) G H0) (hr_o0 : G o0 = some 0) (hL : ∀ i, i < 96 → (wL i ↔ L i = 1) ∧ (0 ≤ L i ∧ L i ≤ 1)) (hgz : ∀ i, 0 ≤ wZ i) (hgn : ∀ i, 6500000 ≤ wN i ∧ wN i ≤ 20200000) (hgh : 0 ≤ wH ∧ wH ≤ 40000) (hgb : 0 ≤ wB ∧ wB ≤ 3850000) (hgc : 0 ≤ wC ∧ wC ≤ 30) (hgi : 0 ≤ im ∧ im ≤ 1) (hgu : ∀ a t, G a = some (t + 1) → a = q t) : Met l yX12_land w_s_landC ({ frames := 2, cells := 0, slots := 0, locals := 64 }) (va_Pc [.ref o0, .int p0, .int p1, .int p2, .int p3, .int p4] (fun U => U.heap = H0 ∧ va_K (dC, dI) vwCl (tyl kA) U ∧ EVS adK adV (gA G H0.size) U U.heap)) (va_Qi (fun (r : Int32) (u : Int32 × (Nat → Prop)) => match u with | (t1, wL1) => (0 ≤ r.toInt ∧ r.toInt ≤ 96) ∧ (∀ j, wL j → wL1 j) ∧ ((laC wH p0.toInt p1.toInt p2.toInt p3.toInt p4.toInt = 0 ∧ t1.toInt = 0 ∧ wL1 = lndB wL p0.toInt p1.toInt 96 ∧ r.toInt = ldN L p0.toInt p1.toInt 96) ∨ (laC wH p0.toInt p1.toInt p2.toInt p3.toInt p4.toInt ≠ 0 ∧ t1.toInt = laC wH p0.toInt p1.toInt p2.toInt p3.toInt p4.toInt ∧ wL1 = wL))) (fun (u : Int32 × (Nat → Prop)) (t : State) => match u with | (t1, wL1) => gH (dC, dI) kA (SHm q (wP wZ0 wN wH wB wC wL1 wK wU wV) PI im PM PT lS lB lE lN) G t.heap ∧ gF (dC, dI) SKm G ([(0, 0), (0, 9), (2, 0)] : List (Nat × Nat)) H0 t.heap ∧ el t.heap o0 (dI 15 0) = some (.int t1)) (gA G H0.size)) 0 0 (gA G H0.size) := by
  refine Met.ofW (cc := cX12_land) (maxL := 8) (ret := (some .int)) (by decide) rfl ?_
  intro p e s m args below meth c s₁ B hml hv
  obtain ⟨rfl, hH0, hK, hE⟩ := hv
  have hx := B.exec
  have hb := B.bytes
  have hr := B.returns
  have hts := atoms_spec (ws := w_s_landC) B.pre
  have hown : s.vm.findClass RX12 = some m.cls := findClass_of_methodNamed B.named
  have hlocks := B.notSynchronized
  subst hH0
  generalize hAe : gA G s.heap.size = A at hE ⊢
  have hA : ∀ q : Nat, s.heap.size ≤ q → A q := fun q h => by rw [← hAe]; exact Or.inr h
  have hG := gA_of hAe
  have hS : va_S A s.heap s.heap [] := va_S.rf
  have hF : gF (dC, dI) SKm G ([(0, 0), (0, 9), (2, 0)] : List (Nat × Nat)) s.heap s.heap := gF.rf
  have hl := lv_entry ([.ref o0, .int p0, .int p1, .int p2, .int p3, .int p4]) (n := 8) (Nat.le_of_ble_eq_true rfl)
  rw [lg_entry_eq]
  generalize (lg_sl ([.ref o0, .int p0, .int p1, .int p2, .int p3, .int p4]) ++ List.replicate (8 - (lg_sl ([.ref o0, .int p0, .int p1, .int p2, .int p3, .int p4])).length) Slot.unset).toArray = ls at hl ⊢
  have hl : lv_has ls 8 [(0, .ref o0), (1, .int p0), (2, .int p1), (3, .int p2), (4, .int p3), (5, .int p4)] := hl
  refine lv_aload_n hx hb dX12_land_0 rfl (lv_at hl 0 rfl) ?_
  refine lv_iconst (v := 0) hx hb dX12_land_1 (by decide) ?_
  refine tw_put (v := .int 0) (ty := .int) hx hb hts bF_X12 tyX12 tyX12_ok nmX12 hown hK hT hG hS hr_o0 shm_0 rfl 0 (by decide) (ht_at hts 0 rfl) (fun _ h9 => h9) rfl (by decide +kernel) rfl rfl (gl_at rfl (gi_all _)) dX12_land_2 (fun H locs hT oq m1 oj hS => ?_)
  have hF := hF.put hr_o0 skm_0 oq oj (by decide)
  refine lv_aload_n hx hb dX12_land_5 rfl (lv_at hl 0 rfl) ?_
  refine lv_iload_n hx hb dX12_land_6 rfl (lv_at hl 1 rfl) ?_
  have hFc := gA_free hG hA hS
  refine va_calli (va_runS (As := [.int p0]) (rest := [.ref o0]) ⟨hx, hb, hml, hown, hts⟩ (s_noSquareE l dC dI kA adK adV G H q wZ0 wN wH wB wC wL wK wU wV PI im PM PT lS lB lE lN p0 hT (fun _ => Int.le_refl 0) hgn hgh hgb hgc hgi hgu) (va_cwS 1 hts (goodIn_app (goodIn_r _ [7, 8, 6] rfl (by decide +kernel)) (goodIn_ca (goodIn_r _ [2, 3, 4, 5, 6] rfl (by decide +kernel)) (bs_in _ _))) rfl rfl rfl (by decide +kernel) ⟨(Nat.le_of_ble_eq_true rfl), (Nat.le_of_ble_eq_true rfl)⟩) ⟨fun a U g mk q => by obtain ⟨q0, q1, qK, qE⟩ := q; exact ⟨q0, q1, va_K.moved (u := U) (U := U.calling g mk a) (Vm.Alike.refl U.vm) qK, EVS.blind g mk a qE⟩, fun U hU hW => ⟨rfl, hU, va_K.moved hW.alike hK, hE.call hS hFc hU hW⟩⟩ rfl rfl hl.1 rfl (lv_room (Nat.le_of_ble_eq_true rfl)) dX12_land_7 ⟨(Nat.le_of_ble_eq_true rfl), (Nat.le_of_ble_eq_true rfl)⟩) hS (fun q _ h => hFc q h) hFc (fun r2 u t H locs ht hvm hw3 hB _ _ hS => ?_)
  obtain ⟨hT, hF1⟩ := hB
  rw [ht] at hT hF1
  have m4 := (hF1.fld hr_o0 skm_0 (k := 0) (by decide) (by decide)).trans m1
  have hF := hF.more hF1 (by decide)
  try dsimp only at hw3
  obtain ⟨h5, hf6⟩ := hw3
  refine lv_if_ne (tgt := 20) hx hb dX12_land_10 (by decide) (fun c7 => ?_) (fun c7 => ?_)
  · have t8 : r2.toInt ≠ 0 := ti_ne c7 rfl (by decide)
    refine lv_iconst (v := 1) hx hb dX12_land_20 (by decide) ?_
    refine lv_goto (tgt := 25) hx hb dX12_land_21 (by decide) ?_
    refine lv_iconst (v := 1) hx hb dX12_land_25 (by decide) ?_
    have hFc := gA_free hG hA hS
    refine va_calli (va_runV (As := [.int 1, .int 1]) (rest := []) ⟨hx, hb, hml, hown, hts⟩ (s_throwsIfP l dC dI kA adK adV G H q wZ0 wN wH wB wC wL wK wU wV PI im PM PT lS lB lE lN o0 1 1 0 hT hr_o0 m4 (rg_t (a := 1) (by decide) (by first | decide | omega) (by first | decide | omega)) (fun _ => Int.le_refl 0) hgn hgh hgb hgc hgi hgu) (cwV 2 hts (goodIn_app (goodIn_r _ [10, 11, 12, 6] rfl (by decide +kernel)) (goodIn_ca (goodIn_r _ [9, 1] rfl (by decide +kernel)) (bs_in _ _))) rfl rfl rfl (by decide +kernel) ⟨(Nat.le_of_ble_eq_true rfl), (Nat.le_of_ble_eq_true rfl)⟩) ⟨fun a U g mk q => by obtain ⟨q0, q1, qK, qE⟩ := q; exact ⟨q0, q1, va_K.moved (u := U) (U := U.calling g mk a) (Vm.Alike.refl U.vm) qK, EVS.blind g mk a qE⟩, gH_rc hK hT hr_o0 shm_0 rfl, fun U hU hW => ⟨rfl, hU, va_K.moved hW.alike hK, hE.call hS hFc hU hW⟩⟩ rfl rfl hl.1 rfl (lv_room (Nat.le_of_ble_eq_true rfl)) dX12_land_26 ⟨(Nat.le_of_ble_eq_true rfl), (Nat.le_of_ble_eq_true rfl)⟩) hS (fun q _ h => hFc q h) hFc (fun r9 u t H locs ht hvm hw10 hB _ _ hS => ?_)
    obtain ⟨u11, rfl⟩ : ∃ z, z = u := ⟨_, rfl⟩
    obtain ⟨hT, hF1, m12⟩ := hB
    rw [ht] at hT hF1 m12
    have hF := hF.more hF1 (by decide)
    try dsimp only at hw10
    obtain ⟨h14, hf15, hd16⟩ := hw10
    have t17 : (1 : Int32).toInt = 1 := by decide
    have t18 : (1 : Int32).toInt = 1 := by decide
    have t19 : (0 : Int32).toInt = 0 := by decide
    obtain rfl : (1 : Int32) = r9 := hd16.symm
    refine lv_if_ne (tgt := 99) hx hb dX12_land_29 (by decide) (fun c20 => ?_) (fun c20 => absurd c20 (by decide))
    refine lv_iconst (v := 0) hx hb dX12_land_99 (by decide) ?_
    exact W.iret (v := 0) hx hb hr (fun t ht hW => ⟨⟨0, (u11, wL), rfl, (by exact ⟨(rg_t (a := 0) (by decide) (by first | decide | omega) (by first | decide | omega)), (fun _ h9 => h9), (Or.inr ⟨by have := laC_s wH p0.toInt p1.toInt p2.toInt p3.toInt p4.toInt; have q0 : (0 : Int32).toInt = 0 := (by decide); have q1 : (1 : Int32).toInt = 1 := (by decide); have q2 : (2 : Int32).toInt = 2 := (by decide); have q3 : (3 : Int32).toInt = 3 := (by decide); have qm : (-1 : Int32).toInt = -1 := (by decide); omega, by have := laC_s wH p0.toInt p1.toInt p2.toInt p3.toInt p4.toInt; have q0 : (0 : Int32).toInt = 0 := (by decide); have q1 : (1 : Int32).toInt = 1 := (by decide); have q2 : (2 : Int32).toInt = 2 := (by decide); have q3 : (3 : Int32).toInt = 3 := (by decide); have qm : (-1 : Int32).toInt = -1 := (by decide); omega, rfl⟩)⟩), by (try dsimp only); rw [ht]; exact ⟨hT, hF, m12⟩⟩, hS.F ht⟩) hS.2.2 dX12_land_100
  · have t21 : r2.toInt = 0 := ti_eq c7 rfl (by decide)
    refine lv_iload_n hx hb dX12_land_13 rfl (lv_at hl 2 rfl) ?_
    have hFc := gA_free hG hA hS
    refine va_calli (va_runS (As := [.int p1]) (rest := [.ref o0]) ⟨hx, hb, hml, hown, hts⟩ (s_noSquareE l dC dI kA adK adV G H q wZ0 wN wH wB wC wL wK wU wV PI im PM PT lS lB lE lN p1 hT (fun _ => Int.le_refl 0) hgn hgh hgb hgc hgi hgu) (va_cwS 1 hts (goodIn_app (goodIn_r _ [7, 8, 6] rfl (by decide +kernel)) (goodIn_ca (goodIn_r _ [2, 3, 4, 5, 6] rfl (by decide +kernel)) (bs_in _ _))) rfl rfl rfl (by decide +kernel) ⟨(Nat.le_of_ble_eq_true rfl), (Nat.le_of_ble_eq_true rfl)⟩) ⟨fun a U g mk q => by obtain ⟨q0, q1, qK, qE⟩ := q; exact ⟨q0, q1, va_K.moved (u := U) (U := U.calling g mk a) (Vm.Alike.refl U.vm) qK, EVS.blind g mk a qE⟩, fun U hU hW => ⟨rfl, hU, va_K.moved hW.alike hK, hE.call hS hFc hU hW⟩⟩ rfl rfl hl.1 rfl (lv_room (Nat.le_of_ble_eq_true rfl)) dX12_land_14 ⟨(Nat.le_of_ble_eq_true rfl), (Nat.le_of_ble_eq_true rfl)⟩) hS (fun q _ h => hFc q h) hFc (fun r22 u t H locs ht hvm hw23 hB _ _ hS => ?_)
    obtain ⟨hT, hF1⟩ := hB
    rw [ht] at hT hF1
    have m24 := (hF1.fld hr_o0 skm_0 (k := 0) (by decide) (by decide)).trans m4
    have hF := hF.more hF1 (by decide)
    try dsimp only at hw23
    obtain ⟨h25, hf26⟩ := hw23
    refine lv_if_eq (tgt := 24) hx hb dX12_land_17 (by decide) (fun c27 => ?_) (fun c27 => ?_)
    · have t28 : r22.toInt = 0 := ti_eq c27 rfl (by decide)
      refine lv_iconst (v := 0) hx hb dX12_land_24 (by decide) ?_
      refine lv_iconst (v := 1) hx hb dX12_land_25 (by decide) ?_
      have hFc := gA_free hG hA hS
      refine va_calli (va_runV (As := [.int 0, .int 1]) (rest := []) ⟨hx, hb, hml, hown, hts⟩ (s_throwsIfP l dC dI kA adK adV G H q wZ0 wN wH wB wC wL wK wU wV PI im PM PT lS lB lE lN o0 0 1 0 hT hr_o0 m24 (rg_t (a := 0) (by decide) (by first | decide | omega) (by first | decide | omega)) (fun _ => Int.le_refl 0) hgn hgh hgb hgc hgi hgu) (cwV 2 hts (goodIn_app (goodIn_r _ [10, 11, 12, 6] rfl (by decide +kernel)) (goodIn_ca (goodIn_r _ [9, 1] rfl (by decide +kernel)) (bs_in _ _))) rfl rfl rfl (by decide +kernel) ⟨(Nat.le_of_ble_eq_true rfl), (Nat.le_of_ble_eq_true rfl)⟩) ⟨fun a U g mk q => by obtain ⟨q0, q1, qK, qE⟩ := q; exact ⟨q0, q1, va_K.moved (u := U) (U := U.calling g mk a) (Vm.Alike.refl U.vm) qK, EVS.blind g mk a qE⟩, gH_rc hK hT hr_o0 shm_0 rfl, fun U hU hW => ⟨rfl, hU, va_K.moved hW.alike hK, hE.call hS hFc hU hW⟩⟩ rfl rfl hl.1 rfl (lv_room (Nat.le_of_ble_eq_true rfl)) dX12_land_26 ⟨(Nat.le_of_ble_eq_true rfl), (Nat.le_of_ble_eq_true rfl)⟩) hS (fun q _ h => hFc q h) hFc (fun r29 u t H locs ht hvm hw30 hB _ _ hS => ?_)
      obtain ⟨u31, rfl⟩ : ∃ z, z = u := ⟨_, rfl⟩
      obtain ⟨hT, hF1, m32⟩ := hB
      rw [ht] at hT hF1 m32
      have hF := hF.more hF1 (by decide)
      try dsimp only at hw30
      obtain ⟨h34, hf35, hd36⟩ := hw30
      have t37 : (0 : Int32).toInt = 0 := by decide
      have t38 : (1 : Int32).toInt = 1 := by decide
      have t39 : (0 : Int32).toInt = 0 := by decide
      obtain rfl : (0 : Int32) = r29 := hd36.symm
      refine lv_if_ne (tgt := 99) hx hb dX12_land_29 (by decide) (fun c40 => absurd c40 (by decide)) (fun c40 => ?_)
      refine lv_aload_n hx hb dX12_land_32 rfl (lv_at hl 0 rfl) ?_
      refine lv_iload_n hx hb dX12_land_33 rfl (lv_at hl 3 rfl) ?_
      refine lv_sipush (v := (-900)) hx hb dX12_land_34 (by decide) ?_
      refine lv_sipush (v := 300) hx hb dX12_land_37 (by decide) ?_
      have hFc := gA_free hG hA hS
      refine va_calli (va_runS (As := [.int p2, .int (-900), .int 300]) (rest := [.ref o0]) ⟨hx, hb, hml, hown, hts⟩ (s_in l dC dI kA adK adV G H q wZ0 wN wH wB wC wL wK wU wV PI im PM PT lS lB lE lN p2 (-900) 300 hT (fun _ => Int.le_refl 0) hgn hgh hgb hgc hgi hgu) (va_cwS 3 hts (goodIn_app (goodIn_r _ [4, 5, 6] rfl (by decide +kernel)) (goodIn_ca (goodIn_r _ [3] rfl (by decide +kernel)) (bs_in _ _))) rfl rfl rfl (by decide +kernel) ⟨(Nat.le_of_ble_eq_true rfl), (Nat.le_of_ble_eq_true rfl)⟩) ⟨fun a U g mk q => by obtain ⟨q0, q1, qK, qE⟩ := q; exact ⟨q0, q1, va_K.moved (u := U) (U := U.calling g mk a) (Vm.Alike.refl U.vm) qK, EVS.blind g mk a qE⟩, fun U hU hW => ⟨rfl, hU, va_K.moved hW.alike hK, hE.call hS hFc hU hW⟩⟩ rfl rfl hl.1 rfl (lv_room (Nat.le_of_ble_eq_true rfl)) dX12_land_40 ⟨(Nat.le_of_ble_eq_true rfl), (Nat.le_of_ble_eq_true rfl)⟩) hS (fun q _ h => hFc q h) hFc (fun r41 u t H locs ht hvm hw42 hB _ _ hS => ?_)
      obtain ⟨hT, hF1⟩ := hB
      rw [ht] at hT hF1
      have m43 := (hF1.fld hr_o0 skm_0 (k := 0) (by decide) (by decide)).trans m32
      have hF := hF.more hF1 (by decide)
      try dsimp only at hw42
      obtain ⟨h44, hi45, hi46⟩ := hw42
      refine lv_if_eq (tgt := 67) hx hb dX12_land_43 (by decide) (fun c47 => ?_) (fun c47 => ?_)
      · have t48 : r41.toInt = 0 := ti_eq c47 rfl (by decide)
        have t49 : (-900 : Int32).toInt = (-900) := by decide
        have t50 : (300 : Int32).toInt = 300 := by decide
        have t51 : p2.toInt < (-900 : Int32).toInt ∨ (300 : Int32).toInt < p2.toInt := hi46 c47
        refine lv_iconst (v := 1) hx hb dX12_land_67 (by decide) ?_
        refine lv_goto (tgt := 72) hx hb dX12_land_68 (by decide) ?_
        refine lv_iconst (v := 2) hx hb dX12_land_72 (by decide) ?_
        have hFc := gA_free hG hA hS
        refine va_calli (va_runV (As := [.int 1, .int 2]) (rest := []) ⟨hx, hb, hml, hown, hts⟩ (s_throwsIfP l dC dI kA adK adV G H q wZ0 wN wH wB wC wL wK wU wV PI im PM PT lS lB lE lN o0 1 2 u31 hT hr_o0 m43 (rg_t (a := 1) (by decide) (by first | decide | omega) (by first | decide | omega)) (fun _ => Int.le_refl 0) hgn hgh hgb hgc hgi hgu) (cwV 2 hts (goodIn_app (goodIn_r _ [10, 11, 12, 6] rfl (by decide +kernel)) (goodIn_ca (goodIn_r _ [9, 1] rfl (by decide +kernel)) (bs_in _ _))) rfl rfl rfl (by decide +kernel) ⟨(Nat.le_of_ble_eq_true rfl), (Nat.le_of_ble_eq_true rfl)⟩) ⟨fun a U g mk q => by obtain ⟨q0, q1, qK, qE⟩ := q; exact ⟨q0, q1, va_K.moved (u := U) (U := U.calling g mk a) (Vm.Alike.refl U.vm) qK, EVS.blind g mk a qE⟩, gH_rc hK hT hr_o0 shm_0 rfl, fun U hU hW => ⟨rfl, hU, va_K.moved hW.alike hK, hE.call hS hFc hU hW⟩⟩ rfl rfl hl.1 rfl (lv_room (Nat.le_of_ble_eq_true rfl)) dX12_land_73 ⟨(Nat.le_of_ble_eq_true rfl), (Nat.le_of_ble_eq_true rfl)⟩) hS (fun q _ h => hFc q h) hFc (fun r52 u t H locs ht hvm hw53 hB _ _ hS => ?_)
        obtain ⟨u54, rfl⟩ : ∃ z, z = u := ⟨_, rfl⟩
        obtain ⟨hT, hF1, m55⟩ := hB
        rw [ht] at hT hF1 m55
        have hF := hF.more hF1 (by decide)
        try dsimp only at hw53
        obtain ⟨h57, hf58, hd59⟩ := hw53
        have t60 : (1 : Int32).toInt = 1 := by decide
        have t61 : (2 : Int32).toInt = 2 := by decide
        obtain rfl : (1 : Int32) = r52 := hd59.symm
        refine lv_if_ne (tgt := 99) hx hb dX12_land_76 (by decide) (fun c62 => ?_) (fun c62 => absurd c62 (by decide))
        refine lv_iconst (v := 0) hx hb dX12_land_99 (by decide) ?_
        exact W.iret (v := 0) hx hb hr (fun t ht hW => ⟨⟨0, (u54, wL), rfl, (by exact ⟨(rg_t (a := 0) (by decide) (by first | decide | omega) (by first | decide | omega)), (fun _ h9 => h9), (Or.inr ⟨by have := laC_s wH p0.toInt p1.toInt p2.toInt p3.toInt p4.toInt; have q0 : (0 : Int32).toInt = 0 := (by decide); have q1 : (1 : Int32).toInt = 1 := (by decide); have q2 : (2 : Int32).toInt = 2 := (by decide); have q3 : (3 : Int32).toInt = 3 := (by decide); have qm : (-1 : Int32).toInt = -1 := (by decide); omega, by have := laC_s wH p0.toInt p1.toInt p2.toInt p3.toInt p4.toInt; have q0 : (0 : Int32).toInt = 0 := (by decide); have q1 : (1 : Int32).toInt = 1 := (by decide); have q2 : (2 : Int32).toInt = 2 := (by decide); have q3 : (3 : Int32).toInt = 3 := (by decide); have qm : (-1 : Int32).toInt = -1 := (by decide); omega, rfl⟩)⟩), by (try dsimp only); rw [ht]; exact ⟨hT, hF, m55⟩⟩, hS.F ht⟩) hS.2.2 dX12_land_100
      · have t63 : r41.toInt ≠ 0 := ti_ne c47 rfl (by decide)
        have t64 : (-900 : Int32).toInt = (-900) := by decide
        have t65 : (300 : Int32).toInt = 300 := by decide
        have t66 : (-900 : Int32).toInt ≤ p2.toInt ∧ p2.toInt ≤ (300 : Int32).toInt := hi45 ((bit_of ⟨by omega, by omega⟩).resolve_left c47)
        refine lv_iload hx hb dX12_land_46 (lv_at hl 4 rfl) ?_
        refine lv_iconst (v := 0) hx hb dX12_land_48 (by decide) ?_
        refine lv_iconst (v := 2) hx hb dX12_land_49 (by decide) ?_
        have hFc := gA_free hG hA hS
        refine va_calli (va_runS (As := [.int p3, .int 0, .int 2]) (rest := [.ref o0]) ⟨hx, hb, hml, hown, hts⟩ (s_in l dC dI kA adK adV G H q wZ0 wN wH wB wC wL wK wU wV PI im PM PT lS lB lE lN p3 0 2 hT (fun _ => Int.le_refl 0) hgn hgh hgb hgc hgi hgu) (va_cwS 3 hts (goodIn_app (goodIn_r _ [4, 5, 6] rfl (by decide +kernel)) (goodIn_ca (goodIn_r _ [3] rfl (by decide +kernel)) (bs_in _ _))) rfl rfl rfl (by decide +kernel) ⟨(Nat.le_of_ble_eq_true rfl), (Nat.le_of_ble_eq_true rfl)⟩) ⟨fun a U g mk q => by obtain ⟨q0, q1, qK, qE⟩ := q; exact ⟨q0, q1, va_K.moved (u := U) (U := U.calling g mk a) (Vm.Alike.refl U.vm) qK, EVS.blind g mk a qE⟩, fun U hU hW => ⟨rfl, hU, va_K.moved hW.alike hK, hE.call hS hFc hU hW⟩⟩ rfl rfl hl.1 rfl (lv_room (Nat.le_of_ble_eq_true rfl)) dX12_land_50 ⟨(Nat.le_of_ble_eq_true rfl), (Nat.le_of_ble_eq_true rfl)⟩) hS (fun q _ h => hFc q h) hFc (fun r67 u t H locs ht hvm hw68 hB _ _ hS => ?_)
        obtain ⟨hT, hF1⟩ := hB
        rw [ht] at hT hF1
        have m69 := (hF1.fld hr_o0 skm_0 (k := 0) (by decide) (by decide)).trans m43
        have hF := hF.more hF1 (by decide)
        try dsimp only at hw68
        obtain ⟨h70, hi71, hi72⟩ := hw68
        refine lv_if_eq (tgt := 67) hx hb dX12_land_53 (by decide) (fun c73 => ?_) (fun c73 => ?_)
        · have t74 : r67.toInt = 0 := ti_eq c73 rfl (by decide)
          have t75 : (0 : Int32).toInt = 0 := by decide
          have t76 : (2 : Int32).toInt = 2 := by decide
          have t77 : p3.toInt < (0 : Int32).toInt ∨ (2 : Int32).toInt < p3.toInt := hi72 c73
          refine lv_iconst (v := 1) hx hb dX12_land_67 (by decide) ?_
          refine lv_goto (tgt := 72) hx hb dX12_land_68 (by decide) ?_
          refine lv_iconst (v := 2) hx hb dX12_land_72 (by decide) ?_
          have hFc := gA_free hG hA hS
          refine va_calli (va_runV (As := [.int 1, .int 2]) (rest := []) ⟨hx, hb, hml, hown, hts⟩ (s_throwsIfP l dC dI kA adK adV G H q wZ0 wN wH wB wC wL wK wU wV PI im PM PT lS lB lE lN o0 1 2 u31 hT hr_o0 m69 (rg_t (a := 1) (by decide) (by first | decide | omega) (by first | decide | omega)) (fun _ => Int.le_refl 0) hgn hgh hgb hgc hgi hgu) (cwV 2 hts (goodIn_app (goodIn_r _ [10, 11, 12, 6] rfl (by decide +kernel)) (goodIn_ca (goodIn_r _ [9, 1] rfl (by decide +kernel)) (bs_in _ _))) rfl rfl rfl (by decide +kernel) ⟨(Nat.le_of_ble_eq_true rfl), (Nat.le_of_ble_eq_true rfl)⟩) ⟨fun a U g mk q => by obtain ⟨q0, q1, qK, qE⟩ := q; exact ⟨q0, q1, va_K.moved (u := U) (U := U.calling g mk a) (Vm.Alike.refl U.vm) qK, EVS.blind g mk a qE⟩, gH_rc hK hT hr_o0 shm_0 rfl, fun U hU hW => ⟨rfl, hU, va_K.moved hW.alike hK, hE.call hS hFc hU hW⟩⟩ rfl rfl hl.1 rfl (lv_room (Nat.le_of_ble_eq_true rfl)) dX12_land_73 ⟨(Nat.le_of_ble_eq_true rfl), (Nat.le_of_ble_eq_true rfl)⟩) hS (fun q _ h => hFc q h) hFc (fun r78 u t H locs ht hvm hw79 hB _ _ hS => ?_)
          obtain ⟨u80, rfl⟩ : ∃ z, z = u := ⟨_, rfl⟩
          obtain ⟨hT, hF1, m81⟩ := hB
          rw [ht] at hT hF1 m81
          have hF := hF.more hF1 (by decide)
          try dsimp only at hw79
          obtain ⟨h83, hf84, hd85⟩ := hw79
          have t86 : (1 : Int32).toInt = 1 := by decide
          have t87 : (2 : Int32).toInt = 2 := by decide
          obtain rfl : (1 : Int32) = r78 := hd85.symm
          refine lv_if_ne (tgt := 99) hx hb dX12_land_76 (by decide) (fun c88 => ?_) (fun c88 => absurd c88 (by decide))
          refine lv_iconst (v := 0) hx hb dX12_land_99 (by decide) ?_
          exact W.iret (v := 0) hx hb hr (fun t ht hW => ⟨⟨0, (u80, wL), rfl, (by exact ⟨(rg_t (a := 0) (by decide) (by first | decide | omega) (by first | decide | omega)), (fun _ h9 => h9), (Or.inr ⟨by have := laC_s wH p0.toInt p1.toInt p2.toInt p3.toInt p4.toInt; have q0 : (0 : Int32).toInt = 0 := (by decide); have q1 : (1 : Int32).toInt = 1 := (by decide); have q2 : (2 : Int32).toInt = 2 := (by decide); have q3 : (3 : Int32).toInt = 3 := (by decide); have qm : (-1 : Int32).toInt = -1 := (by decide); omega, by have := laC_s wH p0.toInt p1.toInt p2.toInt p3.toInt p4.toInt; have q0 : (0 : Int32).toInt = 0 := (by decide); have q1 : (1 : Int32).toInt = 1 := (by decide); have q2 : (2 : Int32).toInt = 2 := (by decide); have q3 : (3 : Int32).toInt = 3 := (by decide); have qm : (-1 : Int32).toInt = -1 := (by decide); omega, rfl⟩)⟩), by (try dsimp only); rw [ht]; exact ⟨hT, hF, m81⟩⟩, hS.F ht⟩) hS.2.2 dX12_land_100
        · have t89 : r67.toInt ≠ 0 := ti_ne c73 rfl (by decide)
          have t90 : (0 : Int32).toInt = 0 := by decide
          have t91 : (2 : Int32).toInt = 2 := by decide
          have t92 : (0 : Int32).toInt ≤ p3.toInt ∧ p3.toInt ≤ (2 : Int32).toInt := hi71 ((bit_of ⟨by omega, by omega⟩).resolve_left c73)
          refine lv_iload hx hb dX12_land_56 (lv_at hl 5 rfl) ?_
          refine lv_iconst (v := 0) hx hb dX12_land_58 (by decide) ?_
          refine lv_bipush (v := 20) hx hb dX12_land_59 (by decide) ?_
          have hFc := gA_free hG hA hS
          refine va_calli (va_runS (As := [.int p4, .int 0, .int 20]) (rest := [.ref o0]) ⟨hx, hb, hml, hown, hts⟩ (s_in l dC dI kA adK adV G H q wZ0 wN wH wB wC wL wK wU wV PI im PM PT lS lB lE lN p4 0 20 hT (fun _ => Int.le_refl 0) hgn hgh hgb hgc hgi hgu) (va_cwS 3 hts (goodIn_app (goodIn_r _ [4, 5, 6] rfl (by decide +kernel)) (goodIn_ca (goodIn_r _ [3] rfl (by decide +kernel)) (bs_in _ _))) rfl rfl rfl (by decide +kernel) ⟨(Nat.le_of_ble_eq_true rfl), (Nat.le_of_ble_eq_true rfl)⟩) ⟨fun a U g mk q => by obtain ⟨q0, q1, qK, qE⟩ := q; exact ⟨q0, q1, va_K.moved (u := U) (U := U.calling g mk a) (Vm.Alike.refl U.vm) qK, EVS.blind g mk a qE⟩, fun U hU hW => ⟨rfl, hU, va_K.moved hW.alike hK, hE.call hS hFc hU hW⟩⟩ rfl rfl hl.1 rfl (lv_room (Nat.le_of_ble_eq_true rfl)) dX12_land_61 ⟨(Nat.le_of_ble_eq_true rfl), (Nat.le_of_ble_eq_true rfl)⟩) hS (fun q _ h => hFc q h) hFc (fun r93 u t H locs ht hvm hw94 hB _ _ hS => ?_)
          obtain ⟨hT, hF1⟩ := hB
          rw [ht] at hT hF1
          have m95 := (hF1.fld hr_o0 skm_0 (k := 0) (by decide) (by decide)).trans m69
          have hF := hF.more hF1 (by decide)
          try dsimp only at hw94
          obtain ⟨h96, hi97, hi98⟩ := hw94
          refine lv_if_ne (tgt := 71) hx hb dX12_land_64 (by decide) (fun c99 => ?_) (fun c99 => ?_)
          · have t100 : r93.toInt ≠ 0 := ti_ne c99 rfl (by decide)
            have t101 : (0 : Int32).toInt = 0 := by decide
            have t102 : (20 : Int32).toInt = 20 := by decide
            have t103 : (0 : Int32).toInt ≤ p4.toInt ∧ p4.toInt ≤ (20 : Int32).toInt := hi97 ((bit_of ⟨by omega, by omega⟩).resolve_left c99)
            refine lv_iconst (v := 0) hx hb dX12_land_71 (by decide) ?_
            refine lv_iconst (v := 2) hx hb dX12_land_72 (by decide) ?_
            have hFc := gA_free hG hA hS
            refine va_calli (va_runV (As := [.int 0, .int 2]) (rest := []) ⟨hx, hb, hml, hown, hts⟩ (s_throwsIfP l dC dI kA adK adV G H q wZ0 wN wH wB wC wL wK wU wV PI im PM PT lS lB lE lN o0 0 2 u31 hT hr_o0 m95 (rg_t (a := 0) (by decide) (by first | decide | omega) (by first | decide | omega)) (fun _ => Int.le_refl 0) hgn hgh hgb hgc hgi hgu) (cwV 2 hts (goodIn_app (goodIn_r _ [10, 11, 12, 6] rfl (by decide +kernel)) (goodIn_ca (goodIn_r _ [9, 1] rfl (by decide +kernel)) (bs_in _ _))) rfl rfl rfl (by decide +kernel) ⟨(Nat.le_of_ble_eq_true rfl), (Nat.le_of_ble_eq_true rfl)⟩) ⟨fun a U g mk q => by obtain ⟨q0, q1, qK, qE⟩ := q; exact ⟨q0, q1, va_K.moved (u := U) (U := U.calling g mk a) (Vm.Alike.refl U.vm) qK, EVS.blind g mk a qE⟩, gH_rc hK hT hr_o0 shm_0 rfl, fun U hU hW => ⟨rfl, hU, va_K.moved hW.alike hK, hE.call hS hFc hU hW⟩⟩ rfl rfl hl.1 rfl (lv_room (Nat.le_of_ble_eq_true rfl)) dX12_land_73 ⟨(Nat.le_of_ble_eq_true rfl), (Nat.le_of_ble_eq_true rfl)⟩) hS (fun q _ h => hFc q h) hFc (fun r104 u t H locs ht hvm hw105 hB _ _ hS => ?_)
            obtain ⟨u106, rfl⟩ : ∃ z, z = u := ⟨_, rfl⟩
            obtain ⟨hT, hF1, m107⟩ := hB
            rw [ht] at hT hF1 m107
            have hF := hF.more hF1 (by decide)
            try dsimp only at hw105
            obtain ⟨h109, hf110, hd111⟩ := hw105
            have t112 : (0 : Int32).toInt = 0 := by decide
            have t113 : (2 : Int32).toInt = 2 := by decide
            obtain rfl : (0 : Int32) = r104 := hd111.symm
            refine lv_if_ne (tgt := 99) hx hb dX12_land_76 (by decide) (fun c114 => absurd c114 (by decide)) (fun c114 => ?_)
            refine lv_aload_n hx hb dX12_land_79 rfl (lv_at hl 0 rfl) ?_
            refine lv_aload_n hx hb dX12_land_80 rfl (lv_at hl 0 rfl) ?_
            have hFc := gA_free hG hA hS
            refine va_calli (va_runV (As := []) (rest := [.ref o0]) ⟨hx, hb, hml, hown, hts⟩ (s_hour l dC dI kA adK adV G H q wZ0 wN wH wB wC wL wK wU wV PI im PM PT lS lB lE lN o0 hT hr_o0 (fun _ => Int.le_refl 0) hgn hgh hgb hgc hgi hgu) (cwV 0 hts (goodIn_app (goodIn_r _ [15, 16, 17, 6] rfl (by decide +kernel)) (goodIn_ca (goodIn_r _ [13, 14] rfl (by decide +kernel)) (bs_in _ _))) rfl rfl rfl (by decide +kernel) ⟨(Nat.le_of_ble_eq_true rfl), (Nat.le_of_ble_eq_true rfl)⟩) ⟨fun a U g mk q => by obtain ⟨q0, q1, qK, qE⟩ := q; exact ⟨q0, q1, va_K.moved (u := U) (U := U.calling g mk a) (Vm.Alike.refl U.vm) qK, EVS.blind g mk a qE⟩, gH_rc hK hT hr_o0 shm_0 rfl, fun U hU hW => ⟨rfl, hU, va_K.moved hW.alike hK, hE.call hS hFc hU hW⟩⟩ rfl rfl hl.1 rfl (lv_room (Nat.le_of_ble_eq_true rfl)) dX12_land_81 ⟨(Nat.le_of_ble_eq_true rfl), (Nat.le_of_ble_eq_true rfl)⟩) hS (fun q _ h => hFc q h) hFc (fun r115 u t H locs ht hvm hw116 hB _ _ hS => ?_)
            obtain ⟨hT, hF1⟩ := hB
            rw [ht] at hT hF1
            have m117 := (hF1.fld hr_o0 skm_0 (k := 0) (by decide) (by decide)).trans m107
            have hF := hF.more hF1 (by decide)
            try dsimp only at hw116
            obtain ⟨h118, hf119⟩ := hw116
            refine lv_if_le (tgt := 91) hx hb dX12_land_84 (by decide) (fun c120 => ?_) (fun c120 => ?_)
            · have t121 : r115.toInt ≤ 0 := ti_le c120 rfl (by decide)
              refine lv_iconst (v := 0) hx hb dX12_land_91 (by decide) ?_
              refine lv_iconst (v := 3) hx hb dX12_land_92 (by decide) ?_
              have hFc := gA_free hG hA hS
              refine va_calli (va_runV (As := [.int 0, .int 3]) (rest := []) ⟨hx, hb, hml, hown, hts⟩ (s_throwsIfP l dC dI kA adK adV G H q wZ0 wN wH wB wC wL wK wU wV PI im PM PT lS lB lE lN o0 0 3 u106 hT hr_o0 m117 (rg_t (a := 0) (by decide) (by first | decide | omega) (by first | decide | omega)) (fun _ => Int.le_refl 0) hgn hgh hgb hgc hgi hgu) (cwV 2 hts (goodIn_app (goodIn_r _ [10, 11, 12, 6] rfl (by decide +kernel)) (goodIn_ca (goodIn_r _ [9, 1] rfl (by decide +kernel)) (bs_in _ _))) rfl rfl rfl (by decide +kernel) ⟨(Nat.le_of_ble_eq_true rfl), (Nat.le_of_ble_eq_true rfl)⟩) ⟨fun a U g mk q => by obtain ⟨q0, q1, qK, qE⟩ := q; exact ⟨q0, q1, va_K.moved (u := U) (U := U.calling g mk a) (Vm.Alike.refl U.vm) qK, EVS.blind g mk a qE⟩, gH_rc hK hT hr_o0 shm_0 rfl, fun U hU hW => ⟨rfl, hU, va_K.moved hW.alike hK, hE.call hS hFc hU hW⟩⟩ rfl rfl hl.1 rfl (lv_room (Nat.le_of_ble_eq_true rfl)) dX12_land_93 ⟨(Nat.le_of_ble_eq_true rfl), (Nat.le_of_ble_eq_true rfl)⟩) hS (fun q _ h => hFc q h) hFc (fun r122 u t H locs ht hvm hw123 hB _ _ hS => ?_)
              obtain ⟨u124, rfl⟩ : ∃ z, z = u := ⟨_, rfl⟩
              obtain ⟨hT, hF1, m125⟩ := hB
              rw [ht] at hT hF1 m125
              have hF := hF.more hF1 (by decide)
              try dsimp only at hw123
              obtain ⟨h127, hf128, hd129⟩ := hw123
              have t130 : (0 : Int32).toInt = 0 := by decide
              have t131 : (3 : Int32).toInt = 3 := by decide
              obtain rfl : (0 : Int32) = r122 := hd129.symm
              refine lv_if_eq (tgt := 101) hx hb dX12_land_96 (by decide) (fun c132 => ?_) (fun c132 => absurd c132 (by decide))
              refine lv_iconst (v := 0) hx hb dX12_land_101 (by decide) ?_
              refine lv_istore (lv' := [(6, .int 0), (0, .ref o0), (1, .int p0), (2, .int p1), (3, .int p2), (4, .int p3), (5, .int p4)]) hx hb dX12_land_102 hl (by decide) rfl (fun ls hl => ?_)
              refine lv_iconst (v := 0) hx hb dX12_land_104 (by decide) ?_
              refine lv_istore (lv' := [(7, .int 0), (6, .int 0), (0, .ref o0), (1, .int p0), (2, .int p1), (3, .int p2), (4, .int p3), (5, .int p4)]) hx hb dX12_land_105 hl (by decide) rfl (fun ls hl => ?_)
              have key304 : ∀ (n304 i133 : Nat), i133 + n304 = 96 → 0 ≤ i133 → ∀ (z134 : Int32), ((0 + 0 * (i133 : Int) ≤ z134.toInt ∧ z134.toInt ≤ 0 + 1 * (i133 : Int)) ∧ (z134.toInt = ldN L p0.toInt p1.toInt i133)) → ∀ (H : Heap) (locs : List Loc), gH (dC, dI) kA (SHm q (wP wZ0 wN wH wB wC (lndB wL p0.toInt p1.toInt i133) wK wU wV) PI im PM PT lS lB lE lN) G H → gF (dC, dI) SKm G ([(0, 0), (0, 9), (2, 0)] : List (Nat × Nat)) s.heap H → va_S A s.heap H locs → el H o0 (dI 15 0) = some (.int u124) → ∀ ls : Array Slot, lv_has ls 8 [(7, .int (nI i133)), (6, .int z134), (0, .ref o0), (1, .int p0), (2, .int p1), (3, .int p2), (4, .int p3), (5, .int p4)] → W p l e (headSpec w_s_landC ({ frames := 2, cells := 0, slots := 0, locals := 64 })).room s m #[.ref o0, .int p0, .int p1, .int p2, .int p3, .int p4] below meth c H locs 0 0 (MQ below (va_Qi (fun (r : Int32) (u : Int32 × (Nat → Prop)) => match u with | (t1, wL1) => (0 ≤ r.toInt ∧ r.toInt ≤ 96) ∧ (∀ j, wL j → wL1 j) ∧ ((laC wH p0.toInt p1.toInt p2.toInt p3.toInt p4.toInt = 0 ∧ t1.toInt = 0 ∧ wL1 = lndB wL p0.toInt p1.toInt 96 ∧ r.toInt = ldN L p0.toInt p1.toInt 96) ∨ (laC wH p0.toInt p1.toInt p2.toInt p3.toInt p4.toInt ≠ 0 ∧ t1.toInt = laC wH p0.toInt p1.toInt p2.toInt p3.toInt p4.toInt ∧ wL1 = wL))) (fun (u : Int32 × (Nat → Prop)) (t : State) => match u with | (t1, wL1) => gH (dC, dI) kA (SHm q (wP wZ0 wN wH wB wC wL1 wK wU wV) PI im PM PT lS lB lE lN) G t.heap ∧ gF (dC, dI) SKm G ([(0, 0), (0, 9), (2, 0)] : List (Nat × Nat)) s.heap t.heap ∧ el t.heap o0 (dI 15 0) = some (.int t1)) A) #[.ref o0, .int p0, .int p1, .int p2, .int p3, .int p4] s 0 0 A) (F0 m 107 ls []) := by
                intro n304
                induction n304 with
                | zero =>
                  intro i133 hn304 hlo305 z134 ⟨h135, hj137⟩ H locs hT hF hS m136 ls hl
                  obtain rfl : 96 = i133 := by omega
                  refine lv_iload hx hb dX12_land_107 (lv_at hl 0 rfl) ?_
                  refine lv_bipush (v := 96) hx hb dX12_land_109 (by decide) ?_
                  refine lv_icmp_ge (tgt := 245) hx hb dX12_land_111 (by decide) (fun c306 => ?_) (fun c306 => (by exfalso; have q9 : ((96 : Nat) : Int) < 96 := ti_nle c306 (by decide) (nI_toInt (by omega)); omega))
                  have t307 : 96 ≤ ((96 : Nat) : Int) := ti_le c306 (by decide) (nI_toInt (by omega))
                  refine lv_aload_n hx hb dX12_land_245 rfl (lv_at hl 2 rfl) ?_
                  refine lv_iconst (v := 0) hx hb dX12_land_246 (by decide) ?_
                  refine tw_put (v := .int 0) (ty := .int) hx hb hts bF_X12 tyX12 tyX12_ok nmX12 hown hK hT hG hS hr_o0 shm_0 rfl 9 (by decide) (ht_at hts 17 rfl) (fun _ h9 => h9) rfl (by decide +kernel) rfl rfl (gl_at rfl (gi_of (show (0 : Int32).toInt = 0 from (by decide)) (by first | decide | omega) (by first | decide | omega))) dX12_land_247 (fun H locs hT oq m308 oj hS => ?_)
                  have hF := hF.put hr_o0 skm_0 oq oj (by decide)
                  have m309 := (oj 0 (by decide) (by decide)).trans m136
                  refine lv_iload hx hb dX12_land_250 (lv_at hl 1 rfl) ?_
                  exact W.iret (v := z134) hx hb hr (fun t ht hW => ⟨⟨z134, (u124, (lndB wL p0.toInt p1.toInt 96)), rfl, (by exact ⟨(by have q8 := ti_all z134; omega), (fun _ h9 => Or.inl h9), (Or.inl ⟨by have := laC_s wH p0.toInt p1.toInt p2.toInt p3.toInt p4.toInt; omega, by have q0 : (0 : Int32).toInt = 0 := (by decide); have q1 : (1 : Int32).toInt = 1 := (by decide); have q2 : (2 : Int32).toInt = 2 := (by decide); have q3 : (3 : Int32).toInt = 3 := (by decide); have qm : (-1 : Int32).toInt = -1 := (by decide); omega, rfl, hj137⟩)⟩), by (try dsimp only); rw [ht]; exact ⟨hT, hF, m309⟩⟩, hS.F ht⟩) hS.2.2 dX12_land_252
                | succ n304 ih304 =>
                  intro i133 hn304 hlo305 z134 ⟨h135, hj137⟩ H locs hT hF hS m136 ls hl
                  have hlt309 : i133 < 96 := by omega
                  refine lv_iload hx hb dX12_land_107 (lv_at hl 0 rfl) ?_
                  refine lv_bipush (v := 96) hx hb dX12_land_109 (by decide) ?_
                  refine lv_icmp_ge (tgt := 245) hx hb dX12_land_111 (by decide) (fun c310 => (by exfalso; have q9 : 96 ≤ ((i133 : Nat) : Int) := ti_le c310 (by decide) (nI_toInt (by omega)); omega)) (fun c310 => ?_)
                  have t311 : ((i133 : Nat) : Int) < 96 := ti_nle c310 (by decide) (nI_toInt (by omega))
                  refine lv_iload hx hb dX12_land_114 (lv_at hl 0 rfl) ?_
                  refine lv_iload_n hx hb dX12_land_116 rfl (lv_at hl 3 rfl) ?_
                  refine lv_iload_n hx hb dX12_land_117 rfl (lv_at hl 4 rfl) ?_
                  have hFc := gA_free hG hA hS
                  refine va_calli (va_runS (As := [.int (nI i133), .int p0, .int p1]) (rest := []) ⟨hx, hb, hml, hown, hts⟩ (s_isInE l dC dI kA adK adV G H q wZ0 wN wH wB wC (lndB wL p0.toInt p1.toInt i133) wK wU wV PI im PM PT lS lB lE lN (nI i133) p0 p1 hT (rg_t (a := ((i133 : Nat) : Int)) (nI_toInt (by omega)) (by omega) (by omega)) (by have q8 := ti_all p0; omega) (by have q8 := ti_all p1; omega) (fun _ => Int.le_refl 0) hgn (by omega) (by omega) (by omega) (by omega) hgu) (va_cwS 3 hts (goodIn_app (goodIn_r _ [27, 28, 6] rfl (by decide +kernel)) (goodIn_ca (goodIn_r _ [19, 20, 21, 22, 23, 24, 25, 26, 3, 4, 5, 6] rfl (by decide +kernel)) (bs_in _ _))) rfl rfl rfl (by decide +kernel) ⟨(Nat.le_of_ble_eq_true rfl), (Nat.le_of_ble_eq_true rfl)⟩) ⟨fun a U g mk q => by obtain ⟨q0, q1, qK, qE⟩ := q; exact ⟨q0, q1, va_K.moved (u := U) (U := U.calling g mk a) (Vm.Alike.refl U.vm) qK, EVS.blind g mk a qE⟩, fun U hU hW => ⟨rfl, hU, va_K.moved hW.alike hK, hE.call hS hFc hU hW⟩⟩ rfl rfl hl.1 rfl (lv_room (Nat.le_of_ble_eq_true rfl)) dX12_land_118 ⟨(Nat.le_of_ble_eq_true rfl), (Nat.le_of_ble_eq_true rfl)⟩) hS (fun q _ h => hFc q h) hFc (fun r312 u t H locs ht hvm hw313 hB _ _ hS => ?_)
                  obtain ⟨hT, hF1⟩ := hB
                  rw [ht] at hT hF1
                  have m314 := (hF1.fld hr_o0 skm_0 (k := 0) (by decide) (by decide)).trans m136
                  have hF := hF.more hF1 (by decide)
                  try dsimp only at hw313
                  obtain ⟨h315, hf316⟩ := hw313
                  have t317 : (nI i133).toInt = ((i133 : Nat) : Int) := nI_toInt (by omega)
                  refine lv_if_ne (tgt := 127) hx hb dX12_land_121 (by decide) (fun c318 => ?_) (fun c318 => ?_)
                  · have t319 : r312.toInt ≠ 0 := ti_ne c318 rfl (by decide)
                    refine lv_iload hx hb dX12_land_127 (lv_at hl 1 rfl) ?_
                    refine lv_aload_n hx hb dX12_land_129 rfl (lv_at hl 2 rfl) ?_
                    refine lv_iload hx hb dX12_land_130 (lv_at hl 0 rfl) ?_
                    have hFc := gA_free hG hA hS
                    refine va_calli (va_runV (As := [.int (nI i133)]) (rest := [.int z134]) ⟨hx, hb, hml, hown, hts⟩ (s_isLand l dC dI kA adK adV G H q wZ0 wN wH wB wC (lndB wL p0.toInt p1.toInt i133) wK wU wV PI im PM PT lS lB lE lN o0 (nI i133) hT hr_o0 (rg_t (a := ((i133 : Nat) : Int)) (nI_toInt (by omega)) (by omega) (by omega)) (fun _ => Int.le_refl 0) hgn (by omega) (by omega) (by omega) (by omega) hgu) (cwV 1 hts (goodIn_app (goodIn_r _ [30, 31, 32, 6] rfl (by decide +kernel)) (goodIn_ca (goodIn_r _ [29, 14] rfl (by decide +kernel)) (bs_in _ _))) rfl rfl rfl (by decide +kernel) ⟨(Nat.le_of_ble_eq_true rfl), (Nat.le_of_ble_eq_true rfl)⟩) ⟨fun a U g mk q => by obtain ⟨q0, q1, qK, qE⟩ := q; exact ⟨q0, q1, va_K.moved (u := U) (U := U.calling g mk a) (Vm.Alike.refl U.vm) qK, EVS.blind g mk a qE⟩, gH_rc hK hT hr_o0 shm_0 rfl, fun U hU hW => ⟨rfl, hU, va_K.moved hW.alike hK, hE.call hS hFc hU hW⟩⟩ rfl rfl hl.1 rfl (lv_room (Nat.le_of_ble_eq_true rfl)) dX12_land_132 ⟨(Nat.le_of_ble_eq_true rfl), (Nat.le_of_ble_eq_true rfl)⟩) hS (fun q _ h => hFc q h) hFc (fun r320 u t H locs ht hvm hw321 hB _ _ hS => ?_)
                    obtain ⟨hT, hF1⟩ := hB
                    rw [ht] at hT hF1
                    have m322 := (hF1.fld hr_o0 skm_0 (k := 0) (by decide) (by decide)).trans m314
                    have hF := hF.more hF1 (by decide)
                    try dsimp only at hw321
                    obtain ⟨h323, hi324, hi325⟩ := hw321
                    refine lv_if_eq (tgt := 142) hx hb dX12_land_135 (by decide) (fun c326 => ?_) (fun c326 => ?_)
                    · have t327 : r320.toInt = 0 := ti_eq c326 rfl (by decide)
                      have t328 : ¬ (lndB wL p0.toInt p1.toInt i133) (nI i133).toNatClampNeg := hi325 c326
                      refine lv_iconst (v := 1) hx hb dX12_land_142 (by decide) ?_
                      refine lv_iadd hx hb dX12_land_143 ?_
                      refine lv_topi (fun x329 ex329 => ?_)
                      have t330 : x329.toInt = z134.toInt + 1 := ti_add ex329 rfl (by decide) (by omega) (by omega)
                      refine lv_istore (lv' := [(6, .int x329), (7, .int (nI i133)), (0, .ref o0), (1, .int p0), (2, .int p1), (3, .int p2), (4, .int p3), (5, .int p4)]) hx hb dX12_land_144 hl (by decide) rfl (fun ls hl => ?_)
                      refine lv_aload_n hx hb dX12_land_146 rfl (lv_at hl 2 rfl) ?_
                      refine tw_get hx hb hts bF_X12 hown hK hT hr_o0 shm_0 rfl 1 (by decide) (ht_at hts 13 rfl) (fun _ h9 => h9) dX12_land_147 (fun v9 m331 h9 => ?_)
                      obtain ⟨rfl, hg332⟩ := h9 _ rfl
                      refine lv_sipush (v := 1748) hx hb dX12_land_150 (by decide) ?_
                      refine lv_dup2_11 hx hb dX12_land_153 rfl rfl ?_
                      refine tw_iald (i := 1748) hx hb hK hT hg332 shm_2 rfl (by unfold vp_in; decide) dX12_land_154 (fun v9 m333 h9 => ?_)
                      obtain ⟨x334, rfl, gx334, kx334⟩ := (gp_at h9 (w_fre (by have q9 := tn_of (show (1748 : Int32).toInt = 1748 from (by decide)) (show (0 : Int) ≤ 1748 from by omega); omega)))
                      refine lv_aload_n hx hb dX12_land_155 rfl (lv_at hl 2 rfl) ?_
                      refine tw_get hx hb hts bF_X12 hown hK hT hr_o0 shm_0 rfl 1 (by decide) (ht_at hts 13 rfl) (fun _ h9 => h9) dX12_land_156 (fun v9 m335 h9 => ?_)
                      obtain ⟨rfl, hg336⟩ := h9 _ rfl
                      refine lv_sipush (v := 384) hx hb dX12_land_159 (by decide) ?_
                      refine lv_iload hx hb dX12_land_162 (lv_at hl 1 rfl) ?_
                      refine lv_iadd hx hb dX12_land_164 ?_
                      refine lv_topi (fun x337 ex337 => ?_)
                      obtain rfl : nI (384 + i133) = x337 := (ex337.trans (nI_add 384 i133)).symm
                      refine tw_iald (i := (nI (384 + i133))) hx hb hK hT hg332 shm_2 rfl (vp_in_nI (by omega) (by decide)) dX12_land_165 (fun v9 m338 h9 => ?_)
                      obtain ⟨x339, rfl, gx339, kx339⟩ := (gw_at h9 (w_wat (by have q9 := tn_of (show (nI (384 + i133)).toInt = ((384 + i133 : Nat) : Int) from (nI_toInt (by omega))) (show (0 : Int) ≤ ((384 + i133 : Nat) : Int) from by omega); omega)) hgn (fun _ => Int.le_refl 0))
                      refine lv_isub hx hb dX12_land_166 ?_
                      refine lv_topi (fun x340 ex340 => ?_)
                      refine tw_iast (i := 1748) (x := x340) hx hb hK hT hG hS hg332 shm_2 rfl (by unfold vp_in; decide) (gp_of (gi_all _) (w_fre (by have q9 := tn_of (show (1748 : Int32).toInt = 1748 from (by decide)) (show (0 : Int) ≤ 1748 from by omega); omega)) (wX_o (by have q9 := tn_of (show (1748 : Int32).toInt = 1748 from (by decide)) (show (0 : Int) ≤ 1748 from by omega); omega) (by omega))) dX12_land_167 (fun H locs hT oq m341 oi hS => ?_)
                      have hF := hF.ast hg332 skm_2 oq (by decide)
                      have m342 := (el_kept (oq _ (gne hr_o0 hg332 (by decide)))).trans m322
                      have m343 := (oi _ (tn_ne (show (nI (384 + i133)).toInt = ((384 + i133 : Nat) : Int) from (nI_toInt (by omega))) (show (1748 : Int32).toInt = 1748 from (by decide)) (by omega) (by omega) (by omega))).trans m338
                      refine lv_aload_n hx hb dX12_land_168 rfl (lv_at hl 2 rfl) ?_
                      refine tw_get hx hb hts bF_X12 hown hK hT hr_o0 shm_0 rfl 1 (by decide) (ht_at hts 13 rfl) (fun _ h9 => h9) dX12_land_169 (fun v9 m344 h9 => ?_)
                      obtain ⟨rfl, hg345⟩ := h9 _ rfl
                      refine lv_iconst (v := 0) hx hb dX12_land_172 (by decide) ?_
                      refine lv_iload hx hb dX12_land_173 (lv_at hl 1 rfl) ?_
                      refine lv_iadd hx hb dX12_land_175 ?_
                      refine lv_topi (fun x346 ex346 => ?_)
                      obtain rfl : nI (0 + i133) = x346 := (ex346.trans (nI_add 0 i133)).symm
                      refine lv_iconst (v := 1) hx hb dX12_land_176 (by decide) ?_
                      have t347 : (((nI (0 + i133)).toNatClampNeg : Nat) : Int) = ((0 + i133 : Nat) : Int) := tn_of (show (nI (0 + i133)).toInt = ((0 + i133 : Nat) : Int) from (nI_toInt (by omega))) (by omega)
                      refine tw_iast2 (Sg1 := (SHm q (wP wZ0 wN wH wB wC (fun j => (lndB wL p0.toInt p1.toInt i133) j ∨ j = i133) wK wU wV) PI im PM PT lS lB lE lN)) (i := (nI (0 + i133))) (x := 1) hx hb hK hT hG hS hg332 shm_2 rfl shm_2 shm_o2 (fun b9 h9 => hgu b9 1 h9) (vp_in_nI (by omega) (by decide)) (gp_of (gi_all _) (w_fre (by omega)) (wX_l (by omega) (Or.inr (by omega)) (by decide))) (fun k9 hk9 hne9 v9 hv9 he9 => by obtain ⟨x9, rfl, p9⟩ := he9; exact ⟨x9, rfl, wP_L (fun _ => ⟨Or.inl, fun z9 => z9.resolve_right (by omega)⟩) p9⟩) dX12_land_177 (fun H locs hT oq m348 oi hS => ?_)
                      have hF := hF.ast hg332 skm_2 oq (by decide)
                      have m349 := (el_kept (oq _ (gne hr_o0 hg332 (by decide)))).trans m342
                      have m350 := (oi _ (tn_ne (show (nI (384 + i133)).toInt = ((384 + i133 : Nat) : Int) from (nI_toInt (by omega))) (show (nI (0 + i133)).toInt = ((0 + i133 : Nat) : Int) from (nI_toInt (by omega))) (by omega) (by omega) (by omega))).trans m343
                      have m351 := (oi _ (tn_ne (show (1748 : Int32).toInt = 1748 from (by decide)) (show (nI (0 + i133)).toInt = ((0 + i133 : Nat) : Int) from (nI_toInt (by omega))) (by omega) (by omega) (by omega))).trans m341
                      refine lv_aload_n hx hb dX12_land_178 rfl (lv_at hl 2 rfl) ?_
                      refine tw_get hx hb hts bF_X12 hown hK hT hr_o0 shm_0 rfl 1 (by decide) (ht_at hts 13 rfl) (fun _ h9 => h9) dX12_land_179 (fun v9 m352 h9 => ?_)
                      obtain ⟨rfl, hg353⟩ := h9 _ rfl
                      refine lv_bipush (v := 96) hx hb dX12_land_182 (by decide) ?_
                      refine lv_iload hx hb dX12_land_184 (lv_at hl 1 rfl) ?_
                      refine lv_iadd hx hb dX12_land_186 ?_
                      refine lv_topi (fun x354 ex354 => ?_)
                      obtain rfl : nI (96 + i133) = x354 := (ex354.trans (nI_add 96 i133)).symm
                      refine lv_iload_n hx hb dX12_land_187 rfl (lv_at hl 5 rfl) ?_
                      refine tw_iast (i := (nI (96 + i133))) (x := p2) hx hb hK hT hG hS hg332 shm_2 rfl (vp_in_nI (by omega) (by decide)) (gp_of (gi_of (show p2.toInt = p2.toInt from rfl) (by omega) (by omega)) (w_hgt (by have q9 := tn_of (show (nI (96 + i133)).toInt = ((96 + i133 : Nat) : Int) from (nI_toInt (by omega))) (show (0 : Int) ≤ ((96 + i133 : Nat) : Int) from by omega); omega)) (wX_o (by have q9 := tn_of (show (nI (96 + i133)).toInt = ((96 + i133 : Nat) : Int) from (nI_toInt (by omega))) (show (0 : Int) ≤ ((96 + i133 : Nat) : Int) from by omega); omega) (by omega))) dX12_land_188 (fun H locs hT oq m355 oi hS => ?_)
                      have hF := hF.ast hg332 skm_2 oq (by decide)
                      have m356 := (el_kept (oq _ (gne hr_o0 hg332 (by decide)))).trans m349
                      have m357 := (oi _ (tn_ne (show (nI (384 + i133)).toInt = ((384 + i133 : Nat) : Int) from (nI_toInt (by omega))) (show (nI (96 + i133)).toInt = ((96 + i133 : Nat) : Int) from (nI_toInt (by omega))) (by omega) (by omega) (by omega))).trans m350
                      have m358 := (oi _ (tn_ne (show (1748 : Int32).toInt = 1748 from (by decide)) (show (nI (96 + i133)).toInt = ((96 + i133 : Nat) : Int) from (nI_toInt (by omega))) (by omega) (by omega) (by omega))).trans m351
                      have m359 := (oi _ (tn_ne (show (nI (0 + i133)).toInt = ((0 + i133 : Nat) : Int) from (nI_toInt (by omega))) (show (nI (96 + i133)).toInt = ((96 + i133 : Nat) : Int) from (nI_toInt (by omega))) (by omega) (by omega) (by omega))).trans m348
                      refine lv_aload_n hx hb dX12_land_189 rfl (lv_at hl 2 rfl) ?_
                      refine tw_get hx hb hts bF_X12 hown hK hT hr_o0 shm_0 rfl 1 (by decide) (ht_at hts 13 rfl) (fun _ h9 => h9) dX12_land_190 (fun v9 m360 h9 => ?_)
                      obtain ⟨rfl, hg361⟩ := h9 _ rfl
                      refine lv_sipush (v := 192) hx hb dX12_land_193 (by decide) ?_
                      refine lv_iload hx hb dX12_land_196 (lv_at hl 1 rfl) ?_
                      refine lv_iadd hx hb dX12_land_198 ?_
                      refine lv_topi (fun x362 ex362 => ?_)
                      obtain rfl : nI (192 + i133) = x362 := (ex362.trans (nI_add 192 i133)).symm
                      refine lv_iload hx hb dX12_land_199 (lv_at hl 6 rfl) ?_
                      refine tw_iast (i := (nI (192 + i133))) (x := p3) hx hb hK hT hG hS hg332 shm_2 rfl (vp_in_nI (by omega) (by decide)) (gp_of (gi_all _) (w_fre (by have q9 := tn_of (show (nI (192 + i133)).toInt = ((192 + i133 : Nat) : Int) from (nI_toInt (by omega))) (show (0 : Int) ≤ ((192 + i133 : Nat) : Int) from by omega); omega)) (wX_o (by have q9 := tn_of (show (nI (192 + i133)).toInt = ((192 + i133 : Nat) : Int) from (nI_toInt (by omega))) (show (0 : Int) ≤ ((192 + i133 : Nat) : Int) from by omega); omega) (by omega))) dX12_land_201 (fun H locs hT oq m363 oi hS => ?_)
                      have hF := hF.ast hg332 skm_2 oq (by decide)
                      have m364 := (el_kept (oq _ (gne hr_o0 hg332 (by decide)))).trans m356
                      have m365 := (oi _ (tn_ne (show (nI (384 + i133)).toInt = ((384 + i133 : Nat) : Int) from (nI_toInt (by omega))) (show (nI (192 + i133)).toInt = ((192 + i133 : Nat) : Int) from (nI_toInt (by omega))) (by omega) (by omega) (by omega))).trans m357
                      have m366 := (oi _ (tn_ne (show (1748 : Int32).toInt = 1748 from (by decide)) (show (nI (192 + i133)).toInt = ((192 + i133 : Nat) : Int) from (nI_toInt (by omega))) (by omega) (by omega) (by omega))).trans m358
                      have m367 := (oi _ (tn_ne (show (nI (0 + i133)).toInt = ((0 + i133 : Nat) : Int) from (nI_toInt (by omega))) (show (nI (192 + i133)).toInt = ((192 + i133 : Nat) : Int) from (nI_toInt (by omega))) (by omega) (by omega) (by omega))).trans m359
                      have m368 := (oi _ (tn_ne (show (nI (96 + i133)).toInt = ((96 + i133 : Nat) : Int) from (nI_toInt (by omega))) (show (nI (192 + i133)).toInt = ((192 + i133 : Nat) : Int) from (nI_toInt (by omega))) (by omega) (by omega) (by omega))).trans m355
                      refine lv_aload_n hx hb dX12_land_202 rfl (lv_at hl 2 rfl) ?_
                      refine tw_get hx hb hts bF_X12 hown hK hT hr_o0 shm_0 rfl 1 (by decide) (ht_at hts 13 rfl) (fun _ h9 => h9) dX12_land_203 (fun v9 m369 h9 => ?_)
                      obtain ⟨rfl, hg370⟩ := h9 _ rfl
                      refine lv_sipush (v := 288) hx hb dX12_land_206 (by decide) ?_
                      refine lv_iload hx hb dX12_land_209 (lv_at hl 1 rfl) ?_
                      refine lv_iadd hx hb dX12_land_211 ?_
                      refine lv_topi (fun x371 ex371 => ?_)
                      obtain rfl : nI (288 + i133) = x371 := (ex371.trans (nI_add 288 i133)).symm
                      refine lv_iload hx hb dX12_land_212 (lv_at hl 7 rfl) ?_
                      refine tw_iast (i := (nI (288 + i133))) (x := p4) hx hb hK hT hG hS hg332 shm_2 rfl (vp_in_nI (by omega) (by decide)) (gp_of (gi_of (show p4.toInt = p4.toInt from rfl) (by omega) (by omega)) (w_dit (by have q9 := tn_of (show (nI (288 + i133)).toInt = ((288 + i133 : Nat) : Int) from (nI_toInt (by omega))) (show (0 : Int) ≤ ((288 + i133 : Nat) : Int) from by omega); omega)) (wX_o (by have q9 := tn_of (show (nI (288 + i133)).toInt = ((288 + i133 : Nat) : Int) from (nI_toInt (by omega))) (show (0 : Int) ≤ ((288 + i133 : Nat) : Int) from by omega); omega) (by omega))) dX12_land_214 (fun H locs hT oq m372 oi hS => ?_)
                      have hF := hF.ast hg332 skm_2 oq (by decide)
                      have m373 := (el_kept (oq _ (gne hr_o0 hg332 (by decide)))).trans m364
                      have m374 := (oi _ (tn_ne (show (nI (384 + i133)).toInt = ((384 + i133 : Nat) : Int) from (nI_toInt (by omega))) (show (nI (288 + i133)).toInt = ((288 + i133 : Nat) : Int) from (nI_toInt (by omega))) (by omega) (by omega) (by omega))).trans m365
                      have m375 := (oi _ (tn_ne (show (1748 : Int32).toInt = 1748 from (by decide)) (show (nI (288 + i133)).toInt = ((288 + i133 : Nat) : Int) from (nI_toInt (by omega))) (by omega) (by omega) (by omega))).trans m366
                      have m376 := (oi _ (tn_ne (show (nI (0 + i133)).toInt = ((0 + i133 : Nat) : Int) from (nI_toInt (by omega))) (show (nI (288 + i133)).toInt = ((288 + i133 : Nat) : Int) from (nI_toInt (by omega))) (by omega) (by omega) (by omega))).trans m367
                      have m377 := (oi _ (tn_ne (show (nI (96 + i133)).toInt = ((96 + i133 : Nat) : Int) from (nI_toInt (by omega))) (show (nI (288 + i133)).toInt = ((288 + i133 : Nat) : Int) from (nI_toInt (by omega))) (by omega) (by omega) (by omega))).trans m368
                      have m378 := (oi _ (tn_ne (show (nI (192 + i133)).toInt = ((192 + i133 : Nat) : Int) from (nI_toInt (by omega))) (show (nI (288 + i133)).toInt = ((288 + i133 : Nat) : Int) from (nI_toInt (by omega))) (by omega) (by omega) (by omega))).trans m363
                      refine lv_aload_n hx hb dX12_land_215 rfl (lv_at hl 2 rfl) ?_
                      refine tw_get hx hb hts bF_X12 hown hK hT hr_o0 shm_0 rfl 1 (by decide) (ht_at hts 13 rfl) (fun _ h9 => h9) dX12_land_216 (fun v9 m379 h9 => ?_)
                      obtain ⟨rfl, hg380⟩ := h9 _ rfl
                      refine lv_sipush (v := 384) hx hb dX12_land_219 (by decide) ?_
                      refine lv_iload hx hb dX12_land_222 (lv_at hl 1 rfl) ?_
                      refine lv_iadd hx hb dX12_land_224 ?_
                      refine lv_topi (fun x381 ex381 => ?_)
                      obtain rfl : nI (384 + i133) = x381 := (ex381.trans (nI_add 384 i133)).symm
                      refine lv_iconst (v := 0) hx hb dX12_land_225 (by decide) ?_
                      have t382 : 6500000 ≤ wN (nI (384 + i133)).toNatClampNeg ∧ wN (nI (384 + i133)).toNatClampNeg ≤ 20200000 := hgn _
                      refine tw_iast (i := (nI (384 + i133))) (x := 0) hx hb hK hT hG hS hg332 shm_2 rfl (vp_in_nI (by omega) (by decide)) (gp_of (gi_of (show (0 : Int32).toInt = 0 from (by decide)) (by first | decide | omega) (by first | decide | omega)) (w_wat0 (by have q9 := tn_of (show (nI (384 + i133)).toInt = ((384 + i133 : Nat) : Int) from (nI_toInt (by omega))) (show (0 : Int) ≤ ((384 + i133 : Nat) : Int) from by omega); omega)) (wX_o (by have q9 := tn_of (show (nI (384 + i133)).toInt = ((384 + i133 : Nat) : Int) from (nI_toInt (by omega))) (show (0 : Int) ≤ ((384 + i133 : Nat) : Int) from by omega); omega) (by omega))) dX12_land_226 (fun H locs hT oq m383 oi hS => ?_)
                      have hF := hF.ast hg332 skm_2 oq (by decide)
                      have m384 := (el_kept (oq _ (gne hr_o0 hg332 (by decide)))).trans m373
                      have m385 := (oi _ (tn_ne (show (1748 : Int32).toInt = 1748 from (by decide)) (show (nI (384 + i133)).toInt = ((384 + i133 : Nat) : Int) from (nI_toInt (by omega))) (by omega) (by omega) (by omega))).trans m375
                      have m386 := (oi _ (tn_ne (show (nI (0 + i133)).toInt = ((0 + i133 : Nat) : Int) from (nI_toInt (by omega))) (show (nI (384 + i133)).toInt = ((384 + i133 : Nat) : Int) from (nI_toInt (by omega))) (by omega) (by omega) (by omega))).trans m376
                      have m387 := (oi _ (tn_ne (show (nI (96 + i133)).toInt = ((96 + i133 : Nat) : Int) from (nI_toInt (by omega))) (show (nI (384 + i133)).toInt = ((384 + i133 : Nat) : Int) from (nI_toInt (by omega))) (by omega) (by omega) (by omega))).trans m377
                      have m388 := (oi _ (tn_ne (show (nI (192 + i133)).toInt = ((192 + i133 : Nat) : Int) from (nI_toInt (by omega))) (show (nI (384 + i133)).toInt = ((384 + i133 : Nat) : Int) from (nI_toInt (by omega))) (by omega) (by omega) (by omega))).trans m378
                      have m389 := (oi _ (tn_ne (show (nI (288 + i133)).toInt = ((288 + i133 : Nat) : Int) from (nI_toInt (by omega))) (show (nI (384 + i133)).toInt = ((384 + i133 : Nat) : Int) from (nI_toInt (by omega))) (by omega) (by omega) (by omega))).trans m372
                      refine lv_aload_n hx hb dX12_land_227 rfl (lv_at hl 2 rfl) ?_
                      refine tw_get hx hb hts bF_X12 hown hK hT hr_o0 shm_0 rfl 1 (by decide) (ht_at hts 13 rfl) (fun _ h9 => h9) dX12_land_228 (fun v9 m390 h9 => ?_)
                      obtain ⟨rfl, hg391⟩ := h9 _ rfl
                      refine lv_sipush (v := 480) hx hb dX12_land_231 (by decide) ?_
                      refine lv_iload hx hb dX12_land_234 (lv_at hl 1 rfl) ?_
                      refine lv_iadd hx hb dX12_land_236 ?_
                      refine lv_topi (fun x392 ex392 => ?_)
                      obtain rfl : nI (480 + i133) = x392 := (ex392.trans (nI_add 480 i133)).symm
                      refine lv_iconst (v := 0) hx hb dX12_land_237 (by decide) ?_
                      refine tw_iast (i := (nI (480 + i133))) (x := 0) hx hb hK hT hG hS hg332 shm_2 rfl (vp_in_nI (by omega) (by decide)) (gp_of (gi_all _) (w_fre (by have q9 := tn_of (show (nI (480 + i133)).toInt = ((480 + i133 : Nat) : Int) from (nI_toInt (by omega))) (show (0 : Int) ≤ ((480 + i133 : Nat) : Int) from by omega); omega)) (wX_o (by have q9 := tn_of (show (nI (480 + i133)).toInt = ((480 + i133 : Nat) : Int) from (nI_toInt (by omega))) (show (0 : Int) ≤ ((480 + i133 : Nat) : Int) from by omega); omega) (by omega))) dX12_land_238 (fun H locs hT oq m393 oi hS => ?_)
                      have hF := hF.ast hg332 skm_2 oq (by decide)
                      have m394 := (el_kept (oq _ (gne hr_o0 hg332 (by decide)))).trans m384
                      have m395 := (oi _ (tn_ne (show (1748 : Int32).toInt = 1748 from (by decide)) (show (nI (480 + i133)).toInt = ((480 + i133 : Nat) : Int) from (nI_toInt (by omega))) (by omega) (by omega) (by omega))).trans m385
                      have m396 := (oi _ (tn_ne (show (nI (0 + i133)).toInt = ((0 + i133 : Nat) : Int) from (nI_toInt (by omega))) (show (nI (480 + i133)).toInt = ((480 + i133 : Nat) : Int) from (nI_toInt (by omega))) (by omega) (by omega) (by omega))).trans m386
                      have m397 := (oi _ (tn_ne (show (nI (96 + i133)).toInt = ((96 + i133 : Nat) : Int) from (nI_toInt (by omega))) (show (nI (480 + i133)).toInt = ((480 + i133 : Nat) : Int) from (nI_toInt (by omega))) (by omega) (by omega) (by omega))).trans m387
                      have m398 := (oi _ (tn_ne (show (nI (192 + i133)).toInt = ((192 + i133 : Nat) : Int) from (nI_toInt (by omega))) (show (nI (480 + i133)).toInt = ((480 + i133 : Nat) : Int) from (nI_toInt (by omega))) (by omega) (by omega) (by omega))).trans m388
                      have m399 := (oi _ (tn_ne (show (nI (288 + i133)).toInt = ((288 + i133 : Nat) : Int) from (nI_toInt (by omega))) (show (nI (480 + i133)).toInt = ((480 + i133 : Nat) : Int) from (nI_toInt (by omega))) (by omega) (by omega) (by omega))).trans m389
                      have m400 := (oi _ (tn_ne (show (nI (384 + i133)).toInt = ((384 + i133 : Nat) : Int) from (nI_toInt (by omega))) (show (nI (480 + i133)).toInt = ((480 + i133 : Nat) : Int) from (nI_toInt (by omega))) (by omega) (by omega) (by omega))).trans m383
                      refine lv_iinc (v := nI (i133 + 1)) (lv' := [(7, .int (nI (i133 + 1))), (6, .int x329), (0, .ref o0), (1, .int p0), (2, .int p1), (3, .int p2), (4, .int p3), (5, .int p4)]) hx hb dX12_land_239 hl (k := 1) rfl (nI_add i133 1) (by decide) rfl (fun ls hl => ?_)
                      refine lv_goto (tgt := 107) hx hb dX12_land_242 (by decide) ?_
                      have hT : gH (dC, dI) kA (SHm q (wP wZ0 wN wH wB wC (lndB wL p0.toInt p1.toInt (i133 + 1)) wK wU wV) PI im PM PT lS lB lE lN) G H := SHm_w hT (fun i hi x p => wP_L (fun _ => lb_in (inR_1 (s := ((i133 : Nat) : Int)) (a := p0.toInt) (b := p1.toInt) (by have q9 : (nI i133).toInt = ((i133 : Nat) : Int) := nI_toInt (by omega); omega))) p)
                      exact ih304 (i133 + 1) (by omega) (by omega) x329 ⟨(by have q8 := ti_all x329; omega), (by have := (show x329.toInt = x329.toInt from rfl); first | exact ldN_out (inR_0 (s := ((i133 : Nat) : Int)) (a := p0.toInt) (b := p1.toInt) (by have q9 : (nI i133).toInt = ((i133 : Nat) : Int) := nI_toInt (by omega); omega)) hj137 | exact ldN_no (inR_1 (s := ((i133 : Nat) : Int)) (a := p0.toInt) (b := p1.toInt) (by have q9 : (nI i133).toInt = ((i133 : Nat) : Int) := nI_toInt (by omega); omega)) (lb_L hL (by omega) (tn_nI (by omega)) (by assumption)) (by rw [← hj137]; omega) | exact ldN_one (inR_1 (s := ((i133 : Nat) : Int)) (a := p0.toInt) (b := p1.toInt) (by have q9 : (nI i133).toInt = ((i133 : Nat) : Int) := nI_toInt (by omega); omega)) (lb_N hL (by omega) (tn_nI (by omega)) (by assumption)) hj137 (by omega))⟩ _ _ hT hF hS m394 ls (lv_sub hl [0, 1, 2, 3, 4, 5, 6, 7] rfl)
                    · have t401 : r320.toInt ≠ 0 := ti_ne c326 rfl (by decide)
                      have t402 : (lndB wL p0.toInt p1.toInt i133) (nI i133).toNatClampNeg := hi324 ((bit_of ⟨by omega, by omega⟩).resolve_left c326)
                      refine lv_iconst (v := 0) hx hb dX12_land_138 (by decide) ?_
                      refine lv_goto (tgt := 143) hx hb dX12_land_139 (by decide) ?_
                      refine lv_iadd hx hb dX12_land_143 ?_
                      refine lv_topi (fun x403 ex403 => ?_)
                      have t404 : x403.toInt = z134.toInt + 0 := ti_add ex403 rfl (by decide) (by omega) (by omega)
                      refine lv_istore (lv' := [(6, .int x403), (7, .int (nI i133)), (0, .ref o0), (1, .int p0), (2, .int p1), (3, .int p2), (4, .int p3), (5, .int p4)]) hx hb dX12_land_144 hl (by decide) rfl (fun ls hl => ?_)
                      refine lv_aload_n hx hb dX12_land_146 rfl (lv_at hl 2 rfl) ?_
                      refine tw_get hx hb hts bF_X12 hown hK hT hr_o0 shm_0 rfl 1 (by decide) (ht_at hts 13 rfl) (fun _ h9 => h9) dX12_land_147 (fun v9 m405 h9 => ?_)
                      obtain ⟨rfl, hg406⟩ := h9 _ rfl
                      refine lv_sipush (v := 1748) hx hb dX12_land_150 (by decide) ?_
                      refine lv_dup2_11 hx hb dX12_land_153 rfl rfl ?_
                      refine tw_iald (i := 1748) hx hb hK hT hg406 shm_2 rfl (by unfold vp_in; decide) dX12_land_154 (fun v9 m407 h9 => ?_)
                      obtain ⟨x408, rfl, gx408, kx408⟩ := (gp_at h9 (w_fre (by have q9 := tn_of (show (1748 : Int32).toInt = 1748 from (by decide)) (show (0 : Int) ≤ 1748 from by omega); omega)))
                      refine lv_aload_n hx hb dX12_land_155 rfl (lv_at hl 2 rfl) ?_
                      refine tw_get hx hb hts bF_X12 hown hK hT hr_o0 shm_0 rfl 1 (by decide) (ht_at hts 13 rfl) (fun _ h9 => h9) dX12_land_156 (fun v9 m409 h9 => ?_)
                      obtain ⟨rfl, hg410⟩ := h9 _ rfl
                      refine lv_sipush (v := 384) hx hb dX12_land_159 (by decide) ?_
                      refine lv_iload hx hb dX12_land_162 (lv_at hl 1 rfl) ?_
                      refine lv_iadd hx hb dX12_land_164 ?_
                      refine lv_topi (fun x411 ex411 => ?_)
                      obtain rfl : nI (384 + i133) = x411 := (ex411.trans (nI_add 384 i133)).symm
                      refine tw_iald (i := (nI (384 + i133))) hx hb hK hT hg406 shm_2 rfl (vp_in_nI (by omega) (by decide)) dX12_land_165 (fun v9 m412 h9 => ?_)
                      obtain ⟨x413, rfl, gx413, kx413⟩ := (gw_at h9 (w_wat (by have q9 := tn_of (show (nI (384 + i133)).toInt = ((384 + i133 : Nat) : Int) from (nI_toInt (by omega))) (show (0 : Int) ≤ ((384 + i133 : Nat) : Int) from by omega); omega)) hgn (fun _ => Int.le_refl 0))
                      refine lv_isub hx hb dX12_land_166 ?_
                      refine lv_topi (fun x414 ex414 => ?_)
                      refine tw_iast (i := 1748) (x := x414) hx hb hK hT hG hS hg406 shm_2 rfl (by unfold vp_in; decide) (gp_of (gi_all _) (w_fre (by have q9 := tn_of (show (1748 : Int32).toInt = 1748 from (by decide)) (show (0 : Int) ≤ 1748 from by omega); omega)) (wX_o (by have q9 := tn_of (show (1748 : Int32).toInt = 1748 from (by decide)) (show (0 : Int) ≤ 1748 from by omega); omega) (by omega))) dX12_land_167 (fun H locs hT oq m415 oi hS => ?_)
                      have hF := hF.ast hg406 skm_2 oq (by decide)
                      have m416 := (el_kept (oq _ (gne hr_o0 hg406 (by decide)))).trans m322
                      have m417 := (oi _ (tn_ne (show (nI (384 + i133)).toInt = ((384 + i133 : Nat) : Int) from (nI_toInt (by omega))) (show (1748 : Int32).toInt = 1748 from (by decide)) (by omega) (by omega) (by omega))).trans m412
                      refine lv_aload_n hx hb dX12_land_168 rfl (lv_at hl 2 rfl) ?_
                      refine tw_get hx hb hts bF_X12 hown hK hT hr_o0 shm_0 rfl 1 (by decide) (ht_at hts 13 rfl) (fun _ h9 => h9) dX12_land_169 (fun v9 m418 h9 => ?_)
                      obtain ⟨rfl, hg419⟩ := h9 _ rfl
                      refine lv_iconst (v := 0) hx hb dX12_land_172 (by decide) ?_
                      refine lv_iload hx hb dX12_land_173 (lv_at hl 1 rfl) ?_
                      refine lv_iadd hx hb dX12_land_175 ?_
                      refine lv_topi (fun x420 ex420 => ?_)
                      obtain rfl : nI (0 + i133) = x420 := (ex420.trans (nI_add 0 i133)).symm
                      refine lv_iconst (v := 1) hx hb dX12_land_176 (by decide) ?_
                      have t421 : (((nI (0 + i133)).toNatClampNeg : Nat) : Int) = ((0 + i133 : Nat) : Int) := tn_of (show (nI (0 + i133)).toInt = ((0 + i133 : Nat) : Int) from (nI_toInt (by omega))) (by omega)
                      refine tw_iast2 (Sg1 := (SHm q (wP wZ0 wN wH wB wC (fun j => (lndB wL p0.toInt p1.toInt i133) j ∨ j = i133) wK wU wV) PI im PM PT lS lB lE lN)) (i := (nI (0 + i133))) (x := 1) hx hb hK hT hG hS hg406 shm_2 rfl shm_2 shm_o2 (fun b9 h9 => hgu b9 1 h9) (vp_in_nI (by omega) (by decide)) (gp_of (gi_all _) (w_fre (by omega)) (wX_l (by omega) (Or.inr (by omega)) (by decide))) (fun k9 hk9 hne9 v9 hv9 he9 => by obtain ⟨x9, rfl, p9⟩ := he9; exact ⟨x9, rfl, wP_L (fun _ => ⟨Or.inl, fun z9 => z9.resolve_right (by omega)⟩) p9⟩) dX12_land_177 (fun H locs hT oq m422 oi hS => ?_)
                      have hF := hF.ast hg406 skm_2 oq (by decide)
                      have m423 := (el_kept (oq _ (gne hr_o0 hg406 (by decide)))).trans m416
                      have m424 := (oi _ (tn_ne (show (nI (384 + i133)).toInt = ((384 + i133 : Nat) : Int) from (nI_toInt (by omega))) (show (nI (0 + i133)).toInt = ((0 + i133 : Nat) : Int) from (nI_toInt (by omega))) (by omega) (by omega) (by omega))).trans m417
                      have m425 := (oi _ (tn_ne (show (1748 : Int32).toInt = 1748 from (by decide)) (show (nI (0 + i133)).toInt = ((0 + i133 : Nat) : Int) from (nI_toInt (by omega))) (by omega) (by omega) (by omega))).trans m415
                      refine lv_aload_n hx hb dX12_land_178 rfl (lv_at hl 2 rfl) ?_
                      refine tw_get hx hb hts bF_X12 hown hK hT hr_o0 shm_0 rfl 1 (by decide) (ht_at hts 13 rfl) (fun _ h9 => h9) dX12_land_179 (fun v9 m426 h9 => ?_)
                      obtain ⟨rfl, hg427⟩ := h9 _ rfl
                      refine lv_bipush (v := 96) hx hb dX12_land_182 (by decide) ?_
                      refine lv_iload hx hb dX12_land_184 (lv_at hl 1 rfl) ?_
                      refine lv_iadd hx hb dX12_land_186 ?_
                      refine lv_topi (fun x428 ex428 => ?_)
                      obtain rfl : nI (96 + i133) = x428 := (ex428.trans (nI_add 96 i133)).symm
                      refine lv_iload_n hx hb dX12_land_187 rfl (lv_at hl 5 rfl) ?_
                      refine tw_iast (i := (nI (96 + i133))) (x := p2) hx hb hK hT hG hS hg406 shm_2 rfl (vp_in_nI (by omega) (by decide)) (gp_of (gi_of (show p2.toInt = p2.toInt from rfl) (by omega) (by omega)) (w_hgt (by have q9 := tn_of (show (nI (96 + i133)).toInt = ((96 + i133 : Nat) : Int) from (nI_toInt (by omega))) (show (0 : Int) ≤ ((96 + i133 : Nat) : Int) from by omega); omega)) (wX_o (by have q9 := tn_of (show (nI (96 + i133)).toInt = ((96 + i133 : Nat) : Int) from (nI_toInt (by omega))) (show (0 : Int) ≤ ((96 + i133 : Nat) : Int) from by omega); omega) (by omega))) dX12_land_188 (fun H locs hT oq m429 oi hS => ?_)
                      have hF := hF.ast hg406 skm_2 oq (by decide)
                      have m430 := (el_kept (oq _ (gne hr_o0 hg406 (by decide)))).trans m423
                      have m431 := (oi _ (tn_ne (show (nI (384 + i133)).toInt = ((384 + i133 : Nat) : Int) from (nI_toInt (by omega))) (show (nI (96 + i133)).toInt = ((96 + i133 : Nat) : Int) from (nI_toInt (by omega))) (by omega) (by omega) (by omega))).trans m424
                      have m432 := (oi _ (tn_ne (show (1748 : Int32).toInt = 1748 from (by decide)) (show (nI (96 + i133)).toInt = ((96 + i133 : Nat) : Int) from (nI_toInt (by omega))) (by omega) (by omega) (by omega))).trans m425
                      have m433 := (oi _ (tn_ne (show (nI (0 + i133)).toInt = ((0 + i133 : Nat) : Int) from (nI_toInt (by omega))) (show (nI (96 + i133)).toInt = ((96 + i133 : Nat) : Int) from (nI_toInt (by omega))) (by omega) (by omega) (by omega))).trans m422
                      refine lv_aload_n hx hb dX12_land_189 rfl (lv_at hl 2 rfl) ?_
                      refine tw_get hx hb hts bF_X12 hown hK hT hr_o0 shm_0 rfl 1 (by decide) (ht_at hts 13 rfl) (fun _ h9 => h9) dX12_land_190 (fun v9 m434 h9 => ?_)
                      obtain ⟨rfl, hg435⟩ := h9 _ rfl
                      refine lv_sipush (v := 192) hx hb dX12_land_193 (by decide) ?_
                      refine lv_iload hx hb dX12_land_196 (lv_at hl 1 rfl) ?_
                      refine lv_iadd hx hb dX12_land_198 ?_
                      refine lv_topi (fun x436 ex436 => ?_)
                      obtain rfl : nI (192 + i133) = x436 := (ex436.trans (nI_add 192 i133)).symm
                      refine lv_iload hx hb dX12_land_199 (lv_at hl 6 rfl) ?_
                      refine tw_iast (i := (nI (192 + i133))) (x := p3) hx hb hK hT hG hS hg406 shm_2 rfl (vp_in_nI (by omega) (by decide)) (gp_of (gi_all _) (w_fre (by have q9 := tn_of (show (nI (192 + i133)).toInt = ((192 + i133 : Nat) : Int) from (nI_toInt (by omega))) (show (0 : Int) ≤ ((192 + i133 : Nat) : Int) from by omega); omega)) (wX_o (by have q9 := tn_of (show (nI (192 + i133)).toInt = ((192 + i133 : Nat) : Int) from (nI_toInt (by omega))) (show (0 : Int) ≤ ((192 + i133 : Nat) : Int) from by omega); omega) (by omega))) dX12_land_201 (fun H locs hT oq m437 oi hS => ?_)
                      have hF := hF.ast hg406 skm_2 oq (by decide)
                      have m438 := (el_kept (oq _ (gne hr_o0 hg406 (by decide)))).trans m430
                      have m439 := (oi _ (tn_ne (show (nI (384 + i133)).toInt = ((384 + i133 : Nat) : Int) from (nI_toInt (by omega))) (show (nI (192 + i133)).toInt = ((192 + i133 : Nat) : Int) from (nI_toInt (by omega))) (by omega) (by omega) (by omega))).trans m431
                      have m440 := (oi _ (tn_ne (show (1748 : Int32).toInt = 1748 from (by decide)) (show (nI (192 + i133)).toInt = ((192 + i133 : Nat) : Int) from (nI_toInt (by omega))) (by omega) (by omega) (by omega))).trans m432
                      have m441 := (oi _ (tn_ne (show (nI (0 + i133)).toInt = ((0 + i133 : Nat) : Int) from (nI_toInt (by omega))) (show (nI (192 + i133)).toInt = ((192 + i133 : Nat) : Int) from (nI_toInt (by omega))) (by omega) (by omega) (by omega))).trans m433
                      have m442 := (oi _ (tn_ne (show (nI (96 + i133)).toInt = ((96 + i133 : Nat) : Int) from (nI_toInt (by omega))) (show (nI (192 + i133)).toInt = ((192 + i133 : Nat) : Int) from (nI_toInt (by omega))) (by omega) (by omega) (by omega))).trans m429
                      refine lv_aload_n hx hb dX12_land_202 rfl (lv_at hl 2 rfl) ?_
                      refine tw_get hx hb hts bF_X12 hown hK hT hr_o0 shm_0 rfl 1 (by decide) (ht_at hts 13 rfl) (fun _ h9 => h9) dX12_land_203 (fun v9 m443 h9 => ?_)
                      obtain ⟨rfl, hg444⟩ := h9 _ rfl
                      refine lv_sipush (v := 288) hx hb dX12_land_206 (by decide) ?_
                      refine lv_iload hx hb dX12_land_209 (lv_at hl 1 rfl) ?_
                      refine lv_iadd hx hb dX12_land_211 ?_
                      refine lv_topi (fun x445 ex445 => ?_)
                      obtain rfl : nI (288 + i133) = x445 := (ex445.trans (nI_add 288 i133)).symm
                      refine lv_iload hx hb dX12_land_212 (lv_at hl 7 rfl) ?_
                      refine tw_iast (i := (nI (288 + i133))) (x := p4) hx hb hK hT hG hS hg406 shm_2 rfl (vp_in_nI (by omega) (by decide)) (gp_of (gi_of (show p4.toInt = p4.toInt from rfl) (by omega) (by omega)) (w_dit (by have q9 := tn_of (show (nI (288 + i133)).toInt = ((288 + i133 : Nat) : Int) from (nI_toInt (by omega))) (show (0 : Int) ≤ ((288 + i133 : Nat) : Int) from by omega); omega)) (wX_o (by have q9 := tn_of (show (nI (288 + i133)).toInt = ((288 + i133 : Nat) : Int) from (nI_toInt (by omega))) (show (0 : Int) ≤ ((288 + i133 : Nat) : Int) from by omega); omega) (by omega))) dX12_land_214 (fun H locs hT oq m446 oi hS => ?_)
                      have hF := hF.ast hg406 skm_2 oq (by decide)
                      have m447 := (el_kept (oq _ (gne hr_o0 hg406 (by decide)))).trans m438
                      have m448 := (oi _ (tn_ne (show (nI (384 + i133)).toInt = ((384 + i133 : Nat) : Int) from (nI_toInt (by omega))) (show (nI (288 + i133)).toInt = ((288 + i133 : Nat) : Int) from (nI_toInt (by omega))) (by omega) (by omega) (by omega))).trans m439
                      have m449 := (oi _ (tn_ne (show (1748 : Int32).toInt = 1748 from (by decide)) (show (nI (288 + i133)).toInt = ((288 + i133 : Nat) : Int) from (nI_toInt (by omega))) (by omega) (by omega) (by omega))).trans m440
                      have m450 := (oi _ (tn_ne (show (nI (0 + i133)).toInt = ((0 + i133 : Nat) : Int) from (nI_toInt (by omega))) (show (nI (288 + i133)).toInt = ((288 + i133 : Nat) : Int) from (nI_toInt (by omega))) (by omega) (by omega) (by omega))).trans m441
                      have m451 := (oi _ (tn_ne (show (nI (96 + i133)).toInt = ((96 + i133 : Nat) : Int) from (nI_toInt (by omega))) (show (nI (288 + i133)).toInt = ((288 + i133 : Nat) : Int) from (nI_toInt (by omega))) (by omega) (by omega) (by omega))).trans m442
                      have m452 := (oi _ (tn_ne (show (nI (192 + i133)).toInt = ((192 + i133 : Nat) : Int) from (nI_toInt (by omega))) (show (nI (288 + i133)).toInt = ((288 + i133 : Nat) : Int) from (nI_toInt (by omega))) (by omega) (by omega) (by omega))).trans m437
                      refine lv_aload_n hx hb dX12_land_215 rfl (lv_at hl 2 rfl) ?_
                      refine tw_get hx hb hts bF_X12 hown hK hT hr_o0 shm_0 rfl 1 (by decide) (ht_at hts 13 rfl) (fun _ h9 => h9) dX12_land_216 (fun v9 m453 h9 => ?_)
                      obtain ⟨rfl, hg454⟩ := h9 _ rfl
                      refine lv_sipush (v := 384) hx hb dX12_land_219 (by decide) ?_
                      refine lv_iload hx hb dX12_land_222 (lv_at hl 1 rfl) ?_
                      refine lv_iadd hx hb dX12_land_224 ?_
                      refine lv_topi (fun x455 ex455 => ?_)
                      obtain rfl : nI (384 + i133) = x455 := (ex455.trans (nI_add 384 i133)).symm
                      refine lv_iconst (v := 0) hx hb dX12_land_225 (by decide) ?_
                      have t456 : 6500000 ≤ wN (nI (384 + i133)).toNatClampNeg ∧ wN (nI (384 + i133)).toNatClampNeg ≤ 20200000 := hgn _
                      refine tw_iast (i := (nI (384 + i133))) (x := 0) hx hb hK hT hG hS hg406 shm_2 rfl (vp_in_nI (by omega) (by decide)) (gp_of (gi_of (show (0 : Int32).toInt = 0 from (by decide)) (by first | decide | omega) (by first | decide | omega)) (w_wat0 (by have q9 := tn_of (show (nI (384 + i133)).toInt = ((384 + i133 : Nat) : Int) from (nI_toInt (by omega))) (show (0 : Int) ≤ ((384 + i133 : Nat) : Int) from by omega); omega)) (wX_o (by have q9 := tn_of (show (nI (384 + i133)).toInt = ((384 + i133 : Nat) : Int) from (nI_toInt (by omega))) (show (0 : Int) ≤ ((384 + i133 : Nat) : Int) from by omega); omega) (by omega))) dX12_land_226 (fun H locs hT oq m457 oi hS => ?_)
                      have hF := hF.ast hg406 skm_2 oq (by decide)
                      have m458 := (el_kept (oq _ (gne hr_o0 hg406 (by decide)))).trans m447
                      have m459 := (oi _ (tn_ne (show (1748 : Int32).toInt = 1748 from (by decide)) (show (nI (384 + i133)).toInt = ((384 + i133 : Nat) : Int) from (nI_toInt (by omega))) (by omega) (by omega) (by omega))).trans m449
                      have m460 := (oi _ (tn_ne (show (nI (0 + i133)).toInt = ((0 + i133 : Nat) : Int) from (nI_toInt (by omega))) (show (nI (384 + i133)).toInt = ((384 + i133 : Nat) : Int) from (nI_toInt (by omega))) (by omega) (by omega) (by omega))).trans m450
                      have m461 := (oi _ (tn_ne (show (nI (96 + i133)).toInt = ((96 + i133 : Nat) : Int) from (nI_toInt (by omega))) (show (nI (384 + i133)).toInt = ((384 + i133 : Nat) : Int) from (nI_toInt (by omega))) (by omega) (by omega) (by omega))).trans m451
                      have m462 := (oi _ (tn_ne (show (nI (192 + i133)).toInt = ((192 + i133 : Nat) : Int) from (nI_toInt (by omega))) (show (nI (384 + i133)).toInt = ((384 + i133 : Nat) : Int) from (nI_toInt (by omega))) (by omega) (by omega) (by omega))).trans m452
                      have m463 := (oi _ (tn_ne (show (nI (288 + i133)).toInt = ((288 + i133 : Nat) : Int) from (nI_toInt (by omega))) (show (nI (384 + i133)).toInt = ((384 + i133 : Nat) : Int) from (nI_toInt (by omega))) (by omega) (by omega) (by omega))).trans m446
                      refine lv_aload_n hx hb dX12_land_227 rfl (lv_at hl 2 rfl) ?_
                      refine tw_get hx hb hts bF_X12 hown hK hT hr_o0 shm_0 rfl 1 (by decide) (ht_at hts 13 rfl) (fun _ h9 => h9) dX12_land_228 (fun v9 m464 h9 => ?_)
                      obtain ⟨rfl, hg465⟩ := h9 _ rfl
                      refine lv_sipush (v := 480) hx hb dX12_land_231 (by decide) ?_
                      refine lv_iload hx hb dX12_land_234 (lv_at hl 1 rfl) ?_
                      refine lv_iadd hx hb dX12_land_236 ?_
                      refine lv_topi (fun x466 ex466 => ?_)
                      obtain rfl : nI (480 + i133) = x466 := (ex466.trans (nI_add 480 i133)).symm
                      refine lv_iconst (v := 0) hx hb dX12_land_237 (by decide) ?_
                      refine tw_iast (i := (nI (480 + i133))) (x := 0) hx hb hK hT hG hS hg406 shm_2 rfl (vp_in_nI (by omega) (by decide)) (gp_of (gi_all _) (w_fre (by have q9 := tn_of (show (nI (480 + i133)).toInt = ((480 + i133 : Nat) : Int) from (nI_toInt (by omega))) (show (0 : Int) ≤ ((480 + i133 : Nat) : Int) from by omega); omega)) (wX_o (by have q9 := tn_of (show (nI (480 + i133)).toInt = ((480 + i133 : Nat) : Int) from (nI_toInt (by omega))) (show (0 : Int) ≤ ((480 + i133 : Nat) : Int) from by omega); omega) (by omega))) dX12_land_238 (fun H locs hT oq m467 oi hS => ?_)
                      have hF := hF.ast hg406 skm_2 oq (by decide)
                      have m468 := (el_kept (oq _ (gne hr_o0 hg406 (by decide)))).trans m458
                      have m469 := (oi _ (tn_ne (show (1748 : Int32).toInt = 1748 from (by decide)) (show (nI (480 + i133)).toInt = ((480 + i133 : Nat) : Int) from (nI_toInt (by omega))) (by omega) (by omega) (by omega))).trans m459
                      have m470 := (oi _ (tn_ne (show (nI (0 + i133)).toInt = ((0 + i133 : Nat) : Int) from (nI_toInt (by omega))) (show (nI (480 + i133)).toInt = ((480 + i133 : Nat) : Int) from (nI_toInt (by omega))) (by omega) (by omega) (by omega))).trans m460
                      have m471 := (oi _ (tn_ne (show (nI (96 + i133)).toInt = ((96 + i133 : Nat) : Int) from (nI_toInt (by omega))) (show (nI (480 + i133)).toInt = ((480 + i133 : Nat) : Int) from (nI_toInt (by omega))) (by omega) (by omega) (by omega))).trans m461
                      have m472 := (oi _ (tn_ne (show (nI (192 + i133)).toInt = ((192 + i133 : Nat) : Int) from (nI_toInt (by omega))) (show (nI (480 + i133)).toInt = ((480 + i133 : Nat) : Int) from (nI_toInt (by omega))) (by omega) (by omega) (by omega))).trans m462
                      have m473 := (oi _ (tn_ne (show (nI (288 + i133)).toInt = ((288 + i133 : Nat) : Int) from (nI_toInt (by omega))) (show (nI (480 + i133)).toInt = ((480 + i133 : Nat) : Int) from (nI_toInt (by omega))) (by omega) (by omega) (by omega))).trans m463
                      have m474 := (oi _ (tn_ne (show (nI (384 + i133)).toInt = ((384 + i133 : Nat) : Int) from (nI_toInt (by omega))) (show (nI (480 + i133)).toInt = ((480 + i133 : Nat) : Int) from (nI_toInt (by omega))) (by omega) (by omega) (by omega))).trans m457
                      refine lv_iinc (v := nI (i133 + 1)) (lv' := [(7, .int (nI (i133 + 1))), (6, .int x403), (0, .ref o0), (1, .int p0), (2, .int p1), (3, .int p2), (4, .int p3), (5, .int p4)]) hx hb dX12_land_239 hl (k := 1) rfl (nI_add i133 1) (by decide) rfl (fun ls hl => ?_)
                      refine lv_goto (tgt := 107) hx hb dX12_land_242 (by decide) ?_
                      have hT : gH (dC, dI) kA (SHm q (wP wZ0 wN wH wB wC (lndB wL p0.toInt p1.toInt (i133 + 1)) wK wU wV) PI im PM PT lS lB lE lN) G H := SHm_w hT (fun i hi x p => wP_L (fun _ => lb_in (inR_1 (s := ((i133 : Nat) : Int)) (a := p0.toInt) (b := p1.toInt) (by have q9 : (nI i133).toInt = ((i133 : Nat) : Int) := nI_toInt (by omega); omega))) p)
                      exact ih304 (i133 + 1) (by omega) (by omega) x403 ⟨(by have q8 := ti_all x403; omega), (by have := (show x403.toInt = x403.toInt from rfl); first | exact ldN_out (inR_0 (s := ((i133 : Nat) : Int)) (a := p0.toInt) (b := p1.toInt) (by have q9 : (nI i133).toInt = ((i133 : Nat) : Int) := nI_toInt (by omega); omega)) hj137 | exact ldN_no (inR_1 (s := ((i133 : Nat) : Int)) (a := p0.toInt) (b := p1.toInt) (by have q9 : (nI i133).toInt = ((i133 : Nat) : Int) := nI_toInt (by omega); omega)) (lb_L hL (by omega) (tn_nI (by omega)) (by assumption)) (by rw [← hj137]; omega) | exact ldN_one (inR_1 (s := ((i133 : Nat) : Int)) (a := p0.toInt) (b := p1.toInt) (by have q9 : (nI i133).toInt = ((i133 : Nat) : Int) := nI_toInt (by omega); omega)) (lb_N hL (by omega) (tn_nI (by omega)) (by assumption)) hj137 (by omega))⟩ _ _ hT hF hS m468 ls (lv_sub hl [0, 1, 2, 3, 4, 5, 6, 7] rfl)
                  · have t475 : r312.toInt = 0 := ti_eq c318 rfl (by decide)
                    refine lv_goto (tgt := 239) hx hb dX12_land_124 (by decide) ?_
                    refine lv_iinc (v := nI (i133 + 1)) (lv' := [(7, .int (nI (i133 + 1))), (6, .int z134), (0, .ref o0), (1, .int p0), (2, .int p1), (3, .int p2), (4, .int p3), (5, .int p4)]) hx hb dX12_land_239 hl (k := 0) rfl (nI_add i133 1) (by decide) rfl (fun ls hl => ?_)
                    refine lv_goto (tgt := 107) hx hb dX12_land_242 (by decide) ?_
                    have hT : gH (dC, dI) kA (SHm q (wP wZ0 wN wH wB wC (lndB wL p0.toInt p1.toInt (i133 + 1)) wK wU wV) PI im PM PT lS lB lE lN) G H := SHm_w hT (fun i hi x p => wP_L (fun _ => lb_out (inR_0 (s := ((i133 : Nat) : Int)) (a := p0.toInt) (b := p1.toInt) (by have q9 : (nI i133).toInt = ((i133 : Nat) : Int) := nI_toInt (by omega); omega))) p)
                    exact ih304 (i133 + 1) (by omega) (by omega) z134 ⟨(by have q8 := ti_all z134; omega), (by have := (show z134.toInt = z134.toInt from rfl); first | exact ldN_out (inR_0 (s := ((i133 : Nat) : Int)) (a := p0.toInt) (b := p1.toInt) (by have q9 : (nI i133).toInt = ((i133 : Nat) : Int) := nI_toInt (by omega); omega)) hj137 | exact ldN_no (inR_1 (s := ((i133 : Nat) : Int)) (a := p0.toInt) (b := p1.toInt) (by have q9 : (nI i133).toInt = ((i133 : Nat) : Int) := nI_toInt (by omega); omega)) (lb_L hL (by omega) (tn_nI (by omega)) (by assumption)) (by rw [← hj137]; omega) | exact ldN_one (inR_1 (s := ((i133 : Nat) : Int)) (a := p0.toInt) (b := p1.toInt) (by have q9 : (nI i133).toInt = ((i133 : Nat) : Int) := nI_toInt (by omega); omega)) (lb_N hL (by omega) (tn_nI (by omega)) (by assumption)) hj137 (by omega))⟩ _ _ hT hF hS m314 ls (lv_sub hl [0, 1, 2, 3, 4, 5, 6, 7] rfl)
              have hT : gH (dC, dI) kA (SHm q (wP wZ0 wN wH wB wC (lndB wL p0.toInt p1.toInt 0) wK wU wV) PI im PM PT lS lB lE lN) G H := SHm_w hT (fun i hi x p => wP_L (fun _ => lb_0) p)
              exact key304 (96 - 0) 0 (by omega) (Nat.le_refl _) 0 ⟨(rg_t (a := 0) (by decide) (by first | decide | omega) (by first | decide | omega)), (show (0 : Int32).toInt = 0 from by decide)⟩ _ _ hT hF hS m125 ls (lv_sub hl [0, 1, 2, 3, 4, 5, 6, 7] rfl)
            · have t476 : 0 < r115.toInt := ti_nle c120 rfl (by decide)
              refine lv_iconst (v := 1) hx hb dX12_land_87 (by decide) ?_
              refine lv_goto (tgt := 92) hx hb dX12_land_88 (by decide) ?_
              refine lv_iconst (v := 3) hx hb dX12_land_92 (by decide) ?_
              have hFc := gA_free hG hA hS
              refine va_calli (va_runV (As := [.int 1, .int 3]) (rest := []) ⟨hx, hb, hml, hown, hts⟩ (s_throwsIfP l dC dI kA adK adV G H q wZ0 wN wH wB wC wL wK wU wV PI im PM PT lS lB lE lN o0 1 3 u106 hT hr_o0 m117 (rg_t (a := 1) (by decide) (by first | decide | omega) (by first | decide | omega)) (fun _ => Int.le_refl 0) hgn hgh hgb hgc hgi hgu) (cwV 2 hts (goodIn_app (goodIn_r _ [10, 11, 12, 6] rfl (by decide +kernel)) (goodIn_ca (goodIn_r _ [9, 1] rfl (by decide +kernel)) (bs_in _ _))) rfl rfl rfl (by decide +kernel) ⟨(Nat.le_of_ble_eq_true rfl), (Nat.le_of_ble_eq_true rfl)⟩) ⟨fun a U g mk q => by obtain ⟨q0, q1, qK, qE⟩ := q; exact ⟨q0, q1, va_K.moved (u := U) (U := U.calling g mk a) (Vm.Alike.refl U.vm) qK, EVS.blind g mk a qE⟩, gH_rc hK hT hr_o0 shm_0 rfl, fun U hU hW => ⟨rfl, hU, va_K.moved hW.alike hK, hE.call hS hFc hU hW⟩⟩ rfl rfl hl.1 rfl (lv_room (Nat.le_of_ble_eq_true rfl)) dX12_land_93 ⟨(Nat.le_of_ble_eq_true rfl), (Nat.le_of_ble_eq_true rfl)⟩) hS (fun q _ h => hFc q h) hFc (fun r477 u t H locs ht hvm hw478 hB _ _ hS => ?_)
              obtain ⟨u479, rfl⟩ : ∃ z, z = u := ⟨_, rfl⟩
              obtain ⟨hT, hF1, m480⟩ := hB
              rw [ht] at hT hF1 m480
              have hF := hF.more hF1 (by decide)
              try dsimp only at hw478
              obtain ⟨h482, hf483, hd484⟩ := hw478
              have t485 : (1 : Int32).toInt = 1 := by decide
              have t486 : (3 : Int32).toInt = 3 := by decide
              obtain rfl : (1 : Int32) = r477 := hd484.symm
              refine lv_if_eq (tgt := 101) hx hb dX12_land_96 (by decide) (fun c487 => absurd c487 (by decide)) (fun c487 => ?_)
              refine lv_iconst (v := 0) hx hb dX12_land_99 (by decide) ?_
              exact W.iret (v := 0) hx hb hr (fun t ht hW => ⟨⟨0, (u479, wL), rfl, (by exact ⟨(rg_t (a := 0) (by decide) (by first | decide | omega) (by first | decide | omega)), (fun _ h9 => h9), (Or.inr ⟨by have := laC_s wH p0.toInt p1.toInt p2.toInt p3.toInt p4.toInt; have q0 : (0 : Int32).toInt = 0 := (by decide); have q1 : (1 : Int32).toInt = 1 := (by decide); have q2 : (2 : Int32).toInt = 2 := (by decide); have q3 : (3 : Int32).toInt = 3 := (by decide); have qm : (-1 : Int32).toInt = -1 := (by decide); omega, by have := laC_s wH p0.toInt p1.toInt p2.toInt p3.toInt p4.toInt; have q0 : (0 : Int32).toInt = 0 := (by decide); have q1 : (1 : Int32).toInt = 1 := (by decide); have q2 : (2 : Int32).toInt = 2 := (by decide); have q3 : (3 : Int32).toInt = 3 := (by decide); have qm : (-1 : Int32).toInt = -1 := (by decide); omega, rfl⟩)⟩), by (try dsimp only); rw [ht]; exact ⟨hT, hF, m480⟩⟩, hS.F ht⟩) hS.2.2 dX12_land_100
          · have t488 : r93.toInt = 0 := ti_eq c99 rfl (by decide)
            have t489 : (0 : Int32).toInt = 0 := by decide
            have t490 : (20 : Int32).toInt = 20 := by decide
            have t491 : p4.toInt < (0 : Int32).toInt ∨ (20 : Int32).toInt < p4.toInt := hi98 c99
            refine lv_iconst (v := 1) hx hb dX12_land_67 (by decide) ?_
            refine lv_goto (tgt := 72) hx hb dX12_land_68 (by decide) ?_
            refine lv_iconst (v := 2) hx hb dX12_land_72 (by decide) ?_
            have hFc := gA_free hG hA hS
            refine va_calli (va_runV (As := [.int 1, .int 2]) (rest := []) ⟨hx, hb, hml, hown, hts⟩ (s_throwsIfP l dC dI kA adK adV G H q wZ0 wN wH wB wC wL wK wU wV PI im PM PT lS lB lE lN o0 1 2 u31 hT hr_o0 m95 (rg_t (a := 1) (by decide) (by first | decide | omega) (by first | decide | omega)) (fun _ => Int.le_refl 0) hgn hgh hgb hgc hgi hgu) (cwV 2 hts (goodIn_app (goodIn_r _ [10, 11, 12, 6] rfl (by decide +kernel)) (goodIn_ca (goodIn_r _ [9, 1] rfl (by decide +kernel)) (bs_in _ _))) rfl rfl rfl (by decide +kernel) ⟨(Nat.le_of_ble_eq_true rfl), (Nat.le_of_ble_eq_true rfl)⟩) ⟨fun a U g mk q => by obtain ⟨q0, q1, qK, qE⟩ := q; exact ⟨q0, q1, va_K.moved (u := U) (U := U.calling g mk a) (Vm.Alike.refl U.vm) qK, EVS.blind g mk a qE⟩, gH_rc hK hT hr_o0 shm_0 rfl, fun U hU hW => ⟨rfl, hU, va_K.moved hW.alike hK, hE.call hS hFc hU hW⟩⟩ rfl rfl hl.1 rfl (lv_room (Nat.le_of_ble_eq_true rfl)) dX12_land_73 ⟨(Nat.le_of_ble_eq_true rfl), (Nat.le_of_ble_eq_true rfl)⟩) hS (fun q _ h => hFc q h) hFc (fun r492 u t H locs ht hvm hw493 hB _ _ hS => ?_)
            obtain ⟨u494, rfl⟩ : ∃ z, z = u := ⟨_, rfl⟩
            obtain ⟨hT, hF1, m495⟩ := hB
            rw [ht] at hT hF1 m495
            have hF := hF.more hF1 (by decide)
            try dsimp only at hw493
            obtain ⟨h497, hf498, hd499⟩ := hw493
            have t500 : (1 : Int32).toInt = 1 := by decide
            have t501 : (2 : Int32).toInt = 2 := by decide
            obtain rfl : (1 : Int32) = r492 := hd499.symm
            refine lv_if_ne (tgt := 99) hx hb dX12_land_76 (by decide) (fun c502 => ?_) (fun c502 => absurd c502 (by decide))
            refine lv_iconst (v := 0) hx hb dX12_land_99 (by decide) ?_
            exact W.iret (v := 0) hx hb hr (fun t ht hW => ⟨⟨0, (u494, wL), rfl, (by exact ⟨(rg_t (a := 0) (by decide) (by first | decide | omega) (by first | decide | omega)), (fun _ h9 => h9), (Or.inr ⟨by have := laC_s wH p0.toInt p1.toInt p2.toInt p3.toInt p4.toInt; have q0 : (0 : Int32).toInt = 0 := (by decide); have q1 : (1 : Int32).toInt = 1 := (by decide); have q2 : (2 : Int32).toInt = 2 := (by decide); have q3 : (3 : Int32).toInt = 3 := (by decide); have qm : (-1 : Int32).toInt = -1 := (by decide); omega, by have := laC_s wH p0.toInt p1.toInt p2.toInt p3.toInt p4.toInt; have q0 : (0 : Int32).toInt = 0 := (by decide); have q1 : (1 : Int32).toInt = 1 := (by decide); have q2 : (2 : Int32).toInt = 2 := (by decide); have q3 : (3 : Int32).toInt = 3 := (by decide); have qm : (-1 : Int32).toInt = -1 := (by decide); omega, rfl⟩)⟩), by (try dsimp only); rw [ht]; exact ⟨hT, hF, m495⟩⟩, hS.F ht⟩) hS.2.2 dX12_land_100
    · have t503 : r22.toInt ≠ 0 := ti_ne c27 rfl (by decide)
      refine lv_iconst (v := 1) hx hb dX12_land_20 (by decide) ?_
      refine lv_goto (tgt := 25) hx hb dX12_land_21 (by decide) ?_
      refine lv_iconst (v := 1) hx hb dX12_land_25 (by decide) ?_
      have hFc := gA_free hG hA hS
      refine va_calli (va_runV (As := [.int 1, .int 1]) (rest := []) ⟨hx, hb, hml, hown, hts⟩ (s_throwsIfP l dC dI kA adK adV G H q wZ0 wN wH wB wC wL wK wU wV PI im PM PT lS lB lE lN o0 1 1 0 hT hr_o0 m24 (rg_t (a := 1) (by decide) (by first | decide | omega) (by first | decide | omega)) (fun _ => Int.le_refl 0) hgn hgh hgb hgc hgi hgu) (cwV 2 hts (goodIn_app (goodIn_r _ [10, 11, 12, 6] rfl (by decide +kernel)) (goodIn_ca (goodIn_r _ [9, 1] rfl (by decide +kernel)) (bs_in _ _))) rfl rfl rfl (by decide +kernel) ⟨(Nat.le_of_ble_eq_true rfl), (Nat.le_of_ble_eq_true rfl)⟩) ⟨fun a U g mk q => by obtain ⟨q0, q1, qK, qE⟩ := q; exact ⟨q0, q1, va_K.moved (u := U) (U := U.calling g mk a) (Vm.Alike.refl U.vm) qK, EVS.blind g mk a qE⟩, gH_rc hK hT hr_o0 shm_0 rfl, fun U hU hW => ⟨rfl, hU, va_K.moved hW.alike hK, hE.call hS hFc hU hW⟩⟩ rfl rfl hl.1 rfl (lv_room (Nat.le_of_ble_eq_true rfl)) dX12_land_26 ⟨(Nat.le_of_ble_eq_true rfl), (Nat.le_of_ble_eq_true rfl)⟩) hS (fun q _ h => hFc q h) hFc (fun r504 u t H locs ht hvm hw505 hB _ _ hS => ?_)
      obtain ⟨u506, rfl⟩ : ∃ z, z = u := ⟨_, rfl⟩
      obtain ⟨hT, hF1, m507⟩ := hB
      rw [ht] at hT hF1 m507
      have hF := hF.more hF1 (by decide)
      try dsimp only at hw505
      obtain ⟨h509, hf510, hd511⟩ := hw505
      have t512 : (1 : Int32).toInt = 1 := by decide
      have t513 : (1 : Int32).toInt = 1 := by decide
      have t514 : (0 : Int32).toInt = 0 := by decide
      obtain rfl : (1 : Int32) = r504 := hd511.symm
      refine lv_if_ne (tgt := 99) hx hb dX12_land_29 (by decide) (fun c515 => ?_) (fun c515 => absurd c515 (by decide))
      refine lv_iconst (v := 0) hx hb dX12_land_99 (by decide) ?_
      exact W.iret (v := 0) hx hb hr (fun t ht hW => ⟨⟨0, (u506, wL), rfl, (by exact ⟨(rg_t (a := 0) (by decide) (by first | decide | omega) (by first | decide | omega)), (fun _ h9 => h9), (Or.inr ⟨by have := laC_s wH p0.toInt p1.toInt p2.toInt p3.toInt p4.toInt; have q0 : (0 : Int32).toInt = 0 := (by decide); have q1 : (1 : Int32).toInt = 1 := (by decide); have q2 : (2 : Int32).toInt = 2 := (by decide); have q3 : (3 : Int32).toInt = 3 := (by decide); have qm : (-1 : Int32).toInt = -1 := (by decide); omega, by have := laC_s wH p0.toInt p1.toInt p2.toInt p3.toInt p4.toInt; have q0 : (0 : Int32).toInt = 0 := (by decide); have q1 : (1 : Int32).toInt = 1 := (by decide); have q2 : (2 : Int32).toInt = 2 := (by decide); have q3 : (3 : Int32).toInt = 3 := (by decide); have qm : (-1 : Int32).toInt = -1 := (by decide); omega, rfl⟩)⟩), by (try dsimp only); rw [ht]; exact ⟨hT, hF, m507⟩⟩, hS.F ht⟩) hS.2.2 dX12_land_100
def w_s_fillC : List Cond := .code yX12_fill cX12_fill 4 (some .boolean) :: (HAppend.hAppend (α := List Cond) (β := List Cond) (γ := List Cond) [.fieldLink RX12 194 "SeaLandModel" "thrown" "I", .code yX12_noSquare cX12_noSquare 1 (some .boolean), .code yX12_in cX12_in 3 (some .boolean), .methodLink RX12 197 yX12_in, .static yX12_in, .initialized RX12, .methodLink RX12 220 yX12_noSquare, .static yX12_noSquare, .code yX12_throwsIf cX12_throwsIf 3 (some .boolean), .methodLink RX12 224 yX12_throwsIf, .instanceMethod yX12_throwsIf, .selects RX12 yX12_throwsIf yX12_throwsIf, .constant RX12 241 100000, .code yX12_isLand cX12_isLand 2 (some .boolean), .fieldLink RX12 9 "SeaLandModel" "world" "[I", .methodLink RX12 235 yX12_isLand, .instanceMethod yX12_isLand, .selects RX12 yX12_isLand yX12_isLand, .fieldLink RX12 238 "SeaLandModel" "rows" "I"] bs)
set_option maxHeartbeats 4000000 in
set_option maxRecDepth 100000 in
theorem s_fillC (l : Launch) (dC : Nat → ClassId) (dI : Nat → Nat → Nat) (kA : Nat → ClassId) (adK adV : Nat → Nat) (G : gT) (H0 : Heap) (q : Nat → Nat) (wZ wN : Nat → Int) (wH wB wC : Int) (wL wK : Nat → Prop) (wU wV : Nat → Nat) (PI : Nat → Int → Prop) (im : Int) (PM PT : Nat → Int → Prop) (lS lB lE : Nat → Nat → Int → Prop) (lN : Nat → Int) (o0 : Nat) (p0 : Int32) (p1 : Int32) (p2 : Int32)  (hT : gH (dC, dI) kA (SHm q (wP wZ0 wN wH wB wC wL wK wU wV) PI im PM PT lS lB lE lN) G H0) (hr_o0 : G o0 = some 0) (hgz : ∀ i, 0 ≤ wZ i) (hgn : ∀ i, 6500000 ≤ wN i ∧ wN i ≤ 20200000) (hgh : 0 ≤ wH ∧ wH ≤ 40000) (hgb : 0 ≤ wB ∧ wB ≤ 3850000) (hgc : 0 ≤ wC ∧ wC ≤ 30) (hgi : 0 ≤ im ∧ im ≤ 1) (hgu : ∀ a t, G a = some (t + 1) → a = q t) : Met l yX12_fill w_s_fillC ({ frames := 2, cells := 0, slots := 0, locals := 42 }) (va_Pc [.ref o0, .int p0, .int p1, .int p2] (fun U => U.heap = H0 ∧ va_K (dC, dI) vwCl (tyl kA) U ∧ EVS adK adV (gA G H0.size) U U.heap)) (va_Qi (fun (r : Int32) (u : Int32) => (0 ≤ r.toInt ∧ r.toInt ≤ 1) ∧ ((fiC p0.toInt p1.toInt p2.toInt = 0 ∧ u.toInt = 0 ∧ ((r.toInt = 1 ∧ wL p0.toNatClampNeg) ∨ (r.toInt = 0 ∧ ¬ wL p0.toNatClampNeg))) ∨ (fiC p0.toInt p1.toInt p2.toInt ≠ 0 ∧ u.toInt = fiC p0.toInt p1.toInt p2.toInt))) (fun (t1 : Int32) (t : State) => gH (dC, dI) kA (SHm q (wP wZ0 wN wH wB wC wL wK wU wV) PI im PM PT lS lB lE lN) G t.heap ∧ gF (dC, dI) SKm G ([(0, 0), (0, 9), (2, 0)] : List (Nat × Nat)) H0 t.heap ∧ el t.heap o0 (dI 15 0) = some (.int t1)) (gA G H0.size)) 0 0 (gA G H0.size) := by
  refine Met.ofW (cc := cX12_fill) (maxL := 4) (ret := (some .boolean)) (by decide) rfl ?_
  intro p e s m args below meth c s₁ B hml hv
  obtain ⟨rfl, hH0, hK, hE⟩ := hv
  have hx := B.exec
  have hb := B.bytes
  have hr := B.returns
  have hts := atoms_spec (ws := w_s_fillC) B.pre
  have hown : s.vm.findClass RX12 = some m.cls := findClass_of_methodNamed B.named
  have hlocks := B.notSynchronized
  subst hH0
  generalize hAe : gA G s.heap.size = A at hE ⊢
  have hA : ∀ q : Nat, s.heap.size ≤ q → A q := fun q h => by rw [← hAe]; exact Or.inr h
  have hG := gA_of hAe
  have hS : va_S A s.heap s.heap [] := va_S.rf
  have hF : gF (dC, dI) SKm G ([(0, 0), (0, 9), (2, 0)] : List (Nat × Nat)) s.heap s.heap := gF.rf
  have hl := lv_entry ([.ref o0, .int p0, .int p1, .int p2]) (n := 4) (Nat.le_of_ble_eq_true rfl)
  rw [lg_entry_eq]
  generalize (lg_sl ([.ref o0, .int p0, .int p1, .int p2]) ++ List.replicate (4 - (lg_sl ([.ref o0, .int p0, .int p1, .int p2])).length) Slot.unset).toArray = ls at hl ⊢
  have hl : lv_has ls 4 [(0, .ref o0), (1, .int p0), (2, .int p1), (3, .int p2)] := hl
  refine lv_aload_n hx hb dX12_fill_0 rfl (lv_at hl 0 rfl) ?_
  refine lv_iconst (v := 0) hx hb dX12_fill_1 (by decide) ?_
  refine tw_put (v := .int 0) (ty := .int) hx hb hts bF_X12 tyX12 tyX12_ok nmX12 hown hK hT hG hS hr_o0 shm_0 rfl 0 (by decide) (ht_at hts 0 rfl) (fun _ h9 => h9) rfl (by decide +kernel) rfl rfl (gl_at rfl (gi_all _)) dX12_fill_2 (fun H locs hT oq m1 oj hS => ?_)
  have hF := hF.put hr_o0 skm_0 oq oj (by decide)
  refine lv_aload_n hx hb dX12_fill_5 rfl (lv_at hl 0 rfl) ?_
  refine lv_iload_n hx hb dX12_fill_6 rfl (lv_at hl 1 rfl) ?_
  have hFc := gA_free hG hA hS
  refine va_calli (va_runS (As := [.int p0]) (rest := [.ref o0]) ⟨hx, hb, hml, hown, hts⟩ (s_noSquareE l dC dI kA adK adV G H q wZ0 wN wH wB wC wL wK wU wV PI im PM PT lS lB lE lN p0 hT (fun _ => Int.le_refl 0) hgn hgh hgb hgc hgi hgu) (va_cwS 1 hts (goodIn_app (goodIn_r _ [7, 8, 6] rfl (by decide +kernel)) (goodIn_ca (goodIn_r _ [2, 3, 4, 5, 6] rfl (by decide +kernel)) (bs_in _ _))) rfl rfl rfl (by decide +kernel) ⟨(Nat.le_of_ble_eq_true rfl), (Nat.le_of_ble_eq_true rfl)⟩) ⟨fun a U g mk q => by obtain ⟨q0, q1, qK, qE⟩ := q; exact ⟨q0, q1, va_K.moved (u := U) (U := U.calling g mk a) (Vm.Alike.refl U.vm) qK, EVS.blind g mk a qE⟩, fun U hU hW => ⟨rfl, hU, va_K.moved hW.alike hK, hE.call hS hFc hU hW⟩⟩ rfl rfl hl.1 rfl (lv_room (Nat.le_of_ble_eq_true rfl)) dX12_fill_7 ⟨(Nat.le_of_ble_eq_true rfl), (Nat.le_of_ble_eq_true rfl)⟩) hS (fun q _ h => hFc q h) hFc (fun r2 u t H locs ht hvm hw3 hB _ _ hS => ?_)
  obtain ⟨hT, hF1⟩ := hB
  rw [ht] at hT hF1
  have m4 := (hF1.fld hr_o0 skm_0 (k := 0) (by decide) (by decide)).trans m1
  have hF := hF.more hF1 (by decide)
  try dsimp only at hw3
  obtain ⟨h5, hf6⟩ := hw3
  refine lv_iconst (v := 1) hx hb dX12_fill_10 (by decide) ?_
  have hFc := gA_free hG hA hS
  refine va_calli (va_runV (As := [.int r2, .int 1]) (rest := []) ⟨hx, hb, hml, hown, hts⟩ (s_throwsIfP l dC dI kA adK adV G H q wZ0 wN wH wB wC wL wK wU wV PI im PM PT lS lB lE lN o0 r2 1 0 hT hr_o0 m4 (by have q8 := ti_all r2; omega) (fun _ => Int.le_refl 0) hgn hgh hgb hgc hgi hgu) (cwV 2 hts (goodIn_app (goodIn_r _ [10, 11, 12, 6] rfl (by decide +kernel)) (goodIn_ca (goodIn_r _ [9, 1] rfl (by decide +kernel)) (bs_in _ _))) rfl rfl rfl (by decide +kernel) ⟨(Nat.le_of_ble_eq_true rfl), (Nat.le_of_ble_eq_true rfl)⟩) ⟨fun a U g mk q => by obtain ⟨q0, q1, qK, qE⟩ := q; exact ⟨q0, q1, va_K.moved (u := U) (U := U.calling g mk a) (Vm.Alike.refl U.vm) qK, EVS.blind g mk a qE⟩, gH_rc hK hT hr_o0 shm_0 rfl, fun U hU hW => ⟨rfl, hU, va_K.moved hW.alike hK, hE.call hS hFc hU hW⟩⟩ rfl rfl hl.1 rfl (lv_room (Nat.le_of_ble_eq_true rfl)) dX12_fill_11 ⟨(Nat.le_of_ble_eq_true rfl), (Nat.le_of_ble_eq_true rfl)⟩) hS (fun q _ h => hFc q h) hFc (fun r7 u t H locs ht hvm hw8 hB _ _ hS => ?_)
  obtain ⟨u9, rfl⟩ : ∃ z, z = u := ⟨_, rfl⟩
  obtain ⟨hT, hF1, m10⟩ := hB
  rw [ht] at hT hF1 m10
  have hF := hF.more hF1 (by decide)
  try dsimp only at hw8
  obtain ⟨h12, hf13, hd14⟩ := hw8
  have t15 : (1 : Int32).toInt = 1 := by decide
  have t16 : (0 : Int32).toInt = 0 := by decide
  obtain rfl : r2 = r7 := hd14.symm
  refine lv_if_ne (tgt := 59) hx hb dX12_fill_14 (by decide) (fun c17 => ?_) (fun c17 => ?_)
  · have t18 : r2.toInt ≠ 0 := ti_ne c17 rfl (by decide)
    refine lv_iconst (v := 0) hx hb dX12_fill_59 (by decide) ?_
    exact W.zret (v := 0) hx hb hr (by decide) (fun t ht hW => ⟨⟨0, u9, rfl, (by exact ⟨(rg_t (a := 0) (by decide) (by first | decide | omega) (by first | decide | omega)), (by first | exact Or.inl ⟨by have := fiC_s p0.toInt p1.toInt p2.toInt; omega, by have q0 : (0 : Int32).toInt = 0 := (by decide); have q1 : (1 : Int32).toInt = 1 := (by decide); have q2 : (2 : Int32).toInt = 2 := (by decide); have q3 : (3 : Int32).toInt = 3 := (by decide); have qm : (-1 : Int32).toInt = -1 := (by decide); omega, Or.inr ⟨by decide, by assumption⟩⟩ | exact Or.inr ⟨by have := fiC_s p0.toInt p1.toInt p2.toInt; have q0 : (0 : Int32).toInt = 0 := (by decide); have q1 : (1 : Int32).toInt = 1 := (by decide); have q2 : (2 : Int32).toInt = 2 := (by decide); have q3 : (3 : Int32).toInt = 3 := (by decide); have qm : (-1 : Int32).toInt = -1 := (by decide); omega, by have := fiC_s p0.toInt p1.toInt p2.toInt; have q0 : (0 : Int32).toInt = 0 := (by decide); have q1 : (1 : Int32).toInt = 1 := (by decide); have q2 : (2 : Int32).toInt = 2 := (by decide); have q3 : (3 : Int32).toInt = 3 := (by decide); have qm : (-1 : Int32).toInt = -1 := (by decide); omega⟩)⟩), by (try dsimp only); rw [ht]; exact ⟨hT, hF, m10⟩⟩, hS.F ht⟩) hS.2.2 dX12_fill_60
  · have t19 : r2.toInt = 0 := ti_eq c17 rfl (by decide)
    refine lv_aload_n hx hb dX12_fill_17 rfl (lv_at hl 0 rfl) ?_
    refine lv_iload_n hx hb dX12_fill_18 rfl (lv_at hl 2 rfl) ?_
    refine lv_iconst (v := 0) hx hb dX12_fill_19 (by decide) ?_
    refine lv_sipush (v := 900) hx hb dX12_fill_20 (by decide) ?_
    have hFc := gA_free hG hA hS
    refine va_calli (va_runS (As := [.int p1, .int 0, .int 900]) (rest := [.ref o0]) ⟨hx, hb, hml, hown, hts⟩ (s_in l dC dI kA adK adV G H q wZ0 wN wH wB wC wL wK wU wV PI im PM PT lS lB lE lN p1 0 900 hT (fun _ => Int.le_refl 0) hgn hgh hgb hgc hgi hgu) (va_cwS 3 hts (goodIn_app (goodIn_r _ [4, 5, 6] rfl (by decide +kernel)) (goodIn_ca (goodIn_r _ [3] rfl (by decide +kernel)) (bs_in _ _))) rfl rfl rfl (by decide +kernel) ⟨(Nat.le_of_ble_eq_true rfl), (Nat.le_of_ble_eq_true rfl)⟩) ⟨fun a U g mk q => by obtain ⟨q0, q1, qK, qE⟩ := q; exact ⟨q0, q1, va_K.moved (u := U) (U := U.calling g mk a) (Vm.Alike.refl U.vm) qK, EVS.blind g mk a qE⟩, fun U hU hW => ⟨rfl, hU, va_K.moved hW.alike hK, hE.call hS hFc hU hW⟩⟩ rfl rfl hl.1 rfl (lv_room (Nat.le_of_ble_eq_true rfl)) dX12_fill_23 ⟨(Nat.le_of_ble_eq_true rfl), (Nat.le_of_ble_eq_true rfl)⟩) hS (fun q _ h => hFc q h) hFc (fun r20 u t H locs ht hvm hw21 hB _ _ hS => ?_)
    obtain ⟨hT, hF1⟩ := hB
    rw [ht] at hT hF1
    have m22 := (hF1.fld hr_o0 skm_0 (k := 0) (by decide) (by decide)).trans m10
    have hF := hF.more hF1 (by decide)
    try dsimp only at hw21
    obtain ⟨h23, hi24, hi25⟩ := hw21
    refine lv_if_eq (tgt := 39) hx hb dX12_fill_26 (by decide) (fun c26 => ?_) (fun c26 => ?_)
    · have t27 : r20.toInt = 0 := ti_eq c26 rfl (by decide)
      have t28 : (0 : Int32).toInt = 0 := by decide
      have t29 : (900 : Int32).toInt = 900 := by decide
      have t30 : p1.toInt < (0 : Int32).toInt ∨ (900 : Int32).toInt < p1.toInt := hi25 c26
      refine lv_iconst (v := 1) hx hb dX12_fill_39 (by decide) ?_
      refine lv_goto (tgt := 44) hx hb dX12_fill_40 (by decide) ?_
      refine lv_iconst (v := 2) hx hb dX12_fill_44 (by decide) ?_
      have hFc := gA_free hG hA hS
      refine va_calli (va_runV (As := [.int 1, .int 2]) (rest := []) ⟨hx, hb, hml, hown, hts⟩ (s_throwsIfP l dC dI kA adK adV G H q wZ0 wN wH wB wC wL wK wU wV PI im PM PT lS lB lE lN o0 1 2 u9 hT hr_o0 m22 (rg_t (a := 1) (by decide) (by first | decide | omega) (by first | decide | omega)) (fun _ => Int.le_refl 0) hgn hgh hgb hgc hgi hgu) (cwV 2 hts (goodIn_app (goodIn_r _ [10, 11, 12, 6] rfl (by decide +kernel)) (goodIn_ca (goodIn_r _ [9, 1] rfl (by decide +kernel)) (bs_in _ _))) rfl rfl rfl (by decide +kernel) ⟨(Nat.le_of_ble_eq_true rfl), (Nat.le_of_ble_eq_true rfl)⟩) ⟨fun a U g mk q => by obtain ⟨q0, q1, qK, qE⟩ := q; exact ⟨q0, q1, va_K.moved (u := U) (U := U.calling g mk a) (Vm.Alike.refl U.vm) qK, EVS.blind g mk a qE⟩, gH_rc hK hT hr_o0 shm_0 rfl, fun U hU hW => ⟨rfl, hU, va_K.moved hW.alike hK, hE.call hS hFc hU hW⟩⟩ rfl rfl hl.1 rfl (lv_room (Nat.le_of_ble_eq_true rfl)) dX12_fill_45 ⟨(Nat.le_of_ble_eq_true rfl), (Nat.le_of_ble_eq_true rfl)⟩) hS (fun q _ h => hFc q h) hFc (fun r31 u t H locs ht hvm hw32 hB _ _ hS => ?_)
      obtain ⟨u33, rfl⟩ : ∃ z, z = u := ⟨_, rfl⟩
      obtain ⟨hT, hF1, m34⟩ := hB
      rw [ht] at hT hF1 m34
      have hF := hF.more hF1 (by decide)
      try dsimp only at hw32
      obtain ⟨h36, hf37, hd38⟩ := hw32
      have t39 : (1 : Int32).toInt = 1 := by decide
      have t40 : (2 : Int32).toInt = 2 := by decide
      obtain rfl : (1 : Int32) = r31 := hd38.symm
      refine lv_if_ne (tgt := 59) hx hb dX12_fill_48 (by decide) (fun c41 => ?_) (fun c41 => absurd c41 (by decide))
      refine lv_iconst (v := 0) hx hb dX12_fill_59 (by decide) ?_
      exact W.zret (v := 0) hx hb hr (by decide) (fun t ht hW => ⟨⟨0, u33, rfl, (by exact ⟨(rg_t (a := 0) (by decide) (by first | decide | omega) (by first | decide | omega)), (by first | exact Or.inl ⟨by have := fiC_s p0.toInt p1.toInt p2.toInt; omega, by have q0 : (0 : Int32).toInt = 0 := (by decide); have q1 : (1 : Int32).toInt = 1 := (by decide); have q2 : (2 : Int32).toInt = 2 := (by decide); have q3 : (3 : Int32).toInt = 3 := (by decide); have qm : (-1 : Int32).toInt = -1 := (by decide); omega, Or.inr ⟨by decide, by assumption⟩⟩ | exact Or.inr ⟨by have := fiC_s p0.toInt p1.toInt p2.toInt; have q0 : (0 : Int32).toInt = 0 := (by decide); have q1 : (1 : Int32).toInt = 1 := (by decide); have q2 : (2 : Int32).toInt = 2 := (by decide); have q3 : (3 : Int32).toInt = 3 := (by decide); have qm : (-1 : Int32).toInt = -1 := (by decide); omega, by have := fiC_s p0.toInt p1.toInt p2.toInt; have q0 : (0 : Int32).toInt = 0 := (by decide); have q1 : (1 : Int32).toInt = 1 := (by decide); have q2 : (2 : Int32).toInt = 2 := (by decide); have q3 : (3 : Int32).toInt = 3 := (by decide); have qm : (-1 : Int32).toInt = -1 := (by decide); omega⟩)⟩), by (try dsimp only); rw [ht]; exact ⟨hT, hF, m34⟩⟩, hS.F ht⟩) hS.2.2 dX12_fill_60
    · have t42 : r20.toInt ≠ 0 := ti_ne c26 rfl (by decide)
      have t43 : (0 : Int32).toInt = 0 := by decide
      have t44 : (900 : Int32).toInt = 900 := by decide
      have t45 : (0 : Int32).toInt ≤ p1.toInt ∧ p1.toInt ≤ (900 : Int32).toInt := hi24 ((bit_of ⟨by omega, by omega⟩).resolve_left c26)
      refine lv_iload_n hx hb dX12_fill_29 rfl (lv_at hl 3 rfl) ?_
      refine lv_iconst (v := 0) hx hb dX12_fill_30 (by decide) ?_
      refine lv_ldc (v := 100000) hx hb hown (ht_at hts 12 rfl) dX12_fill_31 ?_
      have hFc := gA_free hG hA hS
      refine va_calli (va_runS (As := [.int p2, .int 0, .int 100000]) (rest := [.ref o0]) ⟨hx, hb, hml, hown, hts⟩ (s_in l dC dI kA adK adV G H q wZ0 wN wH wB wC wL wK wU wV PI im PM PT lS lB lE lN p2 0 100000 hT (fun _ => Int.le_refl 0) hgn hgh hgb hgc hgi hgu) (va_cwS 3 hts (goodIn_app (goodIn_r _ [4, 5, 6] rfl (by decide +kernel)) (goodIn_ca (goodIn_r _ [3] rfl (by decide +kernel)) (bs_in _ _))) rfl rfl rfl (by decide +kernel) ⟨(Nat.le_of_ble_eq_true rfl), (Nat.le_of_ble_eq_true rfl)⟩) ⟨fun a U g mk q => by obtain ⟨q0, q1, qK, qE⟩ := q; exact ⟨q0, q1, va_K.moved (u := U) (U := U.calling g mk a) (Vm.Alike.refl U.vm) qK, EVS.blind g mk a qE⟩, fun U hU hW => ⟨rfl, hU, va_K.moved hW.alike hK, hE.call hS hFc hU hW⟩⟩ rfl rfl hl.1 rfl (lv_room (Nat.le_of_ble_eq_true rfl)) dX12_fill_33 ⟨(Nat.le_of_ble_eq_true rfl), (Nat.le_of_ble_eq_true rfl)⟩) hS (fun q _ h => hFc q h) hFc (fun r46 u t H locs ht hvm hw47 hB _ _ hS => ?_)
      obtain ⟨hT, hF1⟩ := hB
      rw [ht] at hT hF1
      have m48 := (hF1.fld hr_o0 skm_0 (k := 0) (by decide) (by decide)).trans m22
      have hF := hF.more hF1 (by decide)
      try dsimp only at hw47
      obtain ⟨h49, hi50, hi51⟩ := hw47
      refine lv_if_ne (tgt := 43) hx hb dX12_fill_36 (by decide) (fun c52 => ?_) (fun c52 => ?_)
      · have t53 : r46.toInt ≠ 0 := ti_ne c52 rfl (by decide)
        have t54 : (0 : Int32).toInt = 0 := by decide
        have t55 : (100000 : Int32).toInt = 100000 := by decide
        have t56 : (0 : Int32).toInt ≤ p2.toInt ∧ p2.toInt ≤ (100000 : Int32).toInt := hi50 ((bit_of ⟨by omega, by omega⟩).resolve_left c52)
        refine lv_iconst (v := 0) hx hb dX12_fill_43 (by decide) ?_
        refine lv_iconst (v := 2) hx hb dX12_fill_44 (by decide) ?_
        have hFc := gA_free hG hA hS
        refine va_calli (va_runV (As := [.int 0, .int 2]) (rest := []) ⟨hx, hb, hml, hown, hts⟩ (s_throwsIfP l dC dI kA adK adV G H q wZ0 wN wH wB wC wL wK wU wV PI im PM PT lS lB lE lN o0 0 2 u9 hT hr_o0 m48 (rg_t (a := 0) (by decide) (by first | decide | omega) (by first | decide | omega)) (fun _ => Int.le_refl 0) hgn hgh hgb hgc hgi hgu) (cwV 2 hts (goodIn_app (goodIn_r _ [10, 11, 12, 6] rfl (by decide +kernel)) (goodIn_ca (goodIn_r _ [9, 1] rfl (by decide +kernel)) (bs_in _ _))) rfl rfl rfl (by decide +kernel) ⟨(Nat.le_of_ble_eq_true rfl), (Nat.le_of_ble_eq_true rfl)⟩) ⟨fun a U g mk q => by obtain ⟨q0, q1, qK, qE⟩ := q; exact ⟨q0, q1, va_K.moved (u := U) (U := U.calling g mk a) (Vm.Alike.refl U.vm) qK, EVS.blind g mk a qE⟩, gH_rc hK hT hr_o0 shm_0 rfl, fun U hU hW => ⟨rfl, hU, va_K.moved hW.alike hK, hE.call hS hFc hU hW⟩⟩ rfl rfl hl.1 rfl (lv_room (Nat.le_of_ble_eq_true rfl)) dX12_fill_45 ⟨(Nat.le_of_ble_eq_true rfl), (Nat.le_of_ble_eq_true rfl)⟩) hS (fun q _ h => hFc q h) hFc (fun r57 u t H locs ht hvm hw58 hB _ _ hS => ?_)
        obtain ⟨u59, rfl⟩ : ∃ z, z = u := ⟨_, rfl⟩
        obtain ⟨hT, hF1, m60⟩ := hB
        rw [ht] at hT hF1 m60
        have hF := hF.more hF1 (by decide)
        try dsimp only at hw58
        obtain ⟨h62, hf63, hd64⟩ := hw58
        have t65 : (0 : Int32).toInt = 0 := by decide
        have t66 : (2 : Int32).toInt = 2 := by decide
        obtain rfl : (0 : Int32) = r57 := hd64.symm
        refine lv_if_ne (tgt := 59) hx hb dX12_fill_48 (by decide) (fun c67 => absurd c67 (by decide)) (fun c67 => ?_)
        refine lv_aload_n hx hb dX12_fill_51 rfl (lv_at hl 0 rfl) ?_
        refine lv_iload_n hx hb dX12_fill_52 rfl (lv_at hl 1 rfl) ?_
        have hFc := gA_free hG hA hS
        refine va_calli (va_runV (As := [.int p0]) (rest := []) ⟨hx, hb, hml, hown, hts⟩ (s_isLand l dC dI kA adK adV G H q wZ0 wN wH wB wC wL wK wU wV PI im PM PT lS lB lE lN o0 p0 hT hr_o0 (by have q8 := ti_all p0; omega) (fun _ => Int.le_refl 0) hgn hgh hgb hgc hgi hgu) (cwV 1 hts (goodIn_app (goodIn_r _ [16, 17, 18, 6] rfl (by decide +kernel)) (goodIn_ca (goodIn_r _ [14, 15] rfl (by decide +kernel)) (bs_in _ _))) rfl rfl rfl (by decide +kernel) ⟨(Nat.le_of_ble_eq_true rfl), (Nat.le_of_ble_eq_true rfl)⟩) ⟨fun a U g mk q => by obtain ⟨q0, q1, qK, qE⟩ := q; exact ⟨q0, q1, va_K.moved (u := U) (U := U.calling g mk a) (Vm.Alike.refl U.vm) qK, EVS.blind g mk a qE⟩, gH_rc hK hT hr_o0 shm_0 rfl, fun U hU hW => ⟨rfl, hU, va_K.moved hW.alike hK, hE.call hS hFc hU hW⟩⟩ rfl rfl hl.1 rfl (lv_room (Nat.le_of_ble_eq_true rfl)) dX12_fill_53 ⟨(Nat.le_of_ble_eq_true rfl), (Nat.le_of_ble_eq_true rfl)⟩) hS (fun q _ h => hFc q h) hFc (fun r68 u t H locs ht hvm hw69 hB _ _ hS => ?_)
        obtain ⟨hT, hF1⟩ := hB
        rw [ht] at hT hF1
        have m70 := (hF1.fld hr_o0 skm_0 (k := 0) (by decide) (by decide)).trans m60
        have hF := hF.more hF1 (by decide)
        try dsimp only at hw69
        obtain ⟨h71, hi72, hi73⟩ := hw69
        refine lv_if_ne (tgt := 61) hx hb dX12_fill_56 (by decide) (fun c74 => ?_) (fun c74 => ?_)
        · have t75 : r68.toInt ≠ 0 := ti_ne c74 rfl (by decide)
          have t76 : wL p0.toNatClampNeg := hi72 ((bit_of ⟨by omega, by omega⟩).resolve_left c74)
          refine lv_aload_n hx hb dX12_fill_61 rfl (lv_at hl 0 rfl) ?_
          refine tw_get hx hb hts bF_X12 hown hK hT hr_o0 shm_0 rfl 1 (by decide) (ht_at hts 14 rfl) (fun _ h9 => h9) dX12_fill_62 (fun v9 m77 h9 => ?_)
          obtain ⟨rfl, hg78⟩ := h9 _ rfl
          refine lv_sipush (v := 1748) hx hb dX12_fill_65 (by decide) ?_
          refine lv_dup2_11 hx hb dX12_fill_68 rfl rfl ?_
          refine tw_iald (i := 1748) hx hb hK hT hg78 shm_2 rfl (by unfold vp_in; decide) dX12_fill_69 (fun v9 m79 h9 => ?_)
          obtain ⟨x80, rfl, gx80, kx80⟩ := (gp_at h9 (w_fre (by have q9 := tn_of (show (1748 : Int32).toInt = 1748 from (by decide)) (show (0 : Int) ≤ 1748 from by omega); omega)))
          refine lv_iload_n hx hb dX12_fill_70 rfl (lv_at hl 2 rfl) ?_
          refine lv_aload_n hx hb dX12_fill_71 rfl (lv_at hl 0 rfl) ?_
          refine tw_get hx hb hts bF_X12 hown hK hT hr_o0 shm_0 rfl 1 (by decide) (ht_at hts 14 rfl) (fun _ h9 => h9) dX12_fill_72 (fun v9 m81 h9 => ?_)
          obtain ⟨rfl, hg82⟩ := h9 _ rfl
          refine lv_sipush (v := 384) hx hb dX12_fill_75 (by decide) ?_
          refine lv_iload_n hx hb dX12_fill_78 rfl (lv_at hl 1 rfl) ?_
          refine lv_iadd hx hb dX12_fill_79 ?_
          refine lv_topi (fun x83 ex83 => ?_)
          have t84 : x83.toInt = 384 + p0.toInt := ti_add ex83 (by decide) rfl (by omega) (by omega)
          refine tw_iald (i := x83) hx hb hK hT hg78 shm_2 rfl (vin_t (a := x83.toInt) rfl (by omega) (by omega)) dX12_fill_80 (fun v9 m85 h9 => ?_)
          obtain ⟨x86, rfl, gx86, kx86⟩ := (gw_at h9 (w_wat (by have q9 := tn_of (show x83.toInt = x83.toInt from rfl) (show (0 : Int) ≤ x83.toInt from by omega); omega)) hgn (fun _ => Int.le_refl 0))
          refine lv_isub hx hb dX12_fill_81 ?_
          refine lv_topi (fun x87 ex87 => ?_)
          have t88 : x87.toInt = p1.toInt - x86.toInt := ti_sub ex87 rfl rfl (by omega) (by omega)
          refine lv_iadd hx hb dX12_fill_82 ?_
          refine lv_topi (fun x89 ex89 => ?_)
          refine tw_iast (i := 1748) (x := x89) hx hb hK hT hG hS hg78 shm_2 rfl (by unfold vp_in; decide) (gp_of (gi_all _) (w_fre (by have q9 := tn_of (show (1748 : Int32).toInt = 1748 from (by decide)) (show (0 : Int) ≤ 1748 from by omega); omega)) (wX_o (by have q9 := tn_of (show (1748 : Int32).toInt = 1748 from (by decide)) (show (0 : Int) ≤ 1748 from by omega); omega) (by omega))) dX12_fill_83 (fun H locs hT oq m90 oi hS => ?_)
          have hF := hF.ast hg78 skm_2 oq (by decide)
          have m91 := (el_kept (oq _ (gne hr_o0 hg78 (by decide)))).trans m70
          have m92 := (oi _ (tn_ne (show x83.toInt = x83.toInt from rfl) (show (1748 : Int32).toInt = 1748 from (by decide)) (by omega) (by omega) (by omega))).trans m85
          refine lv_aload_n hx hb dX12_fill_84 rfl (lv_at hl 0 rfl) ?_
          refine tw_get hx hb hts bF_X12 hown hK hT hr_o0 shm_0 rfl 1 (by decide) (ht_at hts 14 rfl) (fun _ h9 => h9) dX12_fill_85 (fun v9 m93 h9 => ?_)
          obtain ⟨rfl, hg94⟩ := h9 _ rfl
          refine lv_sipush (v := 384) hx hb dX12_fill_88 (by decide) ?_
          refine lv_iload_n hx hb dX12_fill_91 rfl (lv_at hl 1 rfl) ?_
          refine lv_iadd hx hb dX12_fill_92 ?_
          refine lv_topi (fun x95 ex95 => ?_)
          have t96 : x95.toInt = 384 + p0.toInt := ti_add ex95 (by decide) rfl (by omega) (by omega)
          refine lv_iload_n hx hb dX12_fill_93 rfl (lv_at hl 2 rfl) ?_
          have t97 : 6500000 ≤ wN x95.toNatClampNeg ∧ wN x95.toNatClampNeg ≤ 20200000 := hgn _
          have t98 : wN x83.toNatClampNeg = wN x95.toNatClampNeg := congrArg _ (tn_same (show x83.toInt = x83.toInt from rfl) (show x95.toInt = x95.toInt from rfl) (by omega))
          refine tw_iast (i := x95) (x := p1) hx hb hK hT hG hS hg78 shm_2 rfl (vin_t (a := x95.toInt) rfl (by omega) (by omega)) (gp_of (gi_of (show p1.toInt = p1.toInt from rfl) (by omega) (by omega)) (w_wat0 (by have q9 := tn_of (show x95.toInt = x95.toInt from rfl) (show (0 : Int) ≤ x95.toInt from by omega); omega)) (wX_o (by have q9 := tn_of (show x95.toInt = x95.toInt from rfl) (show (0 : Int) ≤ x95.toInt from by omega); omega) (by omega))) dX12_fill_94 (fun H locs hT oq m99 oi hS => ?_)
          have hF := hF.ast hg78 skm_2 oq (by decide)
          have m100 := (el_kept (oq _ (gne hr_o0 hg78 (by decide)))).trans m91
          have m101 := (oi _ (tn_ne (show (1748 : Int32).toInt = 1748 from (by decide)) (show x95.toInt = x95.toInt from rfl) (by omega) (by omega) (by omega))).trans m90
          refine lv_aload_n hx hb dX12_fill_95 rfl (lv_at hl 0 rfl) ?_
          refine tw_get hx hb hts bF_X12 hown hK hT hr_o0 shm_0 rfl 1 (by decide) (ht_at hts 14 rfl) (fun _ h9 => h9) dX12_fill_96 (fun v9 m102 h9 => ?_)
          obtain ⟨rfl, hg103⟩ := h9 _ rfl
          refine lv_sipush (v := 480) hx hb dX12_fill_99 (by decide) ?_
          refine lv_iload_n hx hb dX12_fill_102 rfl (lv_at hl 1 rfl) ?_
          refine lv_iadd hx hb dX12_fill_103 ?_
          refine lv_topi (fun x104 ex104 => ?_)
          have t105 : x104.toInt = 480 + p0.toInt := ti_add ex104 (by decide) rfl (by omega) (by omega)
          refine lv_iload_n hx hb dX12_fill_104 rfl (lv_at hl 3 rfl) ?_
          refine tw_iast (i := x104) (x := p2) hx hb hK hT hG hS hg78 shm_2 rfl (vin_t (a := x104.toInt) rfl (by omega) (by omega)) (gp_of (gi_all _) (w_fre (by have q9 := tn_of (show x104.toInt = x104.toInt from rfl) (show (0 : Int) ≤ x104.toInt from by omega); omega)) (wX_o (by have q9 := tn_of (show x104.toInt = x104.toInt from rfl) (show (0 : Int) ≤ x104.toInt from by omega); omega) (by omega))) dX12_fill_105 (fun H locs hT oq m106 oi hS => ?_)
          have hF := hF.ast hg78 skm_2 oq (by decide)
          have m107 := (el_kept (oq _ (gne hr_o0 hg78 (by decide)))).trans m100
          have m108 := (oi _ (tn_ne (show (1748 : Int32).toInt = 1748 from (by decide)) (show x104.toInt = x104.toInt from rfl) (by omega) (by omega) (by omega))).trans m101
          have m109 := (oi _ (tn_ne (show x95.toInt = x95.toInt from rfl) (show x104.toInt = x104.toInt from rfl) (by omega) (by omega) (by omega))).trans m99
          refine lv_aload_n hx hb dX12_fill_106 rfl (lv_at hl 0 rfl) ?_
          refine lv_iconst (v := 0) hx hb dX12_fill_107 (by decide) ?_
          refine tw_put (v := .int 0) (ty := .int) hx hb hts bF_X12 tyX12 tyX12_ok nmX12 hown hK hT hG hS hr_o0 shm_0 rfl 9 (by decide) (ht_at hts 18 rfl) (fun _ h9 => h9) rfl (by decide +kernel) rfl rfl (gl_at rfl (gi_of (show (0 : Int32).toInt = 0 from (by decide)) (by first | decide | omega) (by first | decide | omega))) dX12_fill_108 (fun H locs hT oq m110 oj hS => ?_)
          have hF := hF.put hr_o0 skm_0 oq oj (by decide)
          have m111 := (oj 0 (by decide) (by decide)).trans m107
          have m112 := (el_kept (oq _ (gne hg78 hr_o0 (by decide)))).trans m108
          have m113 := (el_kept (oq _ (gne hg78 hr_o0 (by decide)))).trans m109
          have m114 := (el_kept (oq _ (gne hg78 hr_o0 (by decide)))).trans m106
          refine lv_iconst (v := 1) hx hb dX12_fill_111 (by decide) ?_
          exact W.zret (v := 1) hx hb hr (by decide) (fun t ht hW => ⟨⟨1, u59, rfl, (by exact ⟨(rg_t (a := 1) (by decide) (by first | decide | omega) (by first | decide | omega)), (Or.inl ⟨by have := fiC_s p0.toInt p1.toInt p2.toInt; omega, by have q0 : (0 : Int32).toInt = 0 := (by decide); have q1 : (1 : Int32).toInt = 1 := (by decide); have q2 : (2 : Int32).toInt = 2 := (by decide); have q3 : (3 : Int32).toInt = 3 := (by decide); have qm : (-1 : Int32).toInt = -1 := (by decide); omega, Or.inl ⟨by decide, by assumption⟩⟩)⟩), by (try dsimp only); rw [ht]; exact ⟨hT, hF, m111⟩⟩, hS.F ht⟩) hS.2.2 dX12_fill_112
        · have t115 : r68.toInt = 0 := ti_eq c74 rfl (by decide)
          have t116 : ¬ wL p0.toNatClampNeg := hi73 c74
          refine lv_iconst (v := 0) hx hb dX12_fill_59 (by decide) ?_
          exact W.zret (v := 0) hx hb hr (by decide) (fun t ht hW => ⟨⟨0, u59, rfl, (by exact ⟨(rg_t (a := 0) (by decide) (by first | decide | omega) (by first | decide | omega)), (by first | exact Or.inl ⟨by have := fiC_s p0.toInt p1.toInt p2.toInt; omega, by have q0 : (0 : Int32).toInt = 0 := (by decide); have q1 : (1 : Int32).toInt = 1 := (by decide); have q2 : (2 : Int32).toInt = 2 := (by decide); have q3 : (3 : Int32).toInt = 3 := (by decide); have qm : (-1 : Int32).toInt = -1 := (by decide); omega, Or.inr ⟨by decide, by assumption⟩⟩ | exact Or.inr ⟨by have := fiC_s p0.toInt p1.toInt p2.toInt; have q0 : (0 : Int32).toInt = 0 := (by decide); have q1 : (1 : Int32).toInt = 1 := (by decide); have q2 : (2 : Int32).toInt = 2 := (by decide); have q3 : (3 : Int32).toInt = 3 := (by decide); have qm : (-1 : Int32).toInt = -1 := (by decide); omega, by have := fiC_s p0.toInt p1.toInt p2.toInt; have q0 : (0 : Int32).toInt = 0 := (by decide); have q1 : (1 : Int32).toInt = 1 := (by decide); have q2 : (2 : Int32).toInt = 2 := (by decide); have q3 : (3 : Int32).toInt = 3 := (by decide); have qm : (-1 : Int32).toInt = -1 := (by decide); omega⟩)⟩), by (try dsimp only); rw [ht]; exact ⟨hT, hF, m70⟩⟩, hS.F ht⟩) hS.2.2 dX12_fill_60
      · have t117 : r46.toInt = 0 := ti_eq c52 rfl (by decide)
        have t118 : (0 : Int32).toInt = 0 := by decide
        have t119 : (100000 : Int32).toInt = 100000 := by decide
        have t120 : p2.toInt < (0 : Int32).toInt ∨ (100000 : Int32).toInt < p2.toInt := hi51 c52
        refine lv_iconst (v := 1) hx hb dX12_fill_39 (by decide) ?_
        refine lv_goto (tgt := 44) hx hb dX12_fill_40 (by decide) ?_
        refine lv_iconst (v := 2) hx hb dX12_fill_44 (by decide) ?_
        have hFc := gA_free hG hA hS
        refine va_calli (va_runV (As := [.int 1, .int 2]) (rest := []) ⟨hx, hb, hml, hown, hts⟩ (s_throwsIfP l dC dI kA adK adV G H q wZ0 wN wH wB wC wL wK wU wV PI im PM PT lS lB lE lN o0 1 2 u9 hT hr_o0 m48 (rg_t (a := 1) (by decide) (by first | decide | omega) (by first | decide | omega)) (fun _ => Int.le_refl 0) hgn hgh hgb hgc hgi hgu) (cwV 2 hts (goodIn_app (goodIn_r _ [10, 11, 12, 6] rfl (by decide +kernel)) (goodIn_ca (goodIn_r _ [9, 1] rfl (by decide +kernel)) (bs_in _ _))) rfl rfl rfl (by decide +kernel) ⟨(Nat.le_of_ble_eq_true rfl), (Nat.le_of_ble_eq_true rfl)⟩) ⟨fun a U g mk q => by obtain ⟨q0, q1, qK, qE⟩ := q; exact ⟨q0, q1, va_K.moved (u := U) (U := U.calling g mk a) (Vm.Alike.refl U.vm) qK, EVS.blind g mk a qE⟩, gH_rc hK hT hr_o0 shm_0 rfl, fun U hU hW => ⟨rfl, hU, va_K.moved hW.alike hK, hE.call hS hFc hU hW⟩⟩ rfl rfl hl.1 rfl (lv_room (Nat.le_of_ble_eq_true rfl)) dX12_fill_45 ⟨(Nat.le_of_ble_eq_true rfl), (Nat.le_of_ble_eq_true rfl)⟩) hS (fun q _ h => hFc q h) hFc (fun r121 u t H locs ht hvm hw122 hB _ _ hS => ?_)
        obtain ⟨u123, rfl⟩ : ∃ z, z = u := ⟨_, rfl⟩
        obtain ⟨hT, hF1, m124⟩ := hB
        rw [ht] at hT hF1 m124
        have hF := hF.more hF1 (by decide)
        try dsimp only at hw122
        obtain ⟨h126, hf127, hd128⟩ := hw122
        have t129 : (1 : Int32).toInt = 1 := by decide
        have t130 : (2 : Int32).toInt = 2 := by decide
        obtain rfl : (1 : Int32) = r121 := hd128.symm
        refine lv_if_ne (tgt := 59) hx hb dX12_fill_48 (by decide) (fun c131 => ?_) (fun c131 => absurd c131 (by decide))
        refine lv_iconst (v := 0) hx hb dX12_fill_59 (by decide) ?_
        exact W.zret (v := 0) hx hb hr (by decide) (fun t ht hW => ⟨⟨0, u123, rfl, (by exact ⟨(rg_t (a := 0) (by decide) (by first | decide | omega) (by first | decide | omega)), (by first | exact Or.inl ⟨by have := fiC_s p0.toInt p1.toInt p2.toInt; omega, by have q0 : (0 : Int32).toInt = 0 := (by decide); have q1 : (1 : Int32).toInt = 1 := (by decide); have q2 : (2 : Int32).toInt = 2 := (by decide); have q3 : (3 : Int32).toInt = 3 := (by decide); have qm : (-1 : Int32).toInt = -1 := (by decide); omega, Or.inr ⟨by decide, by assumption⟩⟩ | exact Or.inr ⟨by have := fiC_s p0.toInt p1.toInt p2.toInt; have q0 : (0 : Int32).toInt = 0 := (by decide); have q1 : (1 : Int32).toInt = 1 := (by decide); have q2 : (2 : Int32).toInt = 2 := (by decide); have q3 : (3 : Int32).toInt = 3 := (by decide); have qm : (-1 : Int32).toInt = -1 := (by decide); omega, by have := fiC_s p0.toInt p1.toInt p2.toInt; have q0 : (0 : Int32).toInt = 0 := (by decide); have q1 : (1 : Int32).toInt = 1 := (by decide); have q2 : (2 : Int32).toInt = 2 := (by decide); have q3 : (3 : Int32).toInt = 3 := (by decide); have qm : (-1 : Int32).toInt = -1 := (by decide); omega⟩)⟩), by (try dsimp only); rw [ht]; exact ⟨hT, hF, m124⟩⟩, hS.F ht⟩) hS.2.2 dX12_fill_60
def w_s_farmOfC : List Cond := .code yX12_farmOf cX12_farmOf 3 (some .int) :: (HAppend.hAppend (α := List Cond) (β := List Cond) (γ := List Cond) [.fieldLink RX12 498 "SeaLandModel" "farms" "I", .fieldLink RX12 113 "SeaLandModel" "farmFrom" "[I", .fieldLink RX12 116 "SeaLandModel" "farmTo" "[I", .code yX12_isIn cX12_isIn 5 (some .boolean), .methodLink RX12 207 Lib.Math.min.name, .static Lib.Math.min.name, .initialized "java/lang/Math", .code Lib.Math.min.name Lib.Math.min.code 2 (some .int), .methodLink RX12 211 Lib.Math.max.name, .static Lib.Math.max.name, .code Lib.Math.max.name Lib.Math.max.code 2 (some .int), .code yX12_in cX12_in 3 (some .boolean), .methodLink RX12 197 yX12_in, .static yX12_in, .initialized RX12, .methodLink RX12 232 yX12_isIn, .static yX12_isIn] bs)
set_option maxHeartbeats 4000000 in
set_option maxRecDepth 100000 in
theorem s_farmOfC (l : Launch) (dC : Nat → ClassId) (dI : Nat → Nat → Nat) (kA : Nat → ClassId) (adK adV : Nat → Nat) (G : gT) (H0 : Heap) (q : Nat → Nat) (wZ wN : Nat → Int) (wH wB wC : Int) (wL wK : Nat → Prop) (wU wV : Nat → Nat) (PI : Nat → Int → Prop) (im : Int) (PM PT : Nat → Int → Prop) (lS lB lE : Nat → Nat → Int → Prop) (lN : Nat → Int) (o0 : Nat) (sq : Int32) (nf : Int32) (aFr : Nat → Int32) (aTo : Nat → Int32)  (hT : gH (dC, dI) kA (SHm q (wP wZ wN wH wB wC wL wK wU wV) PI im PM PT lS lB lE lN) G H0) (hr_o0 : G o0 = some 0) (hm_nf : el H0 o0 (dI 15 47) = some (.int nf)) (hq0 : 0 ≤ sq.toInt ∧ sq.toInt ≤ 95) (hq1 : 0 ≤ nf.toInt ∧ nf.toInt ≤ 30) (hAB : ∀ f : Nat, ((f : Nat) : Int) < nf.toInt → (0 ≤ (aFr f).toInt ∧ (aFr f).toInt ≤ 95) ∧ (0 ≤ (aTo f).toInt ∧ (aTo f).toInt ≤ 95)) (hc_aFr : ct H0 (q 43) 30 aFr) (hc_aTo : ct H0 (q 44) 30 aTo) (hgz : ∀ i, 0 ≤ wZ i) (hgn : ∀ i, 6500000 ≤ wN i ∧ wN i ≤ 20200000) (hgh : 0 ≤ wH ∧ wH ≤ 40000) (hgb : 0 ≤ wB ∧ wB ≤ 3850000) (hgc : 0 ≤ wC ∧ wC ≤ 30) (hgi : 0 ≤ im ∧ im ≤ 1) (hgu : ∀ a t, G a = some (t + 1) → a = q t) : Met l yX12_farmOf w_s_farmOfC ({ frames := 2, cells := 0, slots := 0, locals := 64 }) (va_Pc [.ref o0, .int sq] (fun U => U.heap = H0 ∧ va_K (dC, dI) vwCl (tyl kA) U ∧ EVS adK adV (gA G H0.size) U U.heap)) (va_Qi (fun (r : Int32) (u : Unit) => (-1 ≤ r.toInt ∧ r.toInt ≤ 29) ∧ ((r.toInt = -1 ∧ ¬ frm aFr aTo nf.toInt sq.toInt) ∨ (0 ≤ r.toInt ∧ frm aFr aTo nf.toInt sq.toInt))) (fun (_ : Unit) (t : State) => gH (dC, dI) kA (SHm q (wP wZ wN wH wB wC wL wK wU wV) PI im PM PT lS lB lE lN) G t.heap ∧ gF (dC, dI) SKm G ([] : List (Nat × Nat)) H0 t.heap) (gA G H0.size)) 0 0 (gA G H0.size) := by
  refine Met.ofW (cc := cX12_farmOf) (maxL := 3) (ret := (some .int)) (by decide) rfl ?_
  intro p e s m args below meth c s₁ B hml hv
  obtain ⟨rfl, hH0, hK, hE⟩ := hv
  have hx := B.exec
  have hb := B.bytes
  have hr := B.returns
  have hts := atoms_spec (ws := w_s_farmOfC) B.pre
  have hown : s.vm.findClass RX12 = some m.cls := findClass_of_methodNamed B.named
  have hlocks := B.notSynchronized
  subst hH0
  generalize hAe : gA G s.heap.size = A at hE ⊢
  have hA : ∀ q : Nat, s.heap.size ≤ q → A q := fun q h => by rw [← hAe]; exact Or.inr h
  have hG := gA_of hAe
  have hS : va_S A s.heap s.heap [] := va_S.rf
  have hF : gF (dC, dI) SKm G ([] : List (Nat × Nat)) s.heap s.heap := gF.rf
  have hl := lv_entry ([.ref o0, .int sq]) (n := 3) (Nat.le_of_ble_eq_true rfl)
  rw [lg_entry_eq]
  generalize (lg_sl ([.ref o0, .int sq]) ++ List.replicate (3 - (lg_sl ([.ref o0, .int sq])).length) Slot.unset).toArray = ls at hl ⊢
  have hl : lv_has ls 3 [(0, .ref o0), (1, .int sq)] := hl
  have hg1 : G (q 43) = some 44 := gx_of hT hr_o0 shm_0 (k := 43) (by decide) rfl
  have hg2 : G (q 44) = some 45 := gx_of hT hr_o0 shm_0 (k := 44) (by decide) rfl
  refine lv_iconst (v := 0) hx hb dX12_farmOf_0 (by decide) ?_
  refine lv_istore_n (lv' := [(2, .int 0), (0, .ref o0), (1, .int sq)]) hx hb dX12_farmOf_1 rfl hl (by decide) rfl (fun ls hl => ?_)
  have key35 : ∀ (n35 i3 : Nat), i3 + n35 = 30 → 0 ≤ i3 → ((∀ f9 : Nat, f9 < i3 → inRb sq.toInt (aFr f9).toInt (aTo f9).toInt = false)) → ∀ (H : Heap) (locs : List Loc), gH (dC, dI) kA (SHm q (wP wZ wN wH wB wC wL wK wU wV) PI im PM PT lS lB lE lN) G H → gF (dC, dI) SKm G ([] : List (Nat × Nat)) s.heap H → va_S A s.heap H locs → ct H (q 43) 30 aFr → ct H (q 44) 30 aTo → el H o0 (dI 15 47) = some (.int nf) → ∀ ls : Array Slot, lv_has ls 3 [(2, .int (nI i3)), (0, .ref o0), (1, .int sq)] → W p l e (headSpec w_s_farmOfC ({ frames := 2, cells := 0, slots := 0, locals := 64 })).room s m #[.ref o0, .int sq] below meth c H locs 0 0 (MQ below (va_Qi (fun (r : Int32) (u : Unit) => (-1 ≤ r.toInt ∧ r.toInt ≤ 29) ∧ ((r.toInt = -1 ∧ ¬ frm aFr aTo nf.toInt sq.toInt) ∨ (0 ≤ r.toInt ∧ frm aFr aTo nf.toInt sq.toInt))) (fun (_ : Unit) (t : State) => gH (dC, dI) kA (SHm q (wP wZ wN wH wB wC wL wK wU wV) PI im PM PT lS lB lE lN) G t.heap ∧ gF (dC, dI) SKm G ([] : List (Nat × Nat)) s.heap t.heap) A) #[.ref o0, .int sq] s 0 0 A) (F0 m 2 ls []) := by
    intro n35
    induction n35 with
    | zero =>
      intro i3 hn35 hlo36 hj7 H locs hT hF hS m4 m5 m6 ls hl
      obtain rfl : 30 = i3 := by omega
      refine lv_iload_n hx hb dX12_farmOf_2 rfl (lv_at hl 0 rfl) ?_
      refine lv_aload_n hx hb dX12_farmOf_3 rfl (lv_at hl 1 rfl) ?_
      refine tw_getM (v := .int nf) hx hb hts bF_X12 hown hK hT hr_o0 shm_0 rfl 47 (by decide) (ht_at hts 0 rfl) (fun _ h9 => h9) m6 dX12_farmOf_4 ?_
      refine lv_icmp_ge (tgt := 37) hx hb dX12_farmOf_7 (by decide) (fun c37 => ?_) (fun c37 => (by exfalso; have q9 : ((30 : Nat) : Int) < nf.toInt := ti_nle c37 rfl (nI_toInt (by omega)); omega))
      have t38 : nf.toInt ≤ ((30 : Nat) : Int) := ti_le c37 rfl (nI_toInt (by omega))
      refine lv_iconst (v := (-1)) hx hb dX12_farmOf_37 (by decide) ?_
      exact W.iret (v := (-1)) hx hb hr (fun t ht hW => ⟨⟨(-1), (), rfl, (by exact ⟨(rg_t (a := (-1)) (by decide) (by first | decide | omega) (by first | decide | omega)), (Or.inl ⟨by decide, frm_no (fun f9 h9 => hj7 f9 (by omega))⟩)⟩), by (try dsimp only); rw [ht]; exact ⟨hT, hF⟩⟩, hS.F ht⟩) hS.2.2 dX12_farmOf_38
    | succ n35 ih35 =>
      intro i3 hn35 hlo36 hj7 H locs hT hF hS m4 m5 m6 ls hl
      have hlt38 : i3 < 30 := by omega
      refine lv_iload_n hx hb dX12_farmOf_2 rfl (lv_at hl 0 rfl) ?_
      refine lv_aload_n hx hb dX12_farmOf_3 rfl (lv_at hl 1 rfl) ?_
      refine tw_getM (v := .int nf) hx hb hts bF_X12 hown hK hT hr_o0 shm_0 rfl 47 (by decide) (ht_at hts 0 rfl) (fun _ h9 => h9) m6 dX12_farmOf_4 ?_
      refine lv_icmp_ge (tgt := 37) hx hb dX12_farmOf_7 (by decide) (fun c39 => ?_) (fun c39 => ?_)
      · have t40 : nf.toInt ≤ ((i3 : Nat) : Int) := ti_le c39 rfl (nI_toInt (by omega))
        refine lv_iconst (v := (-1)) hx hb dX12_farmOf_37 (by decide) ?_
        exact W.iret (v := (-1)) hx hb hr (fun t ht hW => ⟨⟨(-1), (), rfl, (by exact ⟨(rg_t (a := (-1)) (by decide) (by first | decide | omega) (by first | decide | omega)), (Or.inl ⟨by decide, frm_no (fun f9 h9 => hj7 f9 (by omega))⟩)⟩), by (try dsimp only); rw [ht]; exact ⟨hT, hF⟩⟩, hS.F ht⟩) hS.2.2 dX12_farmOf_38
      · have t41 : ((i3 : Nat) : Int) < nf.toInt := ti_nle c39 rfl (nI_toInt (by omega))
        refine lv_iload_n hx hb dX12_farmOf_10 rfl (lv_at hl 2 rfl) ?_
        refine lv_aload_n hx hb dX12_farmOf_11 rfl (lv_at hl 1 rfl) ?_
        refine tw_get hx hb hts bF_X12 hown hK hT hr_o0 shm_0 rfl 43 (by decide) (ht_at hts 1 rfl) (fun _ h9 => h9) dX12_farmOf_12 (fun v9 m42 h9 => ?_)
        obtain ⟨rfl, hg43⟩ := h9 _ rfl
        refine lv_iload_n hx hb dX12_farmOf_15 rfl (lv_at hl 0 rfl) ?_
        refine tw_iald (i := (nI i3)) hx hb hK hT hg1 shm_44 rfl (vp_in_nI (by omega) (by decide)) dX12_farmOf_16 (fun v9 m44 h9 => ?_)
        obtain ⟨x45, rfl, gx45, kx45⟩ := h9
        have cx45 := m4.at m44 (by have q9 := tn_of (show (nI i3).toInt = ((i3 : Nat) : Int) from (nI_toInt (by omega))) (by omega); omega)
        refine lv_aload_n hx hb dX12_farmOf_17 rfl (lv_at hl 1 rfl) ?_
        refine tw_get hx hb hts bF_X12 hown hK hT hr_o0 shm_0 rfl 44 (by decide) (ht_at hts 2 rfl) (fun _ h9 => h9) dX12_farmOf_18 (fun v9 m46 h9 => ?_)
        obtain ⟨rfl, hg47⟩ := h9 _ rfl
        refine lv_iload_n hx hb dX12_farmOf_21 rfl (lv_at hl 0 rfl) ?_
        refine tw_iald (i := (nI i3)) hx hb hK hT hg2 shm_45 rfl (vp_in_nI (by omega) (by decide)) dX12_farmOf_22 (fun v9 m48 h9 => ?_)
        obtain ⟨x49, rfl, gx49, kx49⟩ := h9
        have cx49 := m5.at m48 (by have q9 := tn_of (show (nI i3).toInt = ((i3 : Nat) : Int) from (nI_toInt (by omega))) (by omega); omega)
        have t50 : x45.toInt = (aFr i3).toInt := congrArg Int32.toInt (cx45.trans (by rw [tn_nI (by omega)]))
        have t51 : 0 ≤ (aFr i3).toInt ∧ (aFr i3).toInt ≤ 95 := (hAB i3 (by omega)).1
        have t52 : x49.toInt = (aTo i3).toInt := congrArg Int32.toInt (cx49.trans (by rw [tn_nI (by omega)]))
        have t53 : 0 ≤ (aTo i3).toInt ∧ (aTo i3).toInt ≤ 95 := (hAB i3 (by omega)).2
        have hFc := gA_free hG hA hS
        refine va_calli (va_runS (As := [.int sq, .int x45, .int x49]) (rest := []) ⟨hx, hb, hml, hown, hts⟩ (s_isInE l dC dI kA adK adV G H q wZ wN wH wB wC wL wK wU wV PI im PM PT lS lB lE lN sq x45 x49 hT (by have q8 := ti_all sq; omega) (by have q8 := ti_all x45; omega) (by have q8 := ti_all x49; omega) hgz hgn hgh hgb hgc hgi hgu) (va_cwS 3 hts (goodIn_app (goodIn_r _ [16, 17, 15] rfl (by decide +kernel)) (goodIn_ca (goodIn_r _ [4, 5, 6, 7, 8, 9, 10, 11, 12, 13, 14, 15] rfl (by decide +kernel)) (bs_in _ _))) rfl rfl rfl (by decide +kernel) ⟨(Nat.le_of_ble_eq_true rfl), (Nat.le_of_ble_eq_true rfl)⟩) ⟨fun a U g mk q => by obtain ⟨q0, q1, qK, qE⟩ := q; exact ⟨q0, q1, va_K.moved (u := U) (U := U.calling g mk a) (Vm.Alike.refl U.vm) qK, EVS.blind g mk a qE⟩, fun U hU hW => ⟨rfl, hU, va_K.moved hW.alike hK, hE.call hS hFc hU hW⟩⟩ rfl rfl hl.1 rfl (lv_room (Nat.le_of_ble_eq_true rfl)) dX12_farmOf_23 ⟨(Nat.le_of_ble_eq_true rfl), (Nat.le_of_ble_eq_true rfl)⟩) hS (fun q _ h => hFc q h) hFc (fun r54 u t H locs ht hvm hw55 hB _ _ hS => ?_)
        obtain ⟨hT, hF1⟩ := hB
        rw [ht] at hT hF1
        have m56 := m4.kept (hF1.arr hg1 skm_44 (by decide))
        have m57 := m5.kept (hF1.arr hg2 skm_45 (by decide))
        have m58 := (hF1.fld hr_o0 skm_0 (k := 47) (by decide) (by decide)).trans m6
        have hF := hF.more hF1 (by decide)
        try dsimp only at hw55
        obtain ⟨h61, hf62⟩ := hw55
        refine lv_if_eq (tgt := 31) hx hb dX12_farmOf_26 (by decide) (fun c63 => ?_) (fun c63 => ?_)
        · have t64 : r54.toInt = 0 := ti_eq c63 rfl (by decide)
          refine lv_iinc (v := nI (i3 + 1)) (lv' := [(2, .int (nI (i3 + 1))), (0, .ref o0), (1, .int sq)]) hx hb dX12_farmOf_31 hl (k := 0) rfl (nI_add i3 1) (by decide) rfl (fun ls hl => ?_)
          refine lv_goto (tgt := 2) hx hb dX12_farmOf_34 (by decide) ?_
          exact ih35 (i3 + 1) (by omega) (by omega) (fun f9 h9 => by by_cases e9 : f9 = i3; (· rw [e9]; exact inR_0 (s := sq.toInt) (a := (aFr i3).toInt) (b := (aTo i3).toInt) (by omega)); exact hj7 f9 (by omega)) _ _ hT hF hS m56 m57 m58 ls (lv_sub hl [0, 1, 2] rfl)
        · have t65 : r54.toInt ≠ 0 := ti_ne c63 rfl (by decide)
          refine lv_iload_n hx hb dX12_farmOf_29 rfl (lv_at hl 0 rfl) ?_
          exact W.iret (v := nI i3) hx hb hr (fun t ht hW => ⟨⟨nI i3, (), rfl, (by exact ⟨(rg_t (a := ((i3 : Nat) : Int)) (nI_toInt (by omega)) (by omega) (by omega)), (Or.inr ⟨by have q9 : (nI i3).toInt = ((i3 : Nat) : Int) := nI_toInt (by omega); omega, i3, by omega, inR_1 (s := sq.toInt) (a := (aFr i3).toInt) (b := (aTo i3).toInt) (by omega)⟩)⟩), by (try dsimp only); rw [ht]; exact ⟨hT, hF⟩⟩, hS.F ht⟩) hS.2.2 dX12_farmOf_30
  exact key35 (30 - 0) 0 (by omega) (Nat.le_refl _) (fun f9 h9 => absurd h9 (Nat.not_lt_zero f9)) _ _ hT hF hS hc_aFr hc_aTo hm_nf ls (lv_sub hl [0, 1, 2] rfl)
def w_s_farmC : List Cond := .code yX12_farm cX12_farm 4 (some .int) :: (HAppend.hAppend (α := List Cond) (β := List Cond) (γ := List Cond) [.fieldLink RX12 194 "SeaLandModel" "thrown" "I", .code yX12_noSquare cX12_noSquare 1 (some .boolean), .code yX12_in cX12_in 3 (some .boolean), .methodLink RX12 197 yX12_in, .static yX12_in, .initialized RX12, .methodLink RX12 220 yX12_noSquare, .static yX12_noSquare, .code yX12_throwsIf cX12_throwsIf 3 (some .boolean), .methodLink RX12 224 yX12_throwsIf, .instanceMethod yX12_throwsIf, .selects RX12 yX12_throwsIf yX12_throwsIf, .fieldLink RX12 498 "SeaLandModel" "farms" "I", .fieldLink RX12 113 "SeaLandModel" "farmFrom" "[I", .fieldLink RX12 116 "SeaLandModel" "farmTo" "[I", .fieldLink RX12 122 "SeaLandModel" "holder" "[I", .code yX12_isIn cX12_isIn 5 (some .boolean), .methodLink RX12 207 Lib.Math.min.name, .static Lib.Math.min.name, .initialized "java/lang/Math", .code Lib.Math.min.name Lib.Math.min.code 2 (some .int), .methodLink RX12 211 Lib.Math.max.name, .static Lib.Math.max.name, .code Lib.Math.max.name Lib.Math.max.code 2 (some .int), .methodLink RX12 232 yX12_isIn, .static yX12_isIn, .code yX12_isLand cX12_isLand 2 (some .boolean), .fieldLink RX12 9 "SeaLandModel" "world" "[I", .methodLink RX12 235 yX12_isLand, .instanceMethod yX12_isLand, .selects RX12 yX12_isLand yX12_isLand, .code yX12_farmOf cX12_farmOf 3 (some .int), .methodLink RX12 329 yX12_farmOf, .instanceMethod yX12_farmOf, .selects RX12 yX12_farmOf yX12_farmOf] bs)
set_option maxHeartbeats 4000000 in
set_option maxRecDepth 100000 in
theorem s_farmC (l : Launch) (dC : Nat → ClassId) (dI : Nat → Nat → Nat) (kA : Nat → ClassId) (adK adV : Nat → Nat) (G : gT) (H0 : Heap) (q : Nat → Nat) (wZ wN : Nat → Int) (wH wB wC : Int) (wL wK : Nat → Prop) (wU wV : Nat → Nat) (PI : Nat → Int → Prop) (im : Int) (PM PT : Nat → Int → Prop) (lS lB lE : Nat → Nat → Int → Prop) (lN : Nat → Int) (o0 : Nat) (p0 : Int32) (p1 : Int32) (nf : Int32) (aFr : Nat → Int32) (aTo : Nat → Int32) (vR : Nat → Int32) (L F : Nat → Int) (hT : gH (dC, dI) kA (SHm q (wP wZ wN wH wB wC wL wK wU wV) PI im PM PT lS lB lE lN) G H0) (hr_o0 : G o0 = some 0) (hm_nf : el H0 o0 (dI 15 47) = some (.int nf)) (hq0 : 0 ≤ nf.toInt ∧ nf.toInt ≤ 30) (hAB : ∀ f : Nat, ((f : Nat) : Int) < nf.toInt → (0 ≤ (aFr f).toInt ∧ (aFr f).toInt ≤ 95) ∧ (0 ≤ (aTo f).toInt ∧ (aTo f).toInt ≤ 95)) (hL : ∀ i, i < 96 → (wL i ↔ L i = 1) ∧ (0 ≤ L i ∧ L i ≤ 1)) (hF9 : ∀ i, i < 96 → (frm aFr aTo nf.toInt ((i : Nat) : Int) ↔ F i = 1) ∧ (0 ≤ F i ∧ F i ≤ 1)) (hc_aFr : ct H0 (q 43) 30 aFr) (hc_aTo : ct H0 (q 44) 30 aTo) (hc_vR : ct H0 (q 46) 30 vR) (hgz : ∀ i, 0 ≤ wZ i) (hgn : ∀ i, 6500000 ≤ wN i ∧ wN i ≤ 20200000) (hgh : 0 ≤ wH ∧ wH ≤ 40000) (hgb : 0 ≤ wB ∧ wB ≤ 3850000) (hgc : 0 ≤ wC ∧ wC ≤ 30) (hgi : 0 ≤ im ∧ im ≤ 1) (hgu : ∀ a t, G a = some (t + 1) → a = q t) : Met l yX12_farm w_s_farmC ({ frames := 3, cells := 0, slots := 0, locals := 86 }) (va_Pc [.ref o0, .int p0, .int p1] (fun U => U.heap = H0 ∧ va_K (dC, dI) vwCl (tyl kA) U ∧ EVS adK adV (gA G H0.size) U U.heap)) (va_Qi (fun (r : Int32) (u : Int32 × Int32 × (Nat → Int32) × (Nat → Int32) × (Nat → Int32)) => match u with | (t1, f1, aFr1, aTo1, vR1) => (-1 ≤ r.toInt ∧ r.toInt ≤ 29) ∧ ((faC p0.toInt p1.toInt = 1 ∧ t1.toInt = 1 ∧ f1.toInt = nf.toInt ∧ aFr1 = aFr ∧ aTo1 = aTo) ∨ (faC p0.toInt p1.toInt = 0 ∧ t1.toInt = 0 ∧ (((decide (nf.toInt < 30) && fmK L F p0.toInt p1.toInt 96) = true ∧ r.toInt = nf.toInt ∧ f1.toInt = nf.toInt + 1 ∧ aFr1 = cu aFr nf.toNatClampNeg p0 ∧ aTo1 = cu aTo nf.toNatClampNeg p1) ∨ ((decide (nf.toInt < 30) && fmK L F p0.toInt p1.toInt 96) = false ∧ r.toInt = -1 ∧ f1.toInt = nf.toInt ∧ aFr1 = aFr ∧ aTo1 = aTo)))) ∧ ((f1.toInt = nf.toInt ∧ vR1 = vR) ∨ (f1.toInt = nf.toInt + 1 ∧ vR1 = cu vR nf.toNatClampNeg (-1)))) (fun (u : Int32 × Int32 × (Nat → Int32) × (Nat → Int32) × (Nat → Int32)) (t : State) => match u with | (t1, f1, aFr1, aTo1, vR1) => gH (dC, dI) kA (SHm q (wP wZ wN wH wB wC wL wK wU wV) PI im PM PT lS lB lE lN) G t.heap ∧ gF (dC, dI) SKm G ([(0, 0), (0, 47), (44, 0), (45, 0), (47, 0)] : List (Nat × Nat)) H0 t.heap ∧ el t.heap o0 (dI 15 0) = some (.int t1) ∧ el t.heap o0 (dI 15 47) = some (.int f1) ∧ ct t.heap (q 43) 30 aFr1 ∧ ct t.heap (q 44) 30 aTo1 ∧ ct t.heap (q 46) 30 vR1) (gA G H0.size)) 0 0 (gA G H0.size) := by
  refine Met.ofW (cc := cX12_farm) (maxL := 4) (ret := (some .int)) (by decide) rfl ?_
  intro p e s m args below meth c s₁ B hml hv
  obtain ⟨rfl, hH0, hK, hE⟩ := hv
  have hx := B.exec
  have hb := B.bytes
  have hr := B.returns
  have hts := atoms_spec (ws := w_s_farmC) B.pre
  have hown : s.vm.findClass RX12 = some m.cls := findClass_of_methodNamed B.named
  have hlocks := B.notSynchronized
  subst hH0
  generalize hAe : gA G s.heap.size = A at hE ⊢
  have hA : ∀ q : Nat, s.heap.size ≤ q → A q := fun q h => by rw [← hAe]; exact Or.inr h
  have hG := gA_of hAe
  have hS : va_S A s.heap s.heap [] := va_S.rf
  have hF : gF (dC, dI) SKm G ([(0, 0), (0, 47), (44, 0), (45, 0), (47, 0)] : List (Nat × Nat)) s.heap s.heap := gF.rf
  have hl := lv_entry ([.ref o0, .int p0, .int p1]) (n := 4) (Nat.le_of_ble_eq_true rfl)
  rw [lg_entry_eq]
  generalize (lg_sl ([.ref o0, .int p0, .int p1]) ++ List.replicate (4 - (lg_sl ([.ref o0, .int p0, .int p1])).length) Slot.unset).toArray = ls at hl ⊢
  have hl : lv_has ls 4 [(0, .ref o0), (1, .int p0), (2, .int p1)] := hl
  have hg1 : G (q 43) = some 44 := gx_of hT hr_o0 shm_0 (k := 43) (by decide) rfl
  have hg2 : G (q 44) = some 45 := gx_of hT hr_o0 shm_0 (k := 44) (by decide) rfl
  have hg3 : G (q 46) = some 47 := gx_of hT hr_o0 shm_0 (k := 46) (by decide) rfl
  refine lv_aload_n hx hb dX12_farm_0 rfl (lv_at hl 0 rfl) ?_
  refine lv_iconst (v := 0) hx hb dX12_farm_1 (by decide) ?_
  refine tw_put (v := .int 0) (ty := .int) hx hb hts bF_X12 tyX12 tyX12_ok nmX12 hown hK hT hG hS hr_o0 shm_0 rfl 0 (by decide) (ht_at hts 0 rfl) (fun _ h9 => h9) rfl (by decide +kernel) rfl rfl (gl_at rfl (gi_all _)) dX12_farm_2 (fun H locs hT oq m4 oj hS => ?_)
  have hF := hF.put hr_o0 skm_0 oq oj (by decide)
  have m5 := (oj 47 (by decide) (by decide)).trans hm_nf
  have m6 := hc_aFr.kept (oq _ (gne hg1 hr_o0 (by decide)))
  have m7 := hc_aTo.kept (oq _ (gne hg2 hr_o0 (by decide)))
  have m8 := hc_vR.kept (oq _ (gne hg3 hr_o0 (by decide)))
  refine lv_aload_n hx hb dX12_farm_5 rfl (lv_at hl 0 rfl) ?_
  refine lv_iload_n hx hb dX12_farm_6 rfl (lv_at hl 1 rfl) ?_
  have hFc := gA_free hG hA hS
  refine va_calli (va_runS (As := [.int p0]) (rest := [.ref o0]) ⟨hx, hb, hml, hown, hts⟩ (s_noSquareE l dC dI kA adK adV G H q wZ wN wH wB wC wL wK wU wV PI im PM PT lS lB lE lN p0 hT hgz hgn hgh hgb hgc hgi hgu) (va_cwS 1 hts (goodIn_app (goodIn_r _ [7, 8, 6] rfl (by decide +kernel)) (goodIn_ca (goodIn_r _ [2, 3, 4, 5, 6] rfl (by decide +kernel)) (bs_in _ _))) rfl rfl rfl (by decide +kernel) ⟨(Nat.le_of_ble_eq_true rfl), (Nat.le_of_ble_eq_true rfl)⟩) ⟨fun a U g mk q => by obtain ⟨q0, q1, qK, qE⟩ := q; exact ⟨q0, q1, va_K.moved (u := U) (U := U.calling g mk a) (Vm.Alike.refl U.vm) qK, EVS.blind g mk a qE⟩, fun U hU hW => ⟨rfl, hU, va_K.moved hW.alike hK, hE.call hS hFc hU hW⟩⟩ rfl rfl hl.1 rfl (lv_room (Nat.le_of_ble_eq_true rfl)) dX12_farm_7 ⟨(Nat.le_of_ble_eq_true rfl), (Nat.le_of_ble_eq_true rfl)⟩) hS (fun q _ h => hFc q h) hFc (fun r9 u t H locs ht hvm hw10 hB _ _ hS => ?_)
  obtain ⟨hT, hF1⟩ := hB
  rw [ht] at hT hF1
  have m11 := (hF1.fld hr_o0 skm_0 (k := 47) (by decide) (by decide)).trans m5
  have m12 := m6.kept (hF1.arr hg1 skm_44 (by decide))
  have m13 := m7.kept (hF1.arr hg2 skm_45 (by decide))
  have m14 := m8.kept (hF1.arr hg3 skm_47 (by decide))
  have m15 := (hF1.fld hr_o0 skm_0 (k := 0) (by decide) (by decide)).trans m4
  have hF := hF.more hF1 (by decide)
  try dsimp only at hw10
  obtain ⟨h16, hf17⟩ := hw10
  refine lv_if_ne (tgt := 20) hx hb dX12_farm_10 (by decide) (fun c18 => ?_) (fun c18 => ?_)
  · have t19 : r9.toInt ≠ 0 := ti_ne c18 rfl (by decide)
    refine lv_iconst (v := 1) hx hb dX12_farm_20 (by decide) ?_
    refine lv_goto (tgt := 25) hx hb dX12_farm_21 (by decide) ?_
    refine lv_iconst (v := 1) hx hb dX12_farm_25 (by decide) ?_
    have hFc := gA_free hG hA hS
    refine va_calli (va_runV (As := [.int 1, .int 1]) (rest := []) ⟨hx, hb, hml, hown, hts⟩ (s_throwsIfP l dC dI kA adK adV G H q wZ wN wH wB wC wL wK wU wV PI im PM PT lS lB lE lN o0 1 1 0 hT hr_o0 m15 (rg_t (a := 1) (by decide) (by first | decide | omega) (by first | decide | omega)) hgz hgn hgh hgb hgc hgi hgu) (cwV 2 hts (goodIn_app (goodIn_r _ [10, 11, 12, 6] rfl (by decide +kernel)) (goodIn_ca (goodIn_r _ [9, 1] rfl (by decide +kernel)) (bs_in _ _))) rfl rfl rfl (by decide +kernel) ⟨(Nat.le_of_ble_eq_true rfl), (Nat.le_of_ble_eq_true rfl)⟩) ⟨fun a U g mk q => by obtain ⟨q0, q1, qK, qE⟩ := q; exact ⟨q0, q1, va_K.moved (u := U) (U := U.calling g mk a) (Vm.Alike.refl U.vm) qK, EVS.blind g mk a qE⟩, gH_rc hK hT hr_o0 shm_0 rfl, fun U hU hW => ⟨rfl, hU, va_K.moved hW.alike hK, hE.call hS hFc hU hW⟩⟩ rfl rfl hl.1 rfl (lv_room (Nat.le_of_ble_eq_true rfl)) dX12_farm_26 ⟨(Nat.le_of_ble_eq_true rfl), (Nat.le_of_ble_eq_true rfl)⟩) hS (fun q _ h => hFc q h) hFc (fun r20 u t H locs ht hvm hw21 hB _ _ hS => ?_)
    obtain ⟨u22, rfl⟩ : ∃ z, z = u := ⟨_, rfl⟩
    obtain ⟨hT, hF1, m23⟩ := hB
    rw [ht] at hT hF1 m23
    have m24 := (hF1.fld hr_o0 skm_0 (k := 47) (by decide) (by decide)).trans m11
    have m25 := m12.kept (hF1.arr hg1 skm_44 (by decide))
    have m26 := m13.kept (hF1.arr hg2 skm_45 (by decide))
    have m27 := m14.kept (hF1.arr hg3 skm_47 (by decide))
    have hF := hF.more hF1 (by decide)
    try dsimp only at hw21
    obtain ⟨h29, hf30, hd31⟩ := hw21
    have t32 : (1 : Int32).toInt = 1 := by decide
    have t33 : (1 : Int32).toInt = 1 := by decide
    have t34 : (0 : Int32).toInt = 0 := by decide
    obtain rfl : (1 : Int32) = r20 := hd31.symm
    refine lv_if_ne (tgt := 41) hx hb dX12_farm_29 (by decide) (fun c35 => ?_) (fun c35 => absurd c35 (by decide))
    refine lv_aload_n hx hb dX12_farm_41 rfl (lv_at hl 0 rfl) ?_
    refine tw_getM (v := .int u22) hx hb hts bF_X12 hown hK hT hr_o0 shm_0 rfl 0 (by decide) (ht_at hts 0 rfl) (fun _ h9 => h9) m23 dX12_farm_42 ?_
    refine lv_if_eq (tgt := 52) hx hb dX12_farm_45 (by decide) (fun c36 => ?_) (fun c36 => ?_)
    · have t37 : u22.toInt = 0 := ti_eq c36 rfl (by decide)
      refine lv_iconst (v := (-1)) hx hb dX12_farm_52 (by decide) ?_
      exact W.iret (v := (-1)) hx hb hr (fun t ht hW => ⟨⟨(-1), (u22, nf, aFr, aTo, vR), rfl, (by exact ⟨(rg_t (a := (-1)) (by decide) (by first | decide | omega) (by first | decide | omega)), (by have q0 : (0 : Int32).toInt = 0 := (by decide); have q1 : (1 : Int32).toInt = 1 := (by decide); have q2 : (2 : Int32).toInt = 2 := (by decide); have q3 : (3 : Int32).toInt = 3 := (by decide); have qm : (-1 : Int32).toInt = -1 := (by decide); first | exact Or.inl ⟨by have := faC_s p0.toInt p1.toInt; have q0 : (0 : Int32).toInt = 0 := (by decide); have q1 : (1 : Int32).toInt = 1 := (by decide); have q2 : (2 : Int32).toInt = 2 := (by decide); have q3 : (3 : Int32).toInt = 3 := (by decide); have qm : (-1 : Int32).toInt = -1 := (by decide); omega, by have q0 : (0 : Int32).toInt = 0 := (by decide); have q1 : (1 : Int32).toInt = 1 := (by decide); have q2 : (2 : Int32).toInt = 2 := (by decide); have q3 : (3 : Int32).toInt = 3 := (by decide); have qm : (-1 : Int32).toInt = -1 := (by decide); omega, by omega, rfl, rfl⟩ | exact Or.inr ⟨by have := faC_s p0.toInt p1.toInt; have q0 : (0 : Int32).toInt = 0 := (by decide); have q1 : (1 : Int32).toInt = 1 := (by decide); have q2 : (2 : Int32).toInt = 2 := (by decide); have q3 : (3 : Int32).toInt = 3 := (by decide); have qm : (-1 : Int32).toInt = -1 := (by decide); omega, by have q0 : (0 : Int32).toInt = 0 := (by decide); have q1 : (1 : Int32).toInt = 1 := (by decide); have q2 : (2 : Int32).toInt = 2 := (by decide); have q3 : (3 : Int32).toInt = 3 := (by decide); have qm : (-1 : Int32).toInt = -1 := (by decide); omega, Or.inr ⟨fm_b (by omega), by decide, by omega, rfl, rfl⟩⟩), (Or.inl ⟨by have q0 : (0 : Int32).toInt = 0 := (by decide); have q1 : (1 : Int32).toInt = 1 := (by decide); have q2 : (2 : Int32).toInt = 2 := (by decide); have q3 : (3 : Int32).toInt = 3 := (by decide); have qm : (-1 : Int32).toInt = -1 := (by decide); omega, rfl⟩)⟩), by (try dsimp only); rw [ht]; exact ⟨hT, hF, m23, m24, m25, m26, m27⟩⟩, hS.F ht⟩) hS.2.2 dX12_farm_53
    · have t38 : u22.toInt ≠ 0 := ti_ne c36 rfl (by decide)
      refine lv_iconst (v := 0) hx hb dX12_farm_48 (by decide) ?_
      refine lv_goto (tgt := 53) hx hb dX12_farm_49 (by decide) ?_
      exact W.iret (v := 0) hx hb hr (fun t ht hW => ⟨⟨0, (u22, nf, aFr, aTo, vR), rfl, (by exact ⟨(rg_t (a := 0) (by decide) (by first | decide | omega) (by first | decide | omega)), (by have q0 : (0 : Int32).toInt = 0 := (by decide); have q1 : (1 : Int32).toInt = 1 := (by decide); have q2 : (2 : Int32).toInt = 2 := (by decide); have q3 : (3 : Int32).toInt = 3 := (by decide); have qm : (-1 : Int32).toInt = -1 := (by decide); first | exact Or.inl ⟨by have := faC_s p0.toInt p1.toInt; have q0 : (0 : Int32).toInt = 0 := (by decide); have q1 : (1 : Int32).toInt = 1 := (by decide); have q2 : (2 : Int32).toInt = 2 := (by decide); have q3 : (3 : Int32).toInt = 3 := (by decide); have qm : (-1 : Int32).toInt = -1 := (by decide); omega, by have q0 : (0 : Int32).toInt = 0 := (by decide); have q1 : (1 : Int32).toInt = 1 := (by decide); have q2 : (2 : Int32).toInt = 2 := (by decide); have q3 : (3 : Int32).toInt = 3 := (by decide); have qm : (-1 : Int32).toInt = -1 := (by decide); omega, by omega, rfl, rfl⟩ | exact Or.inr ⟨by have := faC_s p0.toInt p1.toInt; have q0 : (0 : Int32).toInt = 0 := (by decide); have q1 : (1 : Int32).toInt = 1 := (by decide); have q2 : (2 : Int32).toInt = 2 := (by decide); have q3 : (3 : Int32).toInt = 3 := (by decide); have qm : (-1 : Int32).toInt = -1 := (by decide); omega, by have q0 : (0 : Int32).toInt = 0 := (by decide); have q1 : (1 : Int32).toInt = 1 := (by decide); have q2 : (2 : Int32).toInt = 2 := (by decide); have q3 : (3 : Int32).toInt = 3 := (by decide); have qm : (-1 : Int32).toInt = -1 := (by decide); omega, Or.inr ⟨fm_b (by omega), by decide, by omega, rfl, rfl⟩⟩), (Or.inl ⟨by have q0 : (0 : Int32).toInt = 0 := (by decide); have q1 : (1 : Int32).toInt = 1 := (by decide); have q2 : (2 : Int32).toInt = 2 := (by decide); have q3 : (3 : Int32).toInt = 3 := (by decide); have qm : (-1 : Int32).toInt = -1 := (by decide); omega, rfl⟩)⟩), by (try dsimp only); rw [ht]; exact ⟨hT, hF, m23, m24, m25, m26, m27⟩⟩, hS.F ht⟩) hS.2.2 dX12_farm_53
  · have t39 : r9.toInt = 0 := ti_eq c18 rfl (by decide)
    refine lv_iload_n hx hb dX12_farm_13 rfl (lv_at hl 2 rfl) ?_
    have hFc := gA_free hG hA hS
    refine va_calli (va_runS (As := [.int p1]) (rest := [.ref o0]) ⟨hx, hb, hml, hown, hts⟩ (s_noSquareE l dC dI kA adK adV G H q wZ wN wH wB wC wL wK wU wV PI im PM PT lS lB lE lN p1 hT hgz hgn hgh hgb hgc hgi hgu) (va_cwS 1 hts (goodIn_app (goodIn_r _ [7, 8, 6] rfl (by decide +kernel)) (goodIn_ca (goodIn_r _ [2, 3, 4, 5, 6] rfl (by decide +kernel)) (bs_in _ _))) rfl rfl rfl (by decide +kernel) ⟨(Nat.le_of_ble_eq_true rfl), (Nat.le_of_ble_eq_true rfl)⟩) ⟨fun a U g mk q => by obtain ⟨q0, q1, qK, qE⟩ := q; exact ⟨q0, q1, va_K.moved (u := U) (U := U.calling g mk a) (Vm.Alike.refl U.vm) qK, EVS.blind g mk a qE⟩, fun U hU hW => ⟨rfl, hU, va_K.moved hW.alike hK, hE.call hS hFc hU hW⟩⟩ rfl rfl hl.1 rfl (lv_room (Nat.le_of_ble_eq_true rfl)) dX12_farm_14 ⟨(Nat.le_of_ble_eq_true rfl), (Nat.le_of_ble_eq_true rfl)⟩) hS (fun q _ h => hFc q h) hFc (fun r40 u t H locs ht hvm hw41 hB _ _ hS => ?_)
    obtain ⟨hT, hF1⟩ := hB
    rw [ht] at hT hF1
    have m42 := (hF1.fld hr_o0 skm_0 (k := 47) (by decide) (by decide)).trans m11
    have m43 := m12.kept (hF1.arr hg1 skm_44 (by decide))
    have m44 := m13.kept (hF1.arr hg2 skm_45 (by decide))
    have m45 := m14.kept (hF1.arr hg3 skm_47 (by decide))
    have m46 := (hF1.fld hr_o0 skm_0 (k := 0) (by decide) (by decide)).trans m15
    have hF := hF.more hF1 (by decide)
    try dsimp only at hw41
    obtain ⟨h47, hf48⟩ := hw41
    refine lv_if_eq (tgt := 24) hx hb dX12_farm_17 (by decide) (fun c49 => ?_) (fun c49 => ?_)
    · have t50 : r40.toInt = 0 := ti_eq c49 rfl (by decide)
      refine lv_iconst (v := 0) hx hb dX12_farm_24 (by decide) ?_
      refine lv_iconst (v := 1) hx hb dX12_farm_25 (by decide) ?_
      have hFc := gA_free hG hA hS
      refine va_calli (va_runV (As := [.int 0, .int 1]) (rest := []) ⟨hx, hb, hml, hown, hts⟩ (s_throwsIfP l dC dI kA adK adV G H q wZ wN wH wB wC wL wK wU wV PI im PM PT lS lB lE lN o0 0 1 0 hT hr_o0 m46 (rg_t (a := 0) (by decide) (by first | decide | omega) (by first | decide | omega)) hgz hgn hgh hgb hgc hgi hgu) (cwV 2 hts (goodIn_app (goodIn_r _ [10, 11, 12, 6] rfl (by decide +kernel)) (goodIn_ca (goodIn_r _ [9, 1] rfl (by decide +kernel)) (bs_in _ _))) rfl rfl rfl (by decide +kernel) ⟨(Nat.le_of_ble_eq_true rfl), (Nat.le_of_ble_eq_true rfl)⟩) ⟨fun a U g mk q => by obtain ⟨q0, q1, qK, qE⟩ := q; exact ⟨q0, q1, va_K.moved (u := U) (U := U.calling g mk a) (Vm.Alike.refl U.vm) qK, EVS.blind g mk a qE⟩, gH_rc hK hT hr_o0 shm_0 rfl, fun U hU hW => ⟨rfl, hU, va_K.moved hW.alike hK, hE.call hS hFc hU hW⟩⟩ rfl rfl hl.1 rfl (lv_room (Nat.le_of_ble_eq_true rfl)) dX12_farm_26 ⟨(Nat.le_of_ble_eq_true rfl), (Nat.le_of_ble_eq_true rfl)⟩) hS (fun q _ h => hFc q h) hFc (fun r51 u t H locs ht hvm hw52 hB _ _ hS => ?_)
      obtain ⟨u53, rfl⟩ : ∃ z, z = u := ⟨_, rfl⟩
      obtain ⟨hT, hF1, m54⟩ := hB
      rw [ht] at hT hF1 m54
      have m55 := (hF1.fld hr_o0 skm_0 (k := 47) (by decide) (by decide)).trans m42
      have m56 := m43.kept (hF1.arr hg1 skm_44 (by decide))
      have m57 := m44.kept (hF1.arr hg2 skm_45 (by decide))
      have m58 := m45.kept (hF1.arr hg3 skm_47 (by decide))
      have hF := hF.more hF1 (by decide)
      try dsimp only at hw52
      obtain ⟨h60, hf61, hd62⟩ := hw52
      have t63 : (0 : Int32).toInt = 0 := by decide
      have t64 : (1 : Int32).toInt = 1 := by decide
      have t65 : (0 : Int32).toInt = 0 := by decide
      obtain rfl : (0 : Int32) = r51 := hd62.symm
      refine lv_if_ne (tgt := 41) hx hb dX12_farm_29 (by decide) (fun c66 => absurd c66 (by decide)) (fun c66 => ?_)
      refine lv_aload_n hx hb dX12_farm_32 rfl (lv_at hl 0 rfl) ?_
      refine tw_getM (v := .int nf) hx hb hts bF_X12 hown hK hT hr_o0 shm_0 rfl 47 (by decide) (ht_at hts 12 rfl) (fun _ h9 => h9) m55 dX12_farm_33 ?_
      refine lv_bipush (v := 30) hx hb dX12_farm_36 (by decide) ?_
      refine lv_icmp_ne (tgt := 54) hx hb dX12_farm_38 (by decide) (fun c67 => ?_) (fun c67 => ?_)
      · have t68 : nf.toInt ≠ 30 := ti_ne c67 rfl (by decide)
        refine lv_iconst (v := 0) hx hb dX12_farm_54 (by decide) ?_
        refine lv_istore_n (lv' := [(3, .int 0), (0, .ref o0), (1, .int p0), (2, .int p1)]) hx hb dX12_farm_55 rfl hl (by decide) rfl (fun ls hl => ?_)
        have key118 : ∀ (n118 i69 : Nat), i69 + n118 = 96 → 0 ≤ i69 → ((fmK L F p0.toInt p1.toInt i69 = true)) → ∀ (H : Heap) (locs : List Loc), gH (dC, dI) kA (SHm q (wP wZ wN wH wB wC wL wK wU wV) PI im PM PT lS lB lE lN) G H → gF (dC, dI) SKm G ([(0, 0), (0, 47), (44, 0), (45, 0), (47, 0)] : List (Nat × Nat)) s.heap H → va_S A s.heap H locs → ct H (q 43) 30 aFr → ct H (q 44) 30 aTo → ct H (q 46) 30 vR → el H o0 (dI 15 47) = some (.int nf) → el H o0 (dI 15 0) = some (.int u53) → ∀ ls : Array Slot, lv_has ls 4 [(3, .int (nI i69)), (0, .ref o0), (1, .int p0), (2, .int p1)] → W p l e (headSpec w_s_farmC ({ frames := 3, cells := 0, slots := 0, locals := 86 })).room s m #[.ref o0, .int p0, .int p1] below meth c H locs 0 0 (MQ below (va_Qi (fun (r : Int32) (u : Int32 × Int32 × (Nat → Int32) × (Nat → Int32) × (Nat → Int32)) => match u with | (t1, f1, aFr1, aTo1, vR1) => (-1 ≤ r.toInt ∧ r.toInt ≤ 29) ∧ ((faC p0.toInt p1.toInt = 1 ∧ t1.toInt = 1 ∧ f1.toInt = nf.toInt ∧ aFr1 = aFr ∧ aTo1 = aTo) ∨ (faC p0.toInt p1.toInt = 0 ∧ t1.toInt = 0 ∧ (((decide (nf.toInt < 30) && fmK L F p0.toInt p1.toInt 96) = true ∧ r.toInt = nf.toInt ∧ f1.toInt = nf.toInt + 1 ∧ aFr1 = cu aFr nf.toNatClampNeg p0 ∧ aTo1 = cu aTo nf.toNatClampNeg p1) ∨ ((decide (nf.toInt < 30) && fmK L F p0.toInt p1.toInt 96) = false ∧ r.toInt = -1 ∧ f1.toInt = nf.toInt ∧ aFr1 = aFr ∧ aTo1 = aTo)))) ∧ ((f1.toInt = nf.toInt ∧ vR1 = vR) ∨ (f1.toInt = nf.toInt + 1 ∧ vR1 = cu vR nf.toNatClampNeg (-1)))) (fun (u : Int32 × Int32 × (Nat → Int32) × (Nat → Int32) × (Nat → Int32)) (t : State) => match u with | (t1, f1, aFr1, aTo1, vR1) => gH (dC, dI) kA (SHm q (wP wZ wN wH wB wC wL wK wU wV) PI im PM PT lS lB lE lN) G t.heap ∧ gF (dC, dI) SKm G ([(0, 0), (0, 47), (44, 0), (45, 0), (47, 0)] : List (Nat × Nat)) s.heap t.heap ∧ el t.heap o0 (dI 15 0) = some (.int t1) ∧ el t.heap o0 (dI 15 47) = some (.int f1) ∧ ct t.heap (q 43) 30 aFr1 ∧ ct t.heap (q 44) 30 aTo1 ∧ ct t.heap (q 46) 30 vR1) A) #[.ref o0, .int p0, .int p1] s 0 0 A) (F0 m 56 ls []) := by
          intro n118
          induction n118 with
          | zero =>
            intro i69 hn118 hlo119 hj75 H locs hT hF hS m70 m71 m72 m73 m74 ls hl
            obtain rfl : 96 = i69 := by omega
            refine lv_iload_n hx hb dX12_farm_56 rfl (lv_at hl 0 rfl) ?_
            refine lv_bipush (v := 96) hx hb dX12_farm_57 (by decide) ?_
            refine lv_icmp_ge (tgt := 95) hx hb dX12_farm_59 (by decide) (fun c120 => ?_) (fun c120 => (by exfalso; have q9 : ((96 : Nat) : Int) < 96 := ti_nle c120 (by decide) (nI_toInt (by omega)); omega))
            have t121 : 96 ≤ ((96 : Nat) : Int) := ti_le c120 (by decide) (nI_toInt (by omega))
            refine lv_aload_n hx hb dX12_farm_95 rfl (lv_at hl 1 rfl) ?_
            refine tw_get hx hb hts bF_X12 hown hK hT hr_o0 shm_0 rfl 43 (by decide) (ht_at hts 13 rfl) (fun _ h9 => h9) dX12_farm_96 (fun v9 m122 h9 => ?_)
            obtain ⟨rfl, hg123⟩ := h9 _ rfl
            refine lv_aload_n hx hb dX12_farm_99 rfl (lv_at hl 1 rfl) ?_
            refine tw_getM (v := .int nf) hx hb hts bF_X12 hown hK hT hr_o0 shm_0 rfl 47 (by decide) (ht_at hts 12 rfl) (fun _ h9 => h9) m73 dX12_farm_100 ?_
            refine lv_iload_n hx hb dX12_farm_103 rfl (lv_at hl 2 rfl) ?_
            refine tw_iast (i := nf) (x := p0) hx hb hK hT hG hS hg1 shm_44 rfl (vin_t (a := nf.toInt) rfl (by omega) (by omega)) (gi_all _) dX12_farm_104 (fun H locs hT oq m124 oi hS => ?_)
            have hF := hF.ast hg1 skm_44 oq (by decide)
            have m125 := m70.put m124 oi
            have m126 := m71.kept (oq _ (gne hg2 hg1 (by decide)))
            have m127 := m72.kept (oq _ (gne hg3 hg1 (by decide)))
            have m128 := (el_kept (oq _ (gne hr_o0 hg1 (by decide)))).trans m73
            have m129 := (el_kept (oq _ (gne hr_o0 hg1 (by decide)))).trans m74
            refine lv_aload_n hx hb dX12_farm_105 rfl (lv_at hl 1 rfl) ?_
            refine tw_get hx hb hts bF_X12 hown hK hT hr_o0 shm_0 rfl 44 (by decide) (ht_at hts 14 rfl) (fun _ h9 => h9) dX12_farm_106 (fun v9 m130 h9 => ?_)
            obtain ⟨rfl, hg131⟩ := h9 _ rfl
            refine lv_aload_n hx hb dX12_farm_109 rfl (lv_at hl 1 rfl) ?_
            refine tw_getM (v := .int nf) hx hb hts bF_X12 hown hK hT hr_o0 shm_0 rfl 47 (by decide) (ht_at hts 12 rfl) (fun _ h9 => h9) m128 dX12_farm_110 ?_
            refine lv_iload_n hx hb dX12_farm_113 rfl (lv_at hl 3 rfl) ?_
            refine tw_iast (i := nf) (x := p1) hx hb hK hT hG hS hg2 shm_45 rfl (vin_t (a := nf.toInt) rfl (by omega) (by omega)) (gi_all _) dX12_farm_114 (fun H locs hT oq m132 oi hS => ?_)
            have hF := hF.ast hg2 skm_45 oq (by decide)
            have m133 := m125.kept (oq _ (gne hg1 hg2 (by decide)))
            have m134 := m126.put m132 oi
            have m135 := m127.kept (oq _ (gne hg3 hg2 (by decide)))
            have m136 := (el_kept (oq _ (gne hr_o0 hg2 (by decide)))).trans m128
            have m137 := (el_kept (oq _ (gne hr_o0 hg2 (by decide)))).trans m129
            have m138 := (el_kept (oq _ (gne hg1 hg2 (by decide)))).trans m124
            refine lv_aload_n hx hb dX12_farm_115 rfl (lv_at hl 1 rfl) ?_
            refine tw_get hx hb hts bF_X12 hown hK hT hr_o0 shm_0 rfl 46 (by decide) (ht_at hts 15 rfl) (fun _ h9 => h9) dX12_farm_116 (fun v9 m139 h9 => ?_)
            obtain ⟨rfl, hg140⟩ := h9 _ rfl
            refine lv_aload_n hx hb dX12_farm_119 rfl (lv_at hl 1 rfl) ?_
            refine tw_getM (v := .int nf) hx hb hts bF_X12 hown hK hT hr_o0 shm_0 rfl 47 (by decide) (ht_at hts 12 rfl) (fun _ h9 => h9) m136 dX12_farm_120 ?_
            refine lv_iconst (v := (-1)) hx hb dX12_farm_123 (by decide) ?_
            refine tw_iast (i := nf) (x := (-1)) hx hb hK hT hG hS hg3 shm_47 rfl (vin_t (a := nf.toInt) rfl (by omega) (by omega)) (gi_of (show (-1 : Int32).toInt = (-1) from (by decide)) (by first | decide | omega) (by first | decide | omega)) dX12_farm_124 (fun H locs hT oq m141 oi hS => ?_)
            have hF := hF.ast hg3 skm_47 oq (by decide)
            have m142 := m133.kept (oq _ (gne hg1 hg3 (by decide)))
            have m143 := m134.kept (oq _ (gne hg2 hg3 (by decide)))
            have m144 := m135.put m141 oi
            have m145 := (el_kept (oq _ (gne hr_o0 hg3 (by decide)))).trans m136
            have m146 := (el_kept (oq _ (gne hr_o0 hg3 (by decide)))).trans m137
            have m147 := (el_kept (oq _ (gne hg1 hg3 (by decide)))).trans m138
            have m148 := (el_kept (oq _ (gne hg2 hg3 (by decide)))).trans m132
            refine lv_aload_n hx hb dX12_farm_125 rfl (lv_at hl 1 rfl) ?_
            refine lv_dup hx hb dX12_farm_126 rfl ?_
            refine tw_getM (v := .int nf) hx hb hts bF_X12 hown hK hT hr_o0 shm_0 rfl 47 (by decide) (ht_at hts 12 rfl) (fun _ h9 => h9) m145 dX12_farm_127 ?_
            refine lv_iconst (v := 1) hx hb dX12_farm_130 (by decide) ?_
            refine lv_iadd hx hb dX12_farm_131 ?_
            refine lv_topi (fun x149 ex149 => ?_)
            have t150 : x149.toInt = nf.toInt + 1 := ti_add ex149 rfl (by decide) (by omega) (by omega)
            refine tw_put (v := .int x149) (ty := .int) hx hb hts bF_X12 tyX12 tyX12_ok nmX12 hown hK hT hG hS hr_o0 shm_0 rfl 47 (by decide) (ht_at hts 12 rfl) (fun _ h9 => h9) rfl (by decide +kernel) rfl rfl (gl_at rfl (gi_of (show x149.toInt = x149.toInt from rfl) (by omega) (by omega))) dX12_farm_132 (fun H locs hT oq m151 oj hS => ?_)
            have hF := hF.put hr_o0 skm_0 oq oj (by decide)
            have m152 := m142.kept (oq _ (gne hg1 hr_o0 (by decide)))
            have m153 := m143.kept (oq _ (gne hg2 hr_o0 (by decide)))
            have m154 := m144.kept (oq _ (gne hg3 hr_o0 (by decide)))
            have m155 := (oj 0 (by decide) (by decide)).trans m146
            have m156 := (el_kept (oq _ (gne hg1 hr_o0 (by decide)))).trans m147
            have m157 := (el_kept (oq _ (gne hg2 hr_o0 (by decide)))).trans m148
            have m158 := (el_kept (oq _ (gne hg3 hr_o0 (by decide)))).trans m141
            refine lv_aload_n hx hb dX12_farm_135 rfl (lv_at hl 1 rfl) ?_
            refine tw_getM (v := .int x149) hx hb hts bF_X12 hown hK hT hr_o0 shm_0 rfl 47 (by decide) (ht_at hts 12 rfl) (fun _ h9 => h9) m151 dX12_farm_136 ?_
            refine lv_iconst (v := 1) hx hb dX12_farm_139 (by decide) ?_
            refine lv_isub hx hb dX12_farm_140 ?_
            refine lv_topi (fun x159 ex159 => ?_)
            have t160 : x159.toInt = x149.toInt - 1 := ti_sub ex159 rfl (by decide) (by omega) (by omega)
            exact W.iret (v := x159) hx hb hr (fun t ht hW => ⟨⟨x159, (u53, x149, (cu aFr nf.toNatClampNeg p0), (cu aTo nf.toNatClampNeg p1), (cu vR nf.toNatClampNeg (-1 : Int32))), rfl, (by exact ⟨(by have q8 := ti_all x159; omega), (Or.inr ⟨by have := faC_s p0.toInt p1.toInt; omega, by have q0 : (0 : Int32).toInt = 0 := (by decide); have q1 : (1 : Int32).toInt = 1 := (by decide); have q2 : (2 : Int32).toInt = 2 := (by decide); have q3 : (3 : Int32).toInt = 3 := (by decide); have qm : (-1 : Int32).toInt = -1 := (by decide); omega, Or.inl ⟨fm_a (by omega) hj75, by omega, by omega, rfl, rfl⟩⟩), (Or.inr ⟨by have q0 : (0 : Int32).toInt = 0 := (by decide); have q1 : (1 : Int32).toInt = 1 := (by decide); have q2 : (2 : Int32).toInt = 2 := (by decide); have q3 : (3 : Int32).toInt = 3 := (by decide); have qm : (-1 : Int32).toInt = -1 := (by decide); omega, rfl⟩)⟩), by (try dsimp only); rw [ht]; exact ⟨hT, hF, m155, m151, m152, m153, m154⟩⟩, hS.F ht⟩) hS.2.2 dX12_farm_141
          | succ n118 ih118 =>
            intro i69 hn118 hlo119 hj75 H locs hT hF hS m70 m71 m72 m73 m74 ls hl
            have hlt160 : i69 < 96 := by omega
            refine lv_iload_n hx hb dX12_farm_56 rfl (lv_at hl 0 rfl) ?_
            refine lv_bipush (v := 96) hx hb dX12_farm_57 (by decide) ?_
            refine lv_icmp_ge (tgt := 95) hx hb dX12_farm_59 (by decide) (fun c161 => (by exfalso; have q9 : 96 ≤ ((i69 : Nat) : Int) := ti_le c161 (by decide) (nI_toInt (by omega)); omega)) (fun c161 => ?_)
            have t162 : ((i69 : Nat) : Int) < 96 := ti_nle c161 (by decide) (nI_toInt (by omega))
            refine lv_iload_n hx hb dX12_farm_62 rfl (lv_at hl 0 rfl) ?_
            refine lv_iload_n hx hb dX12_farm_63 rfl (lv_at hl 2 rfl) ?_
            refine lv_iload_n hx hb dX12_farm_64 rfl (lv_at hl 3 rfl) ?_
            have hFc := gA_free hG hA hS
            refine va_calli (va_runS (As := [.int (nI i69), .int p0, .int p1]) (rest := []) ⟨hx, hb, hml, hown, hts⟩ (s_isInE l dC dI kA adK adV G H q wZ wN wH wB wC wL wK wU wV PI im PM PT lS lB lE lN (nI i69) p0 p1 hT (rg_t (a := ((i69 : Nat) : Int)) (nI_toInt (by omega)) (by omega) (by omega)) (by have q8 := ti_all p0; omega) (by have q8 := ti_all p1; omega) hgz hgn hgh hgb hgc hgi hgu) (va_cwS 3 hts (goodIn_app (goodIn_r _ [25, 26, 6] rfl (by decide +kernel)) (goodIn_ca (goodIn_r _ [17, 18, 19, 20, 21, 22, 23, 24, 3, 4, 5, 6] rfl (by decide +kernel)) (bs_in _ _))) rfl rfl rfl (by decide +kernel) ⟨(Nat.le_of_ble_eq_true rfl), (Nat.le_of_ble_eq_true rfl)⟩) ⟨fun a U g mk q => by obtain ⟨q0, q1, qK, qE⟩ := q; exact ⟨q0, q1, va_K.moved (u := U) (U := U.calling g mk a) (Vm.Alike.refl U.vm) qK, EVS.blind g mk a qE⟩, fun U hU hW => ⟨rfl, hU, va_K.moved hW.alike hK, hE.call hS hFc hU hW⟩⟩ rfl rfl hl.1 rfl (lv_room (Nat.le_of_ble_eq_true rfl)) dX12_farm_65 ⟨(Nat.le_of_ble_eq_true rfl), (Nat.le_of_ble_eq_true rfl)⟩) hS (fun q _ h => hFc q h) hFc (fun r163 u t H locs ht hvm hw164 hB _ _ hS => ?_)
            obtain ⟨hT, hF1⟩ := hB
            rw [ht] at hT hF1
            have m165 := m70.kept (hF1.arr hg1 skm_44 (by decide))
            have m166 := m71.kept (hF1.arr hg2 skm_45 (by decide))
            have m167 := m72.kept (hF1.arr hg3 skm_47 (by decide))
            have m168 := (hF1.fld hr_o0 skm_0 (k := 47) (by decide) (by decide)).trans m73
            have m169 := (hF1.fld hr_o0 skm_0 (k := 0) (by decide) (by decide)).trans m74
            have hF := hF.more hF1 (by decide)
            try dsimp only at hw164
            obtain ⟨h170, hf171⟩ := hw164
            have t172 : (nI i69).toInt = ((i69 : Nat) : Int) := nI_toInt (by omega)
            refine lv_if_eq (tgt := 89) hx hb dX12_farm_68 (by decide) (fun c173 => ?_) (fun c173 => ?_)
            · have t174 : r163.toInt = 0 := ti_eq c173 rfl (by decide)
              refine lv_iinc (v := nI (i69 + 1)) (lv' := [(3, .int (nI (i69 + 1))), (0, .ref o0), (1, .int p0), (2, .int p1)]) hx hb dX12_farm_89 hl (k := 0) rfl (nI_add i69 1) (by decide) rfl (fun ls hl => ?_)
              refine lv_goto (tgt := 56) hx hb dX12_farm_92 (by decide) ?_
              exact ih118 (i69 + 1) (by omega) (by omega) (by have q0 : (0 : Int32).toInt = 0 := (by decide); have q1 : (1 : Int32).toInt = 1 := (by decide); have q2 : (2 : Int32).toInt = 2 := (by decide); have q3 : (3 : Int32).toInt = 3 := (by decide); have qm : (-1 : Int32).toInt = -1 := (by decide); first | exact fmK_out (inR_0 (s := ((i69 : Nat) : Int)) (a := p0.toInt) (b := p1.toInt) (by have q9 : (nI i69).toInt = ((i69 : Nat) : Int) := nI_toInt (by omega); omega)) hj75 | exact fmK_ok (wdL_1 hL (by omega) (tn_nI (by omega)) (by assumption)) (fF_0 hF9 (by omega) (nI_toInt (by omega)) ((trivial).resolve_right (fun h8 => by have := h8.1; omega)).2) hj75) _ _ hT hF hS m165 m166 m167 m168 m169 ls (lv_sub hl [0, 1, 2, 3] rfl)
            · have t175 : r163.toInt ≠ 0 := ti_ne c173 rfl (by decide)
              refine lv_aload_n hx hb dX12_farm_71 rfl (lv_at hl 1 rfl) ?_
              refine lv_iload_n hx hb dX12_farm_72 rfl (lv_at hl 0 rfl) ?_
              have hFc := gA_free hG hA hS
              refine va_calli (va_runV (As := [.int (nI i69)]) (rest := []) ⟨hx, hb, hml, hown, hts⟩ (s_isLand l dC dI kA adK adV G H q wZ wN wH wB wC wL wK wU wV PI im PM PT lS lB lE lN o0 (nI i69) hT hr_o0 (rg_t (a := ((i69 : Nat) : Int)) (nI_toInt (by omega)) (by omega) (by omega)) hgz hgn hgh hgb hgc hgi hgu) (cwV 1 hts (goodIn_app (goodIn_r _ [29, 30, 31, 6] rfl (by decide +kernel)) (goodIn_ca (goodIn_r _ [27, 28] rfl (by decide +kernel)) (bs_in _ _))) rfl rfl rfl (by decide +kernel) ⟨(Nat.le_of_ble_eq_true rfl), (Nat.le_of_ble_eq_true rfl)⟩) ⟨fun a U g mk q => by obtain ⟨q0, q1, qK, qE⟩ := q; exact ⟨q0, q1, va_K.moved (u := U) (U := U.calling g mk a) (Vm.Alike.refl U.vm) qK, EVS.blind g mk a qE⟩, gH_rc hK hT hr_o0 shm_0 rfl, fun U hU hW => ⟨rfl, hU, va_K.moved hW.alike hK, hE.call hS hFc hU hW⟩⟩ rfl rfl hl.1 rfl (lv_room (Nat.le_of_ble_eq_true rfl)) dX12_farm_73 ⟨(Nat.le_of_ble_eq_true rfl), (Nat.le_of_ble_eq_true rfl)⟩) hS (fun q _ h => hFc q h) hFc (fun r176 u t H locs ht hvm hw177 hB _ _ hS => ?_)
              obtain ⟨hT, hF1⟩ := hB
              rw [ht] at hT hF1
              have m178 := m165.kept (hF1.arr hg1 skm_44 (by decide))
              have m179 := m166.kept (hF1.arr hg2 skm_45 (by decide))
              have m180 := m167.kept (hF1.arr hg3 skm_47 (by decide))
              have m181 := (hF1.fld hr_o0 skm_0 (k := 47) (by decide) (by decide)).trans m168
              have m182 := (hF1.fld hr_o0 skm_0 (k := 0) (by decide) (by decide)).trans m169
              have hF := hF.more hF1 (by decide)
              try dsimp only at hw177
              obtain ⟨h183, hi184, hi185⟩ := hw177
              refine lv_if_eq (tgt := 87) hx hb dX12_farm_76 (by decide) (fun c186 => ?_) (fun c186 => ?_)
              · have t187 : r176.toInt = 0 := ti_eq c186 rfl (by decide)
                have t188 : ¬ wL (nI i69).toNatClampNeg := hi185 c186
                refine lv_iconst (v := (-1)) hx hb dX12_farm_87 (by decide) ?_
                exact W.iret (v := (-1)) hx hb hr (fun t ht hW => ⟨⟨(-1), (u53, nf, aFr, aTo, vR), rfl, (by exact ⟨(rg_t (a := (-1)) (by decide) (by first | decide | omega) (by first | decide | omega)), (by have q0 : (0 : Int32).toInt = 0 := (by decide); have q1 : (1 : Int32).toInt = 1 := (by decide); have q2 : (2 : Int32).toInt = 2 := (by decide); have q3 : (3 : Int32).toInt = 3 := (by decide); have qm : (-1 : Int32).toInt = -1 := (by decide); first | exact Or.inr ⟨by have := faC_s p0.toInt p1.toInt; have q0 : (0 : Int32).toInt = 0 := (by decide); have q1 : (1 : Int32).toInt = 1 := (by decide); have q2 : (2 : Int32).toInt = 2 := (by decide); have q3 : (3 : Int32).toInt = 3 := (by decide); have qm : (-1 : Int32).toInt = -1 := (by decide); omega, by have q0 : (0 : Int32).toInt = 0 := (by decide); have q1 : (1 : Int32).toInt = 1 := (by decide); have q2 : (2 : Int32).toInt = 2 := (by decide); have q3 : (3 : Int32).toInt = 3 := (by decide); have qm : (-1 : Int32).toInt = -1 := (by decide); omega, Or.inr ⟨fm_g (fm_e (fmK_no (inR_1 (s := ((i69 : Nat) : Int)) (a := p0.toInt) (b := p1.toInt) (by have q9 : (nI i69).toInt = ((i69 : Nat) : Int) := nI_toInt (by omega); omega)) (Or.inr (fF_1 hF9 (by omega) (nI_toInt (by omega)) ((trivial).resolve_left (fun h8 => by have := h8.1; omega)).2)))) (by omega), by decide, by omega, rfl, rfl⟩⟩ | exact Or.inr ⟨by have := faC_s p0.toInt p1.toInt; have q0 : (0 : Int32).toInt = 0 := (by decide); have q1 : (1 : Int32).toInt = 1 := (by decide); have q2 : (2 : Int32).toInt = 2 := (by decide); have q3 : (3 : Int32).toInt = 3 := (by decide); have qm : (-1 : Int32).toInt = -1 := (by decide); omega, by have q0 : (0 : Int32).toInt = 0 := (by decide); have q1 : (1 : Int32).toInt = 1 := (by decide); have q2 : (2 : Int32).toInt = 2 := (by decide); have q3 : (3 : Int32).toInt = 3 := (by decide); have qm : (-1 : Int32).toInt = -1 := (by decide); omega, Or.inr ⟨fm_g (fm_e (fmK_no (inR_1 (s := ((i69 : Nat) : Int)) (a := p0.toInt) (b := p1.toInt) (by have q9 : (nI i69).toInt = ((i69 : Nat) : Int) := nI_toInt (by omega); omega)) (Or.inl (wdL_0 hL (by omega) (tn_nI (by omega)) (by assumption))))) (by omega), by decide, by omega, rfl, rfl⟩⟩ | exact Or.inl ⟨by have := faC_s p0.toInt p1.toInt; have q0 : (0 : Int32).toInt = 0 := (by decide); have q1 : (1 : Int32).toInt = 1 := (by decide); have q2 : (2 : Int32).toInt = 2 := (by decide); have q3 : (3 : Int32).toInt = 3 := (by decide); have qm : (-1 : Int32).toInt = -1 := (by decide); omega, by have q0 : (0 : Int32).toInt = 0 := (by decide); have q1 : (1 : Int32).toInt = 1 := (by decide); have q2 : (2 : Int32).toInt = 2 := (by decide); have q3 : (3 : Int32).toInt = 3 := (by decide); have qm : (-1 : Int32).toInt = -1 := (by decide); omega, by omega, rfl, rfl⟩ | exact Or.inr ⟨by have := faC_s p0.toInt p1.toInt; have q0 : (0 : Int32).toInt = 0 := (by decide); have q1 : (1 : Int32).toInt = 1 := (by decide); have q2 : (2 : Int32).toInt = 2 := (by decide); have q3 : (3 : Int32).toInt = 3 := (by decide); have qm : (-1 : Int32).toInt = -1 := (by decide); omega, by have q0 : (0 : Int32).toInt = 0 := (by decide); have q1 : (1 : Int32).toInt = 1 := (by decide); have q2 : (2 : Int32).toInt = 2 := (by decide); have q3 : (3 : Int32).toInt = 3 := (by decide); have qm : (-1 : Int32).toInt = -1 := (by decide); omega, Or.inr ⟨fm_b (by omega), by decide, by omega, rfl, rfl⟩⟩), (Or.inl ⟨by have q0 : (0 : Int32).toInt = 0 := (by decide); have q1 : (1 : Int32).toInt = 1 := (by decide); have q2 : (2 : Int32).toInt = 2 := (by decide); have q3 : (3 : Int32).toInt = 3 := (by decide); have qm : (-1 : Int32).toInt = -1 := (by decide); omega, rfl⟩)⟩), by (try dsimp only); rw [ht]; exact ⟨hT, hF, m182, m181, m178, m179, m180⟩⟩, hS.F ht⟩) hS.2.2 dX12_farm_88
              · have t189 : r176.toInt ≠ 0 := ti_ne c186 rfl (by decide)
                have t190 : wL (nI i69).toNatClampNeg := hi184 ((bit_of ⟨by omega, by omega⟩).resolve_left c186)
                refine lv_aload_n hx hb dX12_farm_79 rfl (lv_at hl 1 rfl) ?_
                refine lv_iload_n hx hb dX12_farm_80 rfl (lv_at hl 0 rfl) ?_
                have hFc := gA_free hG hA hS
                refine va_calli (va_runV (As := [.int (nI i69)]) (rest := []) ⟨hx, hb, hml, hown, hts⟩ (s_farmOfC l dC dI kA adK adV G H q wZ wN wH wB wC wL wK wU wV PI im PM PT lS lB lE lN o0 (nI i69) nf aFr aTo hT hr_o0 m181 (rg_t (a := ((i69 : Nat) : Int)) (nI_toInt (by omega)) (by omega) (by omega)) (by have q8 := ti_all nf; omega) hAB m178 m179 hgz hgn hgh hgb hgc hgi hgu) (cwV 1 hts (goodIn_app (goodIn_r _ [33, 34, 35, 6] rfl (by decide +kernel)) (goodIn_ca (goodIn_r _ [32, 13, 14, 15, 17, 18, 19, 20, 21, 22, 23, 24, 3, 4, 5, 6, 25, 26] rfl (by decide +kernel)) (bs_in _ _))) rfl rfl rfl (by decide +kernel) ⟨(Nat.le_of_ble_eq_true rfl), (Nat.le_of_ble_eq_true rfl)⟩) ⟨fun a U g mk q => by obtain ⟨q0, q1, qK, qE⟩ := q; exact ⟨q0, q1, va_K.moved (u := U) (U := U.calling g mk a) (Vm.Alike.refl U.vm) qK, EVS.blind g mk a qE⟩, gH_rc hK hT hr_o0 shm_0 rfl, fun U hU hW => ⟨rfl, hU, va_K.moved hW.alike hK, hE.call hS hFc hU hW⟩⟩ rfl rfl hl.1 rfl (lv_room (Nat.le_of_ble_eq_true rfl)) dX12_farm_81 ⟨(Nat.le_of_ble_eq_true rfl), (Nat.le_of_ble_eq_true rfl)⟩) hS (fun q _ h => hFc q h) hFc (fun r191 u t H locs ht hvm hw192 hB _ _ hS => ?_)
                obtain ⟨hT, hF1⟩ := hB
                rw [ht] at hT hF1
                have m193 := m178.kept (hF1.arr hg1 skm_44 (by decide))
                have m194 := m179.kept (hF1.arr hg2 skm_45 (by decide))
                have m195 := m180.kept (hF1.arr hg3 skm_47 (by decide))
                have m196 := (hF1.fld hr_o0 skm_0 (k := 47) (by decide) (by decide)).trans m181
                have m197 := (hF1.fld hr_o0 skm_0 (k := 0) (by decide) (by decide)).trans m182
                have hF := hF.more hF1 (by decide)
                try dsimp only at hw192
                obtain ⟨h198, hf199⟩ := hw192
                refine lv_if_lt (tgt := 89) hx hb dX12_farm_84 (by decide) (fun c200 => ?_) (fun c200 => ?_)
                · have t201 : r191.toInt < 0 := ti_lt c200 rfl (by decide)
                  refine lv_iinc (v := nI (i69 + 1)) (lv' := [(3, .int (nI (i69 + 1))), (0, .ref o0), (1, .int p0), (2, .int p1)]) hx hb dX12_farm_89 hl (k := 0) rfl (nI_add i69 1) (by decide) rfl (fun ls hl => ?_)
                  refine lv_goto (tgt := 56) hx hb dX12_farm_92 (by decide) ?_
                  exact ih118 (i69 + 1) (by omega) (by omega) (by have q0 : (0 : Int32).toInt = 0 := (by decide); have q1 : (1 : Int32).toInt = 1 := (by decide); have q2 : (2 : Int32).toInt = 2 := (by decide); have q3 : (3 : Int32).toInt = 3 := (by decide); have qm : (-1 : Int32).toInt = -1 := (by decide); first | exact fmK_out (inR_0 (s := ((i69 : Nat) : Int)) (a := p0.toInt) (b := p1.toInt) (by have q9 : (nI i69).toInt = ((i69 : Nat) : Int) := nI_toInt (by omega); omega)) hj75 | exact fmK_ok (wdL_1 hL (by omega) (tn_nI (by omega)) (by assumption)) (fF_0 hF9 (by omega) (nI_toInt (by omega)) ((hf199).resolve_right (fun h8 => by have := h8.1; omega)).2) hj75) _ _ hT hF hS m193 m194 m195 m196 m197 ls (lv_sub hl [0, 1, 2, 3] rfl)
                · have t202 : 0 ≤ r191.toInt := ti_nlt c200 rfl (by decide)
                  refine lv_iconst (v := (-1)) hx hb dX12_farm_87 (by decide) ?_
                  exact W.iret (v := (-1)) hx hb hr (fun t ht hW => ⟨⟨(-1), (u53, nf, aFr, aTo, vR), rfl, (by exact ⟨(rg_t (a := (-1)) (by decide) (by first | decide | omega) (by first | decide | omega)), (by have q0 : (0 : Int32).toInt = 0 := (by decide); have q1 : (1 : Int32).toInt = 1 := (by decide); have q2 : (2 : Int32).toInt = 2 := (by decide); have q3 : (3 : Int32).toInt = 3 := (by decide); have qm : (-1 : Int32).toInt = -1 := (by decide); first | exact Or.inr ⟨by have := faC_s p0.toInt p1.toInt; have q0 : (0 : Int32).toInt = 0 := (by decide); have q1 : (1 : Int32).toInt = 1 := (by decide); have q2 : (2 : Int32).toInt = 2 := (by decide); have q3 : (3 : Int32).toInt = 3 := (by decide); have qm : (-1 : Int32).toInt = -1 := (by decide); omega, by have q0 : (0 : Int32).toInt = 0 := (by decide); have q1 : (1 : Int32).toInt = 1 := (by decide); have q2 : (2 : Int32).toInt = 2 := (by decide); have q3 : (3 : Int32).toInt = 3 := (by decide); have qm : (-1 : Int32).toInt = -1 := (by decide); omega, Or.inr ⟨fm_g (fm_e (fmK_no (inR_1 (s := ((i69 : Nat) : Int)) (a := p0.toInt) (b := p1.toInt) (by have q9 : (nI i69).toInt = ((i69 : Nat) : Int) := nI_toInt (by omega); omega)) (Or.inr (fF_1 hF9 (by omega) (nI_toInt (by omega)) ((hf199).resolve_left (fun h8 => by have := h8.1; omega)).2)))) (by omega), by decide, by omega, rfl, rfl⟩⟩ | exact Or.inr ⟨by have := faC_s p0.toInt p1.toInt; have q0 : (0 : Int32).toInt = 0 := (by decide); have q1 : (1 : Int32).toInt = 1 := (by decide); have q2 : (2 : Int32).toInt = 2 := (by decide); have q3 : (3 : Int32).toInt = 3 := (by decide); have qm : (-1 : Int32).toInt = -1 := (by decide); omega, by have q0 : (0 : Int32).toInt = 0 := (by decide); have q1 : (1 : Int32).toInt = 1 := (by decide); have q2 : (2 : Int32).toInt = 2 := (by decide); have q3 : (3 : Int32).toInt = 3 := (by decide); have qm : (-1 : Int32).toInt = -1 := (by decide); omega, Or.inr ⟨fm_g (fm_e (fmK_no (inR_1 (s := ((i69 : Nat) : Int)) (a := p0.toInt) (b := p1.toInt) (by have q9 : (nI i69).toInt = ((i69 : Nat) : Int) := nI_toInt (by omega); omega)) (Or.inl (wdL_0 hL (by omega) (tn_nI (by omega)) (by assumption))))) (by omega), by decide, by omega, rfl, rfl⟩⟩ | exact Or.inl ⟨by have := faC_s p0.toInt p1.toInt; have q0 : (0 : Int32).toInt = 0 := (by decide); have q1 : (1 : Int32).toInt = 1 := (by decide); have q2 : (2 : Int32).toInt = 2 := (by decide); have q3 : (3 : Int32).toInt = 3 := (by decide); have qm : (-1 : Int32).toInt = -1 := (by decide); omega, by have q0 : (0 : Int32).toInt = 0 := (by decide); have q1 : (1 : Int32).toInt = 1 := (by decide); have q2 : (2 : Int32).toInt = 2 := (by decide); have q3 : (3 : Int32).toInt = 3 := (by decide); have qm : (-1 : Int32).toInt = -1 := (by decide); omega, by omega, rfl, rfl⟩ | exact Or.inr ⟨by have := faC_s p0.toInt p1.toInt; have q0 : (0 : Int32).toInt = 0 := (by decide); have q1 : (1 : Int32).toInt = 1 := (by decide); have q2 : (2 : Int32).toInt = 2 := (by decide); have q3 : (3 : Int32).toInt = 3 := (by decide); have qm : (-1 : Int32).toInt = -1 := (by decide); omega, by have q0 : (0 : Int32).toInt = 0 := (by decide); have q1 : (1 : Int32).toInt = 1 := (by decide); have q2 : (2 : Int32).toInt = 2 := (by decide); have q3 : (3 : Int32).toInt = 3 := (by decide); have qm : (-1 : Int32).toInt = -1 := (by decide); omega, Or.inr ⟨fm_b (by omega), by decide, by omega, rfl, rfl⟩⟩), (Or.inl ⟨by have q0 : (0 : Int32).toInt = 0 := (by decide); have q1 : (1 : Int32).toInt = 1 := (by decide); have q2 : (2 : Int32).toInt = 2 := (by decide); have q3 : (3 : Int32).toInt = 3 := (by decide); have qm : (-1 : Int32).toInt = -1 := (by decide); omega, rfl⟩)⟩), by (try dsimp only); rw [ht]; exact ⟨hT, hF, m197, m196, m193, m194, m195⟩⟩, hS.F ht⟩) hS.2.2 dX12_farm_88
        exact key118 (96 - 0) 0 (by omega) (Nat.le_refl _) rfl _ _ hT hF hS m56 m57 m58 m55 m54 ls (lv_sub hl [0, 1, 2, 3] rfl)
      · have t203 : nf.toInt = 30 := ti_eq c67 rfl (by decide)
        refine lv_aload_n hx hb dX12_farm_41 rfl (lv_at hl 0 rfl) ?_
        refine tw_getM (v := .int u53) hx hb hts bF_X12 hown hK hT hr_o0 shm_0 rfl 0 (by decide) (ht_at hts 0 rfl) (fun _ h9 => h9) m54 dX12_farm_42 ?_
        refine lv_if_eq (tgt := 52) hx hb dX12_farm_45 (by decide) (fun c204 => ?_) (fun c204 => ?_)
        · have t205 : u53.toInt = 0 := ti_eq c204 rfl (by decide)
          refine lv_iconst (v := (-1)) hx hb dX12_farm_52 (by decide) ?_
          exact W.iret (v := (-1)) hx hb hr (fun t ht hW => ⟨⟨(-1), (u53, nf, aFr, aTo, vR), rfl, (by exact ⟨(rg_t (a := (-1)) (by decide) (by first | decide | omega) (by first | decide | omega)), (by have q0 : (0 : Int32).toInt = 0 := (by decide); have q1 : (1 : Int32).toInt = 1 := (by decide); have q2 : (2 : Int32).toInt = 2 := (by decide); have q3 : (3 : Int32).toInt = 3 := (by decide); have qm : (-1 : Int32).toInt = -1 := (by decide); first | exact Or.inl ⟨by have := faC_s p0.toInt p1.toInt; have q0 : (0 : Int32).toInt = 0 := (by decide); have q1 : (1 : Int32).toInt = 1 := (by decide); have q2 : (2 : Int32).toInt = 2 := (by decide); have q3 : (3 : Int32).toInt = 3 := (by decide); have qm : (-1 : Int32).toInt = -1 := (by decide); omega, by have q0 : (0 : Int32).toInt = 0 := (by decide); have q1 : (1 : Int32).toInt = 1 := (by decide); have q2 : (2 : Int32).toInt = 2 := (by decide); have q3 : (3 : Int32).toInt = 3 := (by decide); have qm : (-1 : Int32).toInt = -1 := (by decide); omega, by omega, rfl, rfl⟩ | exact Or.inr ⟨by have := faC_s p0.toInt p1.toInt; have q0 : (0 : Int32).toInt = 0 := (by decide); have q1 : (1 : Int32).toInt = 1 := (by decide); have q2 : (2 : Int32).toInt = 2 := (by decide); have q3 : (3 : Int32).toInt = 3 := (by decide); have qm : (-1 : Int32).toInt = -1 := (by decide); omega, by have q0 : (0 : Int32).toInt = 0 := (by decide); have q1 : (1 : Int32).toInt = 1 := (by decide); have q2 : (2 : Int32).toInt = 2 := (by decide); have q3 : (3 : Int32).toInt = 3 := (by decide); have qm : (-1 : Int32).toInt = -1 := (by decide); omega, Or.inr ⟨fm_b (by omega), by decide, by omega, rfl, rfl⟩⟩), (Or.inl ⟨by have q0 : (0 : Int32).toInt = 0 := (by decide); have q1 : (1 : Int32).toInt = 1 := (by decide); have q2 : (2 : Int32).toInt = 2 := (by decide); have q3 : (3 : Int32).toInt = 3 := (by decide); have qm : (-1 : Int32).toInt = -1 := (by decide); omega, rfl⟩)⟩), by (try dsimp only); rw [ht]; exact ⟨hT, hF, m54, m55, m56, m57, m58⟩⟩, hS.F ht⟩) hS.2.2 dX12_farm_53
        · have t206 : u53.toInt ≠ 0 := ti_ne c204 rfl (by decide)
          refine lv_iconst (v := 0) hx hb dX12_farm_48 (by decide) ?_
          refine lv_goto (tgt := 53) hx hb dX12_farm_49 (by decide) ?_
          exact W.iret (v := 0) hx hb hr (fun t ht hW => ⟨⟨0, (u53, nf, aFr, aTo, vR), rfl, (by exact ⟨(rg_t (a := 0) (by decide) (by first | decide | omega) (by first | decide | omega)), (by have q0 : (0 : Int32).toInt = 0 := (by decide); have q1 : (1 : Int32).toInt = 1 := (by decide); have q2 : (2 : Int32).toInt = 2 := (by decide); have q3 : (3 : Int32).toInt = 3 := (by decide); have qm : (-1 : Int32).toInt = -1 := (by decide); first | exact Or.inl ⟨by have := faC_s p0.toInt p1.toInt; have q0 : (0 : Int32).toInt = 0 := (by decide); have q1 : (1 : Int32).toInt = 1 := (by decide); have q2 : (2 : Int32).toInt = 2 := (by decide); have q3 : (3 : Int32).toInt = 3 := (by decide); have qm : (-1 : Int32).toInt = -1 := (by decide); omega, by have q0 : (0 : Int32).toInt = 0 := (by decide); have q1 : (1 : Int32).toInt = 1 := (by decide); have q2 : (2 : Int32).toInt = 2 := (by decide); have q3 : (3 : Int32).toInt = 3 := (by decide); have qm : (-1 : Int32).toInt = -1 := (by decide); omega, by omega, rfl, rfl⟩ | exact Or.inr ⟨by have := faC_s p0.toInt p1.toInt; have q0 : (0 : Int32).toInt = 0 := (by decide); have q1 : (1 : Int32).toInt = 1 := (by decide); have q2 : (2 : Int32).toInt = 2 := (by decide); have q3 : (3 : Int32).toInt = 3 := (by decide); have qm : (-1 : Int32).toInt = -1 := (by decide); omega, by have q0 : (0 : Int32).toInt = 0 := (by decide); have q1 : (1 : Int32).toInt = 1 := (by decide); have q2 : (2 : Int32).toInt = 2 := (by decide); have q3 : (3 : Int32).toInt = 3 := (by decide); have qm : (-1 : Int32).toInt = -1 := (by decide); omega, Or.inr ⟨fm_b (by omega), by decide, by omega, rfl, rfl⟩⟩), (Or.inl ⟨by have q0 : (0 : Int32).toInt = 0 := (by decide); have q1 : (1 : Int32).toInt = 1 := (by decide); have q2 : (2 : Int32).toInt = 2 := (by decide); have q3 : (3 : Int32).toInt = 3 := (by decide); have qm : (-1 : Int32).toInt = -1 := (by decide); omega, rfl⟩)⟩), by (try dsimp only); rw [ht]; exact ⟨hT, hF, m54, m55, m56, m57, m58⟩⟩, hS.F ht⟩) hS.2.2 dX12_farm_53
    · have t207 : r40.toInt ≠ 0 := ti_ne c49 rfl (by decide)
      refine lv_iconst (v := 1) hx hb dX12_farm_20 (by decide) ?_
      refine lv_goto (tgt := 25) hx hb dX12_farm_21 (by decide) ?_
      refine lv_iconst (v := 1) hx hb dX12_farm_25 (by decide) ?_
      have hFc := gA_free hG hA hS
      refine va_calli (va_runV (As := [.int 1, .int 1]) (rest := []) ⟨hx, hb, hml, hown, hts⟩ (s_throwsIfP l dC dI kA adK adV G H q wZ wN wH wB wC wL wK wU wV PI im PM PT lS lB lE lN o0 1 1 0 hT hr_o0 m46 (rg_t (a := 1) (by decide) (by first | decide | omega) (by first | decide | omega)) hgz hgn hgh hgb hgc hgi hgu) (cwV 2 hts (goodIn_app (goodIn_r _ [10, 11, 12, 6] rfl (by decide +kernel)) (goodIn_ca (goodIn_r _ [9, 1] rfl (by decide +kernel)) (bs_in _ _))) rfl rfl rfl (by decide +kernel) ⟨(Nat.le_of_ble_eq_true rfl), (Nat.le_of_ble_eq_true rfl)⟩) ⟨fun a U g mk q => by obtain ⟨q0, q1, qK, qE⟩ := q; exact ⟨q0, q1, va_K.moved (u := U) (U := U.calling g mk a) (Vm.Alike.refl U.vm) qK, EVS.blind g mk a qE⟩, gH_rc hK hT hr_o0 shm_0 rfl, fun U hU hW => ⟨rfl, hU, va_K.moved hW.alike hK, hE.call hS hFc hU hW⟩⟩ rfl rfl hl.1 rfl (lv_room (Nat.le_of_ble_eq_true rfl)) dX12_farm_26 ⟨(Nat.le_of_ble_eq_true rfl), (Nat.le_of_ble_eq_true rfl)⟩) hS (fun q _ h => hFc q h) hFc (fun r208 u t H locs ht hvm hw209 hB _ _ hS => ?_)
      obtain ⟨u210, rfl⟩ : ∃ z, z = u := ⟨_, rfl⟩
      obtain ⟨hT, hF1, m211⟩ := hB
      rw [ht] at hT hF1 m211
      have m212 := (hF1.fld hr_o0 skm_0 (k := 47) (by decide) (by decide)).trans m42
      have m213 := m43.kept (hF1.arr hg1 skm_44 (by decide))
      have m214 := m44.kept (hF1.arr hg2 skm_45 (by decide))
      have m215 := m45.kept (hF1.arr hg3 skm_47 (by decide))
      have hF := hF.more hF1 (by decide)
      try dsimp only at hw209
      obtain ⟨h217, hf218, hd219⟩ := hw209
      have t220 : (1 : Int32).toInt = 1 := by decide
      have t221 : (1 : Int32).toInt = 1 := by decide
      have t222 : (0 : Int32).toInt = 0 := by decide
      obtain rfl : (1 : Int32) = r208 := hd219.symm
      refine lv_if_ne (tgt := 41) hx hb dX12_farm_29 (by decide) (fun c223 => ?_) (fun c223 => absurd c223 (by decide))
      refine lv_aload_n hx hb dX12_farm_41 rfl (lv_at hl 0 rfl) ?_
      refine tw_getM (v := .int u210) hx hb hts bF_X12 hown hK hT hr_o0 shm_0 rfl 0 (by decide) (ht_at hts 0 rfl) (fun _ h9 => h9) m211 dX12_farm_42 ?_
      refine lv_if_eq (tgt := 52) hx hb dX12_farm_45 (by decide) (fun c224 => ?_) (fun c224 => ?_)
      · have t225 : u210.toInt = 0 := ti_eq c224 rfl (by decide)
        refine lv_iconst (v := (-1)) hx hb dX12_farm_52 (by decide) ?_
        exact W.iret (v := (-1)) hx hb hr (fun t ht hW => ⟨⟨(-1), (u210, nf, aFr, aTo, vR), rfl, (by exact ⟨(rg_t (a := (-1)) (by decide) (by first | decide | omega) (by first | decide | omega)), (by have q0 : (0 : Int32).toInt = 0 := (by decide); have q1 : (1 : Int32).toInt = 1 := (by decide); have q2 : (2 : Int32).toInt = 2 := (by decide); have q3 : (3 : Int32).toInt = 3 := (by decide); have qm : (-1 : Int32).toInt = -1 := (by decide); first | exact Or.inl ⟨by have := faC_s p0.toInt p1.toInt; have q0 : (0 : Int32).toInt = 0 := (by decide); have q1 : (1 : Int32).toInt = 1 := (by decide); have q2 : (2 : Int32).toInt = 2 := (by decide); have q3 : (3 : Int32).toInt = 3 := (by decide); have qm : (-1 : Int32).toInt = -1 := (by decide); omega, by have q0 : (0 : Int32).toInt = 0 := (by decide); have q1 : (1 : Int32).toInt = 1 := (by decide); have q2 : (2 : Int32).toInt = 2 := (by decide); have q3 : (3 : Int32).toInt = 3 := (by decide); have qm : (-1 : Int32).toInt = -1 := (by decide); omega, by omega, rfl, rfl⟩ | exact Or.inr ⟨by have := faC_s p0.toInt p1.toInt; have q0 : (0 : Int32).toInt = 0 := (by decide); have q1 : (1 : Int32).toInt = 1 := (by decide); have q2 : (2 : Int32).toInt = 2 := (by decide); have q3 : (3 : Int32).toInt = 3 := (by decide); have qm : (-1 : Int32).toInt = -1 := (by decide); omega, by have q0 : (0 : Int32).toInt = 0 := (by decide); have q1 : (1 : Int32).toInt = 1 := (by decide); have q2 : (2 : Int32).toInt = 2 := (by decide); have q3 : (3 : Int32).toInt = 3 := (by decide); have qm : (-1 : Int32).toInt = -1 := (by decide); omega, Or.inr ⟨fm_b (by omega), by decide, by omega, rfl, rfl⟩⟩), (Or.inl ⟨by have q0 : (0 : Int32).toInt = 0 := (by decide); have q1 : (1 : Int32).toInt = 1 := (by decide); have q2 : (2 : Int32).toInt = 2 := (by decide); have q3 : (3 : Int32).toInt = 3 := (by decide); have qm : (-1 : Int32).toInt = -1 := (by decide); omega, rfl⟩)⟩), by (try dsimp only); rw [ht]; exact ⟨hT, hF, m211, m212, m213, m214, m215⟩⟩, hS.F ht⟩) hS.2.2 dX12_farm_53
      · have t226 : u210.toInt ≠ 0 := ti_ne c224 rfl (by decide)
        refine lv_iconst (v := 0) hx hb dX12_farm_48 (by decide) ?_
        refine lv_goto (tgt := 53) hx hb dX12_farm_49 (by decide) ?_
        exact W.iret (v := 0) hx hb hr (fun t ht hW => ⟨⟨0, (u210, nf, aFr, aTo, vR), rfl, (by exact ⟨(rg_t (a := 0) (by decide) (by first | decide | omega) (by first | decide | omega)), (by have q0 : (0 : Int32).toInt = 0 := (by decide); have q1 : (1 : Int32).toInt = 1 := (by decide); have q2 : (2 : Int32).toInt = 2 := (by decide); have q3 : (3 : Int32).toInt = 3 := (by decide); have qm : (-1 : Int32).toInt = -1 := (by decide); first | exact Or.inl ⟨by have := faC_s p0.toInt p1.toInt; have q0 : (0 : Int32).toInt = 0 := (by decide); have q1 : (1 : Int32).toInt = 1 := (by decide); have q2 : (2 : Int32).toInt = 2 := (by decide); have q3 : (3 : Int32).toInt = 3 := (by decide); have qm : (-1 : Int32).toInt = -1 := (by decide); omega, by have q0 : (0 : Int32).toInt = 0 := (by decide); have q1 : (1 : Int32).toInt = 1 := (by decide); have q2 : (2 : Int32).toInt = 2 := (by decide); have q3 : (3 : Int32).toInt = 3 := (by decide); have qm : (-1 : Int32).toInt = -1 := (by decide); omega, by omega, rfl, rfl⟩ | exact Or.inr ⟨by have := faC_s p0.toInt p1.toInt; have q0 : (0 : Int32).toInt = 0 := (by decide); have q1 : (1 : Int32).toInt = 1 := (by decide); have q2 : (2 : Int32).toInt = 2 := (by decide); have q3 : (3 : Int32).toInt = 3 := (by decide); have qm : (-1 : Int32).toInt = -1 := (by decide); omega, by have q0 : (0 : Int32).toInt = 0 := (by decide); have q1 : (1 : Int32).toInt = 1 := (by decide); have q2 : (2 : Int32).toInt = 2 := (by decide); have q3 : (3 : Int32).toInt = 3 := (by decide); have qm : (-1 : Int32).toInt = -1 := (by decide); omega, Or.inr ⟨fm_b (by omega), by decide, by omega, rfl, rfl⟩⟩), (Or.inl ⟨by have q0 : (0 : Int32).toInt = 0 := (by decide); have q1 : (1 : Int32).toInt = 1 := (by decide); have q2 : (2 : Int32).toInt = 2 := (by decide); have q3 : (3 : Int32).toInt = 3 := (by decide); have qm : (-1 : Int32).toInt = -1 := (by decide); omega, rfl⟩)⟩), by (try dsimp only); rw [ht]; exact ⟨hT, hF, m211, m212, m213, m214, m215⟩⟩, hS.F ht⟩) hS.2.2 dX12_farm_53
def w_s_noFarmE : List Cond := .code yX12_noFarm cX12_noFarm 2 (some .boolean) :: (HAppend.hAppend (α := List Cond) (β := List Cond) (γ := List Cond) [.fieldLink RX12 498 "SeaLandModel" "farms" "I", .code yX12_in cX12_in 3 (some .boolean), .methodLink RX12 197 yX12_in, .static yX12_in, .initialized RX12] bs)
set_option maxHeartbeats 4000000 in
set_option maxRecDepth 100000 in
theorem s_noFarmE (l : Launch) (dC : Nat → ClassId) (dI : Nat → Nat → Nat) (kA : Nat → ClassId) (adK adV : Nat → Nat) (G : gT) (H0 : Heap) (q : Nat → Nat) (wZ wN : Nat → Int) (wH wB wC : Int) (wL wK : Nat → Prop) (wU wV : Nat → Nat) (PI : Nat → Int → Prop) (im : Int) (PM PT : Nat → Int → Prop) (lS lB lE : Nat → Nat → Int → Prop) (lN : Nat → Int) (o0 : Nat) (w : Int32) (nf : Int32)  (hT : gH (dC, dI) kA (SHm q (wP wZ wN wH wB wC wL wK wU wV) PI im PM PT lS lB lE lN) G H0) (hr_o0 : G o0 = some 0) (hm_nf : el H0 o0 (dI 15 47) = some (.int nf)) (hq0 : 0 ≤ nf.toInt ∧ nf.toInt ≤ 30) (hgz : ∀ i, 0 ≤ wZ i) (hgn : ∀ i, 6500000 ≤ wN i ∧ wN i ≤ 20200000) (hgh : 0 ≤ wH ∧ wH ≤ 40000) (hgb : 0 ≤ wB ∧ wB ≤ 3850000) (hgc : 0 ≤ wC ∧ wC ≤ 30) (hgi : 0 ≤ im ∧ im ≤ 1) (hgu : ∀ a t, G a = some (t + 1) → a = q t) : Met l yX12_noFarm w_s_noFarmE ({ frames := 1, cells := 0, slots := 0, locals := 22 }) (va_Pc [.ref o0, .int w] (fun U => U.heap = H0 ∧ va_K (dC, dI) vwCl (tyl kA) U ∧ EVS adK adV (gA G H0.size) U U.heap)) (va_Qi (fun (r : Int32) (u : Unit) => (0 ≤ r.toInt ∧ r.toInt ≤ 1) ∧ ((r.toInt = 0 ∧ (0 ≤ w.toInt ∧ w.toInt < nf.toInt)) ∨ (r.toInt = 1 ∧ ¬ (0 ≤ w.toInt ∧ w.toInt < nf.toInt)))) (fun (_ : Unit) (t : State) => gH (dC, dI) kA (SHm q (wP wZ wN wH wB wC wL wK wU wV) PI im PM PT lS lB lE lN) G t.heap ∧ gF (dC, dI) SKm G ([] : List (Nat × Nat)) H0 t.heap) (gA G H0.size)) 0 0 (gA G H0.size) := by
  refine Met.ofW (cc := cX12_noFarm) (maxL := 2) (ret := (some .boolean)) (by decide) rfl ?_
  intro p e s m args below meth c s₁ B hml hv
  obtain ⟨rfl, hH0, hK, hE⟩ := hv
  have hx := B.exec
  have hb := B.bytes
  have hr := B.returns
  have hts := atoms_spec (ws := w_s_noFarmE) B.pre
  have hown : s.vm.findClass RX12 = some m.cls := findClass_of_methodNamed B.named
  have hlocks := B.notSynchronized
  subst hH0
  generalize hAe : gA G s.heap.size = A at hE ⊢
  have hA : ∀ q : Nat, s.heap.size ≤ q → A q := fun q h => by rw [← hAe]; exact Or.inr h
  have hG := gA_of hAe
  have hS : va_S A s.heap s.heap [] := va_S.rf
  have hF : gF (dC, dI) SKm G ([] : List (Nat × Nat)) s.heap s.heap := gF.rf
  have hl := lv_entry ([.ref o0, .int w]) (n := 2) (Nat.le_of_ble_eq_true rfl)
  rw [lg_entry_eq]
  generalize (lg_sl ([.ref o0, .int w]) ++ List.replicate (2 - (lg_sl ([.ref o0, .int w])).length) Slot.unset).toArray = ls at hl ⊢
  have hl : lv_has ls 2 [(0, .ref o0), (1, .int w)] := hl
  refine lv_iload_n hx hb dX12_noFarm_0 rfl (lv_at hl 1 rfl) ?_
  refine lv_iconst (v := 0) hx hb dX12_noFarm_1 (by decide) ?_
  refine lv_aload_n hx hb dX12_noFarm_2 rfl (lv_at hl 0 rfl) ?_
  refine tw_getM (v := .int nf) hx hb hts bF_X12 hown hK hT hr_o0 shm_0 rfl 47 (by decide) (ht_at hts 0 rfl) (fun _ h9 => h9) hm_nf dX12_noFarm_3 ?_
  refine lv_iconst (v := 1) hx hb dX12_noFarm_6 (by decide) ?_
  refine lv_isub hx hb dX12_noFarm_7 ?_
  refine lv_topi (fun x1 ex1 => ?_)
  have t2 : x1.toInt = nf.toInt - 1 := ti_sub ex1 rfl (by decide) (by omega) (by omega)
  have hFc := gA_free hG hA hS
  refine va_calli (va_runS (As := [.int w, .int 0, .int x1]) (rest := []) ⟨hx, hb, hml, hown, hts⟩ (s_in l dC dI kA adK adV G s.heap q wZ wN wH wB wC wL wK wU wV PI im PM PT lS lB lE lN w 0 x1 hT hgz hgn hgh hgb hgc hgi hgu) (va_cwS 3 hts (goodIn_app (goodIn_r _ [3, 4, 5] rfl (by decide +kernel)) (goodIn_ca (goodIn_r _ [2] rfl (by decide +kernel)) (bs_in _ _))) rfl rfl rfl (by decide +kernel) ⟨(Nat.le_of_ble_eq_true rfl), (Nat.le_of_ble_eq_true rfl)⟩) ⟨fun a U g mk q => by obtain ⟨q0, q1, qK, qE⟩ := q; exact ⟨q0, q1, va_K.moved (u := U) (U := U.calling g mk a) (Vm.Alike.refl U.vm) qK, EVS.blind g mk a qE⟩, fun U hU hW => ⟨rfl, hU, va_K.moved hW.alike hK, hE.call hS hFc hU hW⟩⟩ rfl rfl hl.1 rfl (lv_room (Nat.le_of_ble_eq_true rfl)) dX12_noFarm_8 ⟨(Nat.le_of_ble_eq_true rfl), (Nat.le_of_ble_eq_true rfl)⟩) hS (fun q _ h => hFc q h) hFc (fun r3 u t H locs ht hvm hw4 hB _ _ hS => ?_)
  obtain ⟨hT, hF1⟩ := hB
  rw [ht] at hT hF1
  have hF := hF.more hF1 (by decide)
  try dsimp only at hw4
  obtain ⟨h6, hi7, hi8⟩ := hw4
  refine lv_if_ne (tgt := 18) hx hb dX12_noFarm_11 (by decide) (fun c9 => ?_) (fun c9 => ?_)
  · have t10 : r3.toInt ≠ 0 := ti_ne c9 rfl (by decide)
    have t11 : (0 : Int32).toInt = 0 := by decide
    have t12 : (0 : Int32).toInt ≤ w.toInt ∧ w.toInt ≤ x1.toInt := hi7 ((bit_of ⟨by omega, by omega⟩).resolve_left c9)
    refine lv_iconst (v := 0) hx hb dX12_noFarm_18 (by decide) ?_
    exact W.zret (v := 0) hx hb hr (by decide) (fun t ht hW => ⟨⟨0, (), rfl, (by exact ⟨(rg_t (a := 0) (by decide) (by first | decide | omega) (by first | decide | omega)), (by have : (0 : Int32).toInt = 0 := (by decide); omega)⟩), by (try dsimp only); rw [ht]; exact ⟨hT, hF⟩⟩, hS.F ht⟩) hS.2.2 dX12_noFarm_19
  · have t13 : r3.toInt = 0 := ti_eq c9 rfl (by decide)
    have t14 : (0 : Int32).toInt = 0 := by decide
    have t15 : w.toInt < (0 : Int32).toInt ∨ x1.toInt < w.toInt := hi8 c9
    refine lv_iconst (v := 1) hx hb dX12_noFarm_14 (by decide) ?_
    refine lv_goto (tgt := 19) hx hb dX12_noFarm_15 (by decide) ?_
    exact W.zret (v := 1) hx hb hr (by decide) (fun t ht hW => ⟨⟨1, (), rfl, (by exact ⟨(rg_t (a := 1) (by decide) (by first | decide | omega) (by first | decide | omega)), (by have : (1 : Int32).toInt = 1 := (by decide); omega)⟩), by (try dsimp only); rw [ht]; exact ⟨hT, hF⟩⟩, hS.F ht⟩) hS.2.2 dX12_noFarm_19
def w_s_sowC : List Cond := .code yX12_sow cX12_sow 4 (some .boolean) :: (HAppend.hAppend (α := List Cond) (β := List Cond) (γ := List Cond) [.fieldLink RX12 194 "SeaLandModel" "thrown" "I", .code yX12_noFarm cX12_noFarm 2 (some .boolean), .fieldLink RX12 498 "SeaLandModel" "farms" "I", .code yX12_in cX12_in 3 (some .boolean), .methodLink RX12 197 yX12_in, .static yX12_in, .initialized RX12, .methodLink RX12 502 yX12_noFarm, .instanceMethod yX12_noFarm, .selects RX12 yX12_noFarm yX12_noFarm, .code yX12_throwsIf cX12_throwsIf 3 (some .boolean), .methodLink RX12 224 yX12_throwsIf, .instanceMethod yX12_throwsIf, .selects RX12 yX12_throwsIf yX12_throwsIf, .fieldLink RX12 119 "SeaLandModel" "crop" "[I"] bs)
set_option maxHeartbeats 4000000 in
set_option maxRecDepth 100000 in
theorem s_sowC (l : Launch) (dC : Nat → ClassId) (dI : Nat → Nat → Nat) (kA : Nat → ClassId) (adK adV : Nat → Nat) (G : gT) (H0 : Heap) (q : Nat → Nat) (wZ wN : Nat → Int) (wH wB wC : Int) (wL wK : Nat → Prop) (wU wV : Nat → Nat) (PI : Nat → Int → Prop) (im : Int) (PM PT : Nat → Int → Prop) (lS lB lE : Nat → Nat → Int → Prop) (lN : Nat → Int) (o0 : Nat) (p0 : Int32) (p1 : Int32) (nf : Int32) (aCr : Nat → Int32)  (hT : gH (dC, dI) kA (SHm q (wP wZ wN wH wB wC wL wK wU wV) PI im PM PT lS lB lE lN) G H0) (hr_o0 : G o0 = some 0) (hm_nf : el H0 o0 (dI 15 47) = some (.int nf)) (hq0 : 0 ≤ nf.toInt ∧ nf.toInt ≤ 30) (hc_aCr : ct H0 (q 45) 30 aCr) (hgz : ∀ i, 0 ≤ wZ i) (hgn : ∀ i, 6500000 ≤ wN i ∧ wN i ≤ 20200000) (hgh : 0 ≤ wH ∧ wH ≤ 40000) (hgb : 0 ≤ wB ∧ wB ≤ 3850000) (hgc : 0 ≤ wC ∧ wC ≤ 30) (hgi : 0 ≤ im ∧ im ≤ 1) (hgu : ∀ a t, G a = some (t + 1) → a = q t) : Met l yX12_sow w_s_sowC ({ frames := 2, cells := 0, slots := 0, locals := 43 }) (va_Pc [.ref o0, .int p0, .int p1] (fun U => U.heap = H0 ∧ va_K (dC, dI) vwCl (tyl kA) U ∧ EVS adK adV (gA G H0.size) U U.heap)) (va_Qi (fun (r : Int32) (u : Int32 × (Nat → Int32)) => match u with | (t1, aCr1) => (0 ≤ r.toInt ∧ r.toInt ≤ 1) ∧ ((soC nf.toInt p0.toInt p1.toInt = 0 ∧ t1.toInt = 0 ∧ ((r.toInt = 0 ∧ (aCr p0.toNatClampNeg).toInt = p1.toInt) ∨ (r.toInt = 1 ∧ (aCr p0.toNatClampNeg).toInt ≠ p1.toInt)) ∧ aCr1 = cu aCr p0.toNatClampNeg p1) ∨ (soC nf.toInt p0.toInt p1.toInt ≠ 0 ∧ t1.toInt = soC nf.toInt p0.toInt p1.toInt ∧ aCr1 = aCr))) (fun (u : Int32 × (Nat → Int32)) (t : State) => match u with | (t1, aCr1) => gH (dC, dI) kA (SHm q (wP wZ wN wH wB wC wL wK wU wV) PI im PM PT lS lB lE lN) G t.heap ∧ gF (dC, dI) SKm G ([(0, 0), (46, 0)] : List (Nat × Nat)) H0 t.heap ∧ el t.heap o0 (dI 15 0) = some (.int t1) ∧ ct t.heap (q 45) 30 aCr1) (gA G H0.size)) 0 0 (gA G H0.size) := by
  refine Met.ofW (cc := cX12_sow) (maxL := 4) (ret := (some .boolean)) (by decide) rfl ?_
  intro p e s m args below meth c s₁ B hml hv
  obtain ⟨rfl, hH0, hK, hE⟩ := hv
  have hx := B.exec
  have hb := B.bytes
  have hr := B.returns
  have hts := atoms_spec (ws := w_s_sowC) B.pre
  have hown : s.vm.findClass RX12 = some m.cls := findClass_of_methodNamed B.named
  have hlocks := B.notSynchronized
  subst hH0
  generalize hAe : gA G s.heap.size = A at hE ⊢
  have hA : ∀ q : Nat, s.heap.size ≤ q → A q := fun q h => by rw [← hAe]; exact Or.inr h
  have hG := gA_of hAe
  have hS : va_S A s.heap s.heap [] := va_S.rf
  have hF : gF (dC, dI) SKm G ([(0, 0), (46, 0)] : List (Nat × Nat)) s.heap s.heap := gF.rf
  have hl := lv_entry ([.ref o0, .int p0, .int p1]) (n := 4) (Nat.le_of_ble_eq_true rfl)
  rw [lg_entry_eq]
  generalize (lg_sl ([.ref o0, .int p0, .int p1]) ++ List.replicate (4 - (lg_sl ([.ref o0, .int p0, .int p1])).length) Slot.unset).toArray = ls at hl ⊢
  have hl : lv_has ls 4 [(0, .ref o0), (1, .int p0), (2, .int p1)] := hl
  have hg1 : G (q 45) = some 46 := gx_of hT hr_o0 shm_0 (k := 45) (by decide) rfl
  refine lv_aload_n hx hb dX12_sow_0 rfl (lv_at hl 0 rfl) ?_
  refine lv_iconst (v := 0) hx hb dX12_sow_1 (by decide) ?_
  refine tw_put (v := .int 0) (ty := .int) hx hb hts bF_X12 tyX12 tyX12_ok nmX12 hown hK hT hG hS hr_o0 shm_0 rfl 0 (by decide) (ht_at hts 0 rfl) (fun _ h9 => h9) rfl (by decide +kernel) rfl rfl (gl_at rfl (gi_all _)) dX12_sow_2 (fun H locs hT oq m2 oj hS => ?_)
  have hF := hF.put hr_o0 skm_0 oq oj (by decide)
  have m3 := (oj 47 (by decide) (by decide)).trans hm_nf
  have m4 := hc_aCr.kept (oq _ (gne hg1 hr_o0 (by decide)))
  refine lv_aload_n hx hb dX12_sow_5 rfl (lv_at hl 0 rfl) ?_
  refine lv_aload_n hx hb dX12_sow_6 rfl (lv_at hl 0 rfl) ?_
  refine lv_iload_n hx hb dX12_sow_7 rfl (lv_at hl 1 rfl) ?_
  have hFc := gA_free hG hA hS
  refine va_calli (va_runV (As := [.int p0]) (rest := [.ref o0]) ⟨hx, hb, hml, hown, hts⟩ (s_noFarmE l dC dI kA adK adV G H q wZ wN wH wB wC wL wK wU wV PI im PM PT lS lB lE lN o0 p0 nf hT hr_o0 m3 (by have q8 := ti_all nf; omega) hgz hgn hgh hgb hgc hgi hgu) (cwV 1 hts (goodIn_app (goodIn_r _ [8, 9, 10, 7] rfl (by decide +kernel)) (goodIn_ca (goodIn_r _ [2, 3, 4, 5, 6, 7] rfl (by decide +kernel)) (bs_in _ _))) rfl rfl rfl (by decide +kernel) ⟨(Nat.le_of_ble_eq_true rfl), (Nat.le_of_ble_eq_true rfl)⟩) ⟨fun a U g mk q => by obtain ⟨q0, q1, qK, qE⟩ := q; exact ⟨q0, q1, va_K.moved (u := U) (U := U.calling g mk a) (Vm.Alike.refl U.vm) qK, EVS.blind g mk a qE⟩, gH_rc hK hT hr_o0 shm_0 rfl, fun U hU hW => ⟨rfl, hU, va_K.moved hW.alike hK, hE.call hS hFc hU hW⟩⟩ rfl rfl hl.1 rfl (lv_room (Nat.le_of_ble_eq_true rfl)) dX12_sow_8 ⟨(Nat.le_of_ble_eq_true rfl), (Nat.le_of_ble_eq_true rfl)⟩) hS (fun q _ h => hFc q h) hFc (fun r5 u t H locs ht hvm hw6 hB _ _ hS => ?_)
  obtain ⟨hT, hF1⟩ := hB
  rw [ht] at hT hF1
  have m8 := m4.kept (hF1.arr hg1 skm_46 (by decide))
  have m9 := (hF1.fld hr_o0 skm_0 (k := 0) (by decide) (by decide)).trans m2
  have hF := hF.more hF1 (by decide)
  try dsimp only at hw6
  obtain ⟨h10, hf11⟩ := hw6
  refine lv_iconst (v := 1) hx hb dX12_sow_11 (by decide) ?_
  have hFc := gA_free hG hA hS
  refine va_calli (va_runV (As := [.int r5, .int 1]) (rest := []) ⟨hx, hb, hml, hown, hts⟩ (s_throwsIfP l dC dI kA adK adV G H q wZ wN wH wB wC wL wK wU wV PI im PM PT lS lB lE lN o0 r5 1 0 hT hr_o0 m9 (by have q8 := ti_all r5; omega) hgz hgn hgh hgb hgc hgi hgu) (cwV 2 hts (goodIn_app (goodIn_r _ [12, 13, 14, 7] rfl (by decide +kernel)) (goodIn_ca (goodIn_r _ [11, 1] rfl (by decide +kernel)) (bs_in _ _))) rfl rfl rfl (by decide +kernel) ⟨(Nat.le_of_ble_eq_true rfl), (Nat.le_of_ble_eq_true rfl)⟩) ⟨fun a U g mk q => by obtain ⟨q0, q1, qK, qE⟩ := q; exact ⟨q0, q1, va_K.moved (u := U) (U := U.calling g mk a) (Vm.Alike.refl U.vm) qK, EVS.blind g mk a qE⟩, gH_rc hK hT hr_o0 shm_0 rfl, fun U hU hW => ⟨rfl, hU, va_K.moved hW.alike hK, hE.call hS hFc hU hW⟩⟩ rfl rfl hl.1 rfl (lv_room (Nat.le_of_ble_eq_true rfl)) dX12_sow_12 ⟨(Nat.le_of_ble_eq_true rfl), (Nat.le_of_ble_eq_true rfl)⟩) hS (fun q _ h => hFc q h) hFc (fun r12 u t H locs ht hvm hw13 hB _ _ hS => ?_)
  obtain ⟨u14, rfl⟩ : ∃ z, z = u := ⟨_, rfl⟩
  obtain ⟨hT, hF1, m15⟩ := hB
  rw [ht] at hT hF1 m15
  have m17 := m8.kept (hF1.arr hg1 skm_46 (by decide))
  have hF := hF.more hF1 (by decide)
  try dsimp only at hw13
  obtain ⟨h19, hf20, hd21⟩ := hw13
  have t22 : (1 : Int32).toInt = 1 := by decide
  have t23 : (0 : Int32).toInt = 0 := by decide
  obtain rfl : r5 = r12 := hd21.symm
  refine lv_if_ne (tgt := 40) hx hb dX12_sow_15 (by decide) (fun c24 => ?_) (fun c24 => ?_)
  · have t25 : r5.toInt ≠ 0 := ti_ne c24 rfl (by decide)
    refine lv_iconst (v := 0) hx hb dX12_sow_40 (by decide) ?_
    exact W.zret (v := 0) hx hb hr (by decide) (fun t ht hW => ⟨⟨0, (u14, aCr), rfl, (by exact ⟨(rg_t (a := 0) (by decide) (by first | decide | omega) (by first | decide | omega)), (Or.inr ⟨by have := soC_s nf.toInt p0.toInt p1.toInt; have q0 : (0 : Int32).toInt = 0 := (by decide); have q1 : (1 : Int32).toInt = 1 := (by decide); have q2 : (2 : Int32).toInt = 2 := (by decide); have q3 : (3 : Int32).toInt = 3 := (by decide); have qm : (-1 : Int32).toInt = -1 := (by decide); omega, by have := soC_s nf.toInt p0.toInt p1.toInt; have q0 : (0 : Int32).toInt = 0 := (by decide); have q1 : (1 : Int32).toInt = 1 := (by decide); have q2 : (2 : Int32).toInt = 2 := (by decide); have q3 : (3 : Int32).toInt = 3 := (by decide); have qm : (-1 : Int32).toInt = -1 := (by decide); omega, rfl⟩)⟩), by (try dsimp only); rw [ht]; exact ⟨hT, hF, m15, m17⟩⟩, hS.F ht⟩) hS.2.2 dX12_sow_41
  · have t26 : r5.toInt = 0 := ti_eq c24 rfl (by decide)
    refine lv_aload_n hx hb dX12_sow_18 rfl (lv_at hl 0 rfl) ?_
    refine lv_iload_n hx hb dX12_sow_19 rfl (lv_at hl 2 rfl) ?_
    refine lv_iconst (v := 0) hx hb dX12_sow_20 (by decide) ?_
    refine lv_iconst (v := 3) hx hb dX12_sow_21 (by decide) ?_
    have hFc := gA_free hG hA hS
    refine va_calli (va_runS (As := [.int p1, .int 0, .int 3]) (rest := [.ref o0]) ⟨hx, hb, hml, hown, hts⟩ (s_in l dC dI kA adK adV G H q wZ wN wH wB wC wL wK wU wV PI im PM PT lS lB lE lN p1 0 3 hT hgz hgn hgh hgb hgc hgi hgu) (va_cwS 3 hts (goodIn_app (goodIn_r _ [5, 6, 7] rfl (by decide +kernel)) (goodIn_ca (goodIn_r _ [4] rfl (by decide +kernel)) (bs_in _ _))) rfl rfl rfl (by decide +kernel) ⟨(Nat.le_of_ble_eq_true rfl), (Nat.le_of_ble_eq_true rfl)⟩) ⟨fun a U g mk q => by obtain ⟨q0, q1, qK, qE⟩ := q; exact ⟨q0, q1, va_K.moved (u := U) (U := U.calling g mk a) (Vm.Alike.refl U.vm) qK, EVS.blind g mk a qE⟩, fun U hU hW => ⟨rfl, hU, va_K.moved hW.alike hK, hE.call hS hFc hU hW⟩⟩ rfl rfl hl.1 rfl (lv_room (Nat.le_of_ble_eq_true rfl)) dX12_sow_22 ⟨(Nat.le_of_ble_eq_true rfl), (Nat.le_of_ble_eq_true rfl)⟩) hS (fun q _ h => hFc q h) hFc (fun r27 u t H locs ht hvm hw28 hB _ _ hS => ?_)
    obtain ⟨hT, hF1⟩ := hB
    rw [ht] at hT hF1
    have m30 := m17.kept (hF1.arr hg1 skm_46 (by decide))
    have m31 := (hF1.fld hr_o0 skm_0 (k := 0) (by decide) (by decide)).trans m15
    have hF := hF.more hF1 (by decide)
    try dsimp only at hw28
    obtain ⟨h32, hi33, hi34⟩ := hw28
    refine lv_if_ne (tgt := 32) hx hb dX12_sow_25 (by decide) (fun c35 => ?_) (fun c35 => ?_)
    · have t36 : r27.toInt ≠ 0 := ti_ne c35 rfl (by decide)
      have t37 : (0 : Int32).toInt = 0 := by decide
      have t38 : (3 : Int32).toInt = 3 := by decide
      have t39 : (0 : Int32).toInt ≤ p1.toInt ∧ p1.toInt ≤ (3 : Int32).toInt := hi33 ((bit_of ⟨by omega, by omega⟩).resolve_left c35)
      refine lv_iconst (v := 0) hx hb dX12_sow_32 (by decide) ?_
      refine lv_iconst (v := 2) hx hb dX12_sow_33 (by decide) ?_
      have hFc := gA_free hG hA hS
      refine va_calli (va_runV (As := [.int 0, .int 2]) (rest := []) ⟨hx, hb, hml, hown, hts⟩ (s_throwsIfP l dC dI kA adK adV G H q wZ wN wH wB wC wL wK wU wV PI im PM PT lS lB lE lN o0 0 2 u14 hT hr_o0 m31 (rg_t (a := 0) (by decide) (by first | decide | omega) (by first | decide | omega)) hgz hgn hgh hgb hgc hgi hgu) (cwV 2 hts (goodIn_app (goodIn_r _ [12, 13, 14, 7] rfl (by decide +kernel)) (goodIn_ca (goodIn_r _ [11, 1] rfl (by decide +kernel)) (bs_in _ _))) rfl rfl rfl (by decide +kernel) ⟨(Nat.le_of_ble_eq_true rfl), (Nat.le_of_ble_eq_true rfl)⟩) ⟨fun a U g mk q => by obtain ⟨q0, q1, qK, qE⟩ := q; exact ⟨q0, q1, va_K.moved (u := U) (U := U.calling g mk a) (Vm.Alike.refl U.vm) qK, EVS.blind g mk a qE⟩, gH_rc hK hT hr_o0 shm_0 rfl, fun U hU hW => ⟨rfl, hU, va_K.moved hW.alike hK, hE.call hS hFc hU hW⟩⟩ rfl rfl hl.1 rfl (lv_room (Nat.le_of_ble_eq_true rfl)) dX12_sow_34 ⟨(Nat.le_of_ble_eq_true rfl), (Nat.le_of_ble_eq_true rfl)⟩) hS (fun q _ h => hFc q h) hFc (fun r40 u t H locs ht hvm hw41 hB _ _ hS => ?_)
      obtain ⟨u42, rfl⟩ : ∃ z, z = u := ⟨_, rfl⟩
      obtain ⟨hT, hF1, m43⟩ := hB
      rw [ht] at hT hF1 m43
      have m45 := m30.kept (hF1.arr hg1 skm_46 (by decide))
      have hF := hF.more hF1 (by decide)
      try dsimp only at hw41
      obtain ⟨h47, hf48, hd49⟩ := hw41
      have t50 : (0 : Int32).toInt = 0 := by decide
      have t51 : (2 : Int32).toInt = 2 := by decide
      obtain rfl : (0 : Int32) = r40 := hd49.symm
      refine lv_if_eq (tgt := 42) hx hb dX12_sow_37 (by decide) (fun c52 => ?_) (fun c52 => absurd c52 (by decide))
      refine lv_aload_n hx hb dX12_sow_42 rfl (lv_at hl 0 rfl) ?_
      refine tw_get hx hb hts bF_X12 hown hK hT hr_o0 shm_0 rfl 45 (by decide) (ht_at hts 14 rfl) (fun _ h9 => h9) dX12_sow_43 (fun v9 m53 h9 => ?_)
      obtain ⟨rfl, hg54⟩ := h9 _ rfl
      refine lv_iload_n hx hb dX12_sow_46 rfl (lv_at hl 1 rfl) ?_
      refine tw_iald (i := p0) hx hb hK hT hg1 shm_46 rfl (vin_t (a := p0.toInt) rfl (by omega) (by omega)) dX12_sow_47 (fun v9 m55 h9 => ?_)
      obtain ⟨x56, rfl, gx56, kx56⟩ := h9
      have cx56 := m45.at m55 (by have q9 := tn_of (show p0.toInt = p0.toInt from rfl) (by omega); omega)
      refine lv_iload_n hx hb dX12_sow_48 rfl (lv_at hl 2 rfl) ?_
      refine lv_icmp_eq (tgt := 56) hx hb dX12_sow_49 (by decide) (fun c57 => ?_) (fun c57 => ?_)
      · have t58 : x56.toInt = p1.toInt := ti_eq c57 rfl rfl
        refine lv_iconst (v := 0) hx hb dX12_sow_56 (by decide) ?_
        refine lv_istore_n (lv' := [(3, .int 0), (0, .ref o0), (1, .int p0), (2, .int p1)]) hx hb dX12_sow_57 rfl hl (by decide) rfl (fun ls hl => ?_)
        refine lv_aload_n hx hb dX12_sow_58 rfl (lv_at hl 1 rfl) ?_
        refine tw_get hx hb hts bF_X12 hown hK hT hr_o0 shm_0 rfl 45 (by decide) (ht_at hts 14 rfl) (fun _ h9 => h9) dX12_sow_59 (fun v9 m59 h9 => ?_)
        obtain ⟨rfl, hg60⟩ := h9 _ rfl
        refine lv_iload_n hx hb dX12_sow_62 rfl (lv_at hl 2 rfl) ?_
        refine lv_iload_n hx hb dX12_sow_63 rfl (lv_at hl 3 rfl) ?_
        refine tw_iast (i := p0) (x := p1) hx hb hK hT hG hS hg1 shm_46 rfl (vin_t (a := p0.toInt) rfl (by omega) (by omega)) (gi_all _) dX12_sow_64 (fun H locs hT oq m61 oi hS => ?_)
        have hF := hF.ast hg1 skm_46 oq (by decide)
        have m63 := m45.put m61 oi
        have m64 := (el_kept (oq _ (gne hr_o0 hg1 (by decide)))).trans m43
        refine lv_iload_n hx hb dX12_sow_65 rfl (lv_at hl 0 rfl) ?_
        exact W.zret (v := 0) hx hb hr (by decide) (fun t ht hW => ⟨⟨0, (u42, (cu aCr p0.toNatClampNeg p1)), rfl, (by exact ⟨(rg_t (a := 0) (by decide) (by first | decide | omega) (by first | decide | omega)), (Or.inl ⟨by have := soC_s nf.toInt p0.toInt p1.toInt; omega, by have q0 : (0 : Int32).toInt = 0 := (by decide); have q1 : (1 : Int32).toInt = 1 := (by decide); have q2 : (2 : Int32).toInt = 2 := (by decide); have q3 : (3 : Int32).toInt = 3 := (by decide); have qm : (-1 : Int32).toInt = -1 := (by decide); omega, by have c9 := congrArg Int32.toInt cx56; have q0 : (0 : Int32).toInt = 0 := (by decide); have q1 : (1 : Int32).toInt = 1 := (by decide); have q2 : (2 : Int32).toInt = 2 := (by decide); have q3 : (3 : Int32).toInt = 3 := (by decide); have qm : (-1 : Int32).toInt = -1 := (by decide); omega, rfl⟩)⟩), by (try dsimp only); rw [ht]; exact ⟨hT, hF, m64, m63⟩⟩, hS.F ht⟩) hS.2.2 dX12_sow_66
      · have t65 : x56.toInt ≠ p1.toInt := ti_ne c57 rfl rfl
        refine lv_iconst (v := 1) hx hb dX12_sow_52 (by decide) ?_
        refine lv_goto (tgt := 57) hx hb dX12_sow_53 (by decide) ?_
        refine lv_istore_n (lv' := [(3, .int 1), (0, .ref o0), (1, .int p0), (2, .int p1)]) hx hb dX12_sow_57 rfl hl (by decide) rfl (fun ls hl => ?_)
        refine lv_aload_n hx hb dX12_sow_58 rfl (lv_at hl 1 rfl) ?_
        refine tw_get hx hb hts bF_X12 hown hK hT hr_o0 shm_0 rfl 45 (by decide) (ht_at hts 14 rfl) (fun _ h9 => h9) dX12_sow_59 (fun v9 m66 h9 => ?_)
        obtain ⟨rfl, hg67⟩ := h9 _ rfl
        refine lv_iload_n hx hb dX12_sow_62 rfl (lv_at hl 2 rfl) ?_
        refine lv_iload_n hx hb dX12_sow_63 rfl (lv_at hl 3 rfl) ?_
        refine tw_iast (i := p0) (x := p1) hx hb hK hT hG hS hg1 shm_46 rfl (vin_t (a := p0.toInt) rfl (by omega) (by omega)) (gi_all _) dX12_sow_64 (fun H locs hT oq m68 oi hS => ?_)
        have hF := hF.ast hg1 skm_46 oq (by decide)
        have m70 := m45.put m68 oi
        have m71 := (el_kept (oq _ (gne hr_o0 hg1 (by decide)))).trans m43
        refine lv_iload_n hx hb dX12_sow_65 rfl (lv_at hl 0 rfl) ?_
        exact W.zret (v := 1) hx hb hr (by decide) (fun t ht hW => ⟨⟨1, (u42, (cu aCr p0.toNatClampNeg p1)), rfl, (by exact ⟨(rg_t (a := 1) (by decide) (by first | decide | omega) (by first | decide | omega)), (Or.inl ⟨by have := soC_s nf.toInt p0.toInt p1.toInt; omega, by have q0 : (0 : Int32).toInt = 0 := (by decide); have q1 : (1 : Int32).toInt = 1 := (by decide); have q2 : (2 : Int32).toInt = 2 := (by decide); have q3 : (3 : Int32).toInt = 3 := (by decide); have qm : (-1 : Int32).toInt = -1 := (by decide); omega, by have c9 := congrArg Int32.toInt cx56; have q0 : (0 : Int32).toInt = 0 := (by decide); have q1 : (1 : Int32).toInt = 1 := (by decide); have q2 : (2 : Int32).toInt = 2 := (by decide); have q3 : (3 : Int32).toInt = 3 := (by decide); have qm : (-1 : Int32).toInt = -1 := (by decide); omega, rfl⟩)⟩), by (try dsimp only); rw [ht]; exact ⟨hT, hF, m71, m70⟩⟩, hS.F ht⟩) hS.2.2 dX12_sow_66
    · have t72 : r27.toInt = 0 := ti_eq c35 rfl (by decide)
      have t73 : (0 : Int32).toInt = 0 := by decide
      have t74 : (3 : Int32).toInt = 3 := by decide
      have t75 : p1.toInt < (0 : Int32).toInt ∨ (3 : Int32).toInt < p1.toInt := hi34 c35
      refine lv_iconst (v := 1) hx hb dX12_sow_28 (by decide) ?_
      refine lv_goto (tgt := 33) hx hb dX12_sow_29 (by decide) ?_
      refine lv_iconst (v := 2) hx hb dX12_sow_33 (by decide) ?_
      have hFc := gA_free hG hA hS
      refine va_calli (va_runV (As := [.int 1, .int 2]) (rest := []) ⟨hx, hb, hml, hown, hts⟩ (s_throwsIfP l dC dI kA adK adV G H q wZ wN wH wB wC wL wK wU wV PI im PM PT lS lB lE lN o0 1 2 u14 hT hr_o0 m31 (rg_t (a := 1) (by decide) (by first | decide | omega) (by first | decide | omega)) hgz hgn hgh hgb hgc hgi hgu) (cwV 2 hts (goodIn_app (goodIn_r _ [12, 13, 14, 7] rfl (by decide +kernel)) (goodIn_ca (goodIn_r _ [11, 1] rfl (by decide +kernel)) (bs_in _ _))) rfl rfl rfl (by decide +kernel) ⟨(Nat.le_of_ble_eq_true rfl), (Nat.le_of_ble_eq_true rfl)⟩) ⟨fun a U g mk q => by obtain ⟨q0, q1, qK, qE⟩ := q; exact ⟨q0, q1, va_K.moved (u := U) (U := U.calling g mk a) (Vm.Alike.refl U.vm) qK, EVS.blind g mk a qE⟩, gH_rc hK hT hr_o0 shm_0 rfl, fun U hU hW => ⟨rfl, hU, va_K.moved hW.alike hK, hE.call hS hFc hU hW⟩⟩ rfl rfl hl.1 rfl (lv_room (Nat.le_of_ble_eq_true rfl)) dX12_sow_34 ⟨(Nat.le_of_ble_eq_true rfl), (Nat.le_of_ble_eq_true rfl)⟩) hS (fun q _ h => hFc q h) hFc (fun r76 u t H locs ht hvm hw77 hB _ _ hS => ?_)
      obtain ⟨u78, rfl⟩ : ∃ z, z = u := ⟨_, rfl⟩
      obtain ⟨hT, hF1, m79⟩ := hB
      rw [ht] at hT hF1 m79
      have m81 := m30.kept (hF1.arr hg1 skm_46 (by decide))
      have hF := hF.more hF1 (by decide)
      try dsimp only at hw77
      obtain ⟨h83, hf84, hd85⟩ := hw77
      have t86 : (1 : Int32).toInt = 1 := by decide
      have t87 : (2 : Int32).toInt = 2 := by decide
      obtain rfl : (1 : Int32) = r76 := hd85.symm
      refine lv_if_eq (tgt := 42) hx hb dX12_sow_37 (by decide) (fun c88 => absurd c88 (by decide)) (fun c88 => ?_)
      refine lv_iconst (v := 0) hx hb dX12_sow_40 (by decide) ?_
      exact W.zret (v := 0) hx hb hr (by decide) (fun t ht hW => ⟨⟨0, (u78, aCr), rfl, (by exact ⟨(rg_t (a := 0) (by decide) (by first | decide | omega) (by first | decide | omega)), (Or.inr ⟨by have := soC_s nf.toInt p0.toInt p1.toInt; have q0 : (0 : Int32).toInt = 0 := (by decide); have q1 : (1 : Int32).toInt = 1 := (by decide); have q2 : (2 : Int32).toInt = 2 := (by decide); have q3 : (3 : Int32).toInt = 3 := (by decide); have qm : (-1 : Int32).toInt = -1 := (by decide); omega, by have := soC_s nf.toInt p0.toInt p1.toInt; have q0 : (0 : Int32).toInt = 0 := (by decide); have q1 : (1 : Int32).toInt = 1 := (by decide); have q2 : (2 : Int32).toInt = 2 := (by decide); have q3 : (3 : Int32).toInt = 3 := (by decide); have qm : (-1 : Int32).toInt = -1 := (by decide); omega, rfl⟩)⟩), by (try dsimp only); rw [ht]; exact ⟨hT, hF, m79, m81⟩⟩, hS.F ht⟩) hS.2.2 dX12_sow_41
def fds (k : Nat) : Int32 := if k % 4 = 0 then 24 else if k % 4 = 1 then 16 else if k % 4 = 2 then 8 else 0
theorem fds_s (k : Nat) : (fds k).toInt = 24 - 8 * ((k % 4 : Nat) : Int) := by
  unfold fds
  by_cases h0 : k % 4 = 0
  · rw [if_pos h0, h0]; decide
  · rw [if_neg h0]
    by_cases h1 : k % 4 = 1
    · rw [if_pos h1, h1]; decide
    · rw [if_neg h1]
      by_cases h2 : k % 4 = 2
      · rw [if_pos h2, h2]; decide
      · rw [if_neg h2, show k % 4 = 3 from by omega]; decide
def fdv (a b c d e : Int32) (k : Nat) : Int32 := if k = 0 then a else if k = 1 then b else if k = 2 then c else if k = 3 then d else e
def fdK (V : Nat → Int32) (n : Nat) (a b c d e : Int32) : Nat → Nat → Int32
  | 0 => V
  | k + 1 => cu (fdK V n a b c d e k) (n + k) (sb (fdv a b c d e (k / 4)) (fds k))
theorem fdK_4 {V : Nat → Int32} {n : Nat} {a b c d e : Int32} (k : Nat) : fdK V n a b c d e (k + 4) = cu (cu (cu (cu (fdK V n a b c d e k) (n + k) (sb (fdv a b c d e (k / 4)) (fds k))) (n + (k + 1)) (sb (fdv a b c d e ((k + 1) / 4)) (fds (k + 1)))) (n + (k + 2)) (sb (fdv a b c d e ((k + 2) / 4)) (fds (k + 2)))) (n + (k + 3)) (sb (fdv a b c d e ((k + 3) / 4)) (fds (k + 3))) := rfl
theorem fdK_q {V : Nat → Int32} {n : Nat} {a b c d e : Int32} (j : Nat) : fdK V n a b c d e (4 * j + 4) = f4S (fdK V n a b c d e (4 * j)) (n + 4 * j) (fdv a b c d e j) := by
  have s0 : fds (4 * j) = 24 := Int32.toInt_inj.mp ((fds_s _).trans (by rw [show 4 * j % 4 = 0 from by omega]; decide))
  have s1 : fds (4 * j + 1) = 16 := Int32.toInt_inj.mp ((fds_s _).trans (by rw [show (4 * j + 1) % 4 = 1 from by omega]; decide))
  have s2 : fds (4 * j + 2) = 8 := Int32.toInt_inj.mp ((fds_s _).trans (by rw [show (4 * j + 2) % 4 = 2 from by omega]; decide))
  have s3 : fds (4 * j + 3) = 0 := Int32.toInt_inj.mp ((fds_s _).trans (by rw [show (4 * j + 3) % 4 = 3 from by omega]; decide))
  rw [fdK_4, s0, s1, s2, s3, show 4 * j / 4 = j from by omega, show (4 * j + 1) / 4 = j from by omega, show (4 * j + 2) / 4 = j from by omega, show (4 * j + 3) / 4 = j from by omega, ← Nat.add_assoc, ← Nat.add_assoc, ← Nat.add_assoc]
  rfl
theorem fdK_20 {V : Nat → Int32} {n : Nat} {a b c d e : Int32} : fdK V n a b c d e 20 = fdS V n a b c d e := by
  rw [show (20 : Nat) = 4 * 4 + 4 from rfl, fdK_q, show 4 * 4 = 4 * 3 + 4 from rfl, fdK_q, show 4 * 3 = 4 * 2 + 4 from rfl, fdK_q, show 4 * 2 = 4 * 1 + 4 from rfl, fdK_q, show 4 * 1 = 4 * 0 + 4 from rfl, fdK_q]
  rfl
theorem fdK_s {V : Nat → Int32} {n k i : Nat} {a b c d e x y s z : Int32} (hi : i = n + k) (hx : x = fdv a b c d e (k / 4)) (hs : s.toInt = 24 - 8 * ((k % 4 : Nat) : Int)) (hy : y = x >>> (s &&& 31)) (hz : z = y.toInt8.toInt32) (j : Nat) : cu (fdK V n a b c d e k) i z j = fdK V n a b c d e (k + 1) j := by
  have hs' : s = fds k := Int32.toInt_inj.mp (hs.trans (fds_s k).symm)
  rw [hz, hy, hx, hs', hi]
  rfl
theorem fdv_5 {v : Nat → Int32} {a b c d e : Int32} {j : Nat} (h : j < 5) : cu (cu (cu (cu (cu v (0 : Int32).toNatClampNeg a) (1 : Int32).toNatClampNeg b) (2 : Int32).toNatClampNeg c) (3 : Int32).toNatClampNeg d) (4 : Int32).toNatClampNeg e j = fdv a b c d e j := by
  rcases (show j = 0 ∨ j = 1 ∨ j = 2 ∨ j = 3 ∨ j = 4 by omega) with rfl | rfl | rfl | rfl | rfl
  · rw [cu_o (by decide), cu_o (by decide), cu_o (by decide), cu_o (by decide), cu_s (by decide)]; rfl
  · rw [cu_o (by decide), cu_o (by decide), cu_o (by decide), cu_s (by decide)]; rfl
  · rw [cu_o (by decide), cu_o (by decide), cu_s (by decide)]; rfl
  · rw [cu_o (by decide), cu_s (by decide)]; rfl
  · rw [cu_s (by decide)]; rfl
def w_s_feedC : List Cond := .code yX12_feed cX12_feed 7 (some .int) :: (HAppend.hAppend (α := List Cond) (β := List Cond) (γ := List Cond) [.fieldLink RX12 194 "SeaLandModel" "thrown" "I", .fieldLink RX12 332 "SeaLandModel" "taped" "I", .fieldLink RX12 39 "SeaLandModel" "five" "[I", .fieldLink RX12 31 "SeaLandModel" "tape" "[B"] bs)
set_option maxHeartbeats 4000000 in
set_option maxRecDepth 100000 in
theorem s_feedC (l : Launch) (dC : Nat → ClassId) (dI : Nat → Nat → Nat) (kA : Nat → ClassId) (adK adV : Nat → Nat) (G : gT) (H0 : Heap) (q : Nat → Nat) (wZ wN : Nat → Int) (wH wB wC : Int) (wL wK : Nat → Prop) (wU wV : Nat → Nat) (PI : Nat → Int → Prop) (im : Int) (PM PT : Nat → Int → Prop) (lS lB lE : Nat → Nat → Int → Prop) (lN : Nat → Int) (o0 : Nat) (p0 : Int32) (p1 : Int32) (p2 : Int32) (p3 : Int32) (p4 : Int32) (tn : Int32) (vt : Nat → Int32)  (hT : gH (dC, dI) kA (SHm q (wP wZ wN wH wB wC wL wK wU wV) PI im PM PT lS lB lE lN) G H0) (hr_o0 : G o0 = some 0) (hm_tn : el H0 o0 (dI 15 11) = some (.int tn)) (hq0 : 0 ≤ tn.toInt ∧ tn.toInt ≤ 400) (hc_vt : ct H0 (q 10) 400 vt) (hgz : ∀ i, 0 ≤ wZ i) (hgn : ∀ i, 6500000 ≤ wN i ∧ wN i ≤ 20200000) (hgh : 0 ≤ wH ∧ wH ≤ 40000) (hgb : 0 ≤ wB ∧ wB ≤ 3850000) (hgc : 0 ≤ wC ∧ wC ≤ 30) (hgi : 0 ≤ im ∧ im ≤ 1) (hgu : ∀ a t, G a = some (t + 1) → a = q t) : Met l yX12_feed w_s_feedC ({ frames := 0, cells := 0, slots := 0, locals := 0 }) (va_Pc [.ref o0, .int p0, .int p1, .int p2, .int p3, .int p4] (fun U => U.heap = H0 ∧ va_K (dC, dI) vwCl (tyl kA) U ∧ EVS adK adV (gA G H0.size) U U.heap)) (va_Qi (fun (r : Int32) (u : Int32 × (Nat → Int32)) => match u with | (t1, vt1) => (-1 ≤ r.toInt ∧ r.toInt ≤ 400) ∧ ((tn.toInt ≤ 380 ∧ r.toInt = tn.toInt + 20 ∧ t1.toInt = tn.toInt + 20 ∧ vt1 = fdS vt tn.toNatClampNeg p0 p1 p2 p3 p4) ∨ (380 < tn.toInt ∧ r.toInt = -1 ∧ t1.toInt = tn.toInt ∧ vt1 = vt))) (fun (u : Int32 × (Nat → Int32)) (t : State) => match u with | (t1, vt1) => gH (dC, dI) kA (SHm q (wP wZ wN wH wB wC wL wK wU wV) PI im PM PT lS lB lE lN) G t.heap ∧ gF (dC, dI) SKm G ([(0, 0), (0, 11), (11, 0), (18, 0)] : List (Nat × Nat)) H0 t.heap ∧ el t.heap o0 (dI 15 11) = some (.int t1) ∧ ct t.heap (q 10) 400 vt1) (gA G H0.size)) 0 0 (gA G H0.size) := by
  refine Met.ofW (cc := cX12_feed) (maxL := 7) (ret := (some .int)) (by decide) rfl ?_
  intro p e s m args below meth c s₁ B hml hv
  obtain ⟨rfl, hH0, hK, hE⟩ := hv
  have hx := B.exec
  have hb := B.bytes
  have hr := B.returns
  have hts := atoms_spec (ws := w_s_feedC) B.pre
  have hown : s.vm.findClass RX12 = some m.cls := findClass_of_methodNamed B.named
  have hlocks := B.notSynchronized
  subst hH0
  generalize hAe : gA G s.heap.size = A at hE ⊢
  have hA : ∀ q : Nat, s.heap.size ≤ q → A q := fun q h => by rw [← hAe]; exact Or.inr h
  have hG := gA_of hAe
  have hS : va_S A s.heap s.heap [] := va_S.rf
  have hF : gF (dC, dI) SKm G ([(0, 0), (0, 11), (11, 0), (18, 0)] : List (Nat × Nat)) s.heap s.heap := gF.rf
  have hl := lv_entry ([.ref o0, .int p0, .int p1, .int p2, .int p3, .int p4]) (n := 7) (Nat.le_of_ble_eq_true rfl)
  rw [lg_entry_eq]
  generalize (lg_sl ([.ref o0, .int p0, .int p1, .int p2, .int p3, .int p4]) ++ List.replicate (7 - (lg_sl ([.ref o0, .int p0, .int p1, .int p2, .int p3, .int p4])).length) Slot.unset).toArray = ls at hl ⊢
  have hl : lv_has ls 7 [(0, .ref o0), (1, .int p0), (2, .int p1), (3, .int p2), (4, .int p3), (5, .int p4)] := hl
  have hg1 : G (q 10) = some 11 := gx_of hT hr_o0 shm_0 (k := 10) (by decide) rfl
  refine lv_aload_n hx hb dX12_feed_0 rfl (lv_at hl 0 rfl) ?_
  refine lv_iconst (v := 0) hx hb dX12_feed_1 (by decide) ?_
  refine tw_put (v := .int 0) (ty := .int) hx hb hts bF_X12 tyX12 tyX12_ok nmX12 hown hK hT hG hS hr_o0 shm_0 rfl 0 (by decide) (ht_at hts 0 rfl) (fun _ h9 => h9) rfl (by decide +kernel) rfl rfl (gl_at rfl (gi_all _)) dX12_feed_2 (fun H locs hT oq m2 oj hS => ?_)
  have hF := hF.put hr_o0 skm_0 oq oj (by decide)
  have m3 := (oj 11 (by decide) (by decide)).trans hm_tn
  have m4 := hc_vt.kept (oq _ (gne hg1 hr_o0 (by decide)))
  refine lv_aload_n hx hb dX12_feed_5 rfl (lv_at hl 0 rfl) ?_
  refine tw_getM (v := .int tn) hx hb hts bF_X12 hown hK hT hr_o0 shm_0 rfl 11 (by decide) (ht_at hts 1 rfl) (fun _ h9 => h9) m3 dX12_feed_6 ?_
  refine lv_bipush (v := 20) hx hb dX12_feed_9 (by decide) ?_
  refine lv_iadd hx hb dX12_feed_11 ?_
  refine lv_topi (fun x5 ex5 => ?_)
  have t6 : x5.toInt = tn.toInt + 20 := ti_add ex5 rfl (by decide) (by omega) (by omega)
  refine lv_sipush (v := 400) hx hb dX12_feed_12 (by decide) ?_
  refine lv_icmp_le (tgt := 20) hx hb dX12_feed_15 (by decide) (fun c7 => ?_) (fun c7 => ?_)
  · have t8 : x5.toInt ≤ 400 := ti_le c7 rfl (by decide)
    have hg9 : G (q 17) = some 18 := gx_of hT hr_o0 shm_0 (k := 17) (by decide) rfl
    obtain ⟨V10, m11, kV10⟩ := ct_of hT hg9 shm_18
    refine lv_aload_n hx hb dX12_feed_20 rfl (lv_at hl 0 rfl) ?_
    refine tw_get hx hb hts bF_X12 hown hK hT hr_o0 shm_0 rfl 17 (by decide) (ht_at hts 2 rfl) (fun _ h9 => h9) dX12_feed_21 (fun v9 m12 h9 => ?_)
    obtain ⟨rfl, hg13⟩ := h9 _ rfl
    refine lv_iconst (v := 0) hx hb dX12_feed_24 (by decide) ?_
    refine lv_iload_n hx hb dX12_feed_25 rfl (lv_at hl 1 rfl) ?_
    refine tw_iast (i := 0) (x := p0) hx hb hK hT hG hS hg9 shm_18 rfl (by unfold vp_in; decide) (gi_all _) dX12_feed_26 (fun H locs hT oq m14 oi hS => ?_)
    have hF := hF.ast hg9 skm_18 oq (by decide)
    have m15 := (el_kept (oq _ (gne hr_o0 hg9 (by decide)))).trans m3
    have m16 := m4.kept (oq _ (gne hg1 hg9 (by decide)))
    have m17 := (el_kept (oq _ (gne hr_o0 hg9 (by decide)))).trans m2
    have m18 := m11.put m14 oi
    refine lv_aload_n hx hb dX12_feed_27 rfl (lv_at hl 0 rfl) ?_
    refine tw_get hx hb hts bF_X12 hown hK hT hr_o0 shm_0 rfl 17 (by decide) (ht_at hts 2 rfl) (fun _ h9 => h9) dX12_feed_28 (fun v9 m19 h9 => ?_)
    obtain ⟨rfl, hg20⟩ := h9 _ rfl
    refine lv_iconst (v := 1) hx hb dX12_feed_31 (by decide) ?_
    refine lv_iload_n hx hb dX12_feed_32 rfl (lv_at hl 2 rfl) ?_
    refine tw_iast (i := 1) (x := p1) hx hb hK hT hG hS hg9 shm_18 rfl (by unfold vp_in; decide) (gi_all _) dX12_feed_33 (fun H locs hT oq m21 oi hS => ?_)
    have hF := hF.ast hg9 skm_18 oq (by decide)
    have m22 := (el_kept (oq _ (gne hr_o0 hg9 (by decide)))).trans m15
    have m23 := m16.kept (oq _ (gne hg1 hg9 (by decide)))
    have m24 := (el_kept (oq _ (gne hr_o0 hg9 (by decide)))).trans m17
    have m25 := m18.put m21 oi
    have m26 := (oi _ (tn_ne (show (0 : Int32).toInt = 0 from (by decide)) (show (1 : Int32).toInt = 1 from (by decide)) (by omega) (by omega) (by omega))).trans m14
    refine lv_aload_n hx hb dX12_feed_34 rfl (lv_at hl 0 rfl) ?_
    refine tw_get hx hb hts bF_X12 hown hK hT hr_o0 shm_0 rfl 17 (by decide) (ht_at hts 2 rfl) (fun _ h9 => h9) dX12_feed_35 (fun v9 m27 h9 => ?_)
    obtain ⟨rfl, hg28⟩ := h9 _ rfl
    refine lv_iconst (v := 2) hx hb dX12_feed_38 (by decide) ?_
    refine lv_iload_n hx hb dX12_feed_39 rfl (lv_at hl 3 rfl) ?_
    refine tw_iast (i := 2) (x := p2) hx hb hK hT hG hS hg9 shm_18 rfl (by unfold vp_in; decide) (gi_all _) dX12_feed_40 (fun H locs hT oq m29 oi hS => ?_)
    have hF := hF.ast hg9 skm_18 oq (by decide)
    have m30 := (el_kept (oq _ (gne hr_o0 hg9 (by decide)))).trans m22
    have m31 := m23.kept (oq _ (gne hg1 hg9 (by decide)))
    have m32 := (el_kept (oq _ (gne hr_o0 hg9 (by decide)))).trans m24
    have m33 := m25.put m29 oi
    have m34 := (oi _ (tn_ne (show (0 : Int32).toInt = 0 from (by decide)) (show (2 : Int32).toInt = 2 from (by decide)) (by omega) (by omega) (by omega))).trans m26
    have m35 := (oi _ (tn_ne (show (1 : Int32).toInt = 1 from (by decide)) (show (2 : Int32).toInt = 2 from (by decide)) (by omega) (by omega) (by omega))).trans m21
    refine lv_aload_n hx hb dX12_feed_41 rfl (lv_at hl 0 rfl) ?_
    refine tw_get hx hb hts bF_X12 hown hK hT hr_o0 shm_0 rfl 17 (by decide) (ht_at hts 2 rfl) (fun _ h9 => h9) dX12_feed_42 (fun v9 m36 h9 => ?_)
    obtain ⟨rfl, hg37⟩ := h9 _ rfl
    refine lv_iconst (v := 3) hx hb dX12_feed_45 (by decide) ?_
    refine lv_iload hx hb dX12_feed_46 (lv_at hl 4 rfl) ?_
    refine tw_iast (i := 3) (x := p3) hx hb hK hT hG hS hg9 shm_18 rfl (by unfold vp_in; decide) (gi_all _) dX12_feed_48 (fun H locs hT oq m38 oi hS => ?_)
    have hF := hF.ast hg9 skm_18 oq (by decide)
    have m39 := (el_kept (oq _ (gne hr_o0 hg9 (by decide)))).trans m30
    have m40 := m31.kept (oq _ (gne hg1 hg9 (by decide)))
    have m41 := (el_kept (oq _ (gne hr_o0 hg9 (by decide)))).trans m32
    have m42 := m33.put m38 oi
    have m43 := (oi _ (tn_ne (show (0 : Int32).toInt = 0 from (by decide)) (show (3 : Int32).toInt = 3 from (by decide)) (by omega) (by omega) (by omega))).trans m34
    have m44 := (oi _ (tn_ne (show (1 : Int32).toInt = 1 from (by decide)) (show (3 : Int32).toInt = 3 from (by decide)) (by omega) (by omega) (by omega))).trans m35
    have m45 := (oi _ (tn_ne (show (2 : Int32).toInt = 2 from (by decide)) (show (3 : Int32).toInt = 3 from (by decide)) (by omega) (by omega) (by omega))).trans m29
    refine lv_aload_n hx hb dX12_feed_49 rfl (lv_at hl 0 rfl) ?_
    refine tw_get hx hb hts bF_X12 hown hK hT hr_o0 shm_0 rfl 17 (by decide) (ht_at hts 2 rfl) (fun _ h9 => h9) dX12_feed_50 (fun v9 m46 h9 => ?_)
    obtain ⟨rfl, hg47⟩ := h9 _ rfl
    refine lv_iconst (v := 4) hx hb dX12_feed_53 (by decide) ?_
    refine lv_iload hx hb dX12_feed_54 (lv_at hl 5 rfl) ?_
    refine tw_iast (i := 4) (x := p4) hx hb hK hT hG hS hg9 shm_18 rfl (by unfold vp_in; decide) (gi_all _) dX12_feed_56 (fun H locs hT oq m48 oi hS => ?_)
    have hF := hF.ast hg9 skm_18 oq (by decide)
    have m49 := (el_kept (oq _ (gne hr_o0 hg9 (by decide)))).trans m39
    have m50 := m40.kept (oq _ (gne hg1 hg9 (by decide)))
    have m51 := (el_kept (oq _ (gne hr_o0 hg9 (by decide)))).trans m41
    have m52 := m42.put m48 oi
    have m53 := (oi _ (tn_ne (show (0 : Int32).toInt = 0 from (by decide)) (show (4 : Int32).toInt = 4 from (by decide)) (by omega) (by omega) (by omega))).trans m43
    have m54 := (oi _ (tn_ne (show (1 : Int32).toInt = 1 from (by decide)) (show (4 : Int32).toInt = 4 from (by decide)) (by omega) (by omega) (by omega))).trans m44
    have m55 := (oi _ (tn_ne (show (2 : Int32).toInt = 2 from (by decide)) (show (4 : Int32).toInt = 4 from (by decide)) (by omega) (by omega) (by omega))).trans m45
    have m56 := (oi _ (tn_ne (show (3 : Int32).toInt = 3 from (by decide)) (show (4 : Int32).toInt = 4 from (by decide)) (by omega) (by omega) (by omega))).trans m38
    refine lv_iconst (v := 0) hx hb dX12_feed_57 (by decide) ?_
    refine lv_istore (lv' := [(6, .int 0), (0, .ref o0), (1, .int p0), (2, .int p1), (3, .int p2), (4, .int p3), (5, .int p4)]) hx hb dX12_feed_58 hl (by decide) rfl (fun ls hl => ?_)
    have key95 : ∀ (n95 i57 : Nat), i57 + n95 = 20 → 0 ≤ i57 → ∀ (H : Heap) (locs : List Loc), gH (dC, dI) kA (SHm q (wP wZ wN wH wB wC wL wK wU wV) PI im PM PT lS lB lE lN) G H → gF (dC, dI) SKm G ([(0, 0), (0, 11), (11, 0), (18, 0)] : List (Nat × Nat)) s.heap H → va_S A s.heap H locs → ct H (q 10) 400 (fdK vt tn.toNatClampNeg p0 p1 p2 p3 p4 i57) → ct H (q 17) 5 (cu (cu (cu (cu (cu V10 (0 : Int32).toNatClampNeg p0) (1 : Int32).toNatClampNeg p1) (2 : Int32).toNatClampNeg p2) (3 : Int32).toNatClampNeg p3) (4 : Int32).toNatClampNeg p4) → el H o0 (dI 15 11) = some (.int tn) → el H o0 (dI 15 0) = some (.int 0) → el H (q 17) (0 : Int32).toNatClampNeg = some (.int p0) → el H (q 17) (1 : Int32).toNatClampNeg = some (.int p1) → el H (q 17) (2 : Int32).toNatClampNeg = some (.int p2) → el H (q 17) (3 : Int32).toNatClampNeg = some (.int p3) → el H (q 17) (4 : Int32).toNatClampNeg = some (.int p4) → ∀ ls : Array Slot, lv_has ls 7 [(6, .int (nI i57)), (0, .ref o0), (1, .int p0), (2, .int p1), (3, .int p2), (4, .int p3), (5, .int p4)] → W p l e (headSpec w_s_feedC ({ frames := 0, cells := 0, slots := 0, locals := 0 })).room s m #[.ref o0, .int p0, .int p1, .int p2, .int p3, .int p4] below meth c H locs 0 0 (MQ below (va_Qi (fun (r : Int32) (u : Int32 × (Nat → Int32)) => match u with | (t1, vt1) => (-1 ≤ r.toInt ∧ r.toInt ≤ 400) ∧ ((tn.toInt ≤ 380 ∧ r.toInt = tn.toInt + 20 ∧ t1.toInt = tn.toInt + 20 ∧ vt1 = fdS vt tn.toNatClampNeg p0 p1 p2 p3 p4) ∨ (380 < tn.toInt ∧ r.toInt = -1 ∧ t1.toInt = tn.toInt ∧ vt1 = vt))) (fun (u : Int32 × (Nat → Int32)) (t : State) => match u with | (t1, vt1) => gH (dC, dI) kA (SHm q (wP wZ wN wH wB wC wL wK wU wV) PI im PM PT lS lB lE lN) G t.heap ∧ gF (dC, dI) SKm G ([(0, 0), (0, 11), (11, 0), (18, 0)] : List (Nat × Nat)) s.heap t.heap ∧ el t.heap o0 (dI 15 11) = some (.int t1) ∧ ct t.heap (q 10) 400 vt1) A) #[.ref o0, .int p0, .int p1, .int p2, .int p3, .int p4] s 0 0 A) (F0 m 60 ls []) := by
      intro n95
      induction n95 with
      | zero =>
        intro i57 hn95 hlo96  H locs hT hF hS m58 m59 m60 m61 m62 m63 m64 m65 m66 ls hl
        obtain rfl : 20 = i57 := by omega
        refine lv_iload hx hb dX12_feed_60 (lv_at hl 0 rfl) ?_
        refine lv_bipush (v := 20) hx hb dX12_feed_62 (by decide) ?_
        refine lv_icmp_ge (tgt := 106) hx hb dX12_feed_64 (by decide) (fun c97 => ?_) (fun c97 => (by exfalso; have q9 : ((20 : Nat) : Int) < 20 := ti_nle c97 (by decide) (nI_toInt (by omega)); omega))
        have t98 : 20 ≤ ((20 : Nat) : Int) := ti_le c97 (by decide) (nI_toInt (by omega))
        refine lv_aload_n hx hb dX12_feed_106 rfl (lv_at hl 1 rfl) ?_
        refine lv_dup hx hb dX12_feed_107 rfl ?_
        refine tw_getM (v := .int tn) hx hb hts bF_X12 hown hK hT hr_o0 shm_0 rfl 11 (by decide) (ht_at hts 1 rfl) (fun _ h9 => h9) m60 dX12_feed_108 ?_
        refine lv_bipush (v := 20) hx hb dX12_feed_111 (by decide) ?_
        refine lv_iadd hx hb dX12_feed_113 ?_
        refine lv_topi (fun x99 ex99 => ?_)
        have t100 : x99.toInt = tn.toInt + 20 := ti_add ex99 rfl (by decide) (by omega) (by omega)
        refine tw_put (v := .int x99) (ty := .int) hx hb hts bF_X12 tyX12 tyX12_ok nmX12 hown hK hT hG hS hr_o0 shm_0 rfl 11 (by decide) (ht_at hts 1 rfl) (fun _ h9 => h9) rfl (by decide +kernel) rfl rfl (gl_at rfl (gi_of (show x99.toInt = x99.toInt from rfl) (by omega) (by omega))) dX12_feed_114 (fun H locs hT oq m101 oj hS => ?_)
        have hF := hF.put hr_o0 skm_0 oq oj (by decide)
        have m102 := m58.kept (oq _ (gne hg1 hr_o0 (by decide)))
        refine lv_aload_n hx hb dX12_feed_117 rfl (lv_at hl 1 rfl) ?_
        refine tw_getM (v := .int x99) hx hb hts bF_X12 hown hK hT hr_o0 shm_0 rfl 11 (by decide) (ht_at hts 1 rfl) (fun _ h9 => h9) m101 dX12_feed_118 ?_
        exact W.iret (v := x99) hx hb hr (fun t ht hW => ⟨⟨x99, (x99, (fdK vt tn.toNatClampNeg p0 p1 p2 p3 p4 20)), rfl, (by exact ⟨(by have q8 := ti_all x99; omega), (Or.inl ⟨by omega, by omega, by omega, (by (try dsimp only); rw [show 20 = 20 from by omega]; exact fdK_20)⟩)⟩), by (try dsimp only); rw [ht]; exact ⟨hT, hF, m101, m102⟩⟩, hS.F ht⟩) hS.2.2 dX12_feed_121
      | succ n95 ih95 =>
        intro i57 hn95 hlo96  H locs hT hF hS m58 m59 m60 m61 m62 m63 m64 m65 m66 ls hl
        have hlt109 : i57 < 20 := by omega
        refine lv_iload hx hb dX12_feed_60 (lv_at hl 0 rfl) ?_
        refine lv_bipush (v := 20) hx hb dX12_feed_62 (by decide) ?_
        refine lv_icmp_ge (tgt := 106) hx hb dX12_feed_64 (by decide) (fun c110 => (by exfalso; have q9 : 20 ≤ ((i57 : Nat) : Int) := ti_le c110 (by decide) (nI_toInt (by omega)); omega)) (fun c110 => ?_)
        have t111 : ((i57 : Nat) : Int) < 20 := ti_nle c110 (by decide) (nI_toInt (by omega))
        refine lv_aload_n hx hb dX12_feed_67 rfl (lv_at hl 1 rfl) ?_
        refine tw_get hx hb hts bF_X12 hown hK hT hr_o0 shm_0 rfl 10 (by decide) (ht_at hts 3 rfl) (fun _ h9 => h9) dX12_feed_68 (fun v9 m112 h9 => ?_)
        obtain ⟨rfl, hg113⟩ := h9 _ rfl
        refine lv_aload_n hx hb dX12_feed_71 rfl (lv_at hl 1 rfl) ?_
        refine tw_getM (v := .int tn) hx hb hts bF_X12 hown hK hT hr_o0 shm_0 rfl 11 (by decide) (ht_at hts 1 rfl) (fun _ h9 => h9) m60 dX12_feed_72 ?_
        refine lv_iload hx hb dX12_feed_75 (lv_at hl 0 rfl) ?_
        refine lv_iadd hx hb dX12_feed_77 ?_
        refine lv_topi (fun x114 ex114 => ?_)
        have t115 : x114.toInt = tn.toInt + ((i57 : Nat) : Int) := ti_add ex114 rfl (nI_toInt (by omega)) (by omega) (by omega)
        refine lv_aload_n hx hb dX12_feed_78 rfl (lv_at hl 1 rfl) ?_
        refine tw_get hx hb hts bF_X12 hown hK hT hr_o0 shm_0 rfl 17 (by decide) (ht_at hts 2 rfl) (fun _ h9 => h9) dX12_feed_79 (fun v9 m116 h9 => ?_)
        obtain ⟨rfl, hg117⟩ := h9 _ rfl
        refine lv_iload hx hb dX12_feed_82 (lv_at hl 0 rfl) ?_
        refine lv_iconst (v := 4) hx hb dX12_feed_84 (by decide) ?_
        refine lv_idiv hx hb dX12_feed_85 (by decide) ?_
        refine lv_topi (fun x118 ex118 => ?_)
        obtain rfl : nI (i57 / 4) = x118 := (ex118.trans (pk_div (a := i57) (d := 4) (by omega) (by decide) (by decide))).symm
        refine tw_iald (i := (nI (i57 / 4))) hx hb hK hT hg9 shm_18 rfl (vp_in_nI (by omega) (by decide)) dX12_feed_86 (fun v9 m119 h9 => ?_)
        obtain ⟨x120, rfl, gx120, kx120⟩ := h9
        have cx120 := m59.at m119 (by have q9 := tn_of (show (nI (i57 / 4)).toInt = ((i57 / 4 : Nat) : Int) from (nI_toInt (by omega))) (by omega); omega)
        refine lv_bipush (v := 24) hx hb dX12_feed_87 (by decide) ?_
        refine lv_bipush (v := 8) hx hb dX12_feed_89 (by decide) ?_
        refine lv_iload hx hb dX12_feed_91 (lv_at hl 0 rfl) ?_
        refine lv_iconst (v := 4) hx hb dX12_feed_93 (by decide) ?_
        refine lv_irem hx hb dX12_feed_94 (by decide) ?_
        refine lv_topi (fun x121 ex121 => ?_)
        obtain rfl : nI (i57 % 4) = x121 := (ex121.trans (pk_rem (a := i57) (d := 4) (by omega) (by decide) (by decide))).symm
        refine lv_imul hx hb dX12_feed_95 ?_
        refine lv_topi (fun x122 ex122 => ?_)
        obtain rfl : nI (8 * (i57 % 4)) = x122 := (ex122.trans (pk_mul 8 (i57 % 4))).symm
        refine lv_isub hx hb dX12_feed_96 ?_
        refine lv_topi (fun x123 ex123 => ?_)
        have t124 : x123.toInt = 24 - ((8 * (i57 % 4) : Nat) : Int) := ti_sub ex123 (by decide) (nI_toInt (by omega)) (by omega) (by omega)
        refine lv_ishr hx hb dX12_feed_97 ?_
        refine lv_topi (fun x125 ex125 => ?_)
        refine lv_i2b (v := x125.toInt8.toInt32) hx hb dX12_feed_98 rfl ?_
        refine lv_topi (fun x126 ex126 => ?_)
        refine tw_bast (i := x114) (x := x126) hx hb hK hT hG hS hg1 shm_11 rfl (vin_t (a := x114.toInt) rfl (by omega) (by omega)) (gi_b _ (by decide) (by decide)) dX12_feed_99 (fun H locs hT oq m127 oi hS => ?_)
        have hF := hF.ast hg1 skm_11 oq (by decide)
        have m128 := m58.put (by rw [nar_y ex126] at m127; exact m127) oi
        have m129 := m59.kept (oq _ (gne hg9 hg1 (by decide)))
        have m130 := (el_kept (oq _ (gne hr_o0 hg1 (by decide)))).trans m60
        have m131 := (el_kept (oq _ (gne hr_o0 hg1 (by decide)))).trans m61
        have m132 := (el_kept (oq _ (gne hg9 hg1 (by decide)))).trans m62
        have m133 := (el_kept (oq _ (gne hg9 hg1 (by decide)))).trans m63
        have m134 := (el_kept (oq _ (gne hg9 hg1 (by decide)))).trans m64
        have m135 := (el_kept (oq _ (gne hg9 hg1 (by decide)))).trans m65
        have m136 := (el_kept (oq _ (gne hg9 hg1 (by decide)))).trans m66
        refine lv_iinc (v := nI (i57 + 1)) (lv' := [(6, .int (nI (i57 + 1))), (0, .ref o0), (1, .int p0), (2, .int p1), (3, .int p2), (4, .int p3), (5, .int p4)]) hx hb dX12_feed_100 hl (k := 0) rfl (nI_add i57 1) (by decide) rfl (fun ls hl => ?_)
        refine lv_goto (tgt := 60) hx hb dX12_feed_103 (by decide) ?_
        exact ih95 (i57 + 1) (by omega) (by omega) _ _ hT hF hS (m128.ext (fun _ _ => fdK_s (by have := tn_of (show x114.toInt = x114.toInt from rfl) (by omega); have := tn_of (show tn.toInt = tn.toInt from rfl) (by omega); omega) (by rw [cx120, show (nI (i57 / 4)).toNatClampNeg = i57 / 4 from by have := tn_of (show (nI (i57 / 4)).toInt = ((i57 / 4 : Nat) : Int) from (nI_toInt (by omega))) (by omega); omega]; exact fdv_5 (by omega)) (by omega) ex125 ex126 _)) m129 m130 m131 m132 m133 m134 m135 m136 ls (lv_sub hl [0, 1, 2, 3, 4, 5, 6] rfl)
    exact key95 (20 - 0) 0 (by omega) (Nat.le_refl _) _ _ hT hF hS (m50.ext (fun _ _ => rfl)) m52 m49 m51 m53 m54 m55 m56 m48 ls (lv_sub hl [0, 1, 2, 3, 4, 5, 6] rfl)
  · have t138 : 400 < x5.toInt := ti_nle c7 rfl (by decide)
    refine lv_iconst (v := (-1)) hx hb dX12_feed_18 (by decide) ?_
    exact W.iret (v := (-1)) hx hb hr (fun t ht hW => ⟨⟨(-1), (tn, vt), rfl, (by exact ⟨(rg_t (a := (-1)) (by decide) (by first | decide | omega) (by first | decide | omega)), (Or.inr ⟨by omega, by have q0 : (0 : Int32).toInt = 0 := (by decide); have q1 : (1 : Int32).toInt = 1 := (by decide); have qm : (-1 : Int32).toInt = -1 := (by decide); omega, by omega, rfl⟩)⟩), by (try dsimp only); rw [ht]; exact ⟨hT, hF, m3, m4⟩⟩, hS.F ht⟩) hS.2.2 dX12_feed_19
def w_s_endC : List Cond := .code yX12_end cX12_end 2 (some .boolean) :: (HAppend.hAppend (α := List Cond) (β := List Cond) (γ := List Cond) [.fieldLink RX12 194 "SeaLandModel" "thrown" "I", .fieldLink RX12 332 "SeaLandModel" "taped" "I"] bs)
set_option maxHeartbeats 4000000 in
set_option maxRecDepth 100000 in
theorem s_endC (l : Launch) (dC : Nat → ClassId) (dI : Nat → Nat → Nat) (kA : Nat → ClassId) (adK adV : Nat → Nat) (G : gT) (H0 : Heap) (q : Nat → Nat) (wZ wN : Nat → Int) (wH wB wC : Int) (wL wK : Nat → Prop) (wU wV : Nat → Nat) (PI : Nat → Int → Prop) (im : Int) (PM PT : Nat → Int → Prop) (lS lB lE : Nat → Nat → Int → Prop) (lN : Nat → Int) (o0 : Nat) (p0 : Int32) (tn : Int32)  (hT : gH (dC, dI) kA (SHm q (wP wZ wN wH wB wC wL wK wU wV) PI im PM PT lS lB lE lN) G H0) (hr_o0 : G o0 = some 0) (hm_tn : el H0 o0 (dI 15 11) = some (.int tn)) (hq0 : 0 ≤ tn.toInt ∧ tn.toInt ≤ 400) (hgz : ∀ i, 0 ≤ wZ i) (hgn : ∀ i, 6500000 ≤ wN i ∧ wN i ≤ 20200000) (hgh : 0 ≤ wH ∧ wH ≤ 40000) (hgb : 0 ≤ wB ∧ wB ≤ 3850000) (hgc : 0 ≤ wC ∧ wC ≤ 30) (hgi : 0 ≤ im ∧ im ≤ 1) (hgu : ∀ a t, G a = some (t + 1) → a = q t) : Met l yX12_end w_s_endC ({ frames := 0, cells := 0, slots := 0, locals := 0 }) (va_Pc [.ref o0, .int p0] (fun U => U.heap = H0 ∧ va_K (dC, dI) vwCl (tyl kA) U ∧ EVS adK adV (gA G H0.size) U U.heap)) (va_Qi (fun (r : Int32) (u : Int32) => (0 ≤ r.toInt ∧ r.toInt ≤ 1) ∧ ((0 ≤ p0.toInt ∧ p0.toInt ≤ tn.toInt ∧ r.toInt = 1 ∧ u.toInt = p0.toInt) ∨ (¬ (0 ≤ p0.toInt ∧ p0.toInt ≤ tn.toInt) ∧ r.toInt = 0 ∧ u.toInt = tn.toInt))) (fun (t1 : Int32) (t : State) => gH (dC, dI) kA (SHm q (wP wZ wN wH wB wC wL wK wU wV) PI im PM PT lS lB lE lN) G t.heap ∧ gF (dC, dI) SKm G ([(0, 0), (0, 11)] : List (Nat × Nat)) H0 t.heap ∧ el t.heap o0 (dI 15 11) = some (.int t1)) (gA G H0.size)) 0 0 (gA G H0.size) := by
  refine Met.ofW (cc := cX12_end) (maxL := 2) (ret := (some .boolean)) (by decide) rfl ?_
  intro p e s m args below meth c s₁ B hml hv
  obtain ⟨rfl, hH0, hK, hE⟩ := hv
  have hx := B.exec
  have hb := B.bytes
  have hr := B.returns
  have hts := atoms_spec (ws := w_s_endC) B.pre
  have hown : s.vm.findClass RX12 = some m.cls := findClass_of_methodNamed B.named
  have hlocks := B.notSynchronized
  subst hH0
  generalize hAe : gA G s.heap.size = A at hE ⊢
  have hA : ∀ q : Nat, s.heap.size ≤ q → A q := fun q h => by rw [← hAe]; exact Or.inr h
  have hG := gA_of hAe
  have hS : va_S A s.heap s.heap [] := va_S.rf
  have hF : gF (dC, dI) SKm G ([(0, 0), (0, 11)] : List (Nat × Nat)) s.heap s.heap := gF.rf
  have hl := lv_entry ([.ref o0, .int p0]) (n := 2) (Nat.le_of_ble_eq_true rfl)
  rw [lg_entry_eq]
  generalize (lg_sl ([.ref o0, .int p0]) ++ List.replicate (2 - (lg_sl ([.ref o0, .int p0])).length) Slot.unset).toArray = ls at hl ⊢
  have hl : lv_has ls 2 [(0, .ref o0), (1, .int p0)] := hl
  refine lv_aload_n hx hb dX12_end_0 rfl (lv_at hl 0 rfl) ?_
  refine lv_iconst (v := 0) hx hb dX12_end_1 (by decide) ?_
  refine tw_put (v := .int 0) (ty := .int) hx hb hts bF_X12 tyX12 tyX12_ok nmX12 hown hK hT hG hS hr_o0 shm_0 rfl 0 (by decide) (ht_at hts 0 rfl) (fun _ h9 => h9) rfl (by decide +kernel) rfl rfl (gl_at rfl (gi_all _)) dX12_end_2 (fun H locs hT oq m1 oj hS => ?_)
  have hF := hF.put hr_o0 skm_0 oq oj (by decide)
  have m2 := (oj 11 (by decide) (by decide)).trans hm_tn
  refine lv_iload_n hx hb dX12_end_5 rfl (lv_at hl 1 rfl) ?_
  refine lv_if_lt (tgt := 17) hx hb dX12_end_6 (by decide) (fun c3 => ?_) (fun c3 => ?_)
  · have t4 : p0.toInt < 0 := ti_lt c3 rfl (by decide)
    refine lv_iconst (v := 0) hx hb dX12_end_17 (by decide) ?_
    exact W.zret (v := 0) hx hb hr (by decide) (fun t ht hW => ⟨⟨0, tn, rfl, (by exact ⟨(rg_t (a := 0) (by decide) (by first | decide | omega) (by first | decide | omega)), (by have : (0 : Int32).toInt = 0 := (by decide); omega)⟩), by (try dsimp only); rw [ht]; exact ⟨hT, hF, m2⟩⟩, hS.F ht⟩) hS.2.2 dX12_end_18
  · have t5 : 0 ≤ p0.toInt := ti_nlt c3 rfl (by decide)
    refine lv_iload_n hx hb dX12_end_9 rfl (lv_at hl 1 rfl) ?_
    refine lv_aload_n hx hb dX12_end_10 rfl (lv_at hl 0 rfl) ?_
    refine tw_getM (v := .int tn) hx hb hts bF_X12 hown hK hT hr_o0 shm_0 rfl 11 (by decide) (ht_at hts 1 rfl) (fun _ h9 => h9) m2 dX12_end_11 ?_
    refine lv_icmp_le (tgt := 19) hx hb dX12_end_14 (by decide) (fun c6 => ?_) (fun c6 => ?_)
    · have t7 : p0.toInt ≤ tn.toInt := ti_le c6 rfl rfl
      refine lv_aload_n hx hb dX12_end_19 rfl (lv_at hl 0 rfl) ?_
      refine lv_iload_n hx hb dX12_end_20 rfl (lv_at hl 1 rfl) ?_
      refine tw_put (v := .int p0) (ty := .int) hx hb hts bF_X12 tyX12 tyX12_ok nmX12 hown hK hT hG hS hr_o0 shm_0 rfl 11 (by decide) (ht_at hts 1 rfl) (fun _ h9 => h9) rfl (by decide +kernel) rfl rfl (gl_at rfl (gi_of (show p0.toInt = p0.toInt from rfl) (by omega) (by omega))) dX12_end_21 (fun H locs hT oq m8 oj hS => ?_)
      have hF := hF.put hr_o0 skm_0 oq oj (by decide)
      refine lv_iconst (v := 1) hx hb dX12_end_24 (by decide) ?_
      exact W.zret (v := 1) hx hb hr (by decide) (fun t ht hW => ⟨⟨1, p0, rfl, (by exact ⟨(rg_t (a := 1) (by decide) (by first | decide | omega) (by first | decide | omega)), (by have : (1 : Int32).toInt = 1 := (by decide); omega)⟩), by (try dsimp only); rw [ht]; exact ⟨hT, hF, m8⟩⟩, hS.F ht⟩) hS.2.2 dX12_end_25
    · have t10 : tn.toInt < p0.toInt := ti_nle c6 rfl rfl
      refine lv_iconst (v := 0) hx hb dX12_end_17 (by decide) ?_
      exact W.zret (v := 0) hx hb hr (by decide) (fun t ht hW => ⟨⟨0, tn, rfl, (by exact ⟨(rg_t (a := 0) (by decide) (by first | decide | omega) (by first | decide | omega)), (by have : (0 : Int32).toInt = 0 := (by decide); omega)⟩), by (try dsimp only); rw [ht]; exact ⟨hT, hF, m2⟩⟩, hS.F ht⟩) hS.2.2 dX12_end_18
def w_s_faultC : List Cond := .code yX12_fault cX12_fault 1 (some .int) :: (HAppend.hAppend (α := List Cond) (β := List Cond) (γ := List Cond) [.fieldLink RX12 194 "SeaLandModel" "thrown" "I", .fieldLink RX12 35 "SeaLandModel" "faultAt" "I"] bs)
set_option maxHeartbeats 4000000 in
set_option maxRecDepth 100000 in
theorem s_faultC (l : Launch) (dC : Nat → ClassId) (dI : Nat → Nat → Nat) (kA : Nat → ClassId) (adK adV : Nat → Nat) (G : gT) (H0 : Heap) (q : Nat → Nat) (wZ wN : Nat → Int) (wH wB wC : Int) (wL wK : Nat → Prop) (wU wV : Nat → Nat) (PI : Nat → Int → Prop) (im : Int) (PM PT : Nat → Int → Prop) (lS lB lE : Nat → Nat → Int → Prop) (lN : Nat → Int) (o0 : Nat) (fa : Int32)  (hT : gH (dC, dI) kA (SHm q (wP wZ wN wH wB wC wL wK wU wV) PI im PM PT lS lB lE lN) G H0) (hr_o0 : G o0 = some 0) (hm_fa : el H0 o0 (dI 15 16) = some (.int fa)) (hgz : ∀ i, 0 ≤ wZ i) (hgn : ∀ i, 6500000 ≤ wN i ∧ wN i ≤ 20200000) (hgh : 0 ≤ wH ∧ wH ≤ 40000) (hgb : 0 ≤ wB ∧ wB ≤ 3850000) (hgc : 0 ≤ wC ∧ wC ≤ 30) (hgi : 0 ≤ im ∧ im ≤ 1) (hgu : ∀ a t, G a = some (t + 1) → a = q t) : Met l yX12_fault w_s_faultC ({ frames := 0, cells := 0, slots := 0, locals := 0 }) (va_Pc [.ref o0] (fun U => U.heap = H0 ∧ va_K (dC, dI) vwCl (tyl kA) U ∧ EVS adK adV (gA G H0.size) U U.heap)) (va_Qi (fun (r : Int32) (u : Unit) => (r = fa)) (fun (_ : Unit) (t : State) => gH (dC, dI) kA (SHm q (wP wZ wN wH wB wC wL wK wU wV) PI im PM PT lS lB lE lN) G t.heap ∧ gF (dC, dI) SKm G ([(0, 0)] : List (Nat × Nat)) H0 t.heap) (gA G H0.size)) 0 0 (gA G H0.size) := by
  refine Met.ofW (cc := cX12_fault) (maxL := 1) (ret := (some .int)) (by decide) rfl ?_
  intro p e s m args below meth c s₁ B hml hv
  obtain ⟨rfl, hH0, hK, hE⟩ := hv
  have hx := B.exec
  have hb := B.bytes
  have hr := B.returns
  have hts := atoms_spec (ws := w_s_faultC) B.pre
  have hown : s.vm.findClass RX12 = some m.cls := findClass_of_methodNamed B.named
  have hlocks := B.notSynchronized
  subst hH0
  generalize hAe : gA G s.heap.size = A at hE ⊢
  have hA : ∀ q : Nat, s.heap.size ≤ q → A q := fun q h => by rw [← hAe]; exact Or.inr h
  have hG := gA_of hAe
  have hS : va_S A s.heap s.heap [] := va_S.rf
  have hF : gF (dC, dI) SKm G ([(0, 0)] : List (Nat × Nat)) s.heap s.heap := gF.rf
  have hl := lv_entry ([.ref o0]) (n := 1) (Nat.le_of_ble_eq_true rfl)
  rw [lg_entry_eq]
  generalize (lg_sl ([.ref o0]) ++ List.replicate (1 - (lg_sl ([.ref o0])).length) Slot.unset).toArray = ls at hl ⊢
  have hl : lv_has ls 1 [(0, .ref o0)] := hl
  refine lv_aload_n hx hb dX12_fault_0 rfl (lv_at hl 0 rfl) ?_
  refine lv_iconst (v := 0) hx hb dX12_fault_1 (by decide) ?_
  refine tw_put (v := .int 0) (ty := .int) hx hb hts bF_X12 tyX12 tyX12_ok nmX12 hown hK hT hG hS hr_o0 shm_0 rfl 0 (by decide) (ht_at hts 0 rfl) (fun _ h9 => h9) rfl (by decide +kernel) rfl rfl (gl_at rfl (gi_all _)) dX12_fault_2 (fun H locs hT oq m1 oj hS => ?_)
  have hF := hF.put hr_o0 skm_0 oq oj (by decide)
  have m2 := (oj 16 (by decide) (by decide)).trans hm_fa
  refine lv_aload_n hx hb dX12_fault_5 rfl (lv_at hl 0 rfl) ?_
  refine tw_getM (v := .int fa) hx hb hts bF_X12 hown hK hT hr_o0 shm_0 rfl 16 (by decide) (ht_at hts 1 rfl) (fun _ h9 => h9) m2 dX12_fault_6 ?_
  exact W.iret (v := fa) hx hb hr (fun t ht hW => ⟨⟨fa, (), rfl, (by exact rfl), by (try dsimp only); rw [ht]; exact ⟨hT, hF⟩⟩, hS.F ht⟩) hS.2.2 dX12_fault_9
def w_s_holdsZ : List Cond := .code yX12_holds cX12_holds 9 (some .boolean) :: (HAppend.hAppend (α := List Cond) (β := List Cond) (γ := List Cond) [.fieldLink RX12 60 "SeaLandModel" "begins" "[I", .fieldLink RX12 63 "SeaLandModel" "ends" "[I", .fieldLink RX12 66 "SeaLandModel" "step" "[I", .fieldLink RX12 72 "SeaLandModel" "value" "[J", .methodLink RX12 471 Lib.MathLoose.max_long.x, .static Lib.MathLoose.max_long.x, .initialized "java/lang/Math", .code Lib.MathLoose.max_long.x Lib.MathLoose.max_long.code 4 (some .long), .fieldLink RX12 69 "SeaLandModel" "than" "[I", .fieldLink RX12 76 "SeaLandModel" "facts" "[J"] bs)
set_option maxHeartbeats 4000000 in
set_option maxRecDepth 100000 in
theorem s_holdsZ (l : Launch) (dC : Nat → ClassId) (dI : Nat → Nat → Nat) (kA : Nat → ClassId) (adK adV : Nat → Nat) (G : gT) (H0 : Heap) (q : Nat → Nat) (wZ wN : Nat → Int) (wH wB wC : Int) (wL wK : Nat → Prop) (wU wV : Nat → Nat) (PI : Nat → Int → Prop) (im : Int) (PM PT : Nat → Int → Prop) (lS lB lE : Nat → Nat → Int → Prop) (lN : Nat → Int) (o0 : Nat) (kk : Int32) (vB : Nat → Int32) (vX : Nat → Int32) (vS : Nat → Int32) (vN : Nat → Int32) (vQ : Nat → Int64) (fL : Nat → Int64)  (hT : gH (dC, dI) kA (SHm q (wP wZ wN wH wB wC wL wK wU wV) PI im PM PT lS lB lE lN) G H0) (hr_o0 : G o0 = some 0) (hq0 : 0 ≤ kk.toInt ∧ kk.toInt ≤ 19) (hok : zok (zC (zwo 0 vS vN) (vB kk.toNatClampNeg).toNatClampNeg (vX kk.toNatClampNeg).toNatClampNeg)) (hc_vB : ct H0 (q 24) 60 vB) (hc_vX : ct H0 (q 25) 60 vX) (hc_vS : ct H0 (q 26) 1200 vS) (hc_vN : ct H0 (q 27) 1200 vN) (hc_vQ : ctl H0 (q 29) 400 vQ) (hc_fL : ctl H0 (q 30) 10 fL) (hgz : ∀ i, 0 ≤ wZ i) (hgn : ∀ i, 6500000 ≤ wN i ∧ wN i ≤ 20200000) (hgh : 0 ≤ wH ∧ wH ≤ 40000) (hgb : 0 ≤ wB ∧ wB ≤ 3850000) (hgc : 0 ≤ wC ∧ wC ≤ 30) (hgi : 0 ≤ im ∧ im ≤ 1) (hgu : ∀ a t, G a = some (t + 1) → a = q t) : Met l yX12_holds w_s_holdsZ ({ frames := 1, cells := 0, slots := 0, locals := 40 }) (va_Pc [.ref o0, .int kk] (fun U => U.heap = H0 ∧ va_K (dC, dI) vwCl (tyl kA) U ∧ EVS adK adV (gA G H0.size) U U.heap)) (va_Qi (fun (r : Int32) (u : Unit) => (0 ≤ r.toInt ∧ r.toInt ≤ 1) ∧ ((r.toInt = 1 ∧ zhd fL (zC (zwo 0 vS vN) (vB kk.toNatClampNeg).toNatClampNeg (vX kk.toNatClampNeg).toNatClampNeg)) ∨ (r.toInt = 0 ∧ ¬ zhd fL (zC (zwo 0 vS vN) (vB kk.toNatClampNeg).toNatClampNeg (vX kk.toNatClampNeg).toNatClampNeg)))) (fun (_ : Unit) (t : State) => gH (dC, dI) kA (SHm q (wP wZ wN wH wB wC wL wK wU wV) PI im PM PT lS lB lE lN) G t.heap ∧ gF (dC, dI) SKm G ([(30, 0)] : List (Nat × Nat)) H0 t.heap) (gA G H0.size)) 0 0 (gA G H0.size) := by
  refine Met.ofW (cc := cX12_holds) (maxL := 9) (ret := (some .boolean)) (by decide) rfl ?_
  intro p e s m args below meth c s₁ B hml hv
  obtain ⟨rfl, hH0, hK, hE⟩ := hv
  have hx := B.exec
  have hb := B.bytes
  have hr := B.returns
  have hts := atoms_spec (ws := w_s_holdsZ) B.pre
  have hown : s.vm.findClass RX12 = some m.cls := findClass_of_methodNamed B.named
  have hlocks := B.notSynchronized
  subst hH0
  generalize hAe : gA G s.heap.size = A at hE ⊢
  have hA : ∀ q : Nat, s.heap.size ≤ q → A q := fun q h => by rw [← hAe]; exact Or.inr h
  have hG := gA_of hAe
  have hS : va_S A s.heap s.heap [] := va_S.rf
  have hF : gF (dC, dI) SKm G ([(30, 0)] : List (Nat × Nat)) s.heap s.heap := gF.rf
  have hl := lv_entry ([.ref o0, .int kk]) (n := 9) (Nat.le_of_ble_eq_true rfl)
  rw [lg_entry_eq]
  generalize (lg_sl ([.ref o0, .int kk]) ++ List.replicate (9 - (lg_sl ([.ref o0, .int kk])).length) Slot.unset).toArray = ls at hl ⊢
  have hl : lv_has ls 9 [(0, .ref o0), (1, .int kk)] := hl
  have hg1 : G (q 24) = some 25 := gx_of hT hr_o0 shm_0 (k := 24) (by decide) rfl
  have hg2 : G (q 25) = some 26 := gx_of hT hr_o0 shm_0 (k := 25) (by decide) rfl
  have hg3 : G (q 26) = some 27 := gx_of hT hr_o0 shm_0 (k := 26) (by decide) rfl
  have hg4 : G (q 27) = some 28 := gx_of hT hr_o0 shm_0 (k := 27) (by decide) rfl
  have hg5 : G (q 29) = some 30 := gx_of hT hr_o0 shm_0 (k := 29) (by decide) rfl
  have hg6 : G (q 30) = some 31 := gx_of hT hr_o0 shm_0 (k := 30) (by decide) rfl
  obtain ⟨⟨m9, hm9⟩, -⟩ := id hok
  refine lv_iconst (v := 0) hx hb dX12_holds_0 (by decide) ?_
  refine lv_istore_n (lv' := [(2, .int 0), (0, .ref o0), (1, .int kk)]) hx hb dX12_holds_1 rfl hl (by decide) rfl (fun ls hl => ?_)
  refine lv_aload_n hx hb dX12_holds_2 rfl (lv_at hl 1 rfl) ?_
  refine tw_get hx hb hts bF_X12 hown hK hT hr_o0 shm_0 rfl 24 (by decide) (ht_at hts 0 rfl) (fun _ h9 => h9) dX12_holds_3 (fun v9 m7 h9 => ?_)
  obtain ⟨rfl, hg8⟩ := h9 _ rfl
  refine lv_iload_n hx hb dX12_holds_6 rfl (lv_at hl 2 rfl) ?_
  refine tw_iald (i := kk) hx hb hK hT hg1 shm_25 rfl (vin_t (a := kk.toInt) rfl (by omega) (by omega)) dX12_holds_7 (fun v9 m9 h9 => ?_)
  obtain ⟨x10, rfl, gx10, kx10⟩ := (gb_at h9)
  have cx10 := hc_vB.at m9 (by have q9 := tn_of (show kk.toInt = kk.toInt from rfl) (by omega); omega)
  refine lv_istore_n (lv' := [(3, .int x10), (2, .int 0), (0, .ref o0), (1, .int kk)]) hx hb dX12_holds_8 rfl hl (by decide) rfl (fun ls hl => ?_)
  obtain ⟨k11, hk11, lk11, ek11⟩ := ti_nat x10 (by omega)
  subst ek11
  have key221 : ∀ (n221 i12 : Nat), i12 + n221 = 400 → k11 ≤ i12 → ∀ (z13 : Int32), ∀ (V19 : Nat → Int64), ((0 ≤ z13.toInt ∧ z13.toInt ≤ 20) ∧ (zLp fL (zwo 0 vS vN) (vX kk.toNatClampNeg).toNatClampNeg m9 (zrn fL (zC (zwo 0 vS vN) (vB kk.toNatClampNeg).toNatClampNeg (vX kk.toNatClampNeg).toNatClampNeg) []) i12 z13.toNatClampNeg V19)) → ∀ (H : Heap) (locs : List Loc), gH (dC, dI) kA (SHm q (wP wZ wN wH wB wC wL wK wU wV) PI im PM PT lS lB lE lN) G H → gF (dC, dI) SKm G ([(30, 0)] : List (Nat × Nat)) s.heap H → va_S A s.heap H locs → ct H (q 24) 60 vB → ct H (q 25) 60 vX → ct H (q 26) 1200 vS → ct H (q 27) 1200 vN → ctl H (q 29) 400 V19 → ctl H (q 30) 10 fL → el H (q 24) kk.toNatClampNeg = some (.int (nI k11)) → ∀ ls : Array Slot, lv_has ls 9 [(3, .int (nI i12)), (2, .int z13), (0, .ref o0), (1, .int kk)] → W p l e (headSpec w_s_holdsZ ({ frames := 1, cells := 0, slots := 0, locals := 40 })).room s m #[.ref o0, .int kk] below meth c H locs 0 0 (MQ below (va_Qi (fun (r : Int32) (u : Unit) => (0 ≤ r.toInt ∧ r.toInt ≤ 1) ∧ ((r.toInt = 1 ∧ zhd fL (zC (zwo 0 vS vN) (vB kk.toNatClampNeg).toNatClampNeg (vX kk.toNatClampNeg).toNatClampNeg)) ∨ (r.toInt = 0 ∧ ¬ zhd fL (zC (zwo 0 vS vN) (vB kk.toNatClampNeg).toNatClampNeg (vX kk.toNatClampNeg).toNatClampNeg)))) (fun (_ : Unit) (t : State) => gH (dC, dI) kA (SHm q (wP wZ wN wH wB wC wL wK wU wV) PI im PM PT lS lB lE lN) G t.heap ∧ gF (dC, dI) SKm G ([(30, 0)] : List (Nat × Nat)) s.heap t.heap) A) #[.ref o0, .int kk] s 0 0 A) (F0 m 9 ls []) := by
    intro n221
    induction n221 with
    | zero =>
      intro i12 hn221 hlo222 z13 V19 ⟨h14, hj23⟩ H locs hT hF hS m15 m16 m17 m18 m20 m21 m22 ls hl
      obtain rfl : 400 = i12 := by omega
      refine lv_iload_n hx hb dX12_holds_9 rfl (lv_at hl 0 rfl) ?_
      refine lv_aload_n hx hb dX12_holds_10 rfl (lv_at hl 2 rfl) ?_
      refine tw_get hx hb hts bF_X12 hown hK hT hr_o0 shm_0 rfl 25 (by decide) (ht_at hts 1 rfl) (fun _ h9 => h9) dX12_holds_11 (fun v9 m223 h9 => ?_)
      obtain ⟨rfl, hg224⟩ := h9 _ rfl
      refine lv_iload_n hx hb dX12_holds_14 rfl (lv_at hl 3 rfl) ?_
      refine tw_iald (i := kk) hx hb hK hT hg2 shm_26 rfl (vin_t (a := kk.toInt) rfl (by omega) (by omega)) dX12_holds_15 (fun v9 m225 h9 => ?_)
      obtain ⟨x226, rfl, gx226, kx226⟩ := (gb_at h9)
      have cx226 := m16.at m225 (by have q9 := tn_of (show kk.toInt = kk.toInt from rfl) (by omega); omega)
      refine lv_icmp_ge (tgt := 225) hx hb dX12_holds_16 (by decide) (fun c227 => ?_) (fun c227 => (by exfalso; have q9 : ((400 : Nat) : Int) < x226.toInt := ti_nle c227 rfl (nI_toInt (by omega)); omega))
      have t228 : x226.toInt ≤ ((400 : Nat) : Int) := ti_le c227 rfl (nI_toInt (by omega))
      refine lv_iload_n hx hb dX12_holds_225 rfl (lv_at hl 1 rfl) ?_
      refine lv_if_eq (tgt := 240) hx hb dX12_holds_226 (by decide) (fun c229 => ?_) (fun c229 => ?_)
      · have t230 : z13.toInt = 0 := ti_eq c229 rfl (by decide)
        refine lv_iconst (v := 1) hx hb dX12_holds_240 (by decide) ?_
        refine lv_goto (tgt := 245) hx hb dX12_holds_241 (by decide) ?_
        exact W.zret (v := 1) hx hb hr (by decide) (fun t ht hW => ⟨⟨1, (), rfl, (by exact ⟨(rg_t (a := 1) (by decide) (by first | decide | omega) (by first | decide | omega)), (Or.inl ⟨by decide, zend_1 hj23 (by have := tn_of (show x226.toInt = x226.toInt from rfl) (by omega); rw [← cx226]; omega) hok (Or.inl (by have := tn_of (show z13.toInt = z13.toInt from rfl) (by omega); omega))⟩)⟩), by (try dsimp only); rw [ht]; exact ⟨hT, hF⟩⟩, hS.F ht⟩) hS.2.2 dX12_holds_245
      · have t231 : z13.toInt ≠ 0 := ti_ne c229 rfl (by decide)
        refine lv_aload_n hx hb dX12_holds_229 rfl (lv_at hl 2 rfl) ?_
        refine tw_get hx hb hts bF_X12 hown hK hT hr_o0 shm_0 rfl 29 (by decide) (ht_at hts 3 rfl) (fun _ h9 => h9) dX12_holds_230 (fun v9 m232 h9 => ?_)
        obtain ⟨rfl, hg233⟩ := h9 _ rfl
        refine lv_iconst (v := 0) hx hb dX12_holds_233 (by decide) ?_
        refine tw_lald (i := 0) hx hb hK hT hg5 shm_30 rfl (vin_t (a := 0) (by decide) (by first | decide | omega) (by first | decide | omega)) dX12_holds_234 (fun v9 m234 h9 => ?_)
        obtain ⟨y235, rfl⟩ := h9
        have cy235 := m20.at m234 (by have q9 := tn_of (show (0 : Int32).toInt = 0 from (by decide)) (by omega); omega)
        refine lv_lconst (v := 1) hx hb dX12_holds_235 (by decide) ?_
        refine W.lcmp hx hb dX12_holds_236 ?_
        refine lv_topi (fun x236 ex236 => ?_)
        have t237 : (y235.toInt < 1 ∧ x236.toInt = -1) ∨ (y235.toInt = 1 ∧ x236.toInt = 0) ∨ (1 < y235.toInt ∧ x236.toInt = 1) := tl_c ex236 rfl (by decide)
        refine lv_if_ne (tgt := 244) hx hb dX12_holds_237 (by decide) (fun c238 => ?_) (fun c238 => ?_)
        · have t239 : x236.toInt ≠ 0 := ti_ne c238 rfl (by decide)
          refine lv_iconst (v := 0) hx hb dX12_holds_244 (by decide) ?_
          exact W.zret (v := 0) hx hb hr (by decide) (fun t ht hW => ⟨⟨0, (), rfl, (by exact ⟨(rg_t (a := 0) (by decide) (by first | decide | omega) (by first | decide | omega)), (Or.inr ⟨by decide, zend_0 hj23 (by have := tn_of (show x226.toInt = x226.toInt from rfl) (by omega); rw [← cx226]; omega) hok (by have := tn_of (show z13.toInt = z13.toInt from rfl) (by omega); omega) (Or.inr (fun h8 => by have h7 : y235.toInt = 1 := (by rw [cy235]; exact congrArg Int64.toInt h8); omega))⟩)⟩), by (try dsimp only); rw [ht]; exact ⟨hT, hF⟩⟩, hS.F ht⟩) hS.2.2 dX12_holds_245
        · have t240 : x236.toInt = 0 := ti_eq c238 rfl (by decide)
          refine lv_iconst (v := 1) hx hb dX12_holds_240 (by decide) ?_
          refine lv_goto (tgt := 245) hx hb dX12_holds_241 (by decide) ?_
          exact W.zret (v := 1) hx hb hr (by decide) (fun t ht hW => ⟨⟨1, (), rfl, (by exact ⟨(rg_t (a := 1) (by decide) (by first | decide | omega) (by first | decide | omega)), (Or.inl ⟨by decide, zend_1 hj23 (by have := tn_of (show x226.toInt = x226.toInt from rfl) (by omega); rw [← cx226]; omega) hok (Or.inr (fun h8 => by have h7 : y235.toInt = 0 := (by rw [cy235]; exact congrArg Int64.toInt h8); omega))⟩)⟩), by (try dsimp only); rw [ht]; exact ⟨hT, hF⟩⟩, hS.F ht⟩) hS.2.2 dX12_holds_245
    | succ n221 ih221 =>
      intro i12 hn221 hlo222 z13 V19 ⟨h14, hj23⟩ H locs hT hF hS m15 m16 m17 m18 m20 m21 m22 ls hl
      have hlt240 : i12 < 400 := by omega
      refine lv_iload_n hx hb dX12_holds_9 rfl (lv_at hl 0 rfl) ?_
      refine lv_aload_n hx hb dX12_holds_10 rfl (lv_at hl 2 rfl) ?_
      refine tw_get hx hb hts bF_X12 hown hK hT hr_o0 shm_0 rfl 25 (by decide) (ht_at hts 1 rfl) (fun _ h9 => h9) dX12_holds_11 (fun v9 m241 h9 => ?_)
      obtain ⟨rfl, hg242⟩ := h9 _ rfl
      refine lv_iload_n hx hb dX12_holds_14 rfl (lv_at hl 3 rfl) ?_
      refine tw_iald (i := kk) hx hb hK hT hg2 shm_26 rfl (vin_t (a := kk.toInt) rfl (by omega) (by omega)) dX12_holds_15 (fun v9 m243 h9 => ?_)
      obtain ⟨x244, rfl, gx244, kx244⟩ := (gb_at h9)
      have cx244 := m16.at m243 (by have q9 := tn_of (show kk.toInt = kk.toInt from rfl) (by omega); omega)
      refine lv_icmp_ge (tgt := 225) hx hb dX12_holds_16 (by decide) (fun c245 => ?_) (fun c245 => ?_)
      · have t246 : x244.toInt ≤ ((i12 : Nat) : Int) := ti_le c245 rfl (nI_toInt (by omega))
        refine lv_iload_n hx hb dX12_holds_225 rfl (lv_at hl 1 rfl) ?_
        refine lv_if_eq (tgt := 240) hx hb dX12_holds_226 (by decide) (fun c247 => ?_) (fun c247 => ?_)
        · have t248 : z13.toInt = 0 := ti_eq c247 rfl (by decide)
          refine lv_iconst (v := 1) hx hb dX12_holds_240 (by decide) ?_
          refine lv_goto (tgt := 245) hx hb dX12_holds_241 (by decide) ?_
          exact W.zret (v := 1) hx hb hr (by decide) (fun t ht hW => ⟨⟨1, (), rfl, (by exact ⟨(rg_t (a := 1) (by decide) (by first | decide | omega) (by first | decide | omega)), (Or.inl ⟨by decide, zend_1 hj23 (by have := tn_of (show x244.toInt = x244.toInt from rfl) (by omega); rw [← cx244]; omega) hok (Or.inl (by have := tn_of (show z13.toInt = z13.toInt from rfl) (by omega); omega))⟩)⟩), by (try dsimp only); rw [ht]; exact ⟨hT, hF⟩⟩, hS.F ht⟩) hS.2.2 dX12_holds_245
        · have t249 : z13.toInt ≠ 0 := ti_ne c247 rfl (by decide)
          refine lv_aload_n hx hb dX12_holds_229 rfl (lv_at hl 2 rfl) ?_
          refine tw_get hx hb hts bF_X12 hown hK hT hr_o0 shm_0 rfl 29 (by decide) (ht_at hts 3 rfl) (fun _ h9 => h9) dX12_holds_230 (fun v9 m250 h9 => ?_)
          obtain ⟨rfl, hg251⟩ := h9 _ rfl
          refine lv_iconst (v := 0) hx hb dX12_holds_233 (by decide) ?_
          refine tw_lald (i := 0) hx hb hK hT hg5 shm_30 rfl (vin_t (a := 0) (by decide) (by first | decide | omega) (by first | decide | omega)) dX12_holds_234 (fun v9 m252 h9 => ?_)
          obtain ⟨y253, rfl⟩ := h9
          have cy253 := m20.at m252 (by have q9 := tn_of (show (0 : Int32).toInt = 0 from (by decide)) (by omega); omega)
          refine lv_lconst (v := 1) hx hb dX12_holds_235 (by decide) ?_
          refine W.lcmp hx hb dX12_holds_236 ?_
          refine lv_topi (fun x254 ex254 => ?_)
          have t255 : (y253.toInt < 1 ∧ x254.toInt = -1) ∨ (y253.toInt = 1 ∧ x254.toInt = 0) ∨ (1 < y253.toInt ∧ x254.toInt = 1) := tl_c ex254 rfl (by decide)
          refine lv_if_ne (tgt := 244) hx hb dX12_holds_237 (by decide) (fun c256 => ?_) (fun c256 => ?_)
          · have t257 : x254.toInt ≠ 0 := ti_ne c256 rfl (by decide)
            refine lv_iconst (v := 0) hx hb dX12_holds_244 (by decide) ?_
            exact W.zret (v := 0) hx hb hr (by decide) (fun t ht hW => ⟨⟨0, (), rfl, (by exact ⟨(rg_t (a := 0) (by decide) (by first | decide | omega) (by first | decide | omega)), (Or.inr ⟨by decide, zend_0 hj23 (by have := tn_of (show x244.toInt = x244.toInt from rfl) (by omega); rw [← cx244]; omega) hok (by have := tn_of (show z13.toInt = z13.toInt from rfl) (by omega); omega) (Or.inr (fun h8 => by have h7 : y253.toInt = 1 := (by rw [cy253]; exact congrArg Int64.toInt h8); omega))⟩)⟩), by (try dsimp only); rw [ht]; exact ⟨hT, hF⟩⟩, hS.F ht⟩) hS.2.2 dX12_holds_245
          · have t258 : x254.toInt = 0 := ti_eq c256 rfl (by decide)
            refine lv_iconst (v := 1) hx hb dX12_holds_240 (by decide) ?_
            refine lv_goto (tgt := 245) hx hb dX12_holds_241 (by decide) ?_
            exact W.zret (v := 1) hx hb hr (by decide) (fun t ht hW => ⟨⟨1, (), rfl, (by exact ⟨(rg_t (a := 1) (by decide) (by first | decide | omega) (by first | decide | omega)), (Or.inl ⟨by decide, zend_1 hj23 (by have := tn_of (show x244.toInt = x244.toInt from rfl) (by omega); rw [← cx244]; omega) hok (Or.inr (fun h8 => by have h7 : y253.toInt = 0 := (by rw [cy253]; exact congrArg Int64.toInt h8); omega))⟩)⟩), by (try dsimp only); rw [ht]; exact ⟨hT, hF⟩⟩, hS.F ht⟩) hS.2.2 dX12_holds_245
      · have t259 : ((i12 : Nat) : Int) < x244.toInt := ti_nle c245 rfl (nI_toInt (by omega))
        refine lv_aload_n hx hb dX12_holds_19 rfl (lv_at hl 2 rfl) ?_
        refine tw_get hx hb hts bF_X12 hown hK hT hr_o0 shm_0 rfl 26 (by decide) (ht_at hts 2 rfl) (fun _ h9 => h9) dX12_holds_20 (fun v9 m260 h9 => ?_)
        obtain ⟨rfl, hg261⟩ := h9 _ rfl
        refine lv_iload_n hx hb dX12_holds_23 rfl (lv_at hl 0 rfl) ?_
        refine tw_iald (i := (nI i12)) hx hb hK hT hg3 shm_27 rfl (vp_in_nI (by omega) (by decide)) dX12_holds_24 (fun v9 m262 h9 => ?_)
        obtain ⟨x263, rfl, gx263, kx263⟩ := (gp_any h9)
        have cx263 := m17.at m262 (by have q9 := tn_of (show (nI i12).toInt = ((i12 : Nat) : Int) from (nI_toInt (by omega))) (by omega); omega)
        have t264 : (((vX kk.toNatClampNeg).toNatClampNeg : Nat) : Int) = x244.toInt := (by rw [← cx244]; exact tn_of (show x244.toInt = x244.toInt from rfl) (by omega))
        have t265 : ((z13.toNatClampNeg : Nat) : Int) = z13.toInt := tn_of (show z13.toInt = z13.toInt from rfl) (by omega)
        have t266 : (vS i12).toInt = x263.toInt := (by rw [cx263, tn_nI (by omega)])
        have zq267 := zcd_s x263.toInt (vN i12).toInt
        have zw268 : zwo 0 vS vN i12 = zcd x263.toInt (vN i12).toInt := by unfold zwo; rw [show 0 + i12 = i12 from by omega, cx263, tn_nI (by omega)]
        have t269 : ((zwo 0 vS vN i12 < 10 ∨ 40 ≤ zwo 0 vS vN i12) ∧ z13.toNatClampNeg < 20) ∨ (zwo 0 vS vN i12 = 13 ∧ 1 ≤ z13.toNatClampNeg) ∨ ((10 ≤ zwo 0 vS vN i12 ∧ zwo 0 vS vN i12 ≤ 15) ∧ zwo 0 vS vN i12 ≠ 13 ∧ 2 ≤ z13.toNatClampNeg) := zLp_g hj23 (by omega)
        refine lv_istore (lv' := [(4, .int x263), (3, .int (nI i12)), (2, .int z13), (0, .ref o0), (1, .int kk)]) hx hb dX12_holds_25 hl (by decide) rfl (fun ls hl => ?_)
        refine lv_iload hx hb dX12_holds_27 (lv_at hl 0 rfl) ?_
        refine lv_bipush (v := 100) hx hb dX12_holds_29 (by decide) ?_
        refine lv_icmp_ge (tgt := 53) hx hb dX12_holds_31 (by decide) (fun c270 => ?_) (fun c270 => ?_)
        · have t271 : 100 ≤ x263.toInt := ti_le c270 (by decide) rfl
          refine lv_iload hx hb dX12_holds_53 (lv_at hl 0 rfl) ?_
          refine lv_bipush (v := 100) hx hb dX12_holds_55 (by decide) ?_
          refine lv_icmp_ne (tgt := 79) hx hb dX12_holds_57 (by decide) (fun c272 => ?_) (fun c272 => ?_)
          · have t273 : x263.toInt ≠ 100 := ti_ne c272 rfl (by decide)
            refine lv_iload hx hb dX12_holds_79 (lv_at hl 0 rfl) ?_
            refine lv_bipush (v := 104) hx hb dX12_holds_81 (by decide) ?_
            refine lv_icmp_ne (tgt := 107) hx hb dX12_holds_83 (by decide) (fun c274 => ?_) (fun c274 => ?_)
            · have t275 : x263.toInt ≠ 104 := ti_ne c274 rfl (by decide)
              obtain ⟨x276, ex276⟩ : ∃ y : Int32, y = z13 + (-1) := ⟨_, rfl⟩
              have t277 : x276.toInt = z13.toInt + (-1) := ti_add ex276 rfl (by decide) (by omega) (by omega)
              refine lv_iinc (v := x276) (lv' := [(2, .int x276), (4, .int x263), (3, .int (nI i12)), (0, .ref o0), (1, .int kk)]) hx hb dX12_holds_107 hl (k := 2) rfl (by first | (rw [ex276]; done) | (rw [ex276]; rfl)) (by decide) rfl (fun ls hl => ?_)
              refine lv_aload_n hx hb dX12_holds_110 rfl (lv_at hl 3 rfl) ?_
              refine tw_get hx hb hts bF_X12 hown hK hT hr_o0 shm_0 rfl 29 (by decide) (ht_at hts 3 rfl) (fun _ h9 => h9) dX12_holds_111 (fun v9 m278 h9 => ?_)
              obtain ⟨rfl, hg279⟩ := h9 _ rfl
              refine lv_iload_n hx hb dX12_holds_114 rfl (lv_at hl 0 rfl) ?_
              refine lv_iconst (v := 1) hx hb dX12_holds_115 (by decide) ?_
              refine lv_isub hx hb dX12_holds_116 ?_
              refine lv_topi (fun x280 ex280 => ?_)
              have t281 : x280.toInt = x276.toInt - 1 := ti_sub ex280 rfl (by decide) (by omega) (by omega)
              refine tw_lald (i := x280) hx hb hK hT hg5 shm_30 rfl (vin_t (a := x280.toInt) rfl (by omega) (by omega)) dX12_holds_117 (fun v9 m282 h9 => ?_)
              obtain ⟨y283, rfl⟩ := h9
              have cy283 := m20.at m282 (by have q9 := tn_of (show x280.toInt = x280.toInt from rfl) (by omega); omega)
              refine lv_lstore (lv' := [(5, .long y283), (2, .int x276), (4, .int x263), (3, .int (nI i12)), (0, .ref o0), (1, .int kk)]) hx hb dX12_holds_118 hl (by decide) rfl (fun ls hl => ?_)
              refine lv_aload_n hx hb dX12_holds_120 rfl (lv_at hl 4 rfl) ?_
              refine tw_get hx hb hts bF_X12 hown hK hT hr_o0 shm_0 rfl 29 (by decide) (ht_at hts 3 rfl) (fun _ h9 => h9) dX12_holds_121 (fun v9 m284 h9 => ?_)
              obtain ⟨rfl, hg285⟩ := h9 _ rfl
              refine lv_iload_n hx hb dX12_holds_124 rfl (lv_at hl 1 rfl) ?_
              refine tw_lald (i := x276) hx hb hK hT hg5 shm_30 rfl (vin_t (a := x276.toInt) rfl (by omega) (by omega)) dX12_holds_125 (fun v9 m286 h9 => ?_)
              obtain ⟨y287, rfl⟩ := h9
              have cy287 := m20.at m286 (by have q9 := tn_of (show x276.toInt = x276.toInt from rfl) (by omega); omega)
              refine lv_lstore (lv' := [(7, .long y287), (5, .long y283), (2, .int x276), (4, .int x263), (3, .int (nI i12)), (0, .ref o0), (1, .int kk)]) hx hb dX12_holds_126 hl (by decide) rfl (fun ls hl => ?_)
              refine lv_aload_n hx hb dX12_holds_128 rfl (lv_at hl 5 rfl) ?_
              refine tw_get hx hb hts bF_X12 hown hK hT hr_o0 shm_0 rfl 29 (by decide) (ht_at hts 3 rfl) (fun _ h9 => h9) dX12_holds_129 (fun v9 m288 h9 => ?_)
              obtain ⟨rfl, hg289⟩ := h9 _ rfl
              refine lv_iload_n hx hb dX12_holds_132 rfl (lv_at hl 2 rfl) ?_
              refine lv_iconst (v := 1) hx hb dX12_holds_133 (by decide) ?_
              refine lv_isub hx hb dX12_holds_134 ?_
              refine lv_topi (fun x290 ex290 => ?_)
              have t291 : x290.toInt = x276.toInt - 1 := ti_sub ex290 rfl (by decide) (by omega) (by omega)
              refine lv_iload hx hb dX12_holds_135 (lv_at hl 3 rfl) ?_
              refine lv_bipush (v := 101) hx hb dX12_holds_137 (by decide) ?_
              refine lv_icmp_ne (tgt := 150) hx hb dX12_holds_139 (by decide) (fun c292 => ?_) (fun c292 => ?_)
              · have t293 : x263.toInt ≠ 101 := ti_ne c292 rfl (by decide)
                refine lv_iload hx hb dX12_holds_150 (lv_at hl 3 rfl) ?_
                refine lv_bipush (v := 102) hx hb dX12_holds_152 (by decide) ?_
                refine lv_icmp_ne (tgt := 173) hx hb dX12_holds_154 (by decide) (fun c294 => ?_) (fun c294 => ?_)
                · have t295 : x263.toInt ≠ 102 := ti_ne c294 rfl (by decide)
                  refine lv_iload hx hb dX12_holds_173 (lv_at hl 3 rfl) ?_
                  refine lv_bipush (v := 103) hx hb dX12_holds_175 (by decide) ?_
                  refine lv_icmp_ne (tgt := 196) hx hb dX12_holds_177 (by decide) (fun c296 => ?_) (fun c296 => ?_)
                  · have t297 : x263.toInt ≠ 103 := ti_ne c296 rfl (by decide)
                    refine lv_iload hx hb dX12_holds_196 (lv_at hl 3 rfl) ?_
                    refine lv_bipush (v := 105) hx hb dX12_holds_198 (by decide) ?_
                    refine lv_icmp_ne (tgt := 211) hx hb dX12_holds_200 (by decide) (fun c298 => ?_) (fun c298 => ?_)
                    · have t299 : x263.toInt ≠ 105 := ti_ne c298 rfl (by decide)
                      refine lv_lload hx hb dX12_holds_211 (lv_at hl 1 rfl) ?_
                      refine lv_lload hx hb dX12_holds_213 (lv_at hl 0 rfl) ?_
                      refine va_mmax_long hx hb (hml.trans hl.1.symm) hown (ht_at hts 4 rfl) (ht_at hts 5 rfl) (ht_at hts 6 rfl) (ht_at hts 7 rfl) (Nat.le_of_ble_eq_true rfl) (Nat.le_of_ble_eq_true rfl) (Nat.le_of_ble_eq_true rfl) (Nat.le_of_ble_eq_true rfl) dX12_holds_215 ?_
                      refine lv_topl (fun y300 ey300 => ?_)
                      refine tw_last (i := x290)  hx hb hK hT hG hS hg5 shm_30 rfl (vin_t (a := x290.toInt) rfl (by omega) (by omega)) ⟨_, rfl⟩ dX12_holds_218 (fun H locs hT oq m301 oi hS => ?_)
                      have hF := hF.ast hg5 skm_30 oq (by decide)
                      have m302 := m15.kept (oq _ (gne hg1 hg5 (by decide)))
                      have m303 := m16.kept (oq _ (gne hg2 hg5 (by decide)))
                      have m304 := m17.kept (oq _ (gne hg3 hg5 (by decide)))
                      have m305 := m18.kept (oq _ (gne hg4 hg5 (by decide)))
                      have m306 := m20.put m301 oi
                      have m307 := m21.kept (oq _ (gne hg6 hg5 (by decide)))
                      have m308 := (el_kept (oq _ (gne hg1 hg5 (by decide)))).trans m22
                      refine lv_iinc (v := nI (i12 + 1)) (lv' := [(3, .int (nI (i12 + 1))), (7, .long y287), (5, .long y283), (2, .int x276), (4, .int x263), (0, .ref o0), (1, .int kk)]) hx hb dX12_holds_219 hl (k := 4) rfl (nI_add i12 1) (by decide) rfl (fun ls hl => ?_)
                      refine lv_goto (tgt := 9) hx hb dX12_holds_222 (by decide) ?_
                      exact ih221 (i12 + 1) (by omega) (by omega) x276 (cul V19 x290.toNatClampNeg y300) ⟨(by have q9 := (show x276.toInt = x276.toInt from rfl); (try have q8 := ti_all x276); omega), (by have := tn_of (show z13.toInt = z13.toInt from rfl) (by omega); have := tn_of (show x276.toInt = x276.toInt from rfl) (by omega); have := tn_of (show x290.toInt = x290.toInt from rfl) (by omega); have := tn_of (show x280.toInt = x280.toInt from rfl) (by omega); have f1 : y283 = V19 (z13.toNatClampNeg - 2) := (by rw [cy283, show x280.toNatClampNeg = z13.toNatClampNeg - 2 from by omega]); have f2 : y287 = V19 (z13.toNatClampNeg - 1) := (by rw [cy287, show x276.toNatClampNeg = z13.toNatClampNeg - 1 from by omega]); exact zLp_j hj23 (by omega) (by omega) (by omega) (by omega) (y := y300) (by rw [show zwo 0 vS vN i12 = 15 from by omega, ← f1, ← f2]; exact (ey300.trans (zjn_15 (by decide) (by decide) (by decide) (by decide)).symm)) (by rw [show x290.toNatClampNeg = z13.toNatClampNeg - 2 from by omega]))⟩ _ _ hT hF hS m302 m303 m304 m305 m306 m307 m308 ls (lv_sub hl [0, 3, 5, 6] rfl)
                    · have t310 : x263.toInt = 105 := ti_eq c298 rfl (by decide)
                      refine lv_lload hx hb dX12_holds_203 (lv_at hl 1 rfl) ?_
                      refine lv_lload hx hb dX12_holds_205 (lv_at hl 0 rfl) ?_
                      refine lv_lmul hx hb dX12_holds_207 ?_
                      refine lv_topl (fun y311 ey311 => ?_)
                      refine lv_goto (tgt := 218) hx hb dX12_holds_208 (by decide) ?_
                      refine tw_last (i := x290)  hx hb hK hT hG hS hg5 shm_30 rfl (vin_t (a := x290.toInt) rfl (by omega) (by omega)) ⟨_, rfl⟩ dX12_holds_218 (fun H locs hT oq m312 oi hS => ?_)
                      have hF := hF.ast hg5 skm_30 oq (by decide)
                      have m313 := m15.kept (oq _ (gne hg1 hg5 (by decide)))
                      have m314 := m16.kept (oq _ (gne hg2 hg5 (by decide)))
                      have m315 := m17.kept (oq _ (gne hg3 hg5 (by decide)))
                      have m316 := m18.kept (oq _ (gne hg4 hg5 (by decide)))
                      have m317 := m20.put m312 oi
                      have m318 := m21.kept (oq _ (gne hg6 hg5 (by decide)))
                      have m319 := (el_kept (oq _ (gne hg1 hg5 (by decide)))).trans m22
                      refine lv_iinc (v := nI (i12 + 1)) (lv' := [(3, .int (nI (i12 + 1))), (7, .long y287), (5, .long y283), (2, .int x276), (4, .int x263), (0, .ref o0), (1, .int kk)]) hx hb dX12_holds_219 hl (k := 4) rfl (nI_add i12 1) (by decide) rfl (fun ls hl => ?_)
                      refine lv_goto (tgt := 9) hx hb dX12_holds_222 (by decide) ?_
                      exact ih221 (i12 + 1) (by omega) (by omega) x276 (cul V19 x290.toNatClampNeg y311) ⟨(by have q9 := (show x276.toInt = x276.toInt from rfl); (try have q8 := ti_all x276); omega), (by have := tn_of (show z13.toInt = z13.toInt from rfl) (by omega); have := tn_of (show x276.toInt = x276.toInt from rfl) (by omega); have := tn_of (show x290.toInt = x290.toInt from rfl) (by omega); have := tn_of (show x280.toInt = x280.toInt from rfl) (by omega); have f1 : y283 = V19 (z13.toNatClampNeg - 2) := (by rw [cy283, show x280.toNatClampNeg = z13.toNatClampNeg - 2 from by omega]); have f2 : y287 = V19 (z13.toNatClampNeg - 1) := (by rw [cy287, show x276.toNatClampNeg = z13.toNatClampNeg - 1 from by omega]); exact zLp_j hj23 (by omega) (by omega) (by omega) (by omega) (y := y311) (by rw [show zwo 0 vS vN i12 = 14 from by omega, ← f1, ← f2]; exact (ey311.trans (zjn_14 rfl).symm)) (by rw [show x290.toNatClampNeg = z13.toNatClampNeg - 2 from by omega]))⟩ _ _ hT hF hS m313 m314 m315 m316 m317 m318 m319 ls (lv_sub hl [0, 3, 5, 6] rfl)
                  · have t321 : x263.toInt = 103 := ti_eq c296 rfl (by decide)
                    refine lv_lload hx hb dX12_holds_180 (lv_at hl 1 rfl) ?_
                    refine lv_lload hx hb dX12_holds_182 (lv_at hl 0 rfl) ?_
                    refine W.lcmp hx hb dX12_holds_184 ?_
                    refine lv_topi (fun x322 ex322 => ?_)
                    have t323 : (y283.toInt < y287.toInt ∧ x322.toInt = -1) ∨ (y283.toInt = y287.toInt ∧ x322.toInt = 0) ∨ (y287.toInt < y283.toInt ∧ x322.toInt = 1) := tl_c ex322 rfl rfl
                    refine lv_if_le (tgt := 192) hx hb dX12_holds_185 (by decide) (fun c324 => ?_) (fun c324 => ?_)
                    · have t325 : x322.toInt ≤ 0 := ti_le c324 rfl (by decide)
                      refine lv_lconst (v := 0) hx hb dX12_holds_192 (by decide) ?_
                      refine lv_goto (tgt := 218) hx hb dX12_holds_193 (by decide) ?_
                      refine tw_last (i := x290)  hx hb hK hT hG hS hg5 shm_30 rfl (vin_t (a := x290.toInt) rfl (by omega) (by omega)) ⟨_, rfl⟩ dX12_holds_218 (fun H locs hT oq m326 oi hS => ?_)
                      have hF := hF.ast hg5 skm_30 oq (by decide)
                      have m327 := m15.kept (oq _ (gne hg1 hg5 (by decide)))
                      have m328 := m16.kept (oq _ (gne hg2 hg5 (by decide)))
                      have m329 := m17.kept (oq _ (gne hg3 hg5 (by decide)))
                      have m330 := m18.kept (oq _ (gne hg4 hg5 (by decide)))
                      have m331 := m20.put m326 oi
                      have m332 := m21.kept (oq _ (gne hg6 hg5 (by decide)))
                      have m333 := (el_kept (oq _ (gne hg1 hg5 (by decide)))).trans m22
                      refine lv_iinc (v := nI (i12 + 1)) (lv' := [(3, .int (nI (i12 + 1))), (7, .long y287), (5, .long y283), (2, .int x276), (4, .int x263), (0, .ref o0), (1, .int kk)]) hx hb dX12_holds_219 hl (k := 4) rfl (nI_add i12 1) (by decide) rfl (fun ls hl => ?_)
                      refine lv_goto (tgt := 9) hx hb dX12_holds_222 (by decide) ?_
                      exact ih221 (i12 + 1) (by omega) (by omega) x276 (cul V19 x290.toNatClampNeg (0 : Int64)) ⟨(by have q9 := (show x276.toInt = x276.toInt from rfl); (try have q8 := ti_all x276); omega), (by have := tn_of (show z13.toInt = z13.toInt from rfl) (by omega); have := tn_of (show x276.toInt = x276.toInt from rfl) (by omega); have := tn_of (show x290.toInt = x290.toInt from rfl) (by omega); have := tn_of (show x280.toInt = x280.toInt from rfl) (by omega); have f1 : y283 = V19 (z13.toNatClampNeg - 2) := (by rw [cy283, show x280.toNatClampNeg = z13.toNatClampNeg - 2 from by omega]); have f2 : y287 = V19 (z13.toNatClampNeg - 1) := (by rw [cy287, show x276.toNatClampNeg = z13.toNatClampNeg - 1 from by omega]); exact zLp_j hj23 (by omega) (by omega) (by omega) (by omega) (y := (0 : Int64)) (by rw [show zwo 0 vS vN i12 = 12 from by omega, ← f1, ← f2]; exact ((zjn_12 rfl).2 (by omega)).symm) (by rw [show x290.toNatClampNeg = z13.toNatClampNeg - 2 from by omega]))⟩ _ _ hT hF hS m327 m328 m329 m330 m331 m332 m333 ls (lv_sub hl [0, 3, 5, 6] rfl)
                    · have t335 : 0 < x322.toInt := ti_nle c324 rfl (by decide)
                      refine lv_lconst (v := 1) hx hb dX12_holds_188 (by decide) ?_
                      refine lv_goto (tgt := 218) hx hb dX12_holds_189 (by decide) ?_
                      refine tw_last (i := x290)  hx hb hK hT hG hS hg5 shm_30 rfl (vin_t (a := x290.toInt) rfl (by omega) (by omega)) ⟨_, rfl⟩ dX12_holds_218 (fun H locs hT oq m336 oi hS => ?_)
                      have hF := hF.ast hg5 skm_30 oq (by decide)
                      have m337 := m15.kept (oq _ (gne hg1 hg5 (by decide)))
                      have m338 := m16.kept (oq _ (gne hg2 hg5 (by decide)))
                      have m339 := m17.kept (oq _ (gne hg3 hg5 (by decide)))
                      have m340 := m18.kept (oq _ (gne hg4 hg5 (by decide)))
                      have m341 := m20.put m336 oi
                      have m342 := m21.kept (oq _ (gne hg6 hg5 (by decide)))
                      have m343 := (el_kept (oq _ (gne hg1 hg5 (by decide)))).trans m22
                      refine lv_iinc (v := nI (i12 + 1)) (lv' := [(3, .int (nI (i12 + 1))), (7, .long y287), (5, .long y283), (2, .int x276), (4, .int x263), (0, .ref o0), (1, .int kk)]) hx hb dX12_holds_219 hl (k := 4) rfl (nI_add i12 1) (by decide) rfl (fun ls hl => ?_)
                      refine lv_goto (tgt := 9) hx hb dX12_holds_222 (by decide) ?_
                      exact ih221 (i12 + 1) (by omega) (by omega) x276 (cul V19 x290.toNatClampNeg (1 : Int64)) ⟨(by have q9 := (show x276.toInt = x276.toInt from rfl); (try have q8 := ti_all x276); omega), (by have := tn_of (show z13.toInt = z13.toInt from rfl) (by omega); have := tn_of (show x276.toInt = x276.toInt from rfl) (by omega); have := tn_of (show x290.toInt = x290.toInt from rfl) (by omega); have := tn_of (show x280.toInt = x280.toInt from rfl) (by omega); have f1 : y283 = V19 (z13.toNatClampNeg - 2) := (by rw [cy283, show x280.toNatClampNeg = z13.toNatClampNeg - 2 from by omega]); have f2 : y287 = V19 (z13.toNatClampNeg - 1) := (by rw [cy287, show x276.toNatClampNeg = z13.toNatClampNeg - 1 from by omega]); exact zLp_j hj23 (by omega) (by omega) (by omega) (by omega) (y := (1 : Int64)) (by rw [show zwo 0 vS vN i12 = 12 from by omega, ← f1, ← f2]; exact ((zjn_12 rfl).1 (by omega)).symm) (by rw [show x290.toNatClampNeg = z13.toNatClampNeg - 2 from by omega]))⟩ _ _ hT hF hS m337 m338 m339 m340 m341 m342 m343 ls (lv_sub hl [0, 3, 5, 6] rfl)
                · have t345 : x263.toInt = 102 := ti_eq c294 rfl (by decide)
                  refine lv_lload hx hb dX12_holds_157 (lv_at hl 1 rfl) ?_
                  refine lv_lload hx hb dX12_holds_159 (lv_at hl 0 rfl) ?_
                  refine W.lcmp hx hb dX12_holds_161 ?_
                  refine lv_topi (fun x346 ex346 => ?_)
                  have t347 : (y283.toInt < y287.toInt ∧ x346.toInt = -1) ∨ (y283.toInt = y287.toInt ∧ x346.toInt = 0) ∨ (y287.toInt < y283.toInt ∧ x346.toInt = 1) := tl_c ex346 rfl rfl
                  refine lv_if_ge (tgt := 169) hx hb dX12_holds_162 (by decide) (fun c348 => ?_) (fun c348 => ?_)
                  · have t349 : 0 ≤ x346.toInt := ti_le c348 (by decide) rfl
                    refine lv_lconst (v := 0) hx hb dX12_holds_169 (by decide) ?_
                    refine lv_goto (tgt := 218) hx hb dX12_holds_170 (by decide) ?_
                    refine tw_last (i := x290)  hx hb hK hT hG hS hg5 shm_30 rfl (vin_t (a := x290.toInt) rfl (by omega) (by omega)) ⟨_, rfl⟩ dX12_holds_218 (fun H locs hT oq m350 oi hS => ?_)
                    have hF := hF.ast hg5 skm_30 oq (by decide)
                    have m351 := m15.kept (oq _ (gne hg1 hg5 (by decide)))
                    have m352 := m16.kept (oq _ (gne hg2 hg5 (by decide)))
                    have m353 := m17.kept (oq _ (gne hg3 hg5 (by decide)))
                    have m354 := m18.kept (oq _ (gne hg4 hg5 (by decide)))
                    have m355 := m20.put m350 oi
                    have m356 := m21.kept (oq _ (gne hg6 hg5 (by decide)))
                    have m357 := (el_kept (oq _ (gne hg1 hg5 (by decide)))).trans m22
                    refine lv_iinc (v := nI (i12 + 1)) (lv' := [(3, .int (nI (i12 + 1))), (7, .long y287), (5, .long y283), (2, .int x276), (4, .int x263), (0, .ref o0), (1, .int kk)]) hx hb dX12_holds_219 hl (k := 4) rfl (nI_add i12 1) (by decide) rfl (fun ls hl => ?_)
                    refine lv_goto (tgt := 9) hx hb dX12_holds_222 (by decide) ?_
                    exact ih221 (i12 + 1) (by omega) (by omega) x276 (cul V19 x290.toNatClampNeg (0 : Int64)) ⟨(by have q9 := (show x276.toInt = x276.toInt from rfl); (try have q8 := ti_all x276); omega), (by have := tn_of (show z13.toInt = z13.toInt from rfl) (by omega); have := tn_of (show x276.toInt = x276.toInt from rfl) (by omega); have := tn_of (show x290.toInt = x290.toInt from rfl) (by omega); have := tn_of (show x280.toInt = x280.toInt from rfl) (by omega); have f1 : y283 = V19 (z13.toNatClampNeg - 2) := (by rw [cy283, show x280.toNatClampNeg = z13.toNatClampNeg - 2 from by omega]); have f2 : y287 = V19 (z13.toNatClampNeg - 1) := (by rw [cy287, show x276.toNatClampNeg = z13.toNatClampNeg - 1 from by omega]); exact zLp_j hj23 (by omega) (by omega) (by omega) (by omega) (y := (0 : Int64)) (by rw [show zwo 0 vS vN i12 = 11 from by omega, ← f1, ← f2]; exact ((zjn_11 rfl).2 (by omega)).symm) (by rw [show x290.toNatClampNeg = z13.toNatClampNeg - 2 from by omega]))⟩ _ _ hT hF hS m351 m352 m353 m354 m355 m356 m357 ls (lv_sub hl [0, 3, 5, 6] rfl)
                  · have t359 : x346.toInt < 0 := ti_nle c348 (by decide) rfl
                    refine lv_lconst (v := 1) hx hb dX12_holds_165 (by decide) ?_
                    refine lv_goto (tgt := 218) hx hb dX12_holds_166 (by decide) ?_
                    refine tw_last (i := x290)  hx hb hK hT hG hS hg5 shm_30 rfl (vin_t (a := x290.toInt) rfl (by omega) (by omega)) ⟨_, rfl⟩ dX12_holds_218 (fun H locs hT oq m360 oi hS => ?_)
                    have hF := hF.ast hg5 skm_30 oq (by decide)
                    have m361 := m15.kept (oq _ (gne hg1 hg5 (by decide)))
                    have m362 := m16.kept (oq _ (gne hg2 hg5 (by decide)))
                    have m363 := m17.kept (oq _ (gne hg3 hg5 (by decide)))
                    have m364 := m18.kept (oq _ (gne hg4 hg5 (by decide)))
                    have m365 := m20.put m360 oi
                    have m366 := m21.kept (oq _ (gne hg6 hg5 (by decide)))
                    have m367 := (el_kept (oq _ (gne hg1 hg5 (by decide)))).trans m22
                    refine lv_iinc (v := nI (i12 + 1)) (lv' := [(3, .int (nI (i12 + 1))), (7, .long y287), (5, .long y283), (2, .int x276), (4, .int x263), (0, .ref o0), (1, .int kk)]) hx hb dX12_holds_219 hl (k := 4) rfl (nI_add i12 1) (by decide) rfl (fun ls hl => ?_)
                    refine lv_goto (tgt := 9) hx hb dX12_holds_222 (by decide) ?_
                    exact ih221 (i12 + 1) (by omega) (by omega) x276 (cul V19 x290.toNatClampNeg (1 : Int64)) ⟨(by have q9 := (show x276.toInt = x276.toInt from rfl); (try have q8 := ti_all x276); omega), (by have := tn_of (show z13.toInt = z13.toInt from rfl) (by omega); have := tn_of (show x276.toInt = x276.toInt from rfl) (by omega); have := tn_of (show x290.toInt = x290.toInt from rfl) (by omega); have := tn_of (show x280.toInt = x280.toInt from rfl) (by omega); have f1 : y283 = V19 (z13.toNatClampNeg - 2) := (by rw [cy283, show x280.toNatClampNeg = z13.toNatClampNeg - 2 from by omega]); have f2 : y287 = V19 (z13.toNatClampNeg - 1) := (by rw [cy287, show x276.toNatClampNeg = z13.toNatClampNeg - 1 from by omega]); exact zLp_j hj23 (by omega) (by omega) (by omega) (by omega) (y := (1 : Int64)) (by rw [show zwo 0 vS vN i12 = 11 from by omega, ← f1, ← f2]; exact ((zjn_11 rfl).1 (by omega)).symm) (by rw [show x290.toNatClampNeg = z13.toNatClampNeg - 2 from by omega]))⟩ _ _ hT hF hS m361 m362 m363 m364 m365 m366 m367 ls (lv_sub hl [0, 3, 5, 6] rfl)
              · have t369 : x263.toInt = 101 := ti_eq c292 rfl (by decide)
                refine lv_lload hx hb dX12_holds_142 (lv_at hl 1 rfl) ?_
                refine lv_lload hx hb dX12_holds_144 (lv_at hl 0 rfl) ?_
                refine lv_ladd hx hb dX12_holds_146 ?_
                refine lv_topl (fun y370 ey370 => ?_)
                refine lv_goto (tgt := 218) hx hb dX12_holds_147 (by decide) ?_
                refine tw_last (i := x290)  hx hb hK hT hG hS hg5 shm_30 rfl (vin_t (a := x290.toInt) rfl (by omega) (by omega)) ⟨_, rfl⟩ dX12_holds_218 (fun H locs hT oq m371 oi hS => ?_)
                have hF := hF.ast hg5 skm_30 oq (by decide)
                have m372 := m15.kept (oq _ (gne hg1 hg5 (by decide)))
                have m373 := m16.kept (oq _ (gne hg2 hg5 (by decide)))
                have m374 := m17.kept (oq _ (gne hg3 hg5 (by decide)))
                have m375 := m18.kept (oq _ (gne hg4 hg5 (by decide)))
                have m376 := m20.put m371 oi
                have m377 := m21.kept (oq _ (gne hg6 hg5 (by decide)))
                have m378 := (el_kept (oq _ (gne hg1 hg5 (by decide)))).trans m22
                refine lv_iinc (v := nI (i12 + 1)) (lv' := [(3, .int (nI (i12 + 1))), (7, .long y287), (5, .long y283), (2, .int x276), (4, .int x263), (0, .ref o0), (1, .int kk)]) hx hb dX12_holds_219 hl (k := 4) rfl (nI_add i12 1) (by decide) rfl (fun ls hl => ?_)
                refine lv_goto (tgt := 9) hx hb dX12_holds_222 (by decide) ?_
                exact ih221 (i12 + 1) (by omega) (by omega) x276 (cul V19 x290.toNatClampNeg y370) ⟨(by have q9 := (show x276.toInt = x276.toInt from rfl); (try have q8 := ti_all x276); omega), (by have := tn_of (show z13.toInt = z13.toInt from rfl) (by omega); have := tn_of (show x276.toInt = x276.toInt from rfl) (by omega); have := tn_of (show x290.toInt = x290.toInt from rfl) (by omega); have := tn_of (show x280.toInt = x280.toInt from rfl) (by omega); have f1 : y283 = V19 (z13.toNatClampNeg - 2) := (by rw [cy283, show x280.toNatClampNeg = z13.toNatClampNeg - 2 from by omega]); have f2 : y287 = V19 (z13.toNatClampNeg - 1) := (by rw [cy287, show x276.toNatClampNeg = z13.toNatClampNeg - 1 from by omega]); exact zLp_j hj23 (by omega) (by omega) (by omega) (by omega) (y := y370) (by rw [show zwo 0 vS vN i12 = 10 from by omega, ← f1, ← f2]; exact (ey370.trans (zjn_10 rfl).symm)) (by rw [show x290.toNatClampNeg = z13.toNatClampNeg - 2 from by omega]))⟩ _ _ hT hF hS m372 m373 m374 m375 m376 m377 m378 ls (lv_sub hl [0, 3, 5, 6] rfl)
            · have t380 : x263.toInt = 104 := ti_eq c274 rfl (by decide)
              refine lv_aload_n hx hb dX12_holds_86 rfl (lv_at hl 3 rfl) ?_
              refine tw_get hx hb hts bF_X12 hown hK hT hr_o0 shm_0 rfl 29 (by decide) (ht_at hts 3 rfl) (fun _ h9 => h9) dX12_holds_87 (fun v9 m381 h9 => ?_)
              obtain ⟨rfl, hg382⟩ := h9 _ rfl
              refine lv_iload_n hx hb dX12_holds_90 rfl (lv_at hl 2 rfl) ?_
              refine lv_iconst (v := 1) hx hb dX12_holds_91 (by decide) ?_
              refine lv_isub hx hb dX12_holds_92 ?_
              refine lv_topi (fun x383 ex383 => ?_)
              have t384 : x383.toInt = z13.toInt - 1 := ti_sub ex383 rfl (by decide) (by omega) (by omega)
              refine lv_lconst (v := 1) hx hb dX12_holds_93 (by decide) ?_
              refine lv_aload_n hx hb dX12_holds_94 rfl (lv_at hl 3 rfl) ?_
              refine tw_get hx hb hts bF_X12 hown hK hT hr_o0 shm_0 rfl 29 (by decide) (ht_at hts 3 rfl) (fun _ h9 => h9) dX12_holds_95 (fun v9 m385 h9 => ?_)
              obtain ⟨rfl, hg386⟩ := h9 _ rfl
              refine lv_iload_n hx hb dX12_holds_98 rfl (lv_at hl 2 rfl) ?_
              refine lv_iconst (v := 1) hx hb dX12_holds_99 (by decide) ?_
              refine lv_isub hx hb dX12_holds_100 ?_
              refine lv_topi (fun x387 ex387 => ?_)
              have t388 : x387.toInt = z13.toInt - 1 := ti_sub ex387 rfl (by decide) (by omega) (by omega)
              refine tw_lald (i := x387) hx hb hK hT hg5 shm_30 rfl (vin_t (a := x387.toInt) rfl (by omega) (by omega)) dX12_holds_101 (fun v9 m389 h9 => ?_)
              obtain ⟨y390, rfl⟩ := h9
              have cy390 := m20.at m389 (by have q9 := tn_of (show x387.toInt = x387.toInt from rfl) (by omega); omega)
              refine lv_lsub hx hb dX12_holds_102 ?_
              refine lv_topl (fun y391 ey391 => ?_)
              refine tw_last (i := x383)  hx hb hK hT hG hS hg5 shm_30 rfl (vin_t (a := x383.toInt) rfl (by omega) (by omega)) ⟨_, rfl⟩ dX12_holds_103 (fun H locs hT oq m392 oi hS => ?_)
              have hF := hF.ast hg5 skm_30 oq (by decide)
              have m393 := m15.kept (oq _ (gne hg1 hg5 (by decide)))
              have m394 := m16.kept (oq _ (gne hg2 hg5 (by decide)))
              have m395 := m17.kept (oq _ (gne hg3 hg5 (by decide)))
              have m396 := m18.kept (oq _ (gne hg4 hg5 (by decide)))
              have m397 := m20.put m392 oi
              have m398 := m21.kept (oq _ (gne hg6 hg5 (by decide)))
              have m399 := (el_kept (oq _ (gne hg1 hg5 (by decide)))).trans m22
              refine lv_goto (tgt := 219) hx hb dX12_holds_104 (by decide) ?_
              refine lv_iinc (v := nI (i12 + 1)) (lv' := [(3, .int (nI (i12 + 1))), (4, .int x263), (2, .int z13), (0, .ref o0), (1, .int kk)]) hx hb dX12_holds_219 hl (k := 1) rfl (nI_add i12 1) (by decide) rfl (fun ls hl => ?_)
              refine lv_goto (tgt := 9) hx hb dX12_holds_222 (by decide) ?_
              exact ih221 (i12 + 1) (by omega) (by omega) z13 (cul V19 x383.toNatClampNeg y391) ⟨(by have q9 := (show z13.toInt = z13.toInt from rfl); (try have q8 := ti_all z13); omega), (by have := tn_of (show z13.toInt = z13.toInt from rfl) (by omega); have := tn_of (show x383.toInt = x383.toInt from rfl) (by omega); have := tn_of (show x387.toInt = x387.toInt from rfl) (by omega); exact zLp_t hj23 (by omega) (by omega) (y := y391) (by rw [ey391, cy390, show x387.toNatClampNeg = z13.toNatClampNeg - 1 from by omega]) (by rw [show x383.toNatClampNeg = z13.toNatClampNeg - 1 from by omega]))⟩ _ _ hT hF hS m393 m394 m395 m396 m397 m398 m399 ls (lv_sub hl [0, 2, 3, 4] rfl)
          · have t401 : x263.toInt = 100 := ti_eq c272 rfl (by decide)
            refine lv_aload_n hx hb dX12_holds_60 rfl (lv_at hl 3 rfl) ?_
            refine tw_get hx hb hts bF_X12 hown hK hT hr_o0 shm_0 rfl 29 (by decide) (ht_at hts 3 rfl) (fun _ h9 => h9) dX12_holds_61 (fun v9 m402 h9 => ?_)
            obtain ⟨rfl, hg403⟩ := h9 _ rfl
            refine lv_iload_n hx hb dX12_holds_64 rfl (lv_at hl 2 rfl) ?_
            obtain ⟨x404, ex404⟩ : ∃ y : Int32, y = z13 + 1 := ⟨_, rfl⟩
            have t405 : x404.toInt = z13.toInt + 1 := ti_add ex404 rfl (by decide) (by omega) (by omega)
            refine lv_iinc (v := x404) (lv' := [(2, .int x404), (4, .int x263), (3, .int (nI i12)), (0, .ref o0), (1, .int kk)]) hx hb dX12_holds_65 hl (k := 2) rfl (by first | (rw [ex404]; done) | (rw [ex404]; rfl)) (by decide) rfl (fun ls hl => ?_)
            refine lv_aload_n hx hb dX12_holds_68 rfl (lv_at hl 3 rfl) ?_
            refine tw_get hx hb hts bF_X12 hown hK hT hr_o0 shm_0 rfl 27 (by decide) (ht_at hts 8 rfl) (fun _ h9 => h9) dX12_holds_69 (fun v9 m406 h9 => ?_)
            obtain ⟨rfl, hg407⟩ := h9 _ rfl
            refine lv_iload_n hx hb dX12_holds_72 rfl (lv_at hl 2 rfl) ?_
            refine tw_iald (i := (nI i12)) hx hb hK hT hg4 shm_28 rfl (vp_in_nI (by omega) (by decide)) dX12_holds_73 (fun v9 m408 h9 => ?_)
            obtain ⟨x409, rfl, gx409, kx409⟩ := h9
            have cx409 := m18.at m408 (by have q9 := tn_of (show (nI i12).toInt = ((i12 : Nat) : Int) from (nI_toInt (by omega))) (by omega); omega)
            have t410 : (vN i12).toInt = x409.toInt := (by rw [cx409, tn_nI (by omega)])
            refine lv_i2l (v := x409.toInt64) hx hb dX12_holds_74 rfl ?_
            refine tw_last (i := z13)  hx hb hK hT hG hS hg5 shm_30 rfl (vin_t (a := z13.toInt) rfl (by omega) (by omega)) ⟨_, rfl⟩ dX12_holds_75 (fun H locs hT oq m411 oi hS => ?_)
            have hF := hF.ast hg5 skm_30 oq (by decide)
            have m412 := m15.kept (oq _ (gne hg1 hg5 (by decide)))
            have m413 := m16.kept (oq _ (gne hg2 hg5 (by decide)))
            have m414 := m17.kept (oq _ (gne hg3 hg5 (by decide)))
            have m415 := m18.kept (oq _ (gne hg4 hg5 (by decide)))
            have m416 := m20.put m411 oi
            have m417 := m21.kept (oq _ (gne hg6 hg5 (by decide)))
            have m418 := (el_kept (oq _ (gne hg1 hg5 (by decide)))).trans m22
            refine lv_goto (tgt := 219) hx hb dX12_holds_76 (by decide) ?_
            refine lv_iinc (v := nI (i12 + 1)) (lv' := [(3, .int (nI (i12 + 1))), (2, .int x404), (4, .int x263), (0, .ref o0), (1, .int kk)]) hx hb dX12_holds_219 hl (k := 2) rfl (nI_add i12 1) (by decide) rfl (fun ls hl => ?_)
            refine lv_goto (tgt := 9) hx hb dX12_holds_222 (by decide) ?_
            exact ih221 (i12 + 1) (by omega) (by omega) x404 (cul V19 z13.toNatClampNeg x409.toInt64) ⟨(by have q9 := (show x404.toInt = x404.toInt from rfl); (try have q8 := ti_all x404); omega), (by have := tn_of (show z13.toInt = z13.toInt from rfl) (by omega); have := tn_of (show x404.toInt = x404.toInt from rfl) (by omega); exact zLp_p hj23 (by omega) (y := x409.toInt64) (Or.inr ⟨by omega, by rw [i2l_of]; exact congrArg Int64.ofInt (by omega)⟩) (by omega) (by rw [show z13.toNatClampNeg = z13.toNatClampNeg from by omega]))⟩ _ _ hT hF hS m412 m413 m414 m415 m416 m417 m418 ls (lv_sub hl [0, 1, 3, 4] rfl)
        · have t420 : x263.toInt < 100 := ti_nle c270 (by decide) rfl
          refine lv_aload_n hx hb dX12_holds_34 rfl (lv_at hl 3 rfl) ?_
          refine tw_get hx hb hts bF_X12 hown hK hT hr_o0 shm_0 rfl 29 (by decide) (ht_at hts 3 rfl) (fun _ h9 => h9) dX12_holds_35 (fun v9 m421 h9 => ?_)
          obtain ⟨rfl, hg422⟩ := h9 _ rfl
          refine lv_iload_n hx hb dX12_holds_38 rfl (lv_at hl 2 rfl) ?_
          obtain ⟨x423, ex423⟩ : ∃ y : Int32, y = z13 + 1 := ⟨_, rfl⟩
          have t424 : x423.toInt = z13.toInt + 1 := ti_add ex423 rfl (by decide) (by omega) (by omega)
          refine lv_iinc (v := x423) (lv' := [(2, .int x423), (4, .int x263), (3, .int (nI i12)), (0, .ref o0), (1, .int kk)]) hx hb dX12_holds_39 hl (k := 2) rfl (by first | (rw [ex423]; done) | (rw [ex423]; rfl)) (by decide) rfl (fun ls hl => ?_)
          refine lv_aload_n hx hb dX12_holds_42 rfl (lv_at hl 3 rfl) ?_
          refine tw_get hx hb hts bF_X12 hown hK hT hr_o0 shm_0 rfl 30 (by decide) (ht_at hts 9 rfl) (fun _ h9 => h9) dX12_holds_43 (fun v9 m425 h9 => ?_)
          obtain ⟨rfl, hg426⟩ := h9 _ rfl
          refine lv_iload hx hb dX12_holds_46 (lv_at hl 1 rfl) ?_
          refine tw_lald (i := x263) hx hb hK hT hg6 shm_31 rfl (vin_t (a := x263.toInt) rfl (by omega) (by omega)) dX12_holds_48 (fun v9 m427 h9 => ?_)
          obtain ⟨y428, rfl⟩ := h9
          have cy428 := m21.at m427 (by have q9 := tn_of (show x263.toInt = x263.toInt from rfl) (by omega); omega)
          refine tw_last (i := z13)  hx hb hK hT hG hS hg5 shm_30 rfl (vin_t (a := z13.toInt) rfl (by omega) (by omega)) ⟨_, rfl⟩ dX12_holds_49 (fun H locs hT oq m429 oi hS => ?_)
          have hF := hF.ast hg5 skm_30 oq (by decide)
          have m430 := m15.kept (oq _ (gne hg1 hg5 (by decide)))
          have m431 := m16.kept (oq _ (gne hg2 hg5 (by decide)))
          have m432 := m17.kept (oq _ (gne hg3 hg5 (by decide)))
          have m433 := m18.kept (oq _ (gne hg4 hg5 (by decide)))
          have m434 := m20.put m429 oi
          have m435 := m21.kept (oq _ (gne hg6 hg5 (by decide)))
          have m436 := (el_kept (oq _ (gne hg1 hg5 (by decide)))).trans m22
          refine lv_goto (tgt := 219) hx hb dX12_holds_50 (by decide) ?_
          refine lv_iinc (v := nI (i12 + 1)) (lv' := [(3, .int (nI (i12 + 1))), (2, .int x423), (4, .int x263), (0, .ref o0), (1, .int kk)]) hx hb dX12_holds_219 hl (k := 2) rfl (nI_add i12 1) (by decide) rfl (fun ls hl => ?_)
          refine lv_goto (tgt := 9) hx hb dX12_holds_222 (by decide) ?_
          exact ih221 (i12 + 1) (by omega) (by omega) x423 (cul V19 z13.toNatClampNeg y428) ⟨(by have q9 := (show x423.toInt = x423.toInt from rfl); (try have q8 := ti_all x423); omega), (by have := tn_of (show z13.toInt = z13.toInt from rfl) (by omega); have := tn_of (show x423.toInt = x423.toInt from rfl) (by omega); exact zLp_p hj23 (by omega) (y := y428) (Or.inl ⟨by omega, by rw [cy428]; exact congrArg fL (by have := tn_of (show x263.toInt = x263.toInt from rfl) (by omega); omega)⟩) (by omega) (by rw [show z13.toNatClampNeg = z13.toNatClampNeg from by omega]))⟩ _ _ hT hF hS m430 m431 m432 m433 m434 m435 m436 ls (lv_sub hl [0, 1, 3, 4] rfl)
  exact key221 (400 - k11) k11 (by omega) (Nat.le_refl _) 0 vQ ⟨(by have q9 := (show (0 : Int32).toInt = 0 from (by decide)); (try have q8 := ti_all (0 : Int32)); omega), (zLp_0 hm9 (by rw [← cx10]; exact (tn_nI (by omega)).symm) (by decide))⟩ _ _ hT hF hS hc_vB hc_vX hc_vS hc_vN hc_vQ hc_fL m9 ls (lv_sub hl [0, 1, 2, 3] rfl)
def w_s_acresZ : List Cond := .code yX12_acres cX12_acres 4 (some .int) :: (HAppend.hAppend (α := List Cond) (β := List Cond) (γ := List Cond) [.fieldLink RX12 101 "SeaLandModel" "holds" "[I"] bs)
set_option maxHeartbeats 4000000 in
set_option maxRecDepth 100000 in
theorem s_acresZ (l : Launch) (dC : Nat → ClassId) (dI : Nat → Nat → Nat) (kA : Nat → ClassId) (adK adV : Nat → Nat) (G : gT) (H0 : Heap) (q : Nat → Nat) (wZ wN : Nat → Int) (wH wB wC : Int) (wL wK : Nat → Prop) (wU wV : Nat → Nat) (PI : Nat → Int → Prop) (im : Int) (PM PT : Nat → Int → Prop) (lS lB lE : Nat → Nat → Int → Prop) (lN : Nat → Int) (o0 : Nat) (pe : Int32) (vH : Nat → Int32)  (hT : gH (dC, dI) kA (SHm q (wP wZ wN wH wB wC wL wK wU wV) PI im PM PT lS lB lE lN) G H0) (hr_o0 : G o0 = some 0) (hq0 : 0 ≤ pe.toInt ∧ pe.toInt ≤ 59) (hno : (vH pe.toNatClampNeg).toInt < 0) (hc_vH : ct H0 (q 38) 60 vH) (hgz : ∀ i, 0 ≤ wZ i) (hgn : ∀ i, 6500000 ≤ wN i ∧ wN i ≤ 20200000) (hgh : 0 ≤ wH ∧ wH ≤ 40000) (hgb : 0 ≤ wB ∧ wB ≤ 3850000) (hgc : 0 ≤ wC ∧ wC ≤ 30) (hgi : 0 ≤ im ∧ im ≤ 1) (hgu : ∀ a t, G a = some (t + 1) → a = q t) : Met l yX12_acres w_s_acresZ ({ frames := 0, cells := 0, slots := 0, locals := 0 }) (va_Pc [.ref o0, .int pe] (fun U => U.heap = H0 ∧ va_K (dC, dI) vwCl (tyl kA) U ∧ EVS adK adV (gA G H0.size) U U.heap)) (va_Qi (fun (r : Int32) (u : Unit) => (0 ≤ r.toInt ∧ r.toInt ≤ 0) ∧ (r = 0)) (fun (_ : Unit) (t : State) => gH (dC, dI) kA (SHm q (wP wZ wN wH wB wC wL wK wU wV) PI im PM PT lS lB lE lN) G t.heap ∧ gF (dC, dI) SKm G ([] : List (Nat × Nat)) H0 t.heap) (gA G H0.size)) 0 0 (gA G H0.size) := by
  refine Met.ofW (cc := cX12_acres) (maxL := 4) (ret := (some .int)) (by decide) rfl ?_
  intro p e s m args below meth c s₁ B hml hv
  obtain ⟨rfl, hH0, hK, hE⟩ := hv
  have hx := B.exec
  have hb := B.bytes
  have hr := B.returns
  have hts := atoms_spec (ws := w_s_acresZ) B.pre
  have hown : s.vm.findClass RX12 = some m.cls := findClass_of_methodNamed B.named
  have hlocks := B.notSynchronized
  subst hH0
  generalize hAe : gA G s.heap.size = A at hE ⊢
  have hA : ∀ q : Nat, s.heap.size ≤ q → A q := fun q h => by rw [← hAe]; exact Or.inr h
  have hG := gA_of hAe
  have hS : va_S A s.heap s.heap [] := va_S.rf
  have hF : gF (dC, dI) SKm G ([] : List (Nat × Nat)) s.heap s.heap := gF.rf
  have hl := lv_entry ([.ref o0, .int pe]) (n := 4) (Nat.le_of_ble_eq_true rfl)
  rw [lg_entry_eq]
  generalize (lg_sl ([.ref o0, .int pe]) ++ List.replicate (4 - (lg_sl ([.ref o0, .int pe])).length) Slot.unset).toArray = ls at hl ⊢
  have hl : lv_has ls 4 [(0, .ref o0), (1, .int pe)] := hl
  have hg1 : G (q 38) = some 39 := gx_of hT hr_o0 shm_0 (k := 38) (by decide) rfl
  refine lv_iconst (v := 0) hx hb dX12_acres_0 (by decide) ?_
  refine lv_istore_n (lv' := [(2, .int 0), (0, .ref o0), (1, .int pe)]) hx hb dX12_acres_1 rfl hl (by decide) rfl (fun ls hl => ?_)
  refine lv_iconst (v := 0) hx hb dX12_acres_2 (by decide) ?_
  refine lv_istore_n (lv' := [(3, .int 0), (2, .int 0), (0, .ref o0), (1, .int pe)]) hx hb dX12_acres_3 rfl hl (by decide) rfl (fun ls hl => ?_)
  refine lv_iload_n hx hb dX12_acres_4 rfl (lv_at hl 0 rfl) ?_
  refine lv_bipush (v := 96) hx hb dX12_acres_5 (by decide) ?_
  refine lv_icmp_ge (tgt := 62) hx hb dX12_acres_7 (by decide) (fun c2 => absurd c2 (by decide)) (fun c2 => ?_)
  refine lv_aload_n hx hb dX12_acres_10 rfl (lv_at hl 2 rfl) ?_
  refine tw_get hx hb hts bF_X12 hown hK hT hr_o0 shm_0 rfl 38 (by decide) (ht_at hts 0 rfl) (fun _ h9 => h9) dX12_acres_11 (fun v9 m3 h9 => ?_)
  obtain ⟨rfl, hg4⟩ := h9 _ rfl
  refine lv_iload_n hx hb dX12_acres_14 rfl (lv_at hl 3 rfl) ?_
  refine tw_iald (i := pe) hx hb hK hT hg1 shm_39 rfl (vin_t (a := pe.toInt) rfl (by omega) (by omega)) dX12_acres_15 (fun v9 m5 h9 => ?_)
  obtain ⟨x6, rfl, gx6, kx6⟩ := h9
  have cx6 := hc_vH.at m5 (by have q9 := tn_of (show pe.toInt = pe.toInt from rfl) (by omega); omega)
  have t7 : x6.toInt < 0 := (by rw [cx6]; exact hno)
  refine lv_if_lt (tgt := 62) hx hb dX12_acres_16 (by decide) (fun c8 => ?_) (fun c8 => (by exfalso; have q9 : 0 ≤ x6.toInt := ti_nlt c8 rfl (by decide); omega))
  have t9 : x6.toInt < 0 := ti_lt c8 rfl (by decide)
  refine lv_iload_n hx hb dX12_acres_62 rfl (lv_at hl 1 rfl) ?_
  exact W.iret (v := 0) hx hb hr (fun t ht hW => ⟨⟨0, (), rfl, (by exact ⟨(rg_t (a := 0) (by decide) (by first | decide | omega) (by first | decide | omega)), rfl⟩), by (try dsimp only); rw [ht]; exact ⟨hT, hF⟩⟩, hS.F ht⟩) hS.2.2 dX12_acres_63
def w_s_nearZ : List Cond := .code yX12_near cX12_near 5 (some .int) :: (HAppend.hAppend (α := List Cond) (β := List Cond) (γ := List Cond) [.fieldLink RX12 101 "SeaLandModel" "holds" "[I"] bs)
set_option maxHeartbeats 4000000 in
set_option maxRecDepth 100000 in
theorem s_nearZ (l : Launch) (dC : Nat → ClassId) (dI : Nat → Nat → Nat) (kA : Nat → ClassId) (adK adV : Nat → Nat) (G : gT) (H0 : Heap) (q : Nat → Nat) (wZ wN : Nat → Int) (wH wB wC : Int) (wL wK : Nat → Prop) (wU wV : Nat → Nat) (PI : Nat → Int → Prop) (im : Int) (PM PT : Nat → Int → Prop) (lS lB lE : Nat → Nat → Int → Prop) (lN : Nat → Int) (o0 : Nat) (pe : Int32) (vH : Nat → Int32)  (hT : gH (dC, dI) kA (SHm q (wP wZ wN wH wB wC wL wK wU wV) PI im PM PT lS lB lE lN) G H0) (hr_o0 : G o0 = some 0) (hq0 : 0 ≤ pe.toInt ∧ pe.toInt ≤ 59) (hno : (vH pe.toNatClampNeg).toInt < 0) (hc_vH : ct H0 (q 38) 60 vH) (hgz : ∀ i, 0 ≤ wZ i) (hgn : ∀ i, 6500000 ≤ wN i ∧ wN i ≤ 20200000) (hgh : 0 ≤ wH ∧ wH ≤ 40000) (hgb : 0 ≤ wB ∧ wB ≤ 3850000) (hgc : 0 ≤ wC ∧ wC ≤ 30) (hgi : 0 ≤ im ∧ im ≤ 1) (hgu : ∀ a t, G a = some (t + 1) → a = q t) : Met l yX12_near w_s_nearZ ({ frames := 0, cells := 0, slots := 0, locals := 0 }) (va_Pc [.ref o0, .int pe] (fun U => U.heap = H0 ∧ va_K (dC, dI) vwCl (tyl kA) U ∧ EVS adK adV (gA G H0.size) U U.heap)) (va_Qi (fun (r : Int32) (u : Unit) => (99 ≤ r.toInt ∧ r.toInt ≤ 99) ∧ (r = 99)) (fun (_ : Unit) (t : State) => gH (dC, dI) kA (SHm q (wP wZ wN wH wB wC wL wK wU wV) PI im PM PT lS lB lE lN) G t.heap ∧ gF (dC, dI) SKm G ([] : List (Nat × Nat)) H0 t.heap) (gA G H0.size)) 0 0 (gA G H0.size) := by
  refine Met.ofW (cc := cX12_near) (maxL := 5) (ret := (some .int)) (by decide) rfl ?_
  intro p e s m args below meth c s₁ B hml hv
  obtain ⟨rfl, hH0, hK, hE⟩ := hv
  have hx := B.exec
  have hb := B.bytes
  have hr := B.returns
  have hts := atoms_spec (ws := w_s_nearZ) B.pre
  have hown : s.vm.findClass RX12 = some m.cls := findClass_of_methodNamed B.named
  have hlocks := B.notSynchronized
  subst hH0
  generalize hAe : gA G s.heap.size = A at hE ⊢
  have hA : ∀ q : Nat, s.heap.size ≤ q → A q := fun q h => by rw [← hAe]; exact Or.inr h
  have hG := gA_of hAe
  have hS : va_S A s.heap s.heap [] := va_S.rf
  have hF : gF (dC, dI) SKm G ([] : List (Nat × Nat)) s.heap s.heap := gF.rf
  have hl := lv_entry ([.ref o0, .int pe]) (n := 5) (Nat.le_of_ble_eq_true rfl)
  rw [lg_entry_eq]
  generalize (lg_sl ([.ref o0, .int pe]) ++ List.replicate (5 - (lg_sl ([.ref o0, .int pe])).length) Slot.unset).toArray = ls at hl ⊢
  have hl : lv_has ls 5 [(0, .ref o0), (1, .int pe)] := hl
  have hg1 : G (q 38) = some 39 := gx_of hT hr_o0 shm_0 (k := 38) (by decide) rfl
  refine lv_bipush (v := 99) hx hb dX12_near_0 (by decide) ?_
  refine lv_istore_n (lv' := [(2, .int 99), (0, .ref o0), (1, .int pe)]) hx hb dX12_near_2 rfl hl (by decide) rfl (fun ls hl => ?_)
  refine lv_iconst (v := 0) hx hb dX12_near_3 (by decide) ?_
  refine lv_istore_n (lv' := [(3, .int 0), (2, .int 99), (0, .ref o0), (1, .int pe)]) hx hb dX12_near_4 rfl hl (by decide) rfl (fun ls hl => ?_)
  refine lv_iload_n hx hb dX12_near_5 rfl (lv_at hl 0 rfl) ?_
  refine lv_bipush (v := 96) hx hb dX12_near_6 (by decide) ?_
  refine lv_icmp_ge (tgt := 105) hx hb dX12_near_8 (by decide) (fun c2 => absurd c2 (by decide)) (fun c2 => ?_)
  refine lv_aload_n hx hb dX12_near_11 rfl (lv_at hl 2 rfl) ?_
  refine tw_get hx hb hts bF_X12 hown hK hT hr_o0 shm_0 rfl 38 (by decide) (ht_at hts 0 rfl) (fun _ h9 => h9) dX12_near_12 (fun v9 m3 h9 => ?_)
  obtain ⟨rfl, hg4⟩ := h9 _ rfl
  refine lv_iload_n hx hb dX12_near_15 rfl (lv_at hl 3 rfl) ?_
  refine tw_iald (i := pe) hx hb hK hT hg1 shm_39 rfl (vin_t (a := pe.toInt) rfl (by omega) (by omega)) dX12_near_16 (fun v9 m5 h9 => ?_)
  obtain ⟨x6, rfl, gx6, kx6⟩ := h9
  have cx6 := hc_vH.at m5 (by have q9 := tn_of (show pe.toInt = pe.toInt from rfl) (by omega); omega)
  have t7 : x6.toInt < 0 := (by rw [cx6]; exact hno)
  refine lv_if_lt (tgt := 105) hx hb dX12_near_17 (by decide) (fun c8 => ?_) (fun c8 => (by exfalso; have q9 : 0 ≤ x6.toInt := ti_nlt c8 rfl (by decide); omega))
  have t9 : x6.toInt < 0 := ti_lt c8 rfl (by decide)
  refine lv_iload_n hx hb dX12_near_105 rfl (lv_at hl 1 rfl) ?_
  exact W.iret (v := 99) hx hb hr (fun t ht hW => ⟨⟨99, (), rfl, (by exact ⟨(rg_t (a := 99) (by decide) (by first | decide | omega) (by first | decide | omega)), rfl⟩), by (try dsimp only); rw [ht]; exact ⟨hT, hF⟩⟩, hS.F ht⟩) hS.2.2 dX12_near_106
def w_s_looksAtZ : List Cond := .code yX12_looksAt cX12_looksAt 2 none :: (HAppend.hAppend (α := List Cond) (β := List Cond) (γ := List Cond) [.fieldLink RX12 76 "SeaLandModel" "facts" "[J", .code yX12_acres cX12_acres 4 (some .int), .fieldLink RX12 101 "SeaLandModel" "holds" "[I", .methodLink RX12 467 yX12_acres, .instanceMethod yX12_acres, .selects RX12 yX12_acres yX12_acres, .initialized RX12, .fieldLink RX12 104 "SeaLandModel" "gain" "[I", .fieldLink RX12 79 "SeaLandModel" "age" "[I", .fieldLink RX12 82 "SeaLandModel" "sons" "[I", .fieldLink RX12 85 "SeaLandModel" "coin" "[I", .fieldLink RX12 88 "SeaLandModel" "cattle" "[I", .fieldLink RX12 91 "SeaLandModel" "isKin" "[Z", .fieldLink RX12 95 "SeaLandModel" "isBoard" "[Z", .code yX12_near cX12_near 5 (some .int), .methodLink RX12 469 yX12_near, .instanceMethod yX12_near, .selects RX12 yX12_near yX12_near, .fieldLink RX12 107 "SeaLandModel" "owes" "[I"] bs)
set_option maxHeartbeats 4000000 in
set_option maxRecDepth 100000 in
theorem s_looksAtZ (l : Launch) (dC : Nat → ClassId) (dI : Nat → Nat → Nat) (kA : Nat → ClassId) (adK adV : Nat → Nat) (G : gT) (H0 : Heap) (q : Nat → Nat) (wZ wN : Nat → Int) (wH wB wC : Int) (wL wK : Nat → Prop) (wU wV : Nat → Nat) (PI : Nat → Int → Prop) (im : Int) (PM PT : Nat → Int → Prop) (lS lB lE : Nat → Nat → Int → Prop) (lN : Nat → Int) (o0 : Nat) (pe : Int32) (vH : Nat → Int32) (vG : Nat → Int32) (vA : Nat → Int32) (vD : Nat → Int32) (vC : Nat → Int32) (vU : Nat → Int32) (vI : Nat → Int32) (vM : Nat → Int32) (vW : Nat → Int32) (fL : Nat → Int64)  (hT : gH (dC, dI) kA (SHm q (wP wZ wN wH wB wC wL wK wU wV) PI im PM PT lS lB lE lN) G H0) (hr_o0 : G o0 = some 0) (hq0 : 0 ≤ pe.toInt ∧ pe.toInt ≤ 59) (hno : (vH pe.toNatClampNeg).toInt < 0) (hc_vH : ct H0 (q 38) 60 vH) (hc_vG : ct H0 (q 39) 60 vG) (hc_vA : ct H0 (q 31) 60 vA) (hc_vD : ct H0 (q 32) 60 vD) (hc_vC : ct H0 (q 33) 60 vC) (hc_vU : ct H0 (q 34) 60 vU) (hc_vI : ct H0 (q 35) 60 vI) (hc_vM : ct H0 (q 36) 60 vM) (hc_vW : ct H0 (q 40) 60 vW) (hc_fL : ctl H0 (q 30) 10 fL) (hgz : ∀ i, 0 ≤ wZ i) (hgn : ∀ i, 6500000 ≤ wN i ∧ wN i ≤ 20200000) (hgh : 0 ≤ wH ∧ wH ≤ 40000) (hgb : 0 ≤ wB ∧ wB ≤ 3850000) (hgc : 0 ≤ wC ∧ wC ≤ 30) (hgi : 0 ≤ im ∧ im ≤ 1) (hgu : ∀ a t, G a = some (t + 1) → a = q t) : Met l yX12_looksAt w_s_looksAtZ ({ frames := 1, cells := 0, slots := 0, locals := 24 }) (va_Pc [.ref o0, .int pe] (fun U => U.heap = H0 ∧ va_K (dC, dI) vwCl (tyl kA) U ∧ EVS adK adV (gA G H0.size) U U.heap)) (va_Qv (fun (u : (Nat → Int64)) => (zfE [0, (vG pe.toNatClampNeg).toInt, (vA pe.toNatClampNeg).toInt, (vD pe.toNatClampNeg).toInt, (vC pe.toNatClampNeg).toInt, (vU pe.toNatClampNeg).toInt, (vI pe.toNatClampNeg).toInt, (vM pe.toNatClampNeg).toInt, 99, (vW pe.toNatClampNeg).toInt] u)) (fun (fL1 : (Nat → Int64)) (t : State) => gH (dC, dI) kA (SHm q (wP wZ wN wH wB wC wL wK wU wV) PI im PM PT lS lB lE lN) G t.heap ∧ gF (dC, dI) SKm G ([(31, 0)] : List (Nat × Nat)) H0 t.heap ∧ ctl t.heap (q 30) 10 fL1) (gA G H0.size)) 0 0 (gA G H0.size) := by
  refine Met.ofW (cc := cX12_looksAt) (maxL := 2) (ret := none) (by decide) rfl ?_
  intro p e s m args below meth c s₁ B hml hv
  obtain ⟨rfl, hH0, hK, hE⟩ := hv
  have hx := B.exec
  have hb := B.bytes
  have hr := B.returns
  have hts := atoms_spec (ws := w_s_looksAtZ) B.pre
  have hown : s.vm.findClass RX12 = some m.cls := findClass_of_methodNamed B.named
  have hlocks := B.notSynchronized
  subst hH0
  generalize hAe : gA G s.heap.size = A at hE ⊢
  have hA : ∀ q : Nat, s.heap.size ≤ q → A q := fun q h => by rw [← hAe]; exact Or.inr h
  have hG := gA_of hAe
  have hS : va_S A s.heap s.heap [] := va_S.rf
  have hF : gF (dC, dI) SKm G ([(31, 0)] : List (Nat × Nat)) s.heap s.heap := gF.rf
  have hl := lv_entry ([.ref o0, .int pe]) (n := 2) (Nat.le_of_ble_eq_true rfl)
  rw [lg_entry_eq]
  generalize (lg_sl ([.ref o0, .int pe]) ++ List.replicate (2 - (lg_sl ([.ref o0, .int pe])).length) Slot.unset).toArray = ls at hl ⊢
  have hl : lv_has ls 2 [(0, .ref o0), (1, .int pe)] := hl
  have hg1 : G (q 38) = some 39 := gx_of hT hr_o0 shm_0 (k := 38) (by decide) rfl
  have hg2 : G (q 39) = some 40 := gx_of hT hr_o0 shm_0 (k := 39) (by decide) rfl
  have hg3 : G (q 31) = some 32 := gx_of hT hr_o0 shm_0 (k := 31) (by decide) rfl
  have hg4 : G (q 32) = some 33 := gx_of hT hr_o0 shm_0 (k := 32) (by decide) rfl
  have hg5 : G (q 33) = some 34 := gx_of hT hr_o0 shm_0 (k := 33) (by decide) rfl
  have hg6 : G (q 34) = some 35 := gx_of hT hr_o0 shm_0 (k := 34) (by decide) rfl
  have hg7 : G (q 35) = some 36 := gx_of hT hr_o0 shm_0 (k := 35) (by decide) rfl
  have hg8 : G (q 36) = some 37 := gx_of hT hr_o0 shm_0 (k := 36) (by decide) rfl
  have hg9 : G (q 40) = some 41 := gx_of hT hr_o0 shm_0 (k := 40) (by decide) rfl
  have hg10 : G (q 30) = some 31 := gx_of hT hr_o0 shm_0 (k := 30) (by decide) rfl
  refine lv_aload_n hx hb dX12_looksAt_0 rfl (lv_at hl 0 rfl) ?_
  refine tw_get hx hb hts bF_X12 hown hK hT hr_o0 shm_0 rfl 30 (by decide) (ht_at hts 0 rfl) (fun _ h9 => h9) dX12_looksAt_1 (fun v9 m11 h9 => ?_)
  obtain ⟨rfl, hg12⟩ := h9 _ rfl
  refine lv_iconst (v := 0) hx hb dX12_looksAt_4 (by decide) ?_
  refine lv_aload_n hx hb dX12_looksAt_5 rfl (lv_at hl 0 rfl) ?_
  refine lv_iload_n hx hb dX12_looksAt_6 rfl (lv_at hl 1 rfl) ?_
  have hFc := gA_free hG hA hS
  refine va_calli (va_runV (As := [.int pe]) (rest := [.int 0, .ref (q 30)]) ⟨hx, hb, hml, hown, hts⟩ (s_acresZ l dC dI kA adK adV G s.heap q wZ wN wH wB wC wL wK wU wV PI im PM PT lS lB lE lN o0 pe vH hT hr_o0 (by have q8 := ti_all pe; omega) hno hc_vH hgz hgn hgh hgb hgc hgi hgu) (cwV 1 hts (goodIn_app (goodIn_r _ [4, 5, 6, 7] rfl (by decide +kernel)) (goodIn_ca (goodIn_r _ [2, 3] rfl (by decide +kernel)) (bs_in _ _))) rfl rfl rfl (by decide +kernel) ⟨(Nat.le_of_ble_eq_true rfl), (Nat.le_of_ble_eq_true rfl)⟩) ⟨fun a U g mk q => by obtain ⟨q0, q1, qK, qE⟩ := q; exact ⟨q0, q1, va_K.moved (u := U) (U := U.calling g mk a) (Vm.Alike.refl U.vm) qK, EVS.blind g mk a qE⟩, gH_rc hK hT hr_o0 shm_0 rfl, fun U hU hW => ⟨rfl, hU, va_K.moved hW.alike hK, hE.call hS hFc hU hW⟩⟩ rfl rfl hl.1 rfl (lv_room (Nat.le_of_ble_eq_true rfl)) dX12_looksAt_7 ⟨(Nat.le_of_ble_eq_true rfl), (Nat.le_of_ble_eq_true rfl)⟩) hS (fun q _ h => hFc q h) hFc (fun r13 u t H locs ht hvm hw14 hB _ _ hS => ?_)
  obtain ⟨hT, hF1⟩ := hB
  rw [ht] at hT hF1
  have m15 := hc_vH.kept (hF1.arr hg1 skm_39 (by decide))
  have m16 := hc_vG.kept (hF1.arr hg2 skm_40 (by decide))
  have m17 := hc_vA.kept (hF1.arr hg3 skm_32 (by decide))
  have m18 := hc_vD.kept (hF1.arr hg4 skm_33 (by decide))
  have m19 := hc_vC.kept (hF1.arr hg5 skm_34 (by decide))
  have m20 := hc_vU.kept (hF1.arr hg6 skm_35 (by decide))
  have m21 := hc_vI.kept (hF1.arr hg7 skm_36 (by decide))
  have m22 := hc_vM.kept (hF1.arr hg8 skm_37 (by decide))
  have m23 := hc_vW.kept (hF1.arr hg9 skm_41 (by decide))
  have m24 := hc_fL.kept (hF1.arr hg10 skm_31 (by decide))
  have hF := hF.more hF1 (by decide)
  try dsimp only at hw14
  obtain ⟨h25, hd26⟩ := hw14
  obtain rfl : (0 : Int32) = r13 := hd26.symm
  refine lv_i2l (v := 0) hx hb dX12_looksAt_10 (by decide) ?_
  refine tw_last (i := 0)  hx hb hK hT hG hS hg10 shm_31 rfl (by unfold vp_in; decide) ⟨_, rfl⟩ dX12_looksAt_11 (fun H locs hT oq m27 oi hS => ?_)
  have hF := hF.ast hg10 skm_31 oq (by decide)
  have m28 := m15.kept (oq _ (gne hg1 hg10 (by decide)))
  have m29 := m16.kept (oq _ (gne hg2 hg10 (by decide)))
  have m30 := m17.kept (oq _ (gne hg3 hg10 (by decide)))
  have m31 := m18.kept (oq _ (gne hg4 hg10 (by decide)))
  have m32 := m19.kept (oq _ (gne hg5 hg10 (by decide)))
  have m33 := m20.kept (oq _ (gne hg6 hg10 (by decide)))
  have m34 := m21.kept (oq _ (gne hg7 hg10 (by decide)))
  have m35 := m22.kept (oq _ (gne hg8 hg10 (by decide)))
  have m36 := m23.kept (oq _ (gne hg9 hg10 (by decide)))
  have m37 := m24.put m27 oi
  refine lv_aload_n hx hb dX12_looksAt_12 rfl (lv_at hl 0 rfl) ?_
  refine tw_get hx hb hts bF_X12 hown hK hT hr_o0 shm_0 rfl 30 (by decide) (ht_at hts 0 rfl) (fun _ h9 => h9) dX12_looksAt_13 (fun v9 m38 h9 => ?_)
  obtain ⟨rfl, hg39⟩ := h9 _ rfl
  refine lv_iconst (v := 1) hx hb dX12_looksAt_16 (by decide) ?_
  refine lv_aload_n hx hb dX12_looksAt_17 rfl (lv_at hl 0 rfl) ?_
  refine tw_get hx hb hts bF_X12 hown hK hT hr_o0 shm_0 rfl 39 (by decide) (ht_at hts 7 rfl) (fun _ h9 => h9) dX12_looksAt_18 (fun v9 m40 h9 => ?_)
  obtain ⟨rfl, hg41⟩ := h9 _ rfl
  refine lv_iload_n hx hb dX12_looksAt_21 rfl (lv_at hl 1 rfl) ?_
  refine tw_iald (i := pe) hx hb hK hT hg2 shm_40 rfl (vin_t (a := pe.toInt) rfl (by omega) (by omega)) dX12_looksAt_22 (fun v9 m42 h9 => ?_)
  obtain ⟨x43, rfl, gx43, kx43⟩ := h9
  have cx43 := m29.at m42 (by have q9 := tn_of (show pe.toInt = pe.toInt from rfl) (by omega); omega)
  refine lv_i2l (v := x43.toInt64) hx hb dX12_looksAt_23 rfl ?_
  refine tw_last (i := 1)  hx hb hK hT hG hS hg10 shm_31 rfl (by unfold vp_in; decide) ⟨_, rfl⟩ dX12_looksAt_24 (fun H locs hT oq m44 oi hS => ?_)
  have hF := hF.ast hg10 skm_31 oq (by decide)
  have m45 := m28.kept (oq _ (gne hg1 hg10 (by decide)))
  have m47 := m30.kept (oq _ (gne hg3 hg10 (by decide)))
  have m48 := m31.kept (oq _ (gne hg4 hg10 (by decide)))
  have m49 := m32.kept (oq _ (gne hg5 hg10 (by decide)))
  have m50 := m33.kept (oq _ (gne hg6 hg10 (by decide)))
  have m51 := m34.kept (oq _ (gne hg7 hg10 (by decide)))
  have m52 := m35.kept (oq _ (gne hg8 hg10 (by decide)))
  have m53 := m36.kept (oq _ (gne hg9 hg10 (by decide)))
  have m54 := m37.put m44 oi
  refine lv_aload_n hx hb dX12_looksAt_25 rfl (lv_at hl 0 rfl) ?_
  refine tw_get hx hb hts bF_X12 hown hK hT hr_o0 shm_0 rfl 30 (by decide) (ht_at hts 0 rfl) (fun _ h9 => h9) dX12_looksAt_26 (fun v9 m56 h9 => ?_)
  obtain ⟨rfl, hg57⟩ := h9 _ rfl
  refine lv_iconst (v := 2) hx hb dX12_looksAt_29 (by decide) ?_
  refine lv_aload_n hx hb dX12_looksAt_30 rfl (lv_at hl 0 rfl) ?_
  refine tw_get hx hb hts bF_X12 hown hK hT hr_o0 shm_0 rfl 31 (by decide) (ht_at hts 8 rfl) (fun _ h9 => h9) dX12_looksAt_31 (fun v9 m58 h9 => ?_)
  obtain ⟨rfl, hg59⟩ := h9 _ rfl
  refine lv_iload_n hx hb dX12_looksAt_34 rfl (lv_at hl 1 rfl) ?_
  refine tw_iald (i := pe) hx hb hK hT hg3 shm_32 rfl (vin_t (a := pe.toInt) rfl (by omega) (by omega)) dX12_looksAt_35 (fun v9 m60 h9 => ?_)
  obtain ⟨x61, rfl, gx61, kx61⟩ := h9
  have cx61 := m47.at m60 (by have q9 := tn_of (show pe.toInt = pe.toInt from rfl) (by omega); omega)
  refine lv_i2l (v := x61.toInt64) hx hb dX12_looksAt_36 rfl ?_
  refine tw_last (i := 2)  hx hb hK hT hG hS hg10 shm_31 rfl (by unfold vp_in; decide) ⟨_, rfl⟩ dX12_looksAt_37 (fun H locs hT oq m62 oi hS => ?_)
  have hF := hF.ast hg10 skm_31 oq (by decide)
  have m63 := m45.kept (oq _ (gne hg1 hg10 (by decide)))
  have m66 := m48.kept (oq _ (gne hg4 hg10 (by decide)))
  have m67 := m49.kept (oq _ (gne hg5 hg10 (by decide)))
  have m68 := m50.kept (oq _ (gne hg6 hg10 (by decide)))
  have m69 := m51.kept (oq _ (gne hg7 hg10 (by decide)))
  have m70 := m52.kept (oq _ (gne hg8 hg10 (by decide)))
  have m71 := m53.kept (oq _ (gne hg9 hg10 (by decide)))
  have m72 := m54.put m62 oi
  refine lv_aload_n hx hb dX12_looksAt_38 rfl (lv_at hl 0 rfl) ?_
  refine tw_get hx hb hts bF_X12 hown hK hT hr_o0 shm_0 rfl 30 (by decide) (ht_at hts 0 rfl) (fun _ h9 => h9) dX12_looksAt_39 (fun v9 m75 h9 => ?_)
  obtain ⟨rfl, hg76⟩ := h9 _ rfl
  refine lv_iconst (v := 3) hx hb dX12_looksAt_42 (by decide) ?_
  refine lv_aload_n hx hb dX12_looksAt_43 rfl (lv_at hl 0 rfl) ?_
  refine tw_get hx hb hts bF_X12 hown hK hT hr_o0 shm_0 rfl 32 (by decide) (ht_at hts 9 rfl) (fun _ h9 => h9) dX12_looksAt_44 (fun v9 m77 h9 => ?_)
  obtain ⟨rfl, hg78⟩ := h9 _ rfl
  refine lv_iload_n hx hb dX12_looksAt_47 rfl (lv_at hl 1 rfl) ?_
  refine tw_iald (i := pe) hx hb hK hT hg4 shm_33 rfl (vin_t (a := pe.toInt) rfl (by omega) (by omega)) dX12_looksAt_48 (fun v9 m79 h9 => ?_)
  obtain ⟨x80, rfl, gx80, kx80⟩ := h9
  have cx80 := m66.at m79 (by have q9 := tn_of (show pe.toInt = pe.toInt from rfl) (by omega); omega)
  refine lv_i2l (v := x80.toInt64) hx hb dX12_looksAt_49 rfl ?_
  refine tw_last (i := 3)  hx hb hK hT hG hS hg10 shm_31 rfl (by unfold vp_in; decide) ⟨_, rfl⟩ dX12_looksAt_50 (fun H locs hT oq m81 oi hS => ?_)
  have hF := hF.ast hg10 skm_31 oq (by decide)
  have m82 := m63.kept (oq _ (gne hg1 hg10 (by decide)))
  have m86 := m67.kept (oq _ (gne hg5 hg10 (by decide)))
  have m87 := m68.kept (oq _ (gne hg6 hg10 (by decide)))
  have m88 := m69.kept (oq _ (gne hg7 hg10 (by decide)))
  have m89 := m70.kept (oq _ (gne hg8 hg10 (by decide)))
  have m90 := m71.kept (oq _ (gne hg9 hg10 (by decide)))
  have m91 := m72.put m81 oi
  refine lv_aload_n hx hb dX12_looksAt_51 rfl (lv_at hl 0 rfl) ?_
  refine tw_get hx hb hts bF_X12 hown hK hT hr_o0 shm_0 rfl 30 (by decide) (ht_at hts 0 rfl) (fun _ h9 => h9) dX12_looksAt_52 (fun v9 m95 h9 => ?_)
  obtain ⟨rfl, hg96⟩ := h9 _ rfl
  refine lv_iconst (v := 4) hx hb dX12_looksAt_55 (by decide) ?_
  refine lv_aload_n hx hb dX12_looksAt_56 rfl (lv_at hl 0 rfl) ?_
  refine tw_get hx hb hts bF_X12 hown hK hT hr_o0 shm_0 rfl 33 (by decide) (ht_at hts 10 rfl) (fun _ h9 => h9) dX12_looksAt_57 (fun v9 m97 h9 => ?_)
  obtain ⟨rfl, hg98⟩ := h9 _ rfl
  refine lv_iload_n hx hb dX12_looksAt_60 rfl (lv_at hl 1 rfl) ?_
  refine tw_iald (i := pe) hx hb hK hT hg5 shm_34 rfl (vin_t (a := pe.toInt) rfl (by omega) (by omega)) dX12_looksAt_61 (fun v9 m99 h9 => ?_)
  obtain ⟨x100, rfl, gx100, kx100⟩ := h9
  have cx100 := m86.at m99 (by have q9 := tn_of (show pe.toInt = pe.toInt from rfl) (by omega); omega)
  refine lv_i2l (v := x100.toInt64) hx hb dX12_looksAt_62 rfl ?_
  refine tw_last (i := 4)  hx hb hK hT hG hS hg10 shm_31 rfl (by unfold vp_in; decide) ⟨_, rfl⟩ dX12_looksAt_63 (fun H locs hT oq m101 oi hS => ?_)
  have hF := hF.ast hg10 skm_31 oq (by decide)
  have m102 := m82.kept (oq _ (gne hg1 hg10 (by decide)))
  have m107 := m87.kept (oq _ (gne hg6 hg10 (by decide)))
  have m108 := m88.kept (oq _ (gne hg7 hg10 (by decide)))
  have m109 := m89.kept (oq _ (gne hg8 hg10 (by decide)))
  have m110 := m90.kept (oq _ (gne hg9 hg10 (by decide)))
  have m111 := m91.put m101 oi
  refine lv_aload_n hx hb dX12_looksAt_64 rfl (lv_at hl 0 rfl) ?_
  refine tw_get hx hb hts bF_X12 hown hK hT hr_o0 shm_0 rfl 30 (by decide) (ht_at hts 0 rfl) (fun _ h9 => h9) dX12_looksAt_65 (fun v9 m116 h9 => ?_)
  obtain ⟨rfl, hg117⟩ := h9 _ rfl
  refine lv_iconst (v := 5) hx hb dX12_looksAt_68 (by decide) ?_
  refine lv_aload_n hx hb dX12_looksAt_69 rfl (lv_at hl 0 rfl) ?_
  refine tw_get hx hb hts bF_X12 hown hK hT hr_o0 shm_0 rfl 34 (by decide) (ht_at hts 11 rfl) (fun _ h9 => h9) dX12_looksAt_70 (fun v9 m118 h9 => ?_)
  obtain ⟨rfl, hg119⟩ := h9 _ rfl
  refine lv_iload_n hx hb dX12_looksAt_73 rfl (lv_at hl 1 rfl) ?_
  refine tw_iald (i := pe) hx hb hK hT hg6 shm_35 rfl (vin_t (a := pe.toInt) rfl (by omega) (by omega)) dX12_looksAt_74 (fun v9 m120 h9 => ?_)
  obtain ⟨x121, rfl, gx121, kx121⟩ := h9
  have cx121 := m107.at m120 (by have q9 := tn_of (show pe.toInt = pe.toInt from rfl) (by omega); omega)
  refine lv_i2l (v := x121.toInt64) hx hb dX12_looksAt_75 rfl ?_
  refine tw_last (i := 5)  hx hb hK hT hG hS hg10 shm_31 rfl (by unfold vp_in; decide) ⟨_, rfl⟩ dX12_looksAt_76 (fun H locs hT oq m122 oi hS => ?_)
  have hF := hF.ast hg10 skm_31 oq (by decide)
  have m123 := m102.kept (oq _ (gne hg1 hg10 (by decide)))
  have m129 := m108.kept (oq _ (gne hg7 hg10 (by decide)))
  have m130 := m109.kept (oq _ (gne hg8 hg10 (by decide)))
  have m131 := m110.kept (oq _ (gne hg9 hg10 (by decide)))
  have m132 := m111.put m122 oi
  refine lv_aload_n hx hb dX12_looksAt_77 rfl (lv_at hl 0 rfl) ?_
  refine tw_get hx hb hts bF_X12 hown hK hT hr_o0 shm_0 rfl 30 (by decide) (ht_at hts 0 rfl) (fun _ h9 => h9) dX12_looksAt_78 (fun v9 m138 h9 => ?_)
  obtain ⟨rfl, hg139⟩ := h9 _ rfl
  refine lv_bipush (v := 6) hx hb dX12_looksAt_81 (by decide) ?_
  refine lv_aload_n hx hb dX12_looksAt_83 rfl (lv_at hl 0 rfl) ?_
  refine tw_get hx hb hts bF_X12 hown hK hT hr_o0 shm_0 rfl 35 (by decide) (ht_at hts 12 rfl) (fun _ h9 => h9) dX12_looksAt_84 (fun v9 m140 h9 => ?_)
  obtain ⟨rfl, hg141⟩ := h9 _ rfl
  refine lv_iload_n hx hb dX12_looksAt_87 rfl (lv_at hl 1 rfl) ?_
  refine tw_zald (i := pe) hx hb hK hT hg7 shm_36 rfl (vin_t (a := pe.toInt) rfl (by omega) (by omega)) dX12_looksAt_88 (fun v9 m142 h9 => ?_)
  obtain ⟨x143, rfl, gx143, kx143⟩ := h9
  have cx143 := m129.at m142 (by have q9 := tn_of (show pe.toInt = pe.toInt from rfl) (by omega); omega)
  refine lv_if_eq (tgt := 96) hx hb dX12_looksAt_89 (by decide) (fun c144 => ?_) (fun c144 => ?_)
  · have t145 : x143.toInt = 0 := ti_eq c144 rfl (by decide)
    refine lv_lconst (v := 0) hx hb dX12_looksAt_96 (by decide) ?_
    refine tw_last (i := 6)  hx hb hK hT hG hS hg10 shm_31 rfl (by unfold vp_in; decide) ⟨_, rfl⟩ dX12_looksAt_97 (fun H locs hT oq m146 oi hS => ?_)
    have hF := hF.ast hg10 skm_31 oq (by decide)
    have m147 := m123.kept (oq _ (gne hg1 hg10 (by decide)))
    have m154 := m130.kept (oq _ (gne hg8 hg10 (by decide)))
    have m155 := m131.kept (oq _ (gne hg9 hg10 (by decide)))
    have m156 := m132.put m146 oi
    refine lv_aload_n hx hb dX12_looksAt_98 rfl (lv_at hl 0 rfl) ?_
    refine tw_get hx hb hts bF_X12 hown hK hT hr_o0 shm_0 rfl 30 (by decide) (ht_at hts 0 rfl) (fun _ h9 => h9) dX12_looksAt_99 (fun v9 m163 h9 => ?_)
    obtain ⟨rfl, hg164⟩ := h9 _ rfl
    refine lv_bipush (v := 7) hx hb dX12_looksAt_102 (by decide) ?_
    refine lv_aload_n hx hb dX12_looksAt_104 rfl (lv_at hl 0 rfl) ?_
    refine tw_get hx hb hts bF_X12 hown hK hT hr_o0 shm_0 rfl 36 (by decide) (ht_at hts 13 rfl) (fun _ h9 => h9) dX12_looksAt_105 (fun v9 m165 h9 => ?_)
    obtain ⟨rfl, hg166⟩ := h9 _ rfl
    refine lv_iload_n hx hb dX12_looksAt_108 rfl (lv_at hl 1 rfl) ?_
    refine tw_zald (i := pe) hx hb hK hT hg8 shm_37 rfl (vin_t (a := pe.toInt) rfl (by omega) (by omega)) dX12_looksAt_109 (fun v9 m167 h9 => ?_)
    obtain ⟨x168, rfl, gx168, kx168⟩ := h9
    have cx168 := m154.at m167 (by have q9 := tn_of (show pe.toInt = pe.toInt from rfl) (by omega); omega)
    refine lv_if_eq (tgt := 117) hx hb dX12_looksAt_110 (by decide) (fun c169 => ?_) (fun c169 => ?_)
    · have t170 : x168.toInt = 0 := ti_eq c169 rfl (by decide)
      refine lv_lconst (v := 0) hx hb dX12_looksAt_117 (by decide) ?_
      refine tw_last (i := 7)  hx hb hK hT hG hS hg10 shm_31 rfl (by unfold vp_in; decide) ⟨_, rfl⟩ dX12_looksAt_118 (fun H locs hT oq m171 oi hS => ?_)
      have hF := hF.ast hg10 skm_31 oq (by decide)
      have m172 := m147.kept (oq _ (gne hg1 hg10 (by decide)))
      have m180 := m155.kept (oq _ (gne hg9 hg10 (by decide)))
      have m181 := m156.put m171 oi
      refine lv_aload_n hx hb dX12_looksAt_119 rfl (lv_at hl 0 rfl) ?_
      refine tw_get hx hb hts bF_X12 hown hK hT hr_o0 shm_0 rfl 30 (by decide) (ht_at hts 0 rfl) (fun _ h9 => h9) dX12_looksAt_120 (fun v9 m189 h9 => ?_)
      obtain ⟨rfl, hg190⟩ := h9 _ rfl
      refine lv_bipush (v := 8) hx hb dX12_looksAt_123 (by decide) ?_
      refine lv_aload_n hx hb dX12_looksAt_125 rfl (lv_at hl 0 rfl) ?_
      refine lv_iload_n hx hb dX12_looksAt_126 rfl (lv_at hl 1 rfl) ?_
      have hFc := gA_free hG hA hS
      refine va_calli (va_runV (As := [.int pe]) (rest := [.int 8, .ref (q 30)]) ⟨hx, hb, hml, hown, hts⟩ (s_nearZ l dC dI kA adK adV G H q wZ wN wH wB wC wL wK wU wV PI im PM PT lS lB lE lN o0 pe vH hT hr_o0 (by have q8 := ti_all pe; omega) hno m172 hgz hgn hgh hgb hgc hgi hgu) (cwV 1 hts (goodIn_app (goodIn_r _ [16, 17, 18, 7] rfl (by decide +kernel)) (goodIn_ca (goodIn_r _ [15, 3] rfl (by decide +kernel)) (bs_in _ _))) rfl rfl rfl (by decide +kernel) ⟨(Nat.le_of_ble_eq_true rfl), (Nat.le_of_ble_eq_true rfl)⟩) ⟨fun a U g mk q => by obtain ⟨q0, q1, qK, qE⟩ := q; exact ⟨q0, q1, va_K.moved (u := U) (U := U.calling g mk a) (Vm.Alike.refl U.vm) qK, EVS.blind g mk a qE⟩, gH_rc hK hT hr_o0 shm_0 rfl, fun U hU hW => ⟨rfl, hU, va_K.moved hW.alike hK, hE.call hS hFc hU hW⟩⟩ rfl rfl hl.1 rfl (lv_room (Nat.le_of_ble_eq_true rfl)) dX12_looksAt_127 ⟨(Nat.le_of_ble_eq_true rfl), (Nat.le_of_ble_eq_true rfl)⟩) hS (fun q _ h => hFc q h) hFc (fun r191 u t H locs ht hvm hw192 hB _ _ hS => ?_)
      obtain ⟨hT, hF1⟩ := hB
      rw [ht] at hT hF1
      have m201 := m180.kept (hF1.arr hg9 skm_41 (by decide))
      have m202 := m181.kept (hF1.arr hg10 skm_31 (by decide))
      have hF := hF.more hF1 (by decide)
      try dsimp only at hw192
      obtain ⟨h210, hd211⟩ := hw192
      obtain rfl : (99 : Int32) = r191 := hd211.symm
      refine lv_i2l (v := 99) hx hb dX12_looksAt_130 (by decide) ?_
      refine tw_last (i := 8)  hx hb hK hT hG hS hg10 shm_31 rfl (by unfold vp_in; decide) ⟨_, rfl⟩ dX12_looksAt_131 (fun H locs hT oq m212 oi hS => ?_)
      have hF := hF.ast hg10 skm_31 oq (by decide)
      have m221 := m201.kept (oq _ (gne hg9 hg10 (by decide)))
      have m222 := m202.put m212 oi
      refine lv_aload_n hx hb dX12_looksAt_132 rfl (lv_at hl 0 rfl) ?_
      refine tw_get hx hb hts bF_X12 hown hK hT hr_o0 shm_0 rfl 30 (by decide) (ht_at hts 0 rfl) (fun _ h9 => h9) dX12_looksAt_133 (fun v9 m230 h9 => ?_)
      obtain ⟨rfl, hg231⟩ := h9 _ rfl
      refine lv_bipush (v := 9) hx hb dX12_looksAt_136 (by decide) ?_
      refine lv_aload_n hx hb dX12_looksAt_138 rfl (lv_at hl 0 rfl) ?_
      refine tw_get hx hb hts bF_X12 hown hK hT hr_o0 shm_0 rfl 40 (by decide) (ht_at hts 18 rfl) (fun _ h9 => h9) dX12_looksAt_139 (fun v9 m232 h9 => ?_)
      obtain ⟨rfl, hg233⟩ := h9 _ rfl
      refine lv_iload_n hx hb dX12_looksAt_142 rfl (lv_at hl 1 rfl) ?_
      refine tw_iald (i := pe) hx hb hK hT hg9 shm_41 rfl (vin_t (a := pe.toInt) rfl (by omega) (by omega)) dX12_looksAt_143 (fun v9 m234 h9 => ?_)
      obtain ⟨x235, rfl, gx235, kx235⟩ := h9
      have cx235 := m221.at m234 (by have q9 := tn_of (show pe.toInt = pe.toInt from rfl) (by omega); omega)
      refine lv_i2l (v := x235.toInt64) hx hb dX12_looksAt_144 rfl ?_
      refine tw_last (i := 9)  hx hb hK hT hG hS hg10 shm_31 rfl (by unfold vp_in; decide) ⟨_, rfl⟩ dX12_looksAt_145 (fun H locs hT oq m236 oi hS => ?_)
      have hF := hF.ast hg10 skm_31 oq (by decide)
      have m246 := m222.put m236 oi
      exact W.vret hx hb hr (fun t ht hW => ⟨⟨(cul (cul (cul (cul (cul (cul (cul (cul (cul (cul fL (0 : Int32).toNatClampNeg (0 : Int64)) (1 : Int32).toNatClampNeg x43.toInt64) (2 : Int32).toNatClampNeg x61.toInt64) (3 : Int32).toNatClampNeg x80.toInt64) (4 : Int32).toNatClampNeg x100.toInt64) (5 : Int32).toNatClampNeg x121.toInt64) (6 : Int32).toNatClampNeg (0 : Int64)) (7 : Int32).toNatClampNeg (0 : Int64)) (8 : Int32).toNatClampNeg (99 : Int64)) (9 : Int32).toNatClampNeg x235.toInt64), rfl, (by exact (by intro k hk; (try dsimp only); rcases (show k = 0 ∨ k = 1 ∨ k = 2 ∨ k = 3 ∨ k = 4 ∨ k = 5 ∨ k = 6 ∨ k = 7 ∨ k = 8 ∨ k = 9 by omega) with rfl | rfl | rfl | rfl | rfl | rfl | rfl | rfl | rfl | rfl; (rw [cul_o (show (0 : Nat) ≠ (9 : Int32).toNatClampNeg from by decide), cul_o (show (0 : Nat) ≠ (8 : Int32).toNatClampNeg from by decide), cul_o (show (0 : Nat) ≠ (7 : Int32).toNatClampNeg from by decide), cul_o (show (0 : Nat) ≠ (6 : Int32).toNatClampNeg from by decide), cul_o (show (0 : Nat) ≠ (5 : Int32).toNatClampNeg from by decide), cul_o (show (0 : Nat) ≠ (4 : Int32).toNatClampNeg from by decide), cul_o (show (0 : Nat) ≠ (3 : Int32).toNatClampNeg from by decide), cul_o (show (0 : Nat) ≠ (2 : Int32).toNatClampNeg from by decide), cul_o (show (0 : Nat) ≠ (1 : Int32).toNatClampNeg from by decide), cul_s (show (0 : Nat) = (0 : Int32).toNatClampNeg from by decide)]; decide); (rw [cul_o (show (1 : Nat) ≠ (9 : Int32).toNatClampNeg from by decide), cul_o (show (1 : Nat) ≠ (8 : Int32).toNatClampNeg from by decide), cul_o (show (1 : Nat) ≠ (7 : Int32).toNatClampNeg from by decide), cul_o (show (1 : Nat) ≠ (6 : Int32).toNatClampNeg from by decide), cul_o (show (1 : Nat) ≠ (5 : Int32).toNatClampNeg from by decide), cul_o (show (1 : Nat) ≠ (4 : Int32).toNatClampNeg from by decide), cul_o (show (1 : Nat) ≠ (3 : Int32).toNatClampNeg from by decide), cul_o (show (1 : Nat) ≠ (2 : Int32).toNatClampNeg from by decide), cul_s (show (1 : Nat) = (1 : Int32).toNatClampNeg from by decide)]; rw [i2l_of, cx43]; rfl); (rw [cul_o (show (2 : Nat) ≠ (9 : Int32).toNatClampNeg from by decide), cul_o (show (2 : Nat) ≠ (8 : Int32).toNatClampNeg from by decide), cul_o (show (2 : Nat) ≠ (7 : Int32).toNatClampNeg from by decide), cul_o (show (2 : Nat) ≠ (6 : Int32).toNatClampNeg from by decide), cul_o (show (2 : Nat) ≠ (5 : Int32).toNatClampNeg from by decide), cul_o (show (2 : Nat) ≠ (4 : Int32).toNatClampNeg from by decide), cul_o (show (2 : Nat) ≠ (3 : Int32).toNatClampNeg from by decide), cul_s (show (2 : Nat) = (2 : Int32).toNatClampNeg from by decide)]; rw [i2l_of, cx61]; rfl); (rw [cul_o (show (3 : Nat) ≠ (9 : Int32).toNatClampNeg from by decide), cul_o (show (3 : Nat) ≠ (8 : Int32).toNatClampNeg from by decide), cul_o (show (3 : Nat) ≠ (7 : Int32).toNatClampNeg from by decide), cul_o (show (3 : Nat) ≠ (6 : Int32).toNatClampNeg from by decide), cul_o (show (3 : Nat) ≠ (5 : Int32).toNatClampNeg from by decide), cul_o (show (3 : Nat) ≠ (4 : Int32).toNatClampNeg from by decide), cul_s (show (3 : Nat) = (3 : Int32).toNatClampNeg from by decide)]; rw [i2l_of, cx80]; rfl); (rw [cul_o (show (4 : Nat) ≠ (9 : Int32).toNatClampNeg from by decide), cul_o (show (4 : Nat) ≠ (8 : Int32).toNatClampNeg from by decide), cul_o (show (4 : Nat) ≠ (7 : Int32).toNatClampNeg from by decide), cul_o (show (4 : Nat) ≠ (6 : Int32).toNatClampNeg from by decide), cul_o (show (4 : Nat) ≠ (5 : Int32).toNatClampNeg from by decide), cul_s (show (4 : Nat) = (4 : Int32).toNatClampNeg from by decide)]; rw [i2l_of, cx100]; rfl); (rw [cul_o (show (5 : Nat) ≠ (9 : Int32).toNatClampNeg from by decide), cul_o (show (5 : Nat) ≠ (8 : Int32).toNatClampNeg from by decide), cul_o (show (5 : Nat) ≠ (7 : Int32).toNatClampNeg from by decide), cul_o (show (5 : Nat) ≠ (6 : Int32).toNatClampNeg from by decide), cul_s (show (5 : Nat) = (5 : Int32).toNatClampNeg from by decide)]; rw [i2l_of, cx121]; rfl); (rw [cul_o (show (6 : Nat) ≠ (9 : Int32).toNatClampNeg from by decide), cul_o (show (6 : Nat) ≠ (8 : Int32).toNatClampNeg from by decide), cul_o (show (6 : Nat) ≠ (7 : Int32).toNatClampNeg from by decide), cul_s (show (6 : Nat) = (6 : Int32).toNatClampNeg from by decide)]; show _ = Int64.ofInt (vI pe.toNatClampNeg).toInt; rw [show (vI pe.toNatClampNeg).toInt = 0 from by rw [← cx143]; omega]; decide); (rw [cul_o (show (7 : Nat) ≠ (9 : Int32).toNatClampNeg from by decide), cul_o (show (7 : Nat) ≠ (8 : Int32).toNatClampNeg from by decide), cul_s (show (7 : Nat) = (7 : Int32).toNatClampNeg from by decide)]; show _ = Int64.ofInt (vM pe.toNatClampNeg).toInt; rw [show (vM pe.toNatClampNeg).toInt = 0 from by rw [← cx168]; omega]; decide); (rw [cul_o (show (8 : Nat) ≠ (9 : Int32).toNatClampNeg from by decide), cul_s (show (8 : Nat) = (8 : Int32).toNatClampNeg from by decide)]; decide); (rw [cul_s (show (9 : Nat) = (9 : Int32).toNatClampNeg from by decide)]; rw [i2l_of, cx235]; rfl))), by (try dsimp only); rw [ht]; exact ⟨hT, hF, m246⟩⟩, hS.F ht⟩) hS.2.2 dX12_looksAt_146
    · have t255 : x168.toInt ≠ 0 := ti_ne c169 rfl (by decide)
      refine lv_lconst (v := 1) hx hb dX12_looksAt_113 (by decide) ?_
      refine lv_goto (tgt := 118) hx hb dX12_looksAt_114 (by decide) ?_
      refine tw_last (i := 7)  hx hb hK hT hG hS hg10 shm_31 rfl (by unfold vp_in; decide) ⟨_, rfl⟩ dX12_looksAt_118 (fun H locs hT oq m256 oi hS => ?_)
      have hF := hF.ast hg10 skm_31 oq (by decide)
      have m257 := m147.kept (oq _ (gne hg1 hg10 (by decide)))
      have m265 := m155.kept (oq _ (gne hg9 hg10 (by decide)))
      have m266 := m156.put m256 oi
      refine lv_aload_n hx hb dX12_looksAt_119 rfl (lv_at hl 0 rfl) ?_
      refine tw_get hx hb hts bF_X12 hown hK hT hr_o0 shm_0 rfl 30 (by decide) (ht_at hts 0 rfl) (fun _ h9 => h9) dX12_looksAt_120 (fun v9 m274 h9 => ?_)
      obtain ⟨rfl, hg275⟩ := h9 _ rfl
      refine lv_bipush (v := 8) hx hb dX12_looksAt_123 (by decide) ?_
      refine lv_aload_n hx hb dX12_looksAt_125 rfl (lv_at hl 0 rfl) ?_
      refine lv_iload_n hx hb dX12_looksAt_126 rfl (lv_at hl 1 rfl) ?_
      have hFc := gA_free hG hA hS
      refine va_calli (va_runV (As := [.int pe]) (rest := [.int 8, .ref (q 30)]) ⟨hx, hb, hml, hown, hts⟩ (s_nearZ l dC dI kA adK adV G H q wZ wN wH wB wC wL wK wU wV PI im PM PT lS lB lE lN o0 pe vH hT hr_o0 (by have q8 := ti_all pe; omega) hno m257 hgz hgn hgh hgb hgc hgi hgu) (cwV 1 hts (goodIn_app (goodIn_r _ [16, 17, 18, 7] rfl (by decide +kernel)) (goodIn_ca (goodIn_r _ [15, 3] rfl (by decide +kernel)) (bs_in _ _))) rfl rfl rfl (by decide +kernel) ⟨(Nat.le_of_ble_eq_true rfl), (Nat.le_of_ble_eq_true rfl)⟩) ⟨fun a U g mk q => by obtain ⟨q0, q1, qK, qE⟩ := q; exact ⟨q0, q1, va_K.moved (u := U) (U := U.calling g mk a) (Vm.Alike.refl U.vm) qK, EVS.blind g mk a qE⟩, gH_rc hK hT hr_o0 shm_0 rfl, fun U hU hW => ⟨rfl, hU, va_K.moved hW.alike hK, hE.call hS hFc hU hW⟩⟩ rfl rfl hl.1 rfl (lv_room (Nat.le_of_ble_eq_true rfl)) dX12_looksAt_127 ⟨(Nat.le_of_ble_eq_true rfl), (Nat.le_of_ble_eq_true rfl)⟩) hS (fun q _ h => hFc q h) hFc (fun r276 u t H locs ht hvm hw277 hB _ _ hS => ?_)
      obtain ⟨hT, hF1⟩ := hB
      rw [ht] at hT hF1
      have m286 := m265.kept (hF1.arr hg9 skm_41 (by decide))
      have m287 := m266.kept (hF1.arr hg10 skm_31 (by decide))
      have hF := hF.more hF1 (by decide)
      try dsimp only at hw277
      obtain ⟨h295, hd296⟩ := hw277
      obtain rfl : (99 : Int32) = r276 := hd296.symm
      refine lv_i2l (v := 99) hx hb dX12_looksAt_130 (by decide) ?_
      refine tw_last (i := 8)  hx hb hK hT hG hS hg10 shm_31 rfl (by unfold vp_in; decide) ⟨_, rfl⟩ dX12_looksAt_131 (fun H locs hT oq m297 oi hS => ?_)
      have hF := hF.ast hg10 skm_31 oq (by decide)
      have m306 := m286.kept (oq _ (gne hg9 hg10 (by decide)))
      have m307 := m287.put m297 oi
      refine lv_aload_n hx hb dX12_looksAt_132 rfl (lv_at hl 0 rfl) ?_
      refine tw_get hx hb hts bF_X12 hown hK hT hr_o0 shm_0 rfl 30 (by decide) (ht_at hts 0 rfl) (fun _ h9 => h9) dX12_looksAt_133 (fun v9 m315 h9 => ?_)
      obtain ⟨rfl, hg316⟩ := h9 _ rfl
      refine lv_bipush (v := 9) hx hb dX12_looksAt_136 (by decide) ?_
      refine lv_aload_n hx hb dX12_looksAt_138 rfl (lv_at hl 0 rfl) ?_
      refine tw_get hx hb hts bF_X12 hown hK hT hr_o0 shm_0 rfl 40 (by decide) (ht_at hts 18 rfl) (fun _ h9 => h9) dX12_looksAt_139 (fun v9 m317 h9 => ?_)
      obtain ⟨rfl, hg318⟩ := h9 _ rfl
      refine lv_iload_n hx hb dX12_looksAt_142 rfl (lv_at hl 1 rfl) ?_
      refine tw_iald (i := pe) hx hb hK hT hg9 shm_41 rfl (vin_t (a := pe.toInt) rfl (by omega) (by omega)) dX12_looksAt_143 (fun v9 m319 h9 => ?_)
      obtain ⟨x320, rfl, gx320, kx320⟩ := h9
      have cx320 := m306.at m319 (by have q9 := tn_of (show pe.toInt = pe.toInt from rfl) (by omega); omega)
      refine lv_i2l (v := x320.toInt64) hx hb dX12_looksAt_144 rfl ?_
      refine tw_last (i := 9)  hx hb hK hT hG hS hg10 shm_31 rfl (by unfold vp_in; decide) ⟨_, rfl⟩ dX12_looksAt_145 (fun H locs hT oq m321 oi hS => ?_)
      have hF := hF.ast hg10 skm_31 oq (by decide)
      have m331 := m307.put m321 oi
      exact W.vret hx hb hr (fun t ht hW => ⟨⟨(cul (cul (cul (cul (cul (cul (cul (cul (cul (cul fL (0 : Int32).toNatClampNeg (0 : Int64)) (1 : Int32).toNatClampNeg x43.toInt64) (2 : Int32).toNatClampNeg x61.toInt64) (3 : Int32).toNatClampNeg x80.toInt64) (4 : Int32).toNatClampNeg x100.toInt64) (5 : Int32).toNatClampNeg x121.toInt64) (6 : Int32).toNatClampNeg (0 : Int64)) (7 : Int32).toNatClampNeg (1 : Int64)) (8 : Int32).toNatClampNeg (99 : Int64)) (9 : Int32).toNatClampNeg x320.toInt64), rfl, (by exact (by intro k hk; (try dsimp only); rcases (show k = 0 ∨ k = 1 ∨ k = 2 ∨ k = 3 ∨ k = 4 ∨ k = 5 ∨ k = 6 ∨ k = 7 ∨ k = 8 ∨ k = 9 by omega) with rfl | rfl | rfl | rfl | rfl | rfl | rfl | rfl | rfl | rfl; (rw [cul_o (show (0 : Nat) ≠ (9 : Int32).toNatClampNeg from by decide), cul_o (show (0 : Nat) ≠ (8 : Int32).toNatClampNeg from by decide), cul_o (show (0 : Nat) ≠ (7 : Int32).toNatClampNeg from by decide), cul_o (show (0 : Nat) ≠ (6 : Int32).toNatClampNeg from by decide), cul_o (show (0 : Nat) ≠ (5 : Int32).toNatClampNeg from by decide), cul_o (show (0 : Nat) ≠ (4 : Int32).toNatClampNeg from by decide), cul_o (show (0 : Nat) ≠ (3 : Int32).toNatClampNeg from by decide), cul_o (show (0 : Nat) ≠ (2 : Int32).toNatClampNeg from by decide), cul_o (show (0 : Nat) ≠ (1 : Int32).toNatClampNeg from by decide), cul_s (show (0 : Nat) = (0 : Int32).toNatClampNeg from by decide)]; decide); (rw [cul_o (show (1 : Nat) ≠ (9 : Int32).toNatClampNeg from by decide), cul_o (show (1 : Nat) ≠ (8 : Int32).toNatClampNeg from by decide), cul_o (show (1 : Nat) ≠ (7 : Int32).toNatClampNeg from by decide), cul_o (show (1 : Nat) ≠ (6 : Int32).toNatClampNeg from by decide), cul_o (show (1 : Nat) ≠ (5 : Int32).toNatClampNeg from by decide), cul_o (show (1 : Nat) ≠ (4 : Int32).toNatClampNeg from by decide), cul_o (show (1 : Nat) ≠ (3 : Int32).toNatClampNeg from by decide), cul_o (show (1 : Nat) ≠ (2 : Int32).toNatClampNeg from by decide), cul_s (show (1 : Nat) = (1 : Int32).toNatClampNeg from by decide)]; rw [i2l_of, cx43]; rfl); (rw [cul_o (show (2 : Nat) ≠ (9 : Int32).toNatClampNeg from by decide), cul_o (show (2 : Nat) ≠ (8 : Int32).toNatClampNeg from by decide), cul_o (show (2 : Nat) ≠ (7 : Int32).toNatClampNeg from by decide), cul_o (show (2 : Nat) ≠ (6 : Int32).toNatClampNeg from by decide), cul_o (show (2 : Nat) ≠ (5 : Int32).toNatClampNeg from by decide), cul_o (show (2 : Nat) ≠ (4 : Int32).toNatClampNeg from by decide), cul_o (show (2 : Nat) ≠ (3 : Int32).toNatClampNeg from by decide), cul_s (show (2 : Nat) = (2 : Int32).toNatClampNeg from by decide)]; rw [i2l_of, cx61]; rfl); (rw [cul_o (show (3 : Nat) ≠ (9 : Int32).toNatClampNeg from by decide), cul_o (show (3 : Nat) ≠ (8 : Int32).toNatClampNeg from by decide), cul_o (show (3 : Nat) ≠ (7 : Int32).toNatClampNeg from by decide), cul_o (show (3 : Nat) ≠ (6 : Int32).toNatClampNeg from by decide), cul_o (show (3 : Nat) ≠ (5 : Int32).toNatClampNeg from by decide), cul_o (show (3 : Nat) ≠ (4 : Int32).toNatClampNeg from by decide), cul_s (show (3 : Nat) = (3 : Int32).toNatClampNeg from by decide)]; rw [i2l_of, cx80]; rfl); (rw [cul_o (show (4 : Nat) ≠ (9 : Int32).toNatClampNeg from by decide), cul_o (show (4 : Nat) ≠ (8 : Int32).toNatClampNeg from by decide), cul_o (show (4 : Nat) ≠ (7 : Int32).toNatClampNeg from by decide), cul_o (show (4 : Nat) ≠ (6 : Int32).toNatClampNeg from by decide), cul_o (show (4 : Nat) ≠ (5 : Int32).toNatClampNeg from by decide), cul_s (show (4 : Nat) = (4 : Int32).toNatClampNeg from by decide)]; rw [i2l_of, cx100]; rfl); (rw [cul_o (show (5 : Nat) ≠ (9 : Int32).toNatClampNeg from by decide), cul_o (show (5 : Nat) ≠ (8 : Int32).toNatClampNeg from by decide), cul_o (show (5 : Nat) ≠ (7 : Int32).toNatClampNeg from by decide), cul_o (show (5 : Nat) ≠ (6 : Int32).toNatClampNeg from by decide), cul_s (show (5 : Nat) = (5 : Int32).toNatClampNeg from by decide)]; rw [i2l_of, cx121]; rfl); (rw [cul_o (show (6 : Nat) ≠ (9 : Int32).toNatClampNeg from by decide), cul_o (show (6 : Nat) ≠ (8 : Int32).toNatClampNeg from by decide), cul_o (show (6 : Nat) ≠ (7 : Int32).toNatClampNeg from by decide), cul_s (show (6 : Nat) = (6 : Int32).toNatClampNeg from by decide)]; show _ = Int64.ofInt (vI pe.toNatClampNeg).toInt; rw [show (vI pe.toNatClampNeg).toInt = 0 from by rw [← cx143]; omega]; decide); (rw [cul_o (show (7 : Nat) ≠ (9 : Int32).toNatClampNeg from by decide), cul_o (show (7 : Nat) ≠ (8 : Int32).toNatClampNeg from by decide), cul_s (show (7 : Nat) = (7 : Int32).toNatClampNeg from by decide)]; show _ = Int64.ofInt (vM pe.toNatClampNeg).toInt; rw [show (vM pe.toNatClampNeg).toInt = 1 from by rw [← cx168]; omega]; decide); (rw [cul_o (show (8 : Nat) ≠ (9 : Int32).toNatClampNeg from by decide), cul_s (show (8 : Nat) = (8 : Int32).toNatClampNeg from by decide)]; decide); (rw [cul_s (show (9 : Nat) = (9 : Int32).toNatClampNeg from by decide)]; rw [i2l_of, cx320]; rfl))), by (try dsimp only); rw [ht]; exact ⟨hT, hF, m331⟩⟩, hS.F ht⟩) hS.2.2 dX12_looksAt_146
  · have t340 : x143.toInt ≠ 0 := ti_ne c144 rfl (by decide)
    refine lv_lconst (v := 1) hx hb dX12_looksAt_92 (by decide) ?_
    refine lv_goto (tgt := 97) hx hb dX12_looksAt_93 (by decide) ?_
    refine tw_last (i := 6)  hx hb hK hT hG hS hg10 shm_31 rfl (by unfold vp_in; decide) ⟨_, rfl⟩ dX12_looksAt_97 (fun H locs hT oq m341 oi hS => ?_)
    have hF := hF.ast hg10 skm_31 oq (by decide)
    have m342 := m123.kept (oq _ (gne hg1 hg10 (by decide)))
    have m349 := m130.kept (oq _ (gne hg8 hg10 (by decide)))
    have m350 := m131.kept (oq _ (gne hg9 hg10 (by decide)))
    have m351 := m132.put m341 oi
    refine lv_aload_n hx hb dX12_looksAt_98 rfl (lv_at hl 0 rfl) ?_
    refine tw_get hx hb hts bF_X12 hown hK hT hr_o0 shm_0 rfl 30 (by decide) (ht_at hts 0 rfl) (fun _ h9 => h9) dX12_looksAt_99 (fun v9 m358 h9 => ?_)
    obtain ⟨rfl, hg359⟩ := h9 _ rfl
    refine lv_bipush (v := 7) hx hb dX12_looksAt_102 (by decide) ?_
    refine lv_aload_n hx hb dX12_looksAt_104 rfl (lv_at hl 0 rfl) ?_
    refine tw_get hx hb hts bF_X12 hown hK hT hr_o0 shm_0 rfl 36 (by decide) (ht_at hts 13 rfl) (fun _ h9 => h9) dX12_looksAt_105 (fun v9 m360 h9 => ?_)
    obtain ⟨rfl, hg361⟩ := h9 _ rfl
    refine lv_iload_n hx hb dX12_looksAt_108 rfl (lv_at hl 1 rfl) ?_
    refine tw_zald (i := pe) hx hb hK hT hg8 shm_37 rfl (vin_t (a := pe.toInt) rfl (by omega) (by omega)) dX12_looksAt_109 (fun v9 m362 h9 => ?_)
    obtain ⟨x363, rfl, gx363, kx363⟩ := h9
    have cx363 := m349.at m362 (by have q9 := tn_of (show pe.toInt = pe.toInt from rfl) (by omega); omega)
    refine lv_if_eq (tgt := 117) hx hb dX12_looksAt_110 (by decide) (fun c364 => ?_) (fun c364 => ?_)
    · have t365 : x363.toInt = 0 := ti_eq c364 rfl (by decide)
      refine lv_lconst (v := 0) hx hb dX12_looksAt_117 (by decide) ?_
      refine tw_last (i := 7)  hx hb hK hT hG hS hg10 shm_31 rfl (by unfold vp_in; decide) ⟨_, rfl⟩ dX12_looksAt_118 (fun H locs hT oq m366 oi hS => ?_)
      have hF := hF.ast hg10 skm_31 oq (by decide)
      have m367 := m342.kept (oq _ (gne hg1 hg10 (by decide)))
      have m375 := m350.kept (oq _ (gne hg9 hg10 (by decide)))
      have m376 := m351.put m366 oi
      refine lv_aload_n hx hb dX12_looksAt_119 rfl (lv_at hl 0 rfl) ?_
      refine tw_get hx hb hts bF_X12 hown hK hT hr_o0 shm_0 rfl 30 (by decide) (ht_at hts 0 rfl) (fun _ h9 => h9) dX12_looksAt_120 (fun v9 m384 h9 => ?_)
      obtain ⟨rfl, hg385⟩ := h9 _ rfl
      refine lv_bipush (v := 8) hx hb dX12_looksAt_123 (by decide) ?_
      refine lv_aload_n hx hb dX12_looksAt_125 rfl (lv_at hl 0 rfl) ?_
      refine lv_iload_n hx hb dX12_looksAt_126 rfl (lv_at hl 1 rfl) ?_
      have hFc := gA_free hG hA hS
      refine va_calli (va_runV (As := [.int pe]) (rest := [.int 8, .ref (q 30)]) ⟨hx, hb, hml, hown, hts⟩ (s_nearZ l dC dI kA adK adV G H q wZ wN wH wB wC wL wK wU wV PI im PM PT lS lB lE lN o0 pe vH hT hr_o0 (by have q8 := ti_all pe; omega) hno m367 hgz hgn hgh hgb hgc hgi hgu) (cwV 1 hts (goodIn_app (goodIn_r _ [16, 17, 18, 7] rfl (by decide +kernel)) (goodIn_ca (goodIn_r _ [15, 3] rfl (by decide +kernel)) (bs_in _ _))) rfl rfl rfl (by decide +kernel) ⟨(Nat.le_of_ble_eq_true rfl), (Nat.le_of_ble_eq_true rfl)⟩) ⟨fun a U g mk q => by obtain ⟨q0, q1, qK, qE⟩ := q; exact ⟨q0, q1, va_K.moved (u := U) (U := U.calling g mk a) (Vm.Alike.refl U.vm) qK, EVS.blind g mk a qE⟩, gH_rc hK hT hr_o0 shm_0 rfl, fun U hU hW => ⟨rfl, hU, va_K.moved hW.alike hK, hE.call hS hFc hU hW⟩⟩ rfl rfl hl.1 rfl (lv_room (Nat.le_of_ble_eq_true rfl)) dX12_looksAt_127 ⟨(Nat.le_of_ble_eq_true rfl), (Nat.le_of_ble_eq_true rfl)⟩) hS (fun q _ h => hFc q h) hFc (fun r386 u t H locs ht hvm hw387 hB _ _ hS => ?_)
      obtain ⟨hT, hF1⟩ := hB
      rw [ht] at hT hF1
      have m396 := m375.kept (hF1.arr hg9 skm_41 (by decide))
      have m397 := m376.kept (hF1.arr hg10 skm_31 (by decide))
      have hF := hF.more hF1 (by decide)
      try dsimp only at hw387
      obtain ⟨h405, hd406⟩ := hw387
      obtain rfl : (99 : Int32) = r386 := hd406.symm
      refine lv_i2l (v := 99) hx hb dX12_looksAt_130 (by decide) ?_
      refine tw_last (i := 8)  hx hb hK hT hG hS hg10 shm_31 rfl (by unfold vp_in; decide) ⟨_, rfl⟩ dX12_looksAt_131 (fun H locs hT oq m407 oi hS => ?_)
      have hF := hF.ast hg10 skm_31 oq (by decide)
      have m416 := m396.kept (oq _ (gne hg9 hg10 (by decide)))
      have m417 := m397.put m407 oi
      refine lv_aload_n hx hb dX12_looksAt_132 rfl (lv_at hl 0 rfl) ?_
      refine tw_get hx hb hts bF_X12 hown hK hT hr_o0 shm_0 rfl 30 (by decide) (ht_at hts 0 rfl) (fun _ h9 => h9) dX12_looksAt_133 (fun v9 m425 h9 => ?_)
      obtain ⟨rfl, hg426⟩ := h9 _ rfl
      refine lv_bipush (v := 9) hx hb dX12_looksAt_136 (by decide) ?_
      refine lv_aload_n hx hb dX12_looksAt_138 rfl (lv_at hl 0 rfl) ?_
      refine tw_get hx hb hts bF_X12 hown hK hT hr_o0 shm_0 rfl 40 (by decide) (ht_at hts 18 rfl) (fun _ h9 => h9) dX12_looksAt_139 (fun v9 m427 h9 => ?_)
      obtain ⟨rfl, hg428⟩ := h9 _ rfl
      refine lv_iload_n hx hb dX12_looksAt_142 rfl (lv_at hl 1 rfl) ?_
      refine tw_iald (i := pe) hx hb hK hT hg9 shm_41 rfl (vin_t (a := pe.toInt) rfl (by omega) (by omega)) dX12_looksAt_143 (fun v9 m429 h9 => ?_)
      obtain ⟨x430, rfl, gx430, kx430⟩ := h9
      have cx430 := m416.at m429 (by have q9 := tn_of (show pe.toInt = pe.toInt from rfl) (by omega); omega)
      refine lv_i2l (v := x430.toInt64) hx hb dX12_looksAt_144 rfl ?_
      refine tw_last (i := 9)  hx hb hK hT hG hS hg10 shm_31 rfl (by unfold vp_in; decide) ⟨_, rfl⟩ dX12_looksAt_145 (fun H locs hT oq m431 oi hS => ?_)
      have hF := hF.ast hg10 skm_31 oq (by decide)
      have m441 := m417.put m431 oi
      exact W.vret hx hb hr (fun t ht hW => ⟨⟨(cul (cul (cul (cul (cul (cul (cul (cul (cul (cul fL (0 : Int32).toNatClampNeg (0 : Int64)) (1 : Int32).toNatClampNeg x43.toInt64) (2 : Int32).toNatClampNeg x61.toInt64) (3 : Int32).toNatClampNeg x80.toInt64) (4 : Int32).toNatClampNeg x100.toInt64) (5 : Int32).toNatClampNeg x121.toInt64) (6 : Int32).toNatClampNeg (1 : Int64)) (7 : Int32).toNatClampNeg (0 : Int64)) (8 : Int32).toNatClampNeg (99 : Int64)) (9 : Int32).toNatClampNeg x430.toInt64), rfl, (by exact (by intro k hk; (try dsimp only); rcases (show k = 0 ∨ k = 1 ∨ k = 2 ∨ k = 3 ∨ k = 4 ∨ k = 5 ∨ k = 6 ∨ k = 7 ∨ k = 8 ∨ k = 9 by omega) with rfl | rfl | rfl | rfl | rfl | rfl | rfl | rfl | rfl | rfl; (rw [cul_o (show (0 : Nat) ≠ (9 : Int32).toNatClampNeg from by decide), cul_o (show (0 : Nat) ≠ (8 : Int32).toNatClampNeg from by decide), cul_o (show (0 : Nat) ≠ (7 : Int32).toNatClampNeg from by decide), cul_o (show (0 : Nat) ≠ (6 : Int32).toNatClampNeg from by decide), cul_o (show (0 : Nat) ≠ (5 : Int32).toNatClampNeg from by decide), cul_o (show (0 : Nat) ≠ (4 : Int32).toNatClampNeg from by decide), cul_o (show (0 : Nat) ≠ (3 : Int32).toNatClampNeg from by decide), cul_o (show (0 : Nat) ≠ (2 : Int32).toNatClampNeg from by decide), cul_o (show (0 : Nat) ≠ (1 : Int32).toNatClampNeg from by decide), cul_s (show (0 : Nat) = (0 : Int32).toNatClampNeg from by decide)]; decide); (rw [cul_o (show (1 : Nat) ≠ (9 : Int32).toNatClampNeg from by decide), cul_o (show (1 : Nat) ≠ (8 : Int32).toNatClampNeg from by decide), cul_o (show (1 : Nat) ≠ (7 : Int32).toNatClampNeg from by decide), cul_o (show (1 : Nat) ≠ (6 : Int32).toNatClampNeg from by decide), cul_o (show (1 : Nat) ≠ (5 : Int32).toNatClampNeg from by decide), cul_o (show (1 : Nat) ≠ (4 : Int32).toNatClampNeg from by decide), cul_o (show (1 : Nat) ≠ (3 : Int32).toNatClampNeg from by decide), cul_o (show (1 : Nat) ≠ (2 : Int32).toNatClampNeg from by decide), cul_s (show (1 : Nat) = (1 : Int32).toNatClampNeg from by decide)]; rw [i2l_of, cx43]; rfl); (rw [cul_o (show (2 : Nat) ≠ (9 : Int32).toNatClampNeg from by decide), cul_o (show (2 : Nat) ≠ (8 : Int32).toNatClampNeg from by decide), cul_o (show (2 : Nat) ≠ (7 : Int32).toNatClampNeg from by decide), cul_o (show (2 : Nat) ≠ (6 : Int32).toNatClampNeg from by decide), cul_o (show (2 : Nat) ≠ (5 : Int32).toNatClampNeg from by decide), cul_o (show (2 : Nat) ≠ (4 : Int32).toNatClampNeg from by decide), cul_o (show (2 : Nat) ≠ (3 : Int32).toNatClampNeg from by decide), cul_s (show (2 : Nat) = (2 : Int32).toNatClampNeg from by decide)]; rw [i2l_of, cx61]; rfl); (rw [cul_o (show (3 : Nat) ≠ (9 : Int32).toNatClampNeg from by decide), cul_o (show (3 : Nat) ≠ (8 : Int32).toNatClampNeg from by decide), cul_o (show (3 : Nat) ≠ (7 : Int32).toNatClampNeg from by decide), cul_o (show (3 : Nat) ≠ (6 : Int32).toNatClampNeg from by decide), cul_o (show (3 : Nat) ≠ (5 : Int32).toNatClampNeg from by decide), cul_o (show (3 : Nat) ≠ (4 : Int32).toNatClampNeg from by decide), cul_s (show (3 : Nat) = (3 : Int32).toNatClampNeg from by decide)]; rw [i2l_of, cx80]; rfl); (rw [cul_o (show (4 : Nat) ≠ (9 : Int32).toNatClampNeg from by decide), cul_o (show (4 : Nat) ≠ (8 : Int32).toNatClampNeg from by decide), cul_o (show (4 : Nat) ≠ (7 : Int32).toNatClampNeg from by decide), cul_o (show (4 : Nat) ≠ (6 : Int32).toNatClampNeg from by decide), cul_o (show (4 : Nat) ≠ (5 : Int32).toNatClampNeg from by decide), cul_s (show (4 : Nat) = (4 : Int32).toNatClampNeg from by decide)]; rw [i2l_of, cx100]; rfl); (rw [cul_o (show (5 : Nat) ≠ (9 : Int32).toNatClampNeg from by decide), cul_o (show (5 : Nat) ≠ (8 : Int32).toNatClampNeg from by decide), cul_o (show (5 : Nat) ≠ (7 : Int32).toNatClampNeg from by decide), cul_o (show (5 : Nat) ≠ (6 : Int32).toNatClampNeg from by decide), cul_s (show (5 : Nat) = (5 : Int32).toNatClampNeg from by decide)]; rw [i2l_of, cx121]; rfl); (rw [cul_o (show (6 : Nat) ≠ (9 : Int32).toNatClampNeg from by decide), cul_o (show (6 : Nat) ≠ (8 : Int32).toNatClampNeg from by decide), cul_o (show (6 : Nat) ≠ (7 : Int32).toNatClampNeg from by decide), cul_s (show (6 : Nat) = (6 : Int32).toNatClampNeg from by decide)]; show _ = Int64.ofInt (vI pe.toNatClampNeg).toInt; rw [show (vI pe.toNatClampNeg).toInt = 1 from by rw [← cx143]; omega]; decide); (rw [cul_o (show (7 : Nat) ≠ (9 : Int32).toNatClampNeg from by decide), cul_o (show (7 : Nat) ≠ (8 : Int32).toNatClampNeg from by decide), cul_s (show (7 : Nat) = (7 : Int32).toNatClampNeg from by decide)]; show _ = Int64.ofInt (vM pe.toNatClampNeg).toInt; rw [show (vM pe.toNatClampNeg).toInt = 0 from by rw [← cx363]; omega]; decide); (rw [cul_o (show (8 : Nat) ≠ (9 : Int32).toNatClampNeg from by decide), cul_s (show (8 : Nat) = (8 : Int32).toNatClampNeg from by decide)]; decide); (rw [cul_s (show (9 : Nat) = (9 : Int32).toNatClampNeg from by decide)]; rw [i2l_of, cx430]; rfl))), by (try dsimp only); rw [ht]; exact ⟨hT, hF, m441⟩⟩, hS.F ht⟩) hS.2.2 dX12_looksAt_146
    · have t450 : x363.toInt ≠ 0 := ti_ne c364 rfl (by decide)
      refine lv_lconst (v := 1) hx hb dX12_looksAt_113 (by decide) ?_
      refine lv_goto (tgt := 118) hx hb dX12_looksAt_114 (by decide) ?_
      refine tw_last (i := 7)  hx hb hK hT hG hS hg10 shm_31 rfl (by unfold vp_in; decide) ⟨_, rfl⟩ dX12_looksAt_118 (fun H locs hT oq m451 oi hS => ?_)
      have hF := hF.ast hg10 skm_31 oq (by decide)
      have m452 := m342.kept (oq _ (gne hg1 hg10 (by decide)))
      have m460 := m350.kept (oq _ (gne hg9 hg10 (by decide)))
      have m461 := m351.put m451 oi
      refine lv_aload_n hx hb dX12_looksAt_119 rfl (lv_at hl 0 rfl) ?_
      refine tw_get hx hb hts bF_X12 hown hK hT hr_o0 shm_0 rfl 30 (by decide) (ht_at hts 0 rfl) (fun _ h9 => h9) dX12_looksAt_120 (fun v9 m469 h9 => ?_)
      obtain ⟨rfl, hg470⟩ := h9 _ rfl
      refine lv_bipush (v := 8) hx hb dX12_looksAt_123 (by decide) ?_
      refine lv_aload_n hx hb dX12_looksAt_125 rfl (lv_at hl 0 rfl) ?_
      refine lv_iload_n hx hb dX12_looksAt_126 rfl (lv_at hl 1 rfl) ?_
      have hFc := gA_free hG hA hS
      refine va_calli (va_runV (As := [.int pe]) (rest := [.int 8, .ref (q 30)]) ⟨hx, hb, hml, hown, hts⟩ (s_nearZ l dC dI kA adK adV G H q wZ wN wH wB wC wL wK wU wV PI im PM PT lS lB lE lN o0 pe vH hT hr_o0 (by have q8 := ti_all pe; omega) hno m452 hgz hgn hgh hgb hgc hgi hgu) (cwV 1 hts (goodIn_app (goodIn_r _ [16, 17, 18, 7] rfl (by decide +kernel)) (goodIn_ca (goodIn_r _ [15, 3] rfl (by decide +kernel)) (bs_in _ _))) rfl rfl rfl (by decide +kernel) ⟨(Nat.le_of_ble_eq_true rfl), (Nat.le_of_ble_eq_true rfl)⟩) ⟨fun a U g mk q => by obtain ⟨q0, q1, qK, qE⟩ := q; exact ⟨q0, q1, va_K.moved (u := U) (U := U.calling g mk a) (Vm.Alike.refl U.vm) qK, EVS.blind g mk a qE⟩, gH_rc hK hT hr_o0 shm_0 rfl, fun U hU hW => ⟨rfl, hU, va_K.moved hW.alike hK, hE.call hS hFc hU hW⟩⟩ rfl rfl hl.1 rfl (lv_room (Nat.le_of_ble_eq_true rfl)) dX12_looksAt_127 ⟨(Nat.le_of_ble_eq_true rfl), (Nat.le_of_ble_eq_true rfl)⟩) hS (fun q _ h => hFc q h) hFc (fun r471 u t H locs ht hvm hw472 hB _ _ hS => ?_)
      obtain ⟨hT, hF1⟩ := hB
      rw [ht] at hT hF1
      have m481 := m460.kept (hF1.arr hg9 skm_41 (by decide))
      have m482 := m461.kept (hF1.arr hg10 skm_31 (by decide))
      have hF := hF.more hF1 (by decide)
      try dsimp only at hw472
      obtain ⟨h490, hd491⟩ := hw472
      obtain rfl : (99 : Int32) = r471 := hd491.symm
      refine lv_i2l (v := 99) hx hb dX12_looksAt_130 (by decide) ?_
      refine tw_last (i := 8)  hx hb hK hT hG hS hg10 shm_31 rfl (by unfold vp_in; decide) ⟨_, rfl⟩ dX12_looksAt_131 (fun H locs hT oq m492 oi hS => ?_)
      have hF := hF.ast hg10 skm_31 oq (by decide)
      have m501 := m481.kept (oq _ (gne hg9 hg10 (by decide)))
      have m502 := m482.put m492 oi
      refine lv_aload_n hx hb dX12_looksAt_132 rfl (lv_at hl 0 rfl) ?_
      refine tw_get hx hb hts bF_X12 hown hK hT hr_o0 shm_0 rfl 30 (by decide) (ht_at hts 0 rfl) (fun _ h9 => h9) dX12_looksAt_133 (fun v9 m510 h9 => ?_)
      obtain ⟨rfl, hg511⟩ := h9 _ rfl
      refine lv_bipush (v := 9) hx hb dX12_looksAt_136 (by decide) ?_
      refine lv_aload_n hx hb dX12_looksAt_138 rfl (lv_at hl 0 rfl) ?_
      refine tw_get hx hb hts bF_X12 hown hK hT hr_o0 shm_0 rfl 40 (by decide) (ht_at hts 18 rfl) (fun _ h9 => h9) dX12_looksAt_139 (fun v9 m512 h9 => ?_)
      obtain ⟨rfl, hg513⟩ := h9 _ rfl
      refine lv_iload_n hx hb dX12_looksAt_142 rfl (lv_at hl 1 rfl) ?_
      refine tw_iald (i := pe) hx hb hK hT hg9 shm_41 rfl (vin_t (a := pe.toInt) rfl (by omega) (by omega)) dX12_looksAt_143 (fun v9 m514 h9 => ?_)
      obtain ⟨x515, rfl, gx515, kx515⟩ := h9
      have cx515 := m501.at m514 (by have q9 := tn_of (show pe.toInt = pe.toInt from rfl) (by omega); omega)
      refine lv_i2l (v := x515.toInt64) hx hb dX12_looksAt_144 rfl ?_
      refine tw_last (i := 9)  hx hb hK hT hG hS hg10 shm_31 rfl (by unfold vp_in; decide) ⟨_, rfl⟩ dX12_looksAt_145 (fun H locs hT oq m516 oi hS => ?_)
      have hF := hF.ast hg10 skm_31 oq (by decide)
      have m526 := m502.put m516 oi
      exact W.vret hx hb hr (fun t ht hW => ⟨⟨(cul (cul (cul (cul (cul (cul (cul (cul (cul (cul fL (0 : Int32).toNatClampNeg (0 : Int64)) (1 : Int32).toNatClampNeg x43.toInt64) (2 : Int32).toNatClampNeg x61.toInt64) (3 : Int32).toNatClampNeg x80.toInt64) (4 : Int32).toNatClampNeg x100.toInt64) (5 : Int32).toNatClampNeg x121.toInt64) (6 : Int32).toNatClampNeg (1 : Int64)) (7 : Int32).toNatClampNeg (1 : Int64)) (8 : Int32).toNatClampNeg (99 : Int64)) (9 : Int32).toNatClampNeg x515.toInt64), rfl, (by exact (by intro k hk; (try dsimp only); rcases (show k = 0 ∨ k = 1 ∨ k = 2 ∨ k = 3 ∨ k = 4 ∨ k = 5 ∨ k = 6 ∨ k = 7 ∨ k = 8 ∨ k = 9 by omega) with rfl | rfl | rfl | rfl | rfl | rfl | rfl | rfl | rfl | rfl; (rw [cul_o (show (0 : Nat) ≠ (9 : Int32).toNatClampNeg from by decide), cul_o (show (0 : Nat) ≠ (8 : Int32).toNatClampNeg from by decide), cul_o (show (0 : Nat) ≠ (7 : Int32).toNatClampNeg from by decide), cul_o (show (0 : Nat) ≠ (6 : Int32).toNatClampNeg from by decide), cul_o (show (0 : Nat) ≠ (5 : Int32).toNatClampNeg from by decide), cul_o (show (0 : Nat) ≠ (4 : Int32).toNatClampNeg from by decide), cul_o (show (0 : Nat) ≠ (3 : Int32).toNatClampNeg from by decide), cul_o (show (0 : Nat) ≠ (2 : Int32).toNatClampNeg from by decide), cul_o (show (0 : Nat) ≠ (1 : Int32).toNatClampNeg from by decide), cul_s (show (0 : Nat) = (0 : Int32).toNatClampNeg from by decide)]; decide); (rw [cul_o (show (1 : Nat) ≠ (9 : Int32).toNatClampNeg from by decide), cul_o (show (1 : Nat) ≠ (8 : Int32).toNatClampNeg from by decide), cul_o (show (1 : Nat) ≠ (7 : Int32).toNatClampNeg from by decide), cul_o (show (1 : Nat) ≠ (6 : Int32).toNatClampNeg from by decide), cul_o (show (1 : Nat) ≠ (5 : Int32).toNatClampNeg from by decide), cul_o (show (1 : Nat) ≠ (4 : Int32).toNatClampNeg from by decide), cul_o (show (1 : Nat) ≠ (3 : Int32).toNatClampNeg from by decide), cul_o (show (1 : Nat) ≠ (2 : Int32).toNatClampNeg from by decide), cul_s (show (1 : Nat) = (1 : Int32).toNatClampNeg from by decide)]; rw [i2l_of, cx43]; rfl); (rw [cul_o (show (2 : Nat) ≠ (9 : Int32).toNatClampNeg from by decide), cul_o (show (2 : Nat) ≠ (8 : Int32).toNatClampNeg from by decide), cul_o (show (2 : Nat) ≠ (7 : Int32).toNatClampNeg from by decide), cul_o (show (2 : Nat) ≠ (6 : Int32).toNatClampNeg from by decide), cul_o (show (2 : Nat) ≠ (5 : Int32).toNatClampNeg from by decide), cul_o (show (2 : Nat) ≠ (4 : Int32).toNatClampNeg from by decide), cul_o (show (2 : Nat) ≠ (3 : Int32).toNatClampNeg from by decide), cul_s (show (2 : Nat) = (2 : Int32).toNatClampNeg from by decide)]; rw [i2l_of, cx61]; rfl); (rw [cul_o (show (3 : Nat) ≠ (9 : Int32).toNatClampNeg from by decide), cul_o (show (3 : Nat) ≠ (8 : Int32).toNatClampNeg from by decide), cul_o (show (3 : Nat) ≠ (7 : Int32).toNatClampNeg from by decide), cul_o (show (3 : Nat) ≠ (6 : Int32).toNatClampNeg from by decide), cul_o (show (3 : Nat) ≠ (5 : Int32).toNatClampNeg from by decide), cul_o (show (3 : Nat) ≠ (4 : Int32).toNatClampNeg from by decide), cul_s (show (3 : Nat) = (3 : Int32).toNatClampNeg from by decide)]; rw [i2l_of, cx80]; rfl); (rw [cul_o (show (4 : Nat) ≠ (9 : Int32).toNatClampNeg from by decide), cul_o (show (4 : Nat) ≠ (8 : Int32).toNatClampNeg from by decide), cul_o (show (4 : Nat) ≠ (7 : Int32).toNatClampNeg from by decide), cul_o (show (4 : Nat) ≠ (6 : Int32).toNatClampNeg from by decide), cul_o (show (4 : Nat) ≠ (5 : Int32).toNatClampNeg from by decide), cul_s (show (4 : Nat) = (4 : Int32).toNatClampNeg from by decide)]; rw [i2l_of, cx100]; rfl); (rw [cul_o (show (5 : Nat) ≠ (9 : Int32).toNatClampNeg from by decide), cul_o (show (5 : Nat) ≠ (8 : Int32).toNatClampNeg from by decide), cul_o (show (5 : Nat) ≠ (7 : Int32).toNatClampNeg from by decide), cul_o (show (5 : Nat) ≠ (6 : Int32).toNatClampNeg from by decide), cul_s (show (5 : Nat) = (5 : Int32).toNatClampNeg from by decide)]; rw [i2l_of, cx121]; rfl); (rw [cul_o (show (6 : Nat) ≠ (9 : Int32).toNatClampNeg from by decide), cul_o (show (6 : Nat) ≠ (8 : Int32).toNatClampNeg from by decide), cul_o (show (6 : Nat) ≠ (7 : Int32).toNatClampNeg from by decide), cul_s (show (6 : Nat) = (6 : Int32).toNatClampNeg from by decide)]; show _ = Int64.ofInt (vI pe.toNatClampNeg).toInt; rw [show (vI pe.toNatClampNeg).toInt = 1 from by rw [← cx143]; omega]; decide); (rw [cul_o (show (7 : Nat) ≠ (9 : Int32).toNatClampNeg from by decide), cul_o (show (7 : Nat) ≠ (8 : Int32).toNatClampNeg from by decide), cul_s (show (7 : Nat) = (7 : Int32).toNatClampNeg from by decide)]; show _ = Int64.ofInt (vM pe.toNatClampNeg).toInt; rw [show (vM pe.toNatClampNeg).toInt = 1 from by rw [← cx363]; omega]; decide); (rw [cul_o (show (8 : Nat) ≠ (9 : Int32).toNatClampNeg from by decide), cul_s (show (8 : Nat) = (8 : Int32).toNatClampNeg from by decide)]; decide); (rw [cul_s (show (9 : Nat) = (9 : Int32).toNatClampNeg from by decide)]; rw [i2l_of, cx515]; rfl))), by (try dsimp only); rw [ht]; exact ⟨hT, hF, m526⟩⟩, hS.F ht⟩) hS.2.2 dX12_looksAt_146
def w_s_sumOut : List Cond := .code yX12_sumOf cX12_sumOf 6 (some .long) :: (HAppend.hAppend (α := List Cond) (β := List Cond) (γ := List Cond) [.code yX12_looksAt cX12_looksAt 2 none, .fieldLink RX12 76 "SeaLandModel" "facts" "[J", .code yX12_acres cX12_acres 4 (some .int), .fieldLink RX12 101 "SeaLandModel" "holds" "[I", .methodLink RX12 467 yX12_acres, .instanceMethod yX12_acres, .selects RX12 yX12_acres yX12_acres, .initialized RX12, .fieldLink RX12 104 "SeaLandModel" "gain" "[I", .fieldLink RX12 79 "SeaLandModel" "age" "[I", .fieldLink RX12 82 "SeaLandModel" "sons" "[I", .fieldLink RX12 85 "SeaLandModel" "coin" "[I", .fieldLink RX12 88 "SeaLandModel" "cattle" "[I", .fieldLink RX12 91 "SeaLandModel" "isKin" "[Z", .fieldLink RX12 95 "SeaLandModel" "isBoard" "[Z", .code yX12_near cX12_near 5 (some .int), .methodLink RX12 469 yX12_near, .instanceMethod yX12_near, .selects RX12 yX12_near yX12_near, .fieldLink RX12 107 "SeaLandModel" "owes" "[I", .methodLink RX12 474 yX12_looksAt, .instanceMethod yX12_looksAt, .selects RX12 yX12_looksAt yX12_looksAt, .fieldLink RX12 42 "SeaLandModel" "lines" "[I", .fieldLink RX12 45 "SeaLandModel" "sort" "[I", .code yX12_holds cX12_holds 9 (some .boolean), .fieldLink RX12 60 "SeaLandModel" "begins" "[I", .fieldLink RX12 63 "SeaLandModel" "ends" "[I", .fieldLink RX12 66 "SeaLandModel" "step" "[I", .fieldLink RX12 72 "SeaLandModel" "value" "[J", .methodLink RX12 471 Lib.MathLoose.max_long.x, .static Lib.MathLoose.max_long.x, .initialized "java/lang/Math", .code Lib.MathLoose.max_long.x Lib.MathLoose.max_long.code 4 (some .long), .fieldLink RX12 69 "SeaLandModel" "than" "[I", .methodLink RX12 478 yX12_holds, .instanceMethod yX12_holds, .selects RX12 yX12_holds yX12_holds] bs)
set_option maxHeartbeats 4000000 in
set_option maxRecDepth 100000 in
theorem s_sumOut (l : Launch) (dC : Nat → ClassId) (dI : Nat → Nat → Nat) (kA : Nat → ClassId) (adK adV : Nat → Nat) (G : gT) (H0 : Heap) (q : Nat → Nat) (wZ wN : Nat → Int) (wH wB wC : Int) (wL wK : Nat → Prop) (wU wV : Nat → Nat) (PI : Nat → Int → Prop) (im : Int) (PM PT : Nat → Int → Prop) (lS lB lE : Nat → Nat → Int → Prop) (lN : Nat → Int) (o0 : Nat) (pe : Int32) (vH : Nat → Int32) (vG : Nat → Int32) (vA : Nat → Int32) (vD : Nat → Int32) (vC : Nat → Int32) (vU : Nat → Int32) (vI : Nat → Int32) (vM : Nat → Int32) (vW : Nat → Int32) (fL : Nat → Int64) (vQ : Nat → Int64) (vO : Nat → Int32) (vB : Nat → Int32) (vX : Nat → Int32) (vS : Nat → Int32) (vN : Nat → Int32) (vL : Nat → Int32) (A9 : zAl) (hT : gH (dC, dI) kA (SHm q (wP wZ wN wH wB wC wL wK wU wV) PI im PM PT lS lB lE lN) G H0) (hr_o0 : G o0 = some 0) (hq0 : 0 ≤ pe.toInt ∧ pe.toInt ≤ 59) (hno : (vH pe.toNatClampNeg).toInt < 0) (hfo : zFo A9 vL vO vB vX vS vN) (hzk : ∀ e ∈ A9, zok e.2) (hc_vH : ct H0 (q 38) 60 vH) (hc_vG : ct H0 (q 39) 60 vG) (hc_vA : ct H0 (q 31) 60 vA) (hc_vD : ct H0 (q 32) 60 vD) (hc_vC : ct H0 (q 33) 60 vC) (hc_vU : ct H0 (q 34) 60 vU) (hc_vI : ct H0 (q 35) 60 vI) (hc_vM : ct H0 (q 36) 60 vM) (hc_vW : ct H0 (q 40) 60 vW) (hc_fL : ctl H0 (q 30) 10 fL) (hc_vQ : ctl H0 (q 29) 400 vQ) (hc_vO : ct H0 (q 19) 60 vO) (hc_vB : ct H0 (q 24) 60 vB) (hc_vX : ct H0 (q 25) 60 vX) (hc_vS : ct H0 (q 26) 1200 vS) (hc_vN : ct H0 (q 27) 1200 vN) (hc_vL : ct H0 (q 18) 3 vL) (hgz : ∀ i, 0 ≤ wZ i) (hgn : ∀ i, 6500000 ≤ wN i ∧ wN i ≤ 20200000) (hgh : 0 ≤ wH ∧ wH ≤ 40000) (hgb : 0 ≤ wB ∧ wB ≤ 3850000) (hgc : 0 ≤ wC ∧ wC ≤ 30) (hgi : 0 ≤ im ∧ im ≤ 1) (hgu : ∀ a t, G a = some (t + 1) → a = q t) : Met l yX12_sumOf w_s_sumOut ({ frames := 2, cells := 0, slots := 0, locals := 68 }) (va_Pc [.ref o0, .int pe, .int 6] (fun U => U.heap = H0 ∧ va_K (dC, dI) vwCl (tyl kA) U ∧ EVS adK adV (gA G H0.size) U U.heap)) (va_Ql (fun (r : Int64) (u : Unit) => ((r.toInt = 0 ∧ ¬ zOut [0, (vG pe.toNatClampNeg).toInt, (vA pe.toNatClampNeg).toInt, (vD pe.toNatClampNeg).toInt, (vC pe.toNatClampNeg).toInt, (vU pe.toNatClampNeg).toInt, (vI pe.toNatClampNeg).toInt, (vM pe.toNatClampNeg).toInt, 99, (vW pe.toNatClampNeg).toInt] A9) ∨ (0 < r.toInt ∧ zOut [0, (vG pe.toNatClampNeg).toInt, (vA pe.toNatClampNeg).toInt, (vD pe.toNatClampNeg).toInt, (vC pe.toNatClampNeg).toInt, (vU pe.toNatClampNeg).toInt, (vI pe.toNatClampNeg).toInt, (vM pe.toNatClampNeg).toInt, 99, (vW pe.toNatClampNeg).toInt] A9))) (fun (_ : Unit) (t : State) => gH (dC, dI) kA (SHm q (wP wZ wN wH wB wC wL wK wU wV) PI im PM PT lS lB lE lN) G t.heap ∧ gF (dC, dI) SKm G ([(30, 0), (31, 0)] : List (Nat × Nat)) H0 t.heap) (gA G H0.size)) 0 0 (gA G H0.size) := by
  refine Met.ofW (cc := cX12_sumOf) (maxL := 6) (ret := (some .long)) (by decide) rfl ?_
  intro p e s m args below meth c s₁ B hml hv
  obtain ⟨rfl, hH0, hK, hE⟩ := hv
  have hx := B.exec
  have hb := B.bytes
  have hr := B.returns
  have hts := atoms_spec (ws := w_s_sumOut) B.pre
  have hown : s.vm.findClass RX12 = some m.cls := findClass_of_methodNamed B.named
  have hlocks := B.notSynchronized
  subst hH0
  generalize hAe : gA G s.heap.size = A at hE ⊢
  have hA : ∀ q : Nat, s.heap.size ≤ q → A q := fun q h => by rw [← hAe]; exact Or.inr h
  have hG := gA_of hAe
  have hS : va_S A s.heap s.heap [] := va_S.rf
  have hF : gF (dC, dI) SKm G ([(30, 0), (31, 0)] : List (Nat × Nat)) s.heap s.heap := gF.rf
  have hl := lv_entry ([.ref o0, .int pe, .int 6]) (n := 6) (Nat.le_of_ble_eq_true rfl)
  rw [lg_entry_eq]
  generalize (lg_sl ([.ref o0, .int pe, .int 6]) ++ List.replicate (6 - (lg_sl ([.ref o0, .int pe, .int 6])).length) Slot.unset).toArray = ls at hl ⊢
  have hl : lv_has ls 6 [(0, .ref o0), (1, .int pe), (2, .int 6)] := hl
  have hg1 : G (q 38) = some 39 := gx_of hT hr_o0 shm_0 (k := 38) (by decide) rfl
  have hg2 : G (q 39) = some 40 := gx_of hT hr_o0 shm_0 (k := 39) (by decide) rfl
  have hg3 : G (q 31) = some 32 := gx_of hT hr_o0 shm_0 (k := 31) (by decide) rfl
  have hg4 : G (q 32) = some 33 := gx_of hT hr_o0 shm_0 (k := 32) (by decide) rfl
  have hg5 : G (q 33) = some 34 := gx_of hT hr_o0 shm_0 (k := 33) (by decide) rfl
  have hg6 : G (q 34) = some 35 := gx_of hT hr_o0 shm_0 (k := 34) (by decide) rfl
  have hg7 : G (q 35) = some 36 := gx_of hT hr_o0 shm_0 (k := 35) (by decide) rfl
  have hg8 : G (q 36) = some 37 := gx_of hT hr_o0 shm_0 (k := 36) (by decide) rfl
  have hg9 : G (q 40) = some 41 := gx_of hT hr_o0 shm_0 (k := 40) (by decide) rfl
  have hg10 : G (q 30) = some 31 := gx_of hT hr_o0 shm_0 (k := 30) (by decide) rfl
  have hg11 : G (q 29) = some 30 := gx_of hT hr_o0 shm_0 (k := 29) (by decide) rfl
  have hg12 : G (q 19) = some 20 := gx_of hT hr_o0 shm_0 (k := 19) (by decide) rfl
  have hg13 : G (q 24) = some 25 := gx_of hT hr_o0 shm_0 (k := 24) (by decide) rfl
  have hg14 : G (q 25) = some 26 := gx_of hT hr_o0 shm_0 (k := 25) (by decide) rfl
  have hg15 : G (q 26) = some 27 := gx_of hT hr_o0 shm_0 (k := 26) (by decide) rfl
  have hg16 : G (q 27) = some 28 := gx_of hT hr_o0 shm_0 (k := 27) (by decide) rfl
  have hg17 : G (q 18) = some 19 := gx_of hT hr_o0 shm_0 (k := 18) (by decide) rfl
  refine lv_aload_n hx hb dX12_sumOf_0 rfl (lv_at hl 0 rfl) ?_
  refine lv_iload_n hx hb dX12_sumOf_1 rfl (lv_at hl 1 rfl) ?_
  have hFc := gA_free hG hA hS
  refine va_callv (va_runV (As := [.int pe]) (rest := []) ⟨hx, hb, hml, hown, hts⟩ (s_looksAtZ l dC dI kA adK adV G s.heap q wZ wN wH wB wC wL wK wU wV PI im PM PT lS lB lE lN o0 pe vH vG vA vD vC vU vI vM vW fL hT hr_o0 (by have q8 := ti_all pe; omega) hno hc_vH hc_vG hc_vA hc_vD hc_vC hc_vU hc_vI hc_vM hc_vW hc_fL hgz hgn hgh hgb hgc hgi hgu) (cwV 1 hts (goodIn_app (goodIn_r _ [21, 22, 23, 8] rfl (by decide +kernel)) (goodIn_ca (goodIn_r _ [1, 2, 3, 4, 5, 6, 7, 8, 9, 10, 11, 12, 13, 14, 15, 16, 17, 18, 19, 20] rfl (by decide +kernel)) (bs_in _ _))) rfl rfl rfl (by decide +kernel) ⟨(Nat.le_of_ble_eq_true rfl), (Nat.le_of_ble_eq_true rfl)⟩) ⟨fun a U g mk q => by obtain ⟨q0, q1, qK, qE⟩ := q; exact ⟨q0, q1, va_K.moved (u := U) (U := U.calling g mk a) (Vm.Alike.refl U.vm) qK, EVS.blind g mk a qE⟩, gH_rc hK hT hr_o0 shm_0 rfl, fun U hU hW => ⟨rfl, hU, va_K.moved hW.alike hK, hE.call hS hFc hU hW⟩⟩ rfl rfl hl.1 rfl (lv_room (Nat.le_of_ble_eq_true rfl)) dX12_sumOf_2 ⟨(Nat.le_of_ble_eq_true rfl), (Nat.le_of_ble_eq_true rfl)⟩) hS (fun q _ h => hFc q h) hFc (fun u t H locs ht hvm hw19 hB _ _ hS => ?_)
  obtain ⟨u20, rfl⟩ : ∃ z, z = u := ⟨_, rfl⟩
  obtain ⟨hT, hF1, m21⟩ := hB
  rw [ht] at hT hF1 m21
  have m22 := hc_vH.kept (hF1.arr hg1 skm_39 (by decide))
  have m23 := hc_vG.kept (hF1.arr hg2 skm_40 (by decide))
  have m24 := hc_vA.kept (hF1.arr hg3 skm_32 (by decide))
  have m25 := hc_vD.kept (hF1.arr hg4 skm_33 (by decide))
  have m26 := hc_vC.kept (hF1.arr hg5 skm_34 (by decide))
  have m27 := hc_vU.kept (hF1.arr hg6 skm_35 (by decide))
  have m28 := hc_vI.kept (hF1.arr hg7 skm_36 (by decide))
  have m29 := hc_vM.kept (hF1.arr hg8 skm_37 (by decide))
  have m30 := hc_vW.kept (hF1.arr hg9 skm_41 (by decide))
  have m33 := hc_vO.kept (hF1.arr hg12 skm_20 (by decide))
  have m34 := hc_vB.kept (hF1.arr hg13 skm_25 (by decide))
  have m35 := hc_vX.kept (hF1.arr hg14 skm_26 (by decide))
  have m36 := hc_vS.kept (hF1.arr hg15 skm_27 (by decide))
  have m37 := hc_vN.kept (hF1.arr hg16 skm_28 (by decide))
  have m38 := hc_vL.kept (hF1.arr hg17 skm_19 (by decide))
  have hF := hF.more hF1 (by decide)
  try dsimp only at hw19
  have hf39 := hw19
  refine lv_lconst (v := 0) hx hb dX12_sumOf_5 (by decide) ?_
  refine lv_lstore_n (lv' := [(3, .long 0), (0, .ref o0), (1, .int pe), (2, .int 6)]) hx hb dX12_sumOf_6 rfl hl (by decide) rfl (fun ls hl => ?_)
  refine lv_iconst (v := 0) hx hb dX12_sumOf_7 (by decide) ?_
  refine lv_istore (lv' := [(5, .int 0), (3, .long 0), (0, .ref o0), (1, .int pe), (2, .int 6)]) hx hb dX12_sumOf_8 hl (by decide) rfl (fun ls hl => ?_)
  have key176 : ∀ (n176 i40 : Nat), i40 + n176 = 20 → 0 ≤ i40 → ∀ (y108 : Int64), (((y108.toInt = 0 ∧ ¬ zOl [0, (vG pe.toNatClampNeg).toInt, (vA pe.toNatClampNeg).toInt, (vD pe.toNatClampNeg).toInt, (vC pe.toNatClampNeg).toInt, (vU pe.toNatClampNeg).toInt, (vI pe.toNatClampNeg).toInt, (vM pe.toNatClampNeg).toInt, 99, (vW pe.toNatClampNeg).toInt] A9 i40) ∨ (0 < y108.toInt ∧ zOl [0, (vG pe.toNatClampNeg).toInt, (vA pe.toNatClampNeg).toInt, (vD pe.toNatClampNeg).toInt, (vC pe.toNatClampNeg).toInt, (vU pe.toNatClampNeg).toInt, (vI pe.toNatClampNeg).toInt, (vM pe.toNatClampNeg).toInt, 99, (vW pe.toNatClampNeg).toInt] A9 i40)) ∧ (0 ≤ y108.toInt ∧ y108.toInt ≤ ((i40 : Nat) : Int)) ∧ (((i40 : Nat) : Int) ≤ (vL 0).toInt)) → ∀ (H : Heap) (locs : List Loc), gH (dC, dI) kA (SHm q (wP wZ wN wH wB wC wL wK wU wV) PI im PM PT lS lB lE lN) G H → gF (dC, dI) SKm G ([(30, 0), (31, 0)] : List (Nat × Nat)) s.heap H → va_S A s.heap H locs → ct H (q 38) 60 vH → ct H (q 39) 60 vG → ct H (q 31) 60 vA → ct H (q 32) 60 vD → ct H (q 33) 60 vC → ct H (q 34) 60 vU → ct H (q 35) 60 vI → ct H (q 36) 60 vM → ct H (q 40) 60 vW → ct H (q 19) 60 vO → ct H (q 24) 60 vB → ct H (q 25) 60 vX → ct H (q 26) 1200 vS → ct H (q 27) 1200 vN → ct H (q 18) 3 vL → ctl H (q 30) 10 u20 → ∀ ls : Array Slot, lv_has ls 6 [(5, .int (nI i40)), (3, .long y108), (0, .ref o0), (1, .int pe), (2, .int 6)] → W p l e (headSpec w_s_sumOut ({ frames := 2, cells := 0, slots := 0, locals := 68 })).room s m #[.ref o0, .int pe, .int 6] below meth c H locs 0 0 (MQ below (va_Ql (fun (r : Int64) (u : Unit) => ((r.toInt = 0 ∧ ¬ zOut [0, (vG pe.toNatClampNeg).toInt, (vA pe.toNatClampNeg).toInt, (vD pe.toNatClampNeg).toInt, (vC pe.toNatClampNeg).toInt, (vU pe.toNatClampNeg).toInt, (vI pe.toNatClampNeg).toInt, (vM pe.toNatClampNeg).toInt, 99, (vW pe.toNatClampNeg).toInt] A9) ∨ (0 < r.toInt ∧ zOut [0, (vG pe.toNatClampNeg).toInt, (vA pe.toNatClampNeg).toInt, (vD pe.toNatClampNeg).toInt, (vC pe.toNatClampNeg).toInt, (vU pe.toNatClampNeg).toInt, (vI pe.toNatClampNeg).toInt, (vM pe.toNatClampNeg).toInt, 99, (vW pe.toNatClampNeg).toInt] A9))) (fun (_ : Unit) (t : State) => gH (dC, dI) kA (SHm q (wP wZ wN wH wB wC wL wK wU wV) PI im PM PT lS lB lE lN) G t.heap ∧ gF (dC, dI) SKm G ([(30, 0), (31, 0)] : List (Nat × Nat)) s.heap t.heap) A) #[.ref o0, .int pe, .int 6] s 0 0 A) (F0 m 10 ls []) := by
    intro n176
    induction n176 with
    | zero =>
      intro i40 hn176 hlo177 y108 ⟨hj125, hj126, hj127⟩ H locs hT hF hS m109 m110 m111 m112 m113 m114 m115 m116 m117 m118 m119 m120 m121 m122 m123 m124 ls hl
      obtain rfl : 20 = i40 := by omega
      refine lv_iload hx hb dX12_sumOf_10 (lv_at hl 0 rfl) ?_
      refine lv_aload_n hx hb dX12_sumOf_12 rfl (lv_at hl 2 rfl) ?_
      refine tw_get hx hb hts bF_X12 hown hK hT hr_o0 shm_0 rfl 18 (by decide) (ht_at hts 23 rfl) (fun _ h9 => h9) dX12_sumOf_13 (fun v9 m178 h9 => ?_)
      obtain ⟨rfl, hg179⟩ := h9 _ rfl
      refine lv_iconst (v := 0) hx hb dX12_sumOf_16 (by decide) ?_
      refine tw_iald (i := 0) hx hb hK hT hg17 shm_19 rfl (by unfold vp_in; decide) dX12_sumOf_17 (fun v9 m180 h9 => ?_)
      obtain ⟨x181, rfl, gx181, kx181⟩ := (gn_at h9)
      have cx181 := m123.at m180 (by have q9 := tn_of (show (0 : Int32).toInt = 0 from (by decide)) (by omega); omega)
      have sl182 : x181.toInt = (vL 0).toInt := by rw [cx181]; exact congrArg (fun k => (vL k).toInt) (by decide)
      refine lv_icmp_ge (tgt := 67) hx hb dX12_sumOf_18 (by decide) (fun c183 => ?_) (fun c183 => (by exfalso; have q9 : ((20 : Nat) : Int) < x181.toInt := ti_nle c183 rfl (nI_toInt (by omega)); omega))
      have t184 : x181.toInt ≤ ((20 : Nat) : Int) := ti_le c183 rfl (nI_toInt (by omega))
      refine lv_lload_n hx hb dX12_sumOf_67 rfl (lv_at hl 1 rfl) ?_
      exact W.lret (v := y108) hx hb hr (fun t ht hW => ⟨⟨y108, (), rfl, (by exact (by have e9 : 20 = A9.length := (by have := hfo.1; have := hfo.2.1; have l9 := sl182; omega); rcases hj125 with ⟨h8, h7⟩ | ⟨h8, h7⟩ <;> rw [e9] at h7; (exact Or.inl ⟨h8, h7⟩); exact Or.inr ⟨h8, h7⟩)), by (try dsimp only); rw [ht]; exact ⟨hT, hF⟩⟩, hS.F ht⟩) hS.2.2 dX12_sumOf_68
    | succ n176 ih176 =>
      intro i40 hn176 hlo177 y108 ⟨hj125, hj126, hj127⟩ H locs hT hF hS m109 m110 m111 m112 m113 m114 m115 m116 m117 m118 m119 m120 m121 m122 m123 m124 ls hl
      have hlt184 : i40 < 20 := by omega
      refine lv_iload hx hb dX12_sumOf_10 (lv_at hl 0 rfl) ?_
      refine lv_aload_n hx hb dX12_sumOf_12 rfl (lv_at hl 2 rfl) ?_
      refine tw_get hx hb hts bF_X12 hown hK hT hr_o0 shm_0 rfl 18 (by decide) (ht_at hts 23 rfl) (fun _ h9 => h9) dX12_sumOf_13 (fun v9 m185 h9 => ?_)
      obtain ⟨rfl, hg186⟩ := h9 _ rfl
      refine lv_iconst (v := 0) hx hb dX12_sumOf_16 (by decide) ?_
      refine tw_iald (i := 0) hx hb hK hT hg17 shm_19 rfl (by unfold vp_in; decide) dX12_sumOf_17 (fun v9 m187 h9 => ?_)
      obtain ⟨x188, rfl, gx188, kx188⟩ := (gn_at h9)
      have cx188 := m123.at m187 (by have q9 := tn_of (show (0 : Int32).toInt = 0 from (by decide)) (by omega); omega)
      have sl189 : x188.toInt = (vL 0).toInt := by rw [cx188]; exact congrArg (fun k => (vL k).toInt) (by decide)
      refine lv_icmp_ge (tgt := 67) hx hb dX12_sumOf_18 (by decide) (fun c190 => ?_) (fun c190 => ?_)
      · have t191 : x188.toInt ≤ ((i40 : Nat) : Int) := ti_le c190 rfl (nI_toInt (by omega))
        refine lv_lload_n hx hb dX12_sumOf_67 rfl (lv_at hl 1 rfl) ?_
        exact W.lret (v := y108) hx hb hr (fun t ht hW => ⟨⟨y108, (), rfl, (by exact (by have e9 : i40 = A9.length := (by have := hfo.1; have := hfo.2.1; have l9 := sl189; omega); rcases hj125 with ⟨h8, h7⟩ | ⟨h8, h7⟩ <;> rw [e9] at h7; (exact Or.inl ⟨h8, h7⟩); exact Or.inr ⟨h8, h7⟩)), by (try dsimp only); rw [ht]; exact ⟨hT, hF⟩⟩, hS.F ht⟩) hS.2.2 dX12_sumOf_68
      · have t192 : ((i40 : Nat) : Int) < x188.toInt := ti_nle c190 rfl (nI_toInt (by omega))
        refine lv_aload_n hx hb dX12_sumOf_21 rfl (lv_at hl 2 rfl) ?_
        refine tw_get hx hb hts bF_X12 hown hK hT hr_o0 shm_0 rfl 19 (by decide) (ht_at hts 24 rfl) (fun _ h9 => h9) dX12_sumOf_22 (fun v9 m193 h9 => ?_)
        obtain ⟨rfl, hg194⟩ := h9 _ rfl
        refine lv_iload hx hb dX12_sumOf_25 (lv_at hl 0 rfl) ?_
        refine tw_iald (i := (nI i40)) hx hb hK hT hg12 shm_20 rfl (vp_in_nI (by omega) (by decide)) dX12_sumOf_27 (fun v9 m195 h9 => ?_)
        obtain ⟨x196, rfl, gx196, kx196⟩ := h9
        have cx196 := m118.at m195 (by have q9 := tn_of (show (nI i40).toInt = ((i40 : Nat) : Int) from (nI_toInt (by omega))) (by omega); omega)
        refine lv_iload_n hx hb dX12_sumOf_28 rfl (lv_at hl 4 rfl) ?_
        refine lv_icmp_ne (tgt := 61) hx hb dX12_sumOf_29 (by decide) (fun c197 => ?_) (fun c197 => ?_)
        · have t198 : x196.toInt ≠ 6 := ti_ne c197 rfl (by decide)
          refine lv_iinc (v := nI (i40 + 1)) (lv' := [(5, .int (nI (i40 + 1))), (3, .long y108), (0, .ref o0), (1, .int pe), (2, .int 6)]) hx hb dX12_sumOf_61 hl (k := 0) rfl (nI_add i40 1) (by decide) rfl (fun ls hl => ?_)
          refine lv_goto (tgt := 10) hx hb dX12_sumOf_64 (by decide) ?_
          exact ih176 (i40 + 1) (by omega) (by omega) y108 ⟨(by have v9 : (vO i40).toInt = x196.toInt := (by rw [cx196, tn_nI (by omega)]); have q6 : (6 : Int32).toInt = 6 := (by decide); rcases hj125 with ⟨h8, h7⟩ | ⟨h8, h7⟩; (exact Or.inl ⟨h8, zOl_k hfo.2.2 hf39 h7 (Or.inl (by omega))⟩); exact Or.inr ⟨h8, zOl_s h7⟩), (by omega), (by have := hfo.1; have l9 := sl189; omega)⟩ _ _ hT hF hS m109 m110 m111 m112 m113 m114 m115 m116 m117 m118 m119 m120 m121 m122 m123 m124 ls (lv_sub hl [0, 1, 2, 3, 4] rfl)
        · have t199 : x196.toInt = 6 := ti_eq c197 rfl (by decide)
          refine lv_aload_n hx hb dX12_sumOf_32 rfl (lv_at hl 2 rfl) ?_
          refine lv_iload hx hb dX12_sumOf_33 (lv_at hl 0 rfl) ?_
          obtain ⟨V200, m201⟩ := ctl_of hT hg11 shm_30
          have hFc := gA_free hG hA hS
          refine va_calli (va_runV (As := [.int (nI i40)]) (rest := []) ⟨hx, hb, hml, hown, hts⟩ (s_holdsZ l dC dI kA adK adV G H q wZ wN wH wB wC wL wK wU wV PI im PM PT lS lB lE lN o0 (nI i40) vB vX vS vN V200 u20 hT hr_o0 (rg_t (a := ((i40 : Nat) : Int)) (nI_toInt (by omega)) (by omega) (by omega)) (zok_at hfo.2.2 hzk (n := (nI i40).toNatClampNeg) (by have := hfo.1; have l9 := sl189; have := tn_of (show (nI i40).toInt = ((i40 : Nat) : Int) from (nI_toInt (by omega))) (by omega); omega) (by rw [← cx196]; have q6 : (6 : Int32).toInt = 6 := (by decide); omega)) m119 m120 m121 m122 m201 m124 hgz hgn hgh hgb hgc hgi hgu) (cwV 1 hts (goodIn_app (goodIn_r _ [36, 37, 38, 8] rfl (by decide +kernel)) (goodIn_ca (goodIn_r _ [26, 27, 28, 29, 30, 31, 32, 33, 34, 35, 2] rfl (by decide +kernel)) (bs_in _ _))) rfl rfl rfl (by decide +kernel) ⟨(Nat.le_of_ble_eq_true rfl), (Nat.le_of_ble_eq_true rfl)⟩) ⟨fun a U g mk q => by obtain ⟨q0, q1, qK, qE⟩ := q; exact ⟨q0, q1, va_K.moved (u := U) (U := U.calling g mk a) (Vm.Alike.refl U.vm) qK, EVS.blind g mk a qE⟩, gH_rc hK hT hr_o0 shm_0 rfl, fun U hU hW => ⟨rfl, hU, va_K.moved hW.alike hK, hE.call hS hFc hU hW⟩⟩ rfl rfl hl.1 rfl (lv_room (Nat.le_of_ble_eq_true rfl)) dX12_sumOf_35 ⟨(Nat.le_of_ble_eq_true rfl), (Nat.le_of_ble_eq_true rfl)⟩) hS (fun q _ h => hFc q h) hFc (fun r202 u t H locs ht hvm hw203 hB _ _ hS => ?_)
          obtain ⟨hT, hF1⟩ := hB
          rw [ht] at hT hF1
          have m204 := m109.kept (hF1.arr hg1 skm_39 (by decide))
          have m205 := m110.kept (hF1.arr hg2 skm_40 (by decide))
          have m206 := m111.kept (hF1.arr hg3 skm_32 (by decide))
          have m207 := m112.kept (hF1.arr hg4 skm_33 (by decide))
          have m208 := m113.kept (hF1.arr hg5 skm_34 (by decide))
          have m209 := m114.kept (hF1.arr hg6 skm_35 (by decide))
          have m210 := m115.kept (hF1.arr hg7 skm_36 (by decide))
          have m211 := m116.kept (hF1.arr hg8 skm_37 (by decide))
          have m212 := m117.kept (hF1.arr hg9 skm_41 (by decide))
          have m213 := m118.kept (hF1.arr hg12 skm_20 (by decide))
          have m214 := m119.kept (hF1.arr hg13 skm_25 (by decide))
          have m215 := m120.kept (hF1.arr hg14 skm_26 (by decide))
          have m216 := m121.kept (hF1.arr hg15 skm_27 (by decide))
          have m217 := m122.kept (hF1.arr hg16 skm_28 (by decide))
          have m218 := m123.kept (hF1.arr hg17 skm_19 (by decide))
          have m219 := m124.kept (hF1.arr hg10 skm_31 (by decide))
          have hF := hF.more hF1 (by decide)
          try dsimp only at hw203
          obtain ⟨h223, hf224⟩ := hw203
          refine lv_if_eq (tgt := 61) hx hb dX12_sumOf_38 (by decide) (fun c226 => ?_) (fun c226 => ?_)
          · have t227 : r202.toInt = 0 := ti_eq c226 rfl (by decide)
            have hx228 : ¬ zhd u20 (zC (zwo 0 vS vN) (vB i40).toNatClampNeg (vX i40).toNatClampNeg) := by have h9 := (hf224.resolve_left (fun h8 => by have := h8.1; omega)).2; rw [tn_nI (by omega)] at h9; exact h9
            refine lv_iinc (v := nI (i40 + 1)) (lv' := [(5, .int (nI (i40 + 1))), (3, .long y108), (0, .ref o0), (1, .int pe), (2, .int 6)]) hx hb dX12_sumOf_61 hl (k := 0) rfl (nI_add i40 1) (by decide) rfl (fun ls hl => ?_)
            refine lv_goto (tgt := 10) hx hb dX12_sumOf_64 (by decide) ?_
            exact ih176 (i40 + 1) (by omega) (by omega) y108 ⟨(by have v9 : (vO i40).toInt = x196.toInt := (by rw [cx196, tn_nI (by omega)]); have q6 : (6 : Int32).toInt = 6 := (by decide); rcases hj125 with ⟨h8, h7⟩ | ⟨h8, h7⟩; (exact Or.inl ⟨h8, zOl_k hfo.2.2 hf39 h7 (Or.inr hx228)⟩); exact Or.inr ⟨h8, zOl_s h7⟩), (by omega), (by have := hfo.1; have l9 := sl189; omega)⟩ _ _ hT hF hS m204 m205 m206 m207 m208 m209 m210 m211 m212 m213 m214 m215 m216 m217 m218 m219 ls (lv_sub hl [0, 1, 2, 3, 4] rfl)
          · have t229 : r202.toInt ≠ 0 := ti_ne c226 rfl (by decide)
            have hx230 : zhd u20 (zC (zwo 0 vS vN) (vB i40).toNatClampNeg (vX i40).toNatClampNeg) := by have h9 := (hf224.resolve_right (fun h8 => by have := h8.1; omega)).2; rw [tn_nI (by omega)] at h9; exact h9
            refine lv_lload_n hx hb dX12_sumOf_41 rfl (lv_at hl 1 rfl) ?_
            refine lv_iload_n hx hb dX12_sumOf_42 rfl (lv_at hl 4 rfl) ?_
            refine lv_iconst (v := 5) hx hb dX12_sumOf_43 (by decide) ?_
            refine lv_icmp_ge (tgt := 58) hx hb dX12_sumOf_44 (by decide) (fun c231 => ?_) (fun c231 => absurd c231 (by decide))
            refine lv_lconst (v := 1) hx hb dX12_sumOf_58 (by decide) ?_
            refine lv_ladd hx hb dX12_sumOf_59 ?_
            refine lv_topl (fun y232 ey232 => ?_)
            refine lv_lstore_n (lv' := [(3, .long y232), (5, .int (nI i40)), (0, .ref o0), (1, .int pe), (2, .int 6)]) hx hb dX12_sumOf_60 rfl hl (by decide) rfl (fun ls hl => ?_)
            refine lv_iinc (v := nI (i40 + 1)) (lv' := [(5, .int (nI (i40 + 1))), (3, .long y232), (0, .ref o0), (1, .int pe), (2, .int 6)]) hx hb dX12_sumOf_61 hl (k := 1) rfl (nI_add i40 1) (by decide) rfl (fun ls hl => ?_)
            refine lv_goto (tgt := 10) hx hb dX12_sumOf_64 (by decide) ?_
            exact ih176 (i40 + 1) (by omega) (by omega) y232 ⟨(by have v9 : (vO i40).toInt = x196.toInt := (by rw [cx196, tn_nI (by omega)]); have q6 : (6 : Int32).toInt = 6 := (by decide); have n9 : i40 < A9.length := (by have := hfo.1; have l9 := sl189; omega); exact Or.inr ⟨by rcases hj125 with h | h <;> (have := h.1; omega), zOl_y hfo.2.2 hf39 n9 (by omega) hx230⟩), (by omega), (by have := hfo.1; have l9 := sl189; omega)⟩ _ _ hT hF hS m204 m205 m206 m207 m208 m209 m210 m211 m212 m213 m214 m215 m216 m217 m218 m219 ls (lv_sub hl [0, 1, 2, 3, 4] rfl)
  exact key176 (20 - 0) 0 (by omega) (Nat.le_refl _) 0 ⟨(Or.inl ⟨by decide, zOl_0⟩), (by have y8 : (0 : Int64).toInt = 0 := (by decide); omega), (by have := hfo.1; omega)⟩ _ _ hT hF hS m22 m23 m24 m25 m26 m27 m28 m29 m30 m33 m34 m35 m36 m37 m38 m21 ls (lv_sub hl [0, 1, 2, 3, 4] rfl)
def w_s_nextOneZ : List Cond := .code yX12_nextOne cX12_nextOne 3 (some .int) :: (HAppend.hAppend (α := List Cond) (β := List Cond) (γ := List Cond) [.fieldLink RX12 495 "SeaLandModel" "settlers" "I", .fieldLink RX12 131 "SeaLandModel" "open" "[Z", .fieldLink RX12 128 "SeaLandModel" "marks" "[J", .fieldLink RX12 98 "SeaLandModel" "drawn" "[I"] bs)
set_option maxHeartbeats 4000000 in
set_option maxRecDepth 100000 in
theorem s_nextOneZ (l : Launch) (dC : Nat → ClassId) (dI : Nat → Nat → Nat) (kA : Nat → ClassId) (adK adV : Nat → Nat) (G : gT) (H0 : Heap) (q : Nat → Nat) (wZ wN : Nat → Int) (wH wB wC : Int) (wL wK : Nat → Prop) (wU wV : Nat → Nat) (PI : Nat → Int → Prop) (im : Int) (PM PT : Nat → Int → Prop) (lS lB lE : Nat → Nat → Int → Prop) (lN : Nat → Int) (o0 : Nat) (sn : Int32) (vP : Nat → Int32)  (hT : gH (dC, dI) kA (SHm q (wP wZ wN wH wB wC wL wK wU wV) PI im PM PT lS lB lE lN) G H0) (hr_o0 : G o0 = some 0) (hm_sn : el H0 o0 (dI 15 42) = some (.int sn)) (hq0 : 0 ≤ sn.toInt ∧ sn.toInt ≤ 60) (hc_vP : ct H0 (q 51) 60 vP) (hgz : ∀ i, 0 ≤ wZ i) (hgn : ∀ i, 6500000 ≤ wN i ∧ wN i ≤ 20200000) (hgh : 0 ≤ wH ∧ wH ≤ 40000) (hgb : 0 ≤ wB ∧ wB ≤ 3850000) (hgc : 0 ≤ wC ∧ wC ≤ 30) (hgi : 0 ≤ im ∧ im ≤ 1) (hgu : ∀ a t, G a = some (t + 1) → a = q t) : Met l yX12_nextOne w_s_nextOneZ ({ frames := 0, cells := 0, slots := 0, locals := 0 }) (va_Pc [.ref o0] (fun U => U.heap = H0 ∧ va_K (dC, dI) vwCl (tyl kA) U ∧ EVS adK adV (gA G H0.size) U U.heap)) (va_Qi (fun (r : Int32) (u : Unit) => (-1 ≤ r.toInt ∧ r.toInt ≤ 59) ∧ ((r.toInt = -1 ∧ ¬ zOp vP sn.toInt) ∨ (0 ≤ r.toInt ∧ r.toInt < sn.toInt ∧ zOp vP sn.toInt))) (fun (_ : Unit) (t : State) => gH (dC, dI) kA (SHm q (wP wZ wN wH wB wC wL wK wU wV) PI im PM PT lS lB lE lN) G t.heap ∧ gF (dC, dI) SKm G ([] : List (Nat × Nat)) H0 t.heap) (gA G H0.size)) 0 0 (gA G H0.size) := by
  refine Met.ofW (cc := cX12_nextOne) (maxL := 3) (ret := (some .int)) (by decide) rfl ?_
  intro p e s m args below meth c s₁ B hml hv
  obtain ⟨rfl, hH0, hK, hE⟩ := hv
  have hx := B.exec
  have hb := B.bytes
  have hr := B.returns
  have hts := atoms_spec (ws := w_s_nextOneZ) B.pre
  have hown : s.vm.findClass RX12 = some m.cls := findClass_of_methodNamed B.named
  have hlocks := B.notSynchronized
  subst hH0
  generalize hAe : gA G s.heap.size = A at hE ⊢
  have hA : ∀ q : Nat, s.heap.size ≤ q → A q := fun q h => by rw [← hAe]; exact Or.inr h
  have hG := gA_of hAe
  have hS : va_S A s.heap s.heap [] := va_S.rf
  have hF : gF (dC, dI) SKm G ([] : List (Nat × Nat)) s.heap s.heap := gF.rf
  have hl := lv_entry ([.ref o0]) (n := 3) (Nat.le_of_ble_eq_true rfl)
  rw [lg_entry_eq]
  generalize (lg_sl ([.ref o0]) ++ List.replicate (3 - (lg_sl ([.ref o0])).length) Slot.unset).toArray = ls at hl ⊢
  have hl : lv_has ls 3 [(0, .ref o0)] := hl
  have hg1 : G (q 51) = some 52 := gx_of hT hr_o0 shm_0 (k := 51) (by decide) rfl
  refine lv_iconst (v := (-1)) hx hb dX12_nextOne_0 (by decide) ?_
  refine lv_istore_n (lv' := [(1, .int (-1)), (0, .ref o0)]) hx hb dX12_nextOne_1 rfl hl (by decide) rfl (fun ls hl => ?_)
  refine lv_iconst (v := 0) hx hb dX12_nextOne_2 (by decide) ?_
  refine lv_istore_n (lv' := [(2, .int 0), (1, .int (-1)), (0, .ref o0)]) hx hb dX12_nextOne_3 rfl hl (by decide) rfl (fun ls hl => ?_)
  have key57 : ∀ (n57 i2 : Nat), i2 + n57 = 60 → 0 ≤ i2 → ∀ (z3 : Int32), ((-1 ≤ z3.toInt ∧ z3.toInt ≤ 59) ∧ ((z3.toInt = -1 ∧ ∀ p : Nat, p < i2 → (vP p).toInt = 0) ∨ (0 ≤ z3.toInt ∧ z3.toInt < ((i2 : Nat) : Int) ∧ zOp vP ((i2 : Nat) : Int))) ∧ (((i2 : Nat) : Int) ≤ sn.toInt)) → ∀ (H : Heap) (locs : List Loc), gH (dC, dI) kA (SHm q (wP wZ wN wH wB wC wL wK wU wV) PI im PM PT lS lB lE lN) G H → gF (dC, dI) SKm G ([] : List (Nat × Nat)) s.heap H → va_S A s.heap H locs → ct H (q 51) 60 vP → el H o0 (dI 15 42) = some (.int sn) → ∀ ls : Array Slot, lv_has ls 3 [(2, .int (nI i2)), (1, .int z3), (0, .ref o0)] → W p l e (headSpec w_s_nextOneZ ({ frames := 0, cells := 0, slots := 0, locals := 0 })).room s m #[.ref o0] below meth c H locs 0 0 (MQ below (va_Qi (fun (r : Int32) (u : Unit) => (-1 ≤ r.toInt ∧ r.toInt ≤ 59) ∧ ((r.toInt = -1 ∧ ¬ zOp vP sn.toInt) ∨ (0 ≤ r.toInt ∧ r.toInt < sn.toInt ∧ zOp vP sn.toInt))) (fun (_ : Unit) (t : State) => gH (dC, dI) kA (SHm q (wP wZ wN wH wB wC wL wK wU wV) PI im PM PT lS lB lE lN) G t.heap ∧ gF (dC, dI) SKm G ([] : List (Nat × Nat)) s.heap t.heap) A) #[.ref o0] s 0 0 A) (F0 m 4 ls []) := by
    intro n57
    induction n57 with
    | zero =>
      intro i2 hn57 hlo58 z3 ⟨h4, hj7, hj8⟩ H locs hT hF hS m5 m6 ls hl
      obtain rfl : 60 = i2 := by omega
      refine lv_iload_n hx hb dX12_nextOne_4 rfl (lv_at hl 0 rfl) ?_
      refine lv_aload_n hx hb dX12_nextOne_5 rfl (lv_at hl 2 rfl) ?_
      refine tw_getM (v := .int sn) hx hb hts bF_X12 hown hK hT hr_o0 shm_0 rfl 42 (by decide) (ht_at hts 0 rfl) (fun _ h9 => h9) m6 dX12_nextOne_6 ?_
      refine lv_icmp_ge (tgt := 83) hx hb dX12_nextOne_9 (by decide) (fun c59 => ?_) (fun c59 => (by exfalso; have q9 : ((60 : Nat) : Int) < sn.toInt := ti_nle c59 rfl (nI_toInt (by omega)); omega))
      have t60 : sn.toInt ≤ ((60 : Nat) : Int) := ti_le c59 rfl (nI_toInt (by omega))
      refine lv_iload_n hx hb dX12_nextOne_83 rfl (lv_at hl 1 rfl) ?_
      exact W.iret (v := z3) hx hb hr (fun t ht hW => ⟨⟨z3, (), rfl, (by exact ⟨(by have q8 := ti_all z3; omega), (by have b9 := (show z3.toInt = z3.toInt from rfl); rcases hj7 with ⟨h8, h7⟩ | ⟨h8, h6, h7⟩; (exact Or.inl ⟨by omega, fun h5 => h5.elim (fun p hp => by have := h7 p (by have := hp.1; omega); have := hp.2; omega)⟩); exact Or.inr ⟨by omega, by omega, h7.elim (fun p hp => ⟨p, by have := hp.1; omega, hp.2⟩)⟩)⟩), by (try dsimp only); rw [ht]; exact ⟨hT, hF⟩⟩, hS.F ht⟩) hS.2.2 dX12_nextOne_84
    | succ n57 ih57 =>
      intro i2 hn57 hlo58 z3 ⟨h4, hj7, hj8⟩ H locs hT hF hS m5 m6 ls hl
      have hlt60 : i2 < 60 := by omega
      refine lv_iload_n hx hb dX12_nextOne_4 rfl (lv_at hl 0 rfl) ?_
      refine lv_aload_n hx hb dX12_nextOne_5 rfl (lv_at hl 2 rfl) ?_
      refine tw_getM (v := .int sn) hx hb hts bF_X12 hown hK hT hr_o0 shm_0 rfl 42 (by decide) (ht_at hts 0 rfl) (fun _ h9 => h9) m6 dX12_nextOne_6 ?_
      refine lv_icmp_ge (tgt := 83) hx hb dX12_nextOne_9 (by decide) (fun c61 => ?_) (fun c61 => ?_)
      · have t62 : sn.toInt ≤ ((i2 : Nat) : Int) := ti_le c61 rfl (nI_toInt (by omega))
        refine lv_iload_n hx hb dX12_nextOne_83 rfl (lv_at hl 1 rfl) ?_
        exact W.iret (v := z3) hx hb hr (fun t ht hW => ⟨⟨z3, (), rfl, (by exact ⟨(by have q8 := ti_all z3; omega), (by have b9 := (show z3.toInt = z3.toInt from rfl); rcases hj7 with ⟨h8, h7⟩ | ⟨h8, h6, h7⟩; (exact Or.inl ⟨by omega, fun h5 => h5.elim (fun p hp => by have := h7 p (by have := hp.1; omega); have := hp.2; omega)⟩); exact Or.inr ⟨by omega, by omega, h7.elim (fun p hp => ⟨p, by have := hp.1; omega, hp.2⟩)⟩)⟩), by (try dsimp only); rw [ht]; exact ⟨hT, hF⟩⟩, hS.F ht⟩) hS.2.2 dX12_nextOne_84
      · have t63 : ((i2 : Nat) : Int) < sn.toInt := ti_nle c61 rfl (nI_toInt (by omega))
        refine lv_aload_n hx hb dX12_nextOne_12 rfl (lv_at hl 2 rfl) ?_
        refine tw_get hx hb hts bF_X12 hown hK hT hr_o0 shm_0 rfl 51 (by decide) (ht_at hts 1 rfl) (fun _ h9 => h9) dX12_nextOne_13 (fun v9 m64 h9 => ?_)
        obtain ⟨rfl, hg65⟩ := h9 _ rfl
        refine lv_iload_n hx hb dX12_nextOne_16 rfl (lv_at hl 0 rfl) ?_
        refine tw_zald (i := (nI i2)) hx hb hK hT hg1 shm_52 rfl (vp_in_nI (by omega) (by decide)) dX12_nextOne_17 (fun v9 m66 h9 => ?_)
        obtain ⟨x67, rfl, gx67, kx67⟩ := h9
        have cx67 := m5.at m66 (by have q9 := tn_of (show (nI i2).toInt = ((i2 : Nat) : Int) from (nI_toInt (by omega))) (by omega); omega)
        refine lv_if_ne (tgt := 24) hx hb dX12_nextOne_18 (by decide) (fun c68 => ?_) (fun c68 => ?_)
        · have t69 : x67.toInt ≠ 0 := ti_ne c68 rfl (by decide)
          refine lv_iload_n hx hb dX12_nextOne_24 rfl (lv_at hl 1 rfl) ?_
          refine lv_if_lt (tgt := 75) hx hb dX12_nextOne_25 (by decide) (fun c70 => ?_) (fun c70 => ?_)
          · have t71 : z3.toInt < 0 := ti_lt c70 rfl (by decide)
            refine lv_iload_n hx hb dX12_nextOne_75 rfl (lv_at hl 0 rfl) ?_
            refine lv_istore_n (lv' := [(1, .int (nI i2)), (2, .int (nI i2)), (0, .ref o0)]) hx hb dX12_nextOne_76 rfl hl (by decide) rfl (fun ls hl => ?_)
            refine lv_iinc (v := nI (i2 + 1)) (lv' := [(2, .int (nI (i2 + 1))), (1, .int (nI i2)), (0, .ref o0)]) hx hb dX12_nextOne_77 hl (k := 1) rfl (nI_add i2 1) (by decide) rfl (fun ls hl => ?_)
            refine lv_goto (tgt := 4) hx hb dX12_nextOne_80 (by decide) ?_
            exact ih57 (i2 + 1) (by omega) (by omega) (nI i2) ⟨(by have q9 := (show (nI i2).toInt = ((i2 : Nat) : Int) from (nI_toInt (by omega))); (try have q8 := ti_all (nI i2)); omega), (by have v9 : (vP i2).toInt = x67.toInt := (by rw [cx67, tn_nI (by omega)]); have b9 := (show (nI i2).toInt = ((i2 : Nat) : Int) from (nI_toInt (by omega))); rcases hj7 with ⟨h8, h7⟩ | ⟨h8, h6, h7⟩; (by_cases z9 : x67.toInt = 1; (exact Or.inr ⟨by omega, by omega, i2, by omega, by omega⟩); exact Or.inl ⟨by omega, fun p hp => by by_cases e9 : p = i2; (rw [e9]; omega); exact h7 p (by omega)⟩); exact Or.inr ⟨by omega, by omega, h7.elim (fun p hp => ⟨p, by have := hp.1; omega, hp.2⟩)⟩), (by omega)⟩ _ _ hT hF hS m5 m6 ls (lv_sub hl [0, 1, 2] rfl)
          · have t72 : 0 ≤ z3.toInt := ti_nlt c70 rfl (by decide)
            refine lv_aload_n hx hb dX12_nextOne_28 rfl (lv_at hl 2 rfl) ?_
            refine tw_get hx hb hts bF_X12 hown hK hT hr_o0 shm_0 rfl 50 (by decide) (ht_at hts 2 rfl) (fun _ h9 => h9) dX12_nextOne_29 (fun v9 m73 h9 => ?_)
            obtain ⟨rfl, hg74⟩ := h9 _ rfl
            refine lv_iload_n hx hb dX12_nextOne_32 rfl (lv_at hl 0 rfl) ?_
            refine tw_lald (i := (nI i2)) hx hb hK hT hg74 shm_51 rfl (vp_in_nI (by omega) (by decide)) dX12_nextOne_33 (fun v9 m75 h9 => ?_)
            obtain ⟨y76, rfl⟩ := h9
            refine lv_aload_n hx hb dX12_nextOne_34 rfl (lv_at hl 2 rfl) ?_
            refine tw_get hx hb hts bF_X12 hown hK hT hr_o0 shm_0 rfl 50 (by decide) (ht_at hts 2 rfl) (fun _ h9 => h9) dX12_nextOne_35 (fun v9 m77 h9 => ?_)
            obtain ⟨rfl, hg78⟩ := h9 _ rfl
            refine lv_iload_n hx hb dX12_nextOne_38 rfl (lv_at hl 1 rfl) ?_
            refine tw_lald (i := z3) hx hb hK hT hg74 shm_51 rfl (vin_t (a := z3.toInt) rfl (by omega) (by omega)) dX12_nextOne_39 (fun v9 m79 h9 => ?_)
            obtain ⟨y80, rfl⟩ := h9
            refine W.lcmp hx hb dX12_nextOne_40 ?_
            refine lv_topi (fun x81 _ => ?_)
            refine lv_if_gt (tgt := 75) hx hb dX12_nextOne_41 (by decide) (fun c82 => ?_) (fun c82 => ?_)
            · have t83 : 0 < x81.toInt := ti_lt c82 (by decide) rfl
              refine lv_iload_n hx hb dX12_nextOne_75 rfl (lv_at hl 0 rfl) ?_
              refine lv_istore_n (lv' := [(1, .int (nI i2)), (2, .int (nI i2)), (0, .ref o0)]) hx hb dX12_nextOne_76 rfl hl (by decide) rfl (fun ls hl => ?_)
              refine lv_iinc (v := nI (i2 + 1)) (lv' := [(2, .int (nI (i2 + 1))), (1, .int (nI i2)), (0, .ref o0)]) hx hb dX12_nextOne_77 hl (k := 1) rfl (nI_add i2 1) (by decide) rfl (fun ls hl => ?_)
              refine lv_goto (tgt := 4) hx hb dX12_nextOne_80 (by decide) ?_
              exact ih57 (i2 + 1) (by omega) (by omega) (nI i2) ⟨(by have q9 := (show (nI i2).toInt = ((i2 : Nat) : Int) from (nI_toInt (by omega))); (try have q8 := ti_all (nI i2)); omega), (by have v9 : (vP i2).toInt = x67.toInt := (by rw [cx67, tn_nI (by omega)]); have b9 := (show (nI i2).toInt = ((i2 : Nat) : Int) from (nI_toInt (by omega))); rcases hj7 with ⟨h8, h7⟩ | ⟨h8, h6, h7⟩; (by_cases z9 : x67.toInt = 1; (exact Or.inr ⟨by omega, by omega, i2, by omega, by omega⟩); exact Or.inl ⟨by omega, fun p hp => by by_cases e9 : p = i2; (rw [e9]; omega); exact h7 p (by omega)⟩); exact Or.inr ⟨by omega, by omega, h7.elim (fun p hp => ⟨p, by have := hp.1; omega, hp.2⟩)⟩), (by omega)⟩ _ _ hT hF hS m5 m6 ls (lv_sub hl [0, 1, 2] rfl)
            · have t84 : x81.toInt ≤ 0 := ti_nlt c82 (by decide) rfl
              refine lv_aload_n hx hb dX12_nextOne_44 rfl (lv_at hl 2 rfl) ?_
              refine tw_get hx hb hts bF_X12 hown hK hT hr_o0 shm_0 rfl 50 (by decide) (ht_at hts 2 rfl) (fun _ h9 => h9) dX12_nextOne_45 (fun v9 m85 h9 => ?_)
              obtain ⟨rfl, hg86⟩ := h9 _ rfl
              refine lv_iload_n hx hb dX12_nextOne_48 rfl (lv_at hl 0 rfl) ?_
              refine tw_lald (i := (nI i2)) hx hb hK hT hg74 shm_51 rfl (vp_in_nI (by omega) (by decide)) dX12_nextOne_49 (fun v9 m87 h9 => ?_)
              obtain ⟨y88, rfl⟩ := h9
              refine lv_aload_n hx hb dX12_nextOne_50 rfl (lv_at hl 2 rfl) ?_
              refine tw_get hx hb hts bF_X12 hown hK hT hr_o0 shm_0 rfl 50 (by decide) (ht_at hts 2 rfl) (fun _ h9 => h9) dX12_nextOne_51 (fun v9 m89 h9 => ?_)
              obtain ⟨rfl, hg90⟩ := h9 _ rfl
              refine lv_iload_n hx hb dX12_nextOne_54 rfl (lv_at hl 1 rfl) ?_
              refine tw_lald (i := z3) hx hb hK hT hg74 shm_51 rfl (vin_t (a := z3.toInt) rfl (by omega) (by omega)) dX12_nextOne_55 (fun v9 m91 h9 => ?_)
              obtain ⟨y92, rfl⟩ := h9
              refine W.lcmp hx hb dX12_nextOne_56 ?_
              refine lv_topi (fun x93 _ => ?_)
              refine lv_if_ne (tgt := 77) hx hb dX12_nextOne_57 (by decide) (fun c94 => ?_) (fun c94 => ?_)
              · have t95 : x93.toInt ≠ 0 := ti_ne c94 rfl (by decide)
                refine lv_iinc (v := nI (i2 + 1)) (lv' := [(2, .int (nI (i2 + 1))), (1, .int z3), (0, .ref o0)]) hx hb dX12_nextOne_77 hl (k := 0) rfl (nI_add i2 1) (by decide) rfl (fun ls hl => ?_)
                refine lv_goto (tgt := 4) hx hb dX12_nextOne_80 (by decide) ?_
                exact ih57 (i2 + 1) (by omega) (by omega) z3 ⟨(by have q9 := (show z3.toInt = z3.toInt from rfl); (try have q8 := ti_all z3); omega), (by have v9 : (vP i2).toInt = x67.toInt := (by rw [cx67, tn_nI (by omega)]); have b9 := (show z3.toInt = z3.toInt from rfl); rcases hj7 with ⟨h8, h7⟩ | ⟨h8, h6, h7⟩; (by_cases z9 : x67.toInt = 1; (exact Or.inr ⟨by omega, by omega, i2, by omega, by omega⟩); exact Or.inl ⟨by omega, fun p hp => by by_cases e9 : p = i2; (rw [e9]; omega); exact h7 p (by omega)⟩); exact Or.inr ⟨by omega, by omega, h7.elim (fun p hp => ⟨p, by have := hp.1; omega, hp.2⟩)⟩), (by omega)⟩ _ _ hT hF hS m5 m6 ls (lv_sub hl [0, 1, 2] rfl)
              · have t96 : x93.toInt = 0 := ti_eq c94 rfl (by decide)
                refine lv_aload_n hx hb dX12_nextOne_60 rfl (lv_at hl 2 rfl) ?_
                refine tw_get hx hb hts bF_X12 hown hK hT hr_o0 shm_0 rfl 37 (by decide) (ht_at hts 3 rfl) (fun _ h9 => h9) dX12_nextOne_61 (fun v9 m97 h9 => ?_)
                obtain ⟨rfl, hg98⟩ := h9 _ rfl
                refine lv_iload_n hx hb dX12_nextOne_64 rfl (lv_at hl 0 rfl) ?_
                refine tw_iald (i := (nI i2)) hx hb hK hT hg98 shm_38 rfl (vp_in_nI (by omega) (by decide)) dX12_nextOne_65 (fun v9 m99 h9 => ?_)
                obtain ⟨x100, rfl, gx100, kx100⟩ := h9
                refine lv_aload_n hx hb dX12_nextOne_66 rfl (lv_at hl 2 rfl) ?_
                refine tw_get hx hb hts bF_X12 hown hK hT hr_o0 shm_0 rfl 37 (by decide) (ht_at hts 3 rfl) (fun _ h9 => h9) dX12_nextOne_67 (fun v9 m101 h9 => ?_)
                obtain ⟨rfl, hg102⟩ := h9 _ rfl
                refine lv_iload_n hx hb dX12_nextOne_70 rfl (lv_at hl 1 rfl) ?_
                refine tw_iald (i := z3) hx hb hK hT hg98 shm_38 rfl (vin_t (a := z3.toInt) rfl (by omega) (by omega)) dX12_nextOne_71 (fun v9 m103 h9 => ?_)
                obtain ⟨x104, rfl, gx104, kx104⟩ := h9
                refine lv_icmp_ge (tgt := 77) hx hb dX12_nextOne_72 (by decide) (fun c105 => ?_) (fun c105 => ?_)
                · have t106 : x104.toInt ≤ x100.toInt := ti_le c105 rfl rfl
                  refine lv_iinc (v := nI (i2 + 1)) (lv' := [(2, .int (nI (i2 + 1))), (1, .int z3), (0, .ref o0)]) hx hb dX12_nextOne_77 hl (k := 0) rfl (nI_add i2 1) (by decide) rfl (fun ls hl => ?_)
                  refine lv_goto (tgt := 4) hx hb dX12_nextOne_80 (by decide) ?_
                  exact ih57 (i2 + 1) (by omega) (by omega) z3 ⟨(by have q9 := (show z3.toInt = z3.toInt from rfl); (try have q8 := ti_all z3); omega), (by have v9 : (vP i2).toInt = x67.toInt := (by rw [cx67, tn_nI (by omega)]); have b9 := (show z3.toInt = z3.toInt from rfl); rcases hj7 with ⟨h8, h7⟩ | ⟨h8, h6, h7⟩; (by_cases z9 : x67.toInt = 1; (exact Or.inr ⟨by omega, by omega, i2, by omega, by omega⟩); exact Or.inl ⟨by omega, fun p hp => by by_cases e9 : p = i2; (rw [e9]; omega); exact h7 p (by omega)⟩); exact Or.inr ⟨by omega, by omega, h7.elim (fun p hp => ⟨p, by have := hp.1; omega, hp.2⟩)⟩), (by omega)⟩ _ _ hT hF hS m5 m6 ls (lv_sub hl [0, 1, 2] rfl)
                · have t107 : x100.toInt < x104.toInt := ti_nle c105 rfl rfl
                  refine lv_iload_n hx hb dX12_nextOne_75 rfl (lv_at hl 0 rfl) ?_
                  refine lv_istore_n (lv' := [(1, .int (nI i2)), (2, .int (nI i2)), (0, .ref o0)]) hx hb dX12_nextOne_76 rfl hl (by decide) rfl (fun ls hl => ?_)
                  refine lv_iinc (v := nI (i2 + 1)) (lv' := [(2, .int (nI (i2 + 1))), (1, .int (nI i2)), (0, .ref o0)]) hx hb dX12_nextOne_77 hl (k := 1) rfl (nI_add i2 1) (by decide) rfl (fun ls hl => ?_)
                  refine lv_goto (tgt := 4) hx hb dX12_nextOne_80 (by decide) ?_
                  exact ih57 (i2 + 1) (by omega) (by omega) (nI i2) ⟨(by have q9 := (show (nI i2).toInt = ((i2 : Nat) : Int) from (nI_toInt (by omega))); (try have q8 := ti_all (nI i2)); omega), (by have v9 : (vP i2).toInt = x67.toInt := (by rw [cx67, tn_nI (by omega)]); have b9 := (show (nI i2).toInt = ((i2 : Nat) : Int) from (nI_toInt (by omega))); rcases hj7 with ⟨h8, h7⟩ | ⟨h8, h6, h7⟩; (by_cases z9 : x67.toInt = 1; (exact Or.inr ⟨by omega, by omega, i2, by omega, by omega⟩); exact Or.inl ⟨by omega, fun p hp => by by_cases e9 : p = i2; (rw [e9]; omega); exact h7 p (by omega)⟩); exact Or.inr ⟨by omega, by omega, h7.elim (fun p hp => ⟨p, by have := hp.1; omega, hp.2⟩)⟩), (by omega)⟩ _ _ hT hF hS m5 m6 ls (lv_sub hl [0, 1, 2] rfl)
        · have t108 : x67.toInt = 0 := ti_eq c68 rfl (by decide)
          refine lv_goto (tgt := 77) hx hb dX12_nextOne_21 (by decide) ?_
          refine lv_iinc (v := nI (i2 + 1)) (lv' := [(2, .int (nI (i2 + 1))), (1, .int z3), (0, .ref o0)]) hx hb dX12_nextOne_77 hl (k := 0) rfl (nI_add i2 1) (by decide) rfl (fun ls hl => ?_)
          refine lv_goto (tgt := 4) hx hb dX12_nextOne_80 (by decide) ?_
          exact ih57 (i2 + 1) (by omega) (by omega) z3 ⟨(by have q9 := (show z3.toInt = z3.toInt from rfl); (try have q8 := ti_all z3); omega), (by have v9 : (vP i2).toInt = x67.toInt := (by rw [cx67, tn_nI (by omega)]); have b9 := (show z3.toInt = z3.toInt from rfl); rcases hj7 with ⟨h8, h7⟩ | ⟨h8, h6, h7⟩; (by_cases z9 : x67.toInt = 1; (exact Or.inr ⟨by omega, by omega, i2, by omega, by omega⟩); exact Or.inl ⟨by omega, fun p hp => by by_cases e9 : p = i2; (rw [e9]; omega); exact h7 p (by omega)⟩); exact Or.inr ⟨by omega, by omega, h7.elim (fun p hp => ⟨p, by have := hp.1; omega, hp.2⟩)⟩), (by omega)⟩ _ _ hT hF hS m5 m6 ls (lv_sub hl [0, 1, 2] rfl)
  exact key57 (60 - 0) 0 (by omega) (Nat.le_refl _) (-1) ⟨(by have q9 := (show (-1 : Int32).toInt = (-1) from (by decide)); (try have q8 := ti_all (-1 : Int32)); omega), (Or.inl ⟨by decide, fun p h => absurd h (Nat.not_lt_zero p)⟩), (by omega)⟩ _ _ hT hF hS hc_vP hm_sn ls (lv_sub hl [0, 1, 2] rfl)
def w_s_bestFarmZ : List Cond := .code yX12_bestFarm cX12_bestFarm 3 (some .int) :: (HAppend.hAppend (α := List Cond) (β := List Cond) (γ := List Cond) [.fieldLink RX12 498 "SeaLandModel" "farms" "I", .fieldLink RX12 122 "SeaLandModel" "holder" "[I", .code yX12_worthOf cX12_worthOf 5 (some .int), .fieldLink RX12 113 "SeaLandModel" "farmFrom" "[I", .fieldLink RX12 116 "SeaLandModel" "farmTo" "[I", .code yX12_isIn cX12_isIn 5 (some .boolean), .methodLink RX12 207 Lib.Math.min.name, .static Lib.Math.min.name, .initialized "java/lang/Math", .code Lib.Math.min.name Lib.Math.min.code 2 (some .int), .methodLink RX12 211 Lib.Math.max.name, .static Lib.Math.max.name, .code Lib.Math.max.name Lib.Math.max.code 2 (some .int), .code yX12_in cX12_in 3 (some .boolean), .methodLink RX12 197 yX12_in, .static yX12_in, .initialized RX12, .methodLink RX12 232 yX12_isIn, .static yX12_isIn, .fieldLink RX12 9 "SeaLandModel" "world" "[I", .methodLink RX12 505 yX12_worthOf, .instanceMethod yX12_worthOf, .selects RX12 yX12_worthOf yX12_worthOf] bs)
set_option maxHeartbeats 4000000 in
set_option maxRecDepth 100000 in
theorem s_bestFarmZ (l : Launch) (dC : Nat → ClassId) (dI : Nat → Nat → Nat) (kA : Nat → ClassId) (adK adV : Nat → Nat) (G : gT) (H0 : Heap) (q : Nat → Nat) (wZ wN : Nat → Int) (wH wB wC : Int) (wL wK : Nat → Prop) (wU wV : Nat → Nat) (PI : Nat → Int → Prop) (im : Int) (PM PT : Nat → Int → Prop) (lS lB lE : Nat → Nat → Int → Prop) (lN : Nat → Int) (o0 : Nat) (fm : Int32) (vR : Nat → Int32)  (hT : gH (dC, dI) kA (SHm q (wP wZ wN wH wB wC wL wK wU wV) PI im PM PT lS lB lE lN) G H0) (hr_o0 : G o0 = some 0) (hm_fm : el H0 o0 (dI 15 47) = some (.int fm)) (hq0 : 0 ≤ fm.toInt ∧ fm.toInt ≤ 30) (hnh : ∀ f : Nat, ((f : Nat) : Int) < fm.toInt → (vR f).toInt < 0) (hc_vR : ct H0 (q 46) 30 vR) (hgz : ∀ i, 0 ≤ wZ i) (hgn : ∀ i, 6500000 ≤ wN i ∧ wN i ≤ 20200000) (hgh : 0 ≤ wH ∧ wH ≤ 40000) (hgb : 0 ≤ wB ∧ wB ≤ 3850000) (hgc : 0 ≤ wC ∧ wC ≤ 30) (hgi : 0 ≤ im ∧ im ≤ 1) (hgu : ∀ a t, G a = some (t + 1) → a = q t) : Met l yX12_bestFarm w_s_bestFarmZ ({ frames := 3, cells := 0, slots := 0, locals := 88 }) (va_Pc [.ref o0] (fun U => U.heap = H0 ∧ va_K (dC, dI) vwCl (tyl kA) U ∧ EVS adK adV (gA G H0.size) U U.heap)) (va_Qi (fun (r : Int32) (u : Unit) => (-1 ≤ r.toInt ∧ r.toInt ≤ 29) ∧ ((fm.toInt = 0 ∧ r.toInt = -1) ∨ (0 < fm.toInt ∧ 0 ≤ r.toInt))) (fun (_ : Unit) (t : State) => gH (dC, dI) kA (SHm q (wP wZ wN wH wB wC wL wK wU wV) PI im PM PT lS lB lE lN) G t.heap ∧ gF (dC, dI) SKm G ([] : List (Nat × Nat)) H0 t.heap) (gA G H0.size)) 0 0 (gA G H0.size) := by
  refine Met.ofW (cc := cX12_bestFarm) (maxL := 3) (ret := (some .int)) (by decide) rfl ?_
  intro p e s m args below meth c s₁ B hml hv
  obtain ⟨rfl, hH0, hK, hE⟩ := hv
  have hx := B.exec
  have hb := B.bytes
  have hr := B.returns
  have hts := atoms_spec (ws := w_s_bestFarmZ) B.pre
  have hown : s.vm.findClass RX12 = some m.cls := findClass_of_methodNamed B.named
  have hlocks := B.notSynchronized
  subst hH0
  generalize hAe : gA G s.heap.size = A at hE ⊢
  have hA : ∀ q : Nat, s.heap.size ≤ q → A q := fun q h => by rw [← hAe]; exact Or.inr h
  have hG := gA_of hAe
  have hS : va_S A s.heap s.heap [] := va_S.rf
  have hF : gF (dC, dI) SKm G ([] : List (Nat × Nat)) s.heap s.heap := gF.rf
  have hl := lv_entry ([.ref o0]) (n := 3) (Nat.le_of_ble_eq_true rfl)
  rw [lg_entry_eq]
  generalize (lg_sl ([.ref o0]) ++ List.replicate (3 - (lg_sl ([.ref o0])).length) Slot.unset).toArray = ls at hl ⊢
  have hl : lv_has ls 3 [(0, .ref o0)] := hl
  have hg1 : G (q 46) = some 47 := gx_of hT hr_o0 shm_0 (k := 46) (by decide) rfl
  refine lv_iconst (v := (-1)) hx hb dX12_bestFarm_0 (by decide) ?_
  refine lv_istore_n (lv' := [(1, .int (-1)), (0, .ref o0)]) hx hb dX12_bestFarm_1 rfl hl (by decide) rfl (fun ls hl => ?_)
  refine lv_iconst (v := 0) hx hb dX12_bestFarm_2 (by decide) ?_
  refine lv_istore_n (lv' := [(2, .int 0), (1, .int (-1)), (0, .ref o0)]) hx hb dX12_bestFarm_3 rfl hl (by decide) rfl (fun ls hl => ?_)
  have key35 : ∀ (n35 i2 : Nat), i2 + n35 = 30 → 0 ≤ i2 → ∀ (z3 : Int32), ((-1 ≤ z3.toInt ∧ z3.toInt ≤ 29) ∧ ((((i2 : Nat) : Int) = 0 ∧ z3.toInt = -1) ∨ (1 ≤ ((i2 : Nat) : Int) ∧ 0 ≤ z3.toInt)) ∧ (((i2 : Nat) : Int) ≤ fm.toInt)) → ∀ (H : Heap) (locs : List Loc), gH (dC, dI) kA (SHm q (wP wZ wN wH wB wC wL wK wU wV) PI im PM PT lS lB lE lN) G H → gF (dC, dI) SKm G ([] : List (Nat × Nat)) s.heap H → va_S A s.heap H locs → ct H (q 46) 30 vR → el H o0 (dI 15 47) = some (.int fm) → ∀ ls : Array Slot, lv_has ls 3 [(2, .int (nI i2)), (1, .int z3), (0, .ref o0)] → W p l e (headSpec w_s_bestFarmZ ({ frames := 3, cells := 0, slots := 0, locals := 88 })).room s m #[.ref o0] below meth c H locs 0 0 (MQ below (va_Qi (fun (r : Int32) (u : Unit) => (-1 ≤ r.toInt ∧ r.toInt ≤ 29) ∧ ((fm.toInt = 0 ∧ r.toInt = -1) ∨ (0 < fm.toInt ∧ 0 ≤ r.toInt))) (fun (_ : Unit) (t : State) => gH (dC, dI) kA (SHm q (wP wZ wN wH wB wC wL wK wU wV) PI im PM PT lS lB lE lN) G t.heap ∧ gF (dC, dI) SKm G ([] : List (Nat × Nat)) s.heap t.heap) A) #[.ref o0] s 0 0 A) (F0 m 4 ls []) := by
    intro n35
    induction n35 with
    | zero =>
      intro i2 hn35 hlo36 z3 ⟨h4, hj7, hj8⟩ H locs hT hF hS m5 m6 ls hl
      obtain rfl : 30 = i2 := by omega
      refine lv_iload_n hx hb dX12_bestFarm_4 rfl (lv_at hl 0 rfl) ?_
      refine lv_aload_n hx hb dX12_bestFarm_5 rfl (lv_at hl 2 rfl) ?_
      refine tw_getM (v := .int fm) hx hb hts bF_X12 hown hK hT hr_o0 shm_0 rfl 47 (by decide) (ht_at hts 0 rfl) (fun _ h9 => h9) m6 dX12_bestFarm_6 ?_
      refine lv_icmp_ge (tgt := 46) hx hb dX12_bestFarm_9 (by decide) (fun c37 => ?_) (fun c37 => (by exfalso; have q9 : ((30 : Nat) : Int) < fm.toInt := ti_nle c37 rfl (nI_toInt (by omega)); omega))
      have t38 : fm.toInt ≤ ((30 : Nat) : Int) := ti_le c37 rfl (nI_toInt (by omega))
      refine lv_iload_n hx hb dX12_bestFarm_46 rfl (lv_at hl 1 rfl) ?_
      exact W.iret (v := z3) hx hb hr (fun t ht hW => ⟨⟨z3, (), rfl, (by exact ⟨(by have q8 := ti_all z3; omega), (by omega)⟩), by (try dsimp only); rw [ht]; exact ⟨hT, hF⟩⟩, hS.F ht⟩) hS.2.2 dX12_bestFarm_47
    | succ n35 ih35 =>
      intro i2 hn35 hlo36 z3 ⟨h4, hj7, hj8⟩ H locs hT hF hS m5 m6 ls hl
      have hlt38 : i2 < 30 := by omega
      refine lv_iload_n hx hb dX12_bestFarm_4 rfl (lv_at hl 0 rfl) ?_
      refine lv_aload_n hx hb dX12_bestFarm_5 rfl (lv_at hl 2 rfl) ?_
      refine tw_getM (v := .int fm) hx hb hts bF_X12 hown hK hT hr_o0 shm_0 rfl 47 (by decide) (ht_at hts 0 rfl) (fun _ h9 => h9) m6 dX12_bestFarm_6 ?_
      refine lv_icmp_ge (tgt := 46) hx hb dX12_bestFarm_9 (by decide) (fun c39 => ?_) (fun c39 => ?_)
      · have t40 : fm.toInt ≤ ((i2 : Nat) : Int) := ti_le c39 rfl (nI_toInt (by omega))
        refine lv_iload_n hx hb dX12_bestFarm_46 rfl (lv_at hl 1 rfl) ?_
        exact W.iret (v := z3) hx hb hr (fun t ht hW => ⟨⟨z3, (), rfl, (by exact ⟨(by have q8 := ti_all z3; omega), (by omega)⟩), by (try dsimp only); rw [ht]; exact ⟨hT, hF⟩⟩, hS.F ht⟩) hS.2.2 dX12_bestFarm_47
      · have t41 : ((i2 : Nat) : Int) < fm.toInt := ti_nle c39 rfl (nI_toInt (by omega))
        refine lv_aload_n hx hb dX12_bestFarm_12 rfl (lv_at hl 2 rfl) ?_
        refine tw_get hx hb hts bF_X12 hown hK hT hr_o0 shm_0 rfl 46 (by decide) (ht_at hts 1 rfl) (fun _ h9 => h9) dX12_bestFarm_13 (fun v9 m42 h9 => ?_)
        obtain ⟨rfl, hg43⟩ := h9 _ rfl
        refine lv_iload_n hx hb dX12_bestFarm_16 rfl (lv_at hl 0 rfl) ?_
        refine tw_iald (i := (nI i2)) hx hb hK hT hg1 shm_47 rfl (vp_in_nI (by omega) (by decide)) dX12_bestFarm_17 (fun v9 m44 h9 => ?_)
        obtain ⟨x45, rfl, gx45, kx45⟩ := h9
        have cx45 := m5.at m44 (by have q9 := tn_of (show (nI i2).toInt = ((i2 : Nat) : Int) from (nI_toInt (by omega))) (by omega); omega)
        have t46 : x45.toInt < 0 := (by rw [cx45, tn_nI (by omega)]; exact hnh i2 (by omega))
        refine lv_if_ge (tgt := 40) hx hb dX12_bestFarm_18 (by decide) (fun c47 => (by exfalso; have q9 : 0 ≤ x45.toInt := ti_le c47 (by decide) rfl; omega)) (fun c47 => ?_)
        have t48 : x45.toInt < 0 := ti_nle c47 (by decide) rfl
        refine lv_iload_n hx hb dX12_bestFarm_21 rfl (lv_at hl 1 rfl) ?_
        refine lv_if_lt (tgt := 38) hx hb dX12_bestFarm_22 (by decide) (fun c49 => ?_) (fun c49 => ?_)
        · have t50 : z3.toInt < 0 := ti_lt c49 rfl (by decide)
          refine lv_iload_n hx hb dX12_bestFarm_38 rfl (lv_at hl 0 rfl) ?_
          refine lv_istore_n (lv' := [(1, .int (nI i2)), (2, .int (nI i2)), (0, .ref o0)]) hx hb dX12_bestFarm_39 rfl hl (by decide) rfl (fun ls hl => ?_)
          refine lv_iinc (v := nI (i2 + 1)) (lv' := [(2, .int (nI (i2 + 1))), (1, .int (nI i2)), (0, .ref o0)]) hx hb dX12_bestFarm_40 hl (k := 1) rfl (nI_add i2 1) (by decide) rfl (fun ls hl => ?_)
          refine lv_goto (tgt := 4) hx hb dX12_bestFarm_43 (by decide) ?_
          exact ih35 (i2 + 1) (by omega) (by omega) (nI i2) ⟨(by have q9 := (show (nI i2).toInt = ((i2 : Nat) : Int) from (nI_toInt (by omega))); (try have q8 := ti_all (nI i2)); omega), (by have b9 := (show (nI i2).toInt = ((i2 : Nat) : Int) from (nI_toInt (by omega))); omega), (by omega)⟩ _ _ hT hF hS m5 m6 ls (lv_sub hl [0, 1, 2] rfl)
        · have t51 : 0 ≤ z3.toInt := ti_nlt c49 rfl (by decide)
          refine lv_aload_n hx hb dX12_bestFarm_25 rfl (lv_at hl 2 rfl) ?_
          refine lv_iload_n hx hb dX12_bestFarm_26 rfl (lv_at hl 0 rfl) ?_
          have hFc := gA_free hG hA hS
          refine va_calli (va_runV (As := [.int (nI i2)]) (rest := []) ⟨hx, hb, hml, hown, hts⟩ (s_worthOf l dC dI kA adK adV G H q wZ wN wH wB wC wL wK wU wV PI im PM PT lS lB lE lN o0 (nI i2) hT hr_o0 (rg_t (a := ((i2 : Nat) : Int)) (nI_toInt (by omega)) (by omega) (by omega)) hgz hgn hgh hgb hgc hgi hgu) (cwV 1 hts (goodIn_app (goodIn_r _ [21, 22, 23, 17] rfl (by decide +kernel)) (goodIn_ca (goodIn_r _ [3, 4, 5, 6, 7, 8, 9, 10, 11, 12, 13, 14, 15, 16, 17, 18, 19, 20] rfl (by decide +kernel)) (bs_in _ _))) rfl rfl rfl (by decide +kernel) ⟨(Nat.le_of_ble_eq_true rfl), (Nat.le_of_ble_eq_true rfl)⟩) ⟨fun a U g mk q => by obtain ⟨q0, q1, qK, qE⟩ := q; exact ⟨q0, q1, va_K.moved (u := U) (U := U.calling g mk a) (Vm.Alike.refl U.vm) qK, EVS.blind g mk a qE⟩, gH_rc hK hT hr_o0 shm_0 rfl, fun U hU hW => ⟨rfl, hU, va_K.moved hW.alike hK, hE.call hS hFc hU hW⟩⟩ rfl rfl hl.1 rfl (lv_room (Nat.le_of_ble_eq_true rfl)) dX12_bestFarm_27 ⟨(Nat.le_of_ble_eq_true rfl), (Nat.le_of_ble_eq_true rfl)⟩) hS (fun q _ h => hFc q h) hFc (fun r52 u t H locs ht hvm hw53 hB _ _ hS => ?_)
          obtain ⟨hT, hF1⟩ := hB
          rw [ht] at hT hF1
          have m54 := m5.kept (hF1.arr hg1 skm_47 (by decide))
          have m55 := (hF1.fld hr_o0 skm_0 (k := 47) (by decide) (by decide)).trans m6
          have hF := hF.more hF1 (by decide)
          try dsimp only at hw53
          refine lv_aload_n hx hb dX12_bestFarm_30 rfl (lv_at hl 2 rfl) ?_
          refine lv_iload_n hx hb dX12_bestFarm_31 rfl (lv_at hl 1 rfl) ?_
          have hFc := gA_free hG hA hS
          refine va_calli (va_runV (As := [.int z3]) (rest := [.int r52]) ⟨hx, hb, hml, hown, hts⟩ (s_worthOf l dC dI kA adK adV G H q wZ wN wH wB wC wL wK wU wV PI im PM PT lS lB lE lN o0 z3 hT hr_o0 (by have q8 := ti_all z3; omega) hgz hgn hgh hgb hgc hgi hgu) (cwV 1 hts (goodIn_app (goodIn_r _ [21, 22, 23, 17] rfl (by decide +kernel)) (goodIn_ca (goodIn_r _ [3, 4, 5, 6, 7, 8, 9, 10, 11, 12, 13, 14, 15, 16, 17, 18, 19, 20] rfl (by decide +kernel)) (bs_in _ _))) rfl rfl rfl (by decide +kernel) ⟨(Nat.le_of_ble_eq_true rfl), (Nat.le_of_ble_eq_true rfl)⟩) ⟨fun a U g mk q => by obtain ⟨q0, q1, qK, qE⟩ := q; exact ⟨q0, q1, va_K.moved (u := U) (U := U.calling g mk a) (Vm.Alike.refl U.vm) qK, EVS.blind g mk a qE⟩, gH_rc hK hT hr_o0 shm_0 rfl, fun U hU hW => ⟨rfl, hU, va_K.moved hW.alike hK, hE.call hS hFc hU hW⟩⟩ rfl rfl hl.1 rfl (lv_room (Nat.le_of_ble_eq_true rfl)) dX12_bestFarm_32 ⟨(Nat.le_of_ble_eq_true rfl), (Nat.le_of_ble_eq_true rfl)⟩) hS (fun q _ h => hFc q h) hFc (fun r57 u t H locs ht hvm hw58 hB _ _ hS => ?_)
          obtain ⟨hT, hF1⟩ := hB
          rw [ht] at hT hF1
          have m59 := m54.kept (hF1.arr hg1 skm_47 (by decide))
          have m60 := (hF1.fld hr_o0 skm_0 (k := 47) (by decide) (by decide)).trans m55
          have hF := hF.more hF1 (by decide)
          try dsimp only at hw58
          refine lv_icmp_le (tgt := 40) hx hb dX12_bestFarm_35 (by decide) (fun c62 => ?_) (fun c62 => ?_)
          · have t63 : r52.toInt ≤ r57.toInt := ti_le c62 rfl rfl
            refine lv_iinc (v := nI (i2 + 1)) (lv' := [(2, .int (nI (i2 + 1))), (1, .int z3), (0, .ref o0)]) hx hb dX12_bestFarm_40 hl (k := 0) rfl (nI_add i2 1) (by decide) rfl (fun ls hl => ?_)
            refine lv_goto (tgt := 4) hx hb dX12_bestFarm_43 (by decide) ?_
            exact ih35 (i2 + 1) (by omega) (by omega) z3 ⟨(by have q9 := (show z3.toInt = z3.toInt from rfl); (try have q8 := ti_all z3); omega), (by have b9 := (show z3.toInt = z3.toInt from rfl); omega), (by omega)⟩ _ _ hT hF hS m59 m60 ls (lv_sub hl [0, 1, 2] rfl)
          · have t64 : r57.toInt < r52.toInt := ti_nle c62 rfl rfl
            refine lv_iload_n hx hb dX12_bestFarm_38 rfl (lv_at hl 0 rfl) ?_
            refine lv_istore_n (lv' := [(1, .int (nI i2)), (2, .int (nI i2)), (0, .ref o0)]) hx hb dX12_bestFarm_39 rfl hl (by decide) rfl (fun ls hl => ?_)
            refine lv_iinc (v := nI (i2 + 1)) (lv' := [(2, .int (nI (i2 + 1))), (1, .int (nI i2)), (0, .ref o0)]) hx hb dX12_bestFarm_40 hl (k := 1) rfl (nI_add i2 1) (by decide) rfl (fun ls hl => ?_)
            refine lv_goto (tgt := 4) hx hb dX12_bestFarm_43 (by decide) ?_
            exact ih35 (i2 + 1) (by omega) (by omega) (nI i2) ⟨(by have q9 := (show (nI i2).toInt = ((i2 : Nat) : Int) from (nI_toInt (by omega))); (try have q8 := ti_all (nI i2)); omega), (by have b9 := (show (nI i2).toInt = ((i2 : Nat) : Int) from (nI_toInt (by omega))); omega), (by omega)⟩ _ _ hT hF hS m59 m60 ls (lv_sub hl [0, 1, 2] rfl)
  exact key35 (30 - 0) 0 (by omega) (Nat.le_refl _) (-1) ⟨(by have q9 := (show (-1 : Int32).toInt = (-1) from (by decide)); (try have q8 := ti_all (-1 : Int32)); omega), (by have b9 := (show (-1 : Int32).toInt = (-1) from (by decide)); omega), (by omega)⟩ _ _ hT hF hS hc_vR hm_fm ls (lv_sub hl [0, 1, 2] rfl)
def w_s_chooseZ : List Cond := .code yX12_choose cX12_choose 6 (some .int) :: (HAppend.hAppend (α := List Cond) (β := List Cond) (γ := List Cond) [.fieldLink RX12 194 "SeaLandModel" "thrown" "I", .code yX12_in cX12_in 3 (some .boolean), .methodLink RX12 197 yX12_in, .static yX12_in, .initialized RX12, .code yX12_throwsIf cX12_throwsIf 3 (some .boolean), .methodLink RX12 224 yX12_throwsIf, .instanceMethod yX12_throwsIf, .selects RX12 yX12_throwsIf yX12_throwsIf, .fieldLink RX12 495 "SeaLandModel" "settlers" "I", .code yX12_nextOne cX12_nextOne 3 (some .int), .fieldLink RX12 131 "SeaLandModel" "open" "[Z", .fieldLink RX12 128 "SeaLandModel" "marks" "[J", .fieldLink RX12 98 "SeaLandModel" "drawn" "[I", .methodLink RX12 508 yX12_nextOne, .instanceMethod yX12_nextOne, .selects RX12 yX12_nextOne yX12_nextOne, .code yX12_bestFarm cX12_bestFarm 3 (some .int), .fieldLink RX12 498 "SeaLandModel" "farms" "I", .fieldLink RX12 122 "SeaLandModel" "holder" "[I", .code yX12_worthOf cX12_worthOf 5 (some .int), .fieldLink RX12 113 "SeaLandModel" "farmFrom" "[I", .fieldLink RX12 116 "SeaLandModel" "farmTo" "[I", .code yX12_isIn cX12_isIn 5 (some .boolean), .methodLink RX12 207 Lib.Math.min.name, .static Lib.Math.min.name, .initialized "java/lang/Math", .code Lib.Math.min.name Lib.Math.min.code 2 (some .int), .methodLink RX12 211 Lib.Math.max.name, .static Lib.Math.max.name, .code Lib.Math.max.name Lib.Math.max.code 2 (some .int), .methodLink RX12 232 yX12_isIn, .static yX12_isIn, .fieldLink RX12 9 "SeaLandModel" "world" "[I", .methodLink RX12 505 yX12_worthOf, .instanceMethod yX12_worthOf, .selects RX12 yX12_worthOf yX12_worthOf, .methodLink RX12 511 yX12_bestFarm, .instanceMethod yX12_bestFarm, .selects RX12 yX12_bestFarm yX12_bestFarm, .fieldLink RX12 101 "SeaLandModel" "holds" "[I", .code yX12_sumOf cX12_sumOf 6 (some .long), .code yX12_looksAt cX12_looksAt 2 none, .fieldLink RX12 76 "SeaLandModel" "facts" "[J", .code yX12_acres cX12_acres 4 (some .int), .methodLink RX12 467 yX12_acres, .instanceMethod yX12_acres, .selects RX12 yX12_acres yX12_acres, .fieldLink RX12 104 "SeaLandModel" "gain" "[I", .fieldLink RX12 79 "SeaLandModel" "age" "[I", .fieldLink RX12 82 "SeaLandModel" "sons" "[I", .fieldLink RX12 85 "SeaLandModel" "coin" "[I", .fieldLink RX12 88 "SeaLandModel" "cattle" "[I", .fieldLink RX12 91 "SeaLandModel" "isKin" "[Z", .fieldLink RX12 95 "SeaLandModel" "isBoard" "[Z", .code yX12_near cX12_near 5 (some .int), .methodLink RX12 469 yX12_near, .instanceMethod yX12_near, .selects RX12 yX12_near yX12_near, .fieldLink RX12 107 "SeaLandModel" "owes" "[I", .methodLink RX12 474 yX12_looksAt, .instanceMethod yX12_looksAt, .selects RX12 yX12_looksAt yX12_looksAt, .fieldLink RX12 42 "SeaLandModel" "lines" "[I", .fieldLink RX12 45 "SeaLandModel" "sort" "[I", .code yX12_holds cX12_holds 9 (some .boolean), .fieldLink RX12 60 "SeaLandModel" "begins" "[I", .fieldLink RX12 63 "SeaLandModel" "ends" "[I", .fieldLink RX12 66 "SeaLandModel" "step" "[I", .fieldLink RX12 72 "SeaLandModel" "value" "[J", .methodLink RX12 471 Lib.MathLoose.max_long.x, .static Lib.MathLoose.max_long.x, .code Lib.MathLoose.max_long.x Lib.MathLoose.max_long.code 4 (some .long), .fieldLink RX12 69 "SeaLandModel" "than" "[I", .methodLink RX12 478 yX12_holds, .instanceMethod yX12_holds, .selects RX12 yX12_holds yX12_holds, .methodLink RX12 480 yX12_sumOf, .instanceMethod yX12_sumOf, .selects RX12 yX12_sumOf yX12_sumOf, .code yX12_isDike cX12_isDike 2 (some .boolean), .code yX12_of cX12_of 3 (some .int), .code yX12_at cX12_at 2 (some .int), .methodLink RX12 214 yX12_at, .static yX12_at, .methodLink RX12 217 yX12_of, .instanceMethod yX12_of, .selects RX12 yX12_of yX12_of, .methodLink RX12 272 yX12_isDike, .instanceMethod yX12_isDike, .selects RX12 yX12_isDike yX12_isDike, .code yX12_steps cX12_steps 2 (some .int), .methodLink RX12 201 Lib.Math.abs.name, .static Lib.Math.abs.name, .code Lib.Math.abs.name Lib.Math.abs.code 1 (some .int), .methodLink RX12 262 yX12_steps, .static yX12_steps, .fieldLink RX12 48 "SeaLandModel" "told" "[I"] bs)
set_option maxHeartbeats 4000000 in
set_option maxRecDepth 100000 in
theorem s_chooseZ (l : Launch) (dC : Nat → ClassId) (dI : Nat → Nat → Nat) (kA : Nat → ClassId) (adK adV : Nat → Nat) (G : gT) (H0 : Heap) (q : Nat → Nat) (wZ wN : Nat → Int) (wH wB wC : Int) (wL wK : Nat → Prop) (wU wV : Nat → Nat) (PI : Nat → Int → Prop) (im : Int) (PM PT : Nat → Int → Prop) (lS lB lE : Nat → Nat → Int → Prop) (lN : Nat → Int) (o0 : Nat) (p0 : Int32) (sn : Int32) (fm : Int32) (vH : Nat → Int32) (vR : Nat → Int32) (vG : Nat → Int32) (vA : Nat → Int32) (vD : Nat → Int32) (vC : Nat → Int32) (vU : Nat → Int32) (vI : Nat → Int32) (vM : Nat → Int32) (vW : Nat → Int32) (fL : Nat → Int64) (vQ : Nat → Int64) (vO : Nat → Int32) (vB : Nat → Int32) (vX : Nat → Int32) (vS : Nat → Int32) (vN : Nat → Int32) (vL : Nat → Int32) (vP : Nat → Int32) (A9 : zAl) (hT : gH (dC, dI) kA (SHm q (wP wZ wN wH wB wC wL wK wU wV) PI im PM PT lS lB lE lN) G H0) (hr_o0 : G o0 = some 0) (hm_sn : el H0 o0 (dI 15 42) = some (.int sn)) (hm_fm : el H0 o0 (dI 15 47) = some (.int fm)) (hq0 : 0 ≤ sn.toInt ∧ sn.toInt ≤ 60) (hq1 : 0 ≤ fm.toInt ∧ fm.toInt ≤ 30) (hnh : ∀ f : Nat, ((f : Nat) : Int) < fm.toInt → (vR f).toInt < 0) (hall : ∀ p : Nat, ((p : Nat) : Int) < sn.toInt → (vH p).toInt < 0) (hfo : zFo A9 vL vO vB vX vS vN) (hzk : ∀ e ∈ A9, zok e.2) (hlaw : lawsOK lS lB lE lN) (hc_vH : ct H0 (q 38) 60 vH) (hc_vR : ct H0 (q 46) 30 vR) (hc_vG : ct H0 (q 39) 60 vG) (hc_vA : ct H0 (q 31) 60 vA) (hc_vD : ct H0 (q 32) 60 vD) (hc_vC : ct H0 (q 33) 60 vC) (hc_vU : ct H0 (q 34) 60 vU) (hc_vI : ct H0 (q 35) 60 vI) (hc_vM : ct H0 (q 36) 60 vM) (hc_vW : ct H0 (q 40) 60 vW) (hc_fL : ctl H0 (q 30) 10 fL) (hc_vQ : ctl H0 (q 29) 400 vQ) (hc_vO : ct H0 (q 19) 60 vO) (hc_vB : ct H0 (q 24) 60 vB) (hc_vX : ct H0 (q 25) 60 vX) (hc_vS : ct H0 (q 26) 1200 vS) (hc_vN : ct H0 (q 27) 1200 vN) (hc_vL : ct H0 (q 18) 3 vL) (hc_vP : ct H0 (q 51) 60 vP) (hgz : ∀ i, 0 ≤ wZ i) (hgn : ∀ i, 6500000 ≤ wN i ∧ wN i ≤ 20200000) (hgh : 0 ≤ wH ∧ wH ≤ 40000) (hgb : 0 ≤ wB ∧ wB ≤ 3850000) (hgc : 0 ≤ wC ∧ wC ≤ 30) (hgi : 0 ≤ im ∧ im ≤ 1) (hgu : ∀ a t, G a = some (t + 1) → a = q t) : Met l yX12_choose w_s_chooseZ ({ frames := 6, cells := 0, slots := 0, locals := 134 }) (va_Pc [.ref o0, .int p0] (fun U => U.heap = H0 ∧ va_K (dC, dI) vwCl (tyl kA) U ∧ EVS adK adV (gA G H0.size) U U.heap)) (va_Qi (fun (r : Int32) (u : (Nat → Int32) × (Nat → Int32)) => match u with | (vH1, vR1) => ((zHb vH1 sn.toInt ∧ ((1 ≤ p0.toInt ∧ p0.toInt ≤ 60) ∧ 0 < fm.toInt ∧ zNO (zLs vG vA vD vC vU vI vM vW) A9 sn.toInt)) ∨ ((vH = vH1 ∧ vR = vR1) ∧ ¬ ((1 ≤ p0.toInt ∧ p0.toInt ≤ 60) ∧ 0 < fm.toInt ∧ zNO (zLs vG vA vD vC vU vI vM vW) A9 sn.toInt)))) (fun (u : (Nat → Int32) × (Nat → Int32)) (t : State) => match u with | (vH1, vR1) => gH (dC, dI) kA (SHm q (wP wZ wN wH wB wC wL wK wU wV) PI im PM PT lS lB lE lN) G t.heap ∧ gF (dC, dI) SKm G ([(0, 0), (30, 0), (31, 0), (39, 0), (47, 0), (51, 0), (52, 0)] : List (Nat × Nat)) H0 t.heap ∧ ct t.heap (q 38) 60 vH1 ∧ ct t.heap (q 46) 30 vR1) (gA G H0.size)) 0 0 (gA G H0.size) := by
  refine Met.ofW (cc := cX12_choose) (maxL := 6) (ret := (some .int)) (by decide) rfl ?_
  intro p e s m args below meth c s₁ B hml hv
  obtain ⟨rfl, hH0, hK, hE⟩ := hv
  have hx := B.exec
  have hb := B.bytes
  have hr := B.returns
  have hts := atoms_spec (ws := w_s_chooseZ) B.pre
  have hown : s.vm.findClass RX12 = some m.cls := findClass_of_methodNamed B.named
  have hlocks := B.notSynchronized
  subst hH0
  generalize hAe : gA G s.heap.size = A at hE ⊢
  have hA : ∀ q : Nat, s.heap.size ≤ q → A q := fun q h => by rw [← hAe]; exact Or.inr h
  have hG := gA_of hAe
  have hS : va_S A s.heap s.heap [] := va_S.rf
  have hF : gF (dC, dI) SKm G ([(0, 0), (30, 0), (31, 0), (39, 0), (47, 0), (51, 0), (52, 0)] : List (Nat × Nat)) s.heap s.heap := gF.rf
  have hl := lv_entry ([.ref o0, .int p0]) (n := 6) (Nat.le_of_ble_eq_true rfl)
  rw [lg_entry_eq]
  generalize (lg_sl ([.ref o0, .int p0]) ++ List.replicate (6 - (lg_sl ([.ref o0, .int p0])).length) Slot.unset).toArray = ls at hl ⊢
  have hl : lv_has ls 6 [(0, .ref o0), (1, .int p0)] := hl
  have hg1 : G (q 38) = some 39 := gx_of hT hr_o0 shm_0 (k := 38) (by decide) rfl
  have hg2 : G (q 46) = some 47 := gx_of hT hr_o0 shm_0 (k := 46) (by decide) rfl
  have hg3 : G (q 39) = some 40 := gx_of hT hr_o0 shm_0 (k := 39) (by decide) rfl
  have hg4 : G (q 31) = some 32 := gx_of hT hr_o0 shm_0 (k := 31) (by decide) rfl
  have hg5 : G (q 32) = some 33 := gx_of hT hr_o0 shm_0 (k := 32) (by decide) rfl
  have hg6 : G (q 33) = some 34 := gx_of hT hr_o0 shm_0 (k := 33) (by decide) rfl
  have hg7 : G (q 34) = some 35 := gx_of hT hr_o0 shm_0 (k := 34) (by decide) rfl
  have hg8 : G (q 35) = some 36 := gx_of hT hr_o0 shm_0 (k := 35) (by decide) rfl
  have hg9 : G (q 36) = some 37 := gx_of hT hr_o0 shm_0 (k := 36) (by decide) rfl
  have hg10 : G (q 40) = some 41 := gx_of hT hr_o0 shm_0 (k := 40) (by decide) rfl
  have hg11 : G (q 30) = some 31 := gx_of hT hr_o0 shm_0 (k := 30) (by decide) rfl
  have hg12 : G (q 29) = some 30 := gx_of hT hr_o0 shm_0 (k := 29) (by decide) rfl
  have hg13 : G (q 19) = some 20 := gx_of hT hr_o0 shm_0 (k := 19) (by decide) rfl
  have hg14 : G (q 24) = some 25 := gx_of hT hr_o0 shm_0 (k := 24) (by decide) rfl
  have hg15 : G (q 25) = some 26 := gx_of hT hr_o0 shm_0 (k := 25) (by decide) rfl
  have hg16 : G (q 26) = some 27 := gx_of hT hr_o0 shm_0 (k := 26) (by decide) rfl
  have hg17 : G (q 27) = some 28 := gx_of hT hr_o0 shm_0 (k := 27) (by decide) rfl
  have hg18 : G (q 18) = some 19 := gx_of hT hr_o0 shm_0 (k := 18) (by decide) rfl
  have hg19 : G (q 51) = some 52 := gx_of hT hr_o0 shm_0 (k := 51) (by decide) rfl
  refine lv_aload_n hx hb dX12_choose_0 rfl (lv_at hl 0 rfl) ?_
  refine lv_iconst (v := 0) hx hb dX12_choose_1 (by decide) ?_
  refine tw_put (v := .int 0) (ty := .int) hx hb hts bF_X12 tyX12 tyX12_ok nmX12 hown hK hT hG hS hr_o0 shm_0 rfl 0 (by decide) (ht_at hts 0 rfl) (fun _ h9 => h9) rfl (by decide +kernel) rfl rfl (gl_at rfl (gi_all _)) dX12_choose_2 (fun H locs hT oq m20 oj hS => ?_)
  have hF := hF.put hr_o0 skm_0 oq oj (by decide)
  have m21 := (oj 42 (by decide) (by decide)).trans hm_sn
  have m22 := (oj 47 (by decide) (by decide)).trans hm_fm
  have m23 := hc_vH.kept (oq _ (gne hg1 hr_o0 (by decide)))
  have m24 := hc_vR.kept (oq _ (gne hg2 hr_o0 (by decide)))
  have m25 := hc_vG.kept (oq _ (gne hg3 hr_o0 (by decide)))
  have m26 := hc_vA.kept (oq _ (gne hg4 hr_o0 (by decide)))
  have m27 := hc_vD.kept (oq _ (gne hg5 hr_o0 (by decide)))
  have m28 := hc_vC.kept (oq _ (gne hg6 hr_o0 (by decide)))
  have m29 := hc_vU.kept (oq _ (gne hg7 hr_o0 (by decide)))
  have m30 := hc_vI.kept (oq _ (gne hg8 hr_o0 (by decide)))
  have m31 := hc_vM.kept (oq _ (gne hg9 hr_o0 (by decide)))
  have m32 := hc_vW.kept (oq _ (gne hg10 hr_o0 (by decide)))
  have m33 := hc_fL.kept (oq _ (gne hg11 hr_o0 (by decide)))
  have m34 := hc_vQ.kept (oq _ (gne hg12 hr_o0 (by decide)))
  have m35 := hc_vO.kept (oq _ (gne hg13 hr_o0 (by decide)))
  have m36 := hc_vB.kept (oq _ (gne hg14 hr_o0 (by decide)))
  have m37 := hc_vX.kept (oq _ (gne hg15 hr_o0 (by decide)))
  have m38 := hc_vS.kept (oq _ (gne hg16 hr_o0 (by decide)))
  have m39 := hc_vN.kept (oq _ (gne hg17 hr_o0 (by decide)))
  have m40 := hc_vL.kept (oq _ (gne hg18 hr_o0 (by decide)))
  have m41 := hc_vP.kept (oq _ (gne hg19 hr_o0 (by decide)))
  refine lv_aload_n hx hb dX12_choose_5 rfl (lv_at hl 0 rfl) ?_
  refine lv_iload_n hx hb dX12_choose_6 rfl (lv_at hl 1 rfl) ?_
  refine lv_iconst (v := 0) hx hb dX12_choose_7 (by decide) ?_
  refine lv_bipush (v := 60) hx hb dX12_choose_8 (by decide) ?_
  have hFc := gA_free hG hA hS
  refine va_calli (va_runS (As := [.int p0, .int 0, .int 60]) (rest := [.ref o0]) ⟨hx, hb, hml, hown, hts⟩ (s_in l dC dI kA adK adV G H q wZ wN wH wB wC wL wK wU wV PI im PM PT lS lB lE lN p0 0 60 hT hgz hgn hgh hgb hgc hgi hgu) (va_cwS 3 hts (goodIn_app (goodIn_r _ [3, 4, 5] rfl (by decide +kernel)) (goodIn_ca (goodIn_r _ [2] rfl (by decide +kernel)) (bs_in _ _))) rfl rfl rfl (by decide +kernel) ⟨(Nat.le_of_ble_eq_true rfl), (Nat.le_of_ble_eq_true rfl)⟩) ⟨fun a U g mk q => by obtain ⟨q0, q1, qK, qE⟩ := q; exact ⟨q0, q1, va_K.moved (u := U) (U := U.calling g mk a) (Vm.Alike.refl U.vm) qK, EVS.blind g mk a qE⟩, fun U hU hW => ⟨rfl, hU, va_K.moved hW.alike hK, hE.call hS hFc hU hW⟩⟩ rfl rfl hl.1 rfl (lv_room (Nat.le_of_ble_eq_true rfl)) dX12_choose_10 ⟨(Nat.le_of_ble_eq_true rfl), (Nat.le_of_ble_eq_true rfl)⟩) hS (fun q _ h => hFc q h) hFc (fun r42 u t H locs ht hvm hw43 hB _ _ hS => ?_)
  obtain ⟨hT, hF1⟩ := hB
  rw [ht] at hT hF1
  have m44 := (hF1.fld hr_o0 skm_0 (k := 42) (by decide) (by decide)).trans m21
  have m45 := (hF1.fld hr_o0 skm_0 (k := 47) (by decide) (by decide)).trans m22
  have m46 := m23.kept (hF1.arr hg1 skm_39 (by decide))
  have m47 := m24.kept (hF1.arr hg2 skm_47 (by decide))
  have m48 := m25.kept (hF1.arr hg3 skm_40 (by decide))
  have m49 := m26.kept (hF1.arr hg4 skm_32 (by decide))
  have m50 := m27.kept (hF1.arr hg5 skm_33 (by decide))
  have m51 := m28.kept (hF1.arr hg6 skm_34 (by decide))
  have m52 := m29.kept (hF1.arr hg7 skm_35 (by decide))
  have m53 := m30.kept (hF1.arr hg8 skm_36 (by decide))
  have m54 := m31.kept (hF1.arr hg9 skm_37 (by decide))
  have m55 := m32.kept (hF1.arr hg10 skm_41 (by decide))
  have m56 := m33.kept (hF1.arr hg11 skm_31 (by decide))
  have m57 := m34.kept (hF1.arr hg12 skm_30 (by decide))
  have m58 := m35.kept (hF1.arr hg13 skm_20 (by decide))
  have m59 := m36.kept (hF1.arr hg14 skm_25 (by decide))
  have m60 := m37.kept (hF1.arr hg15 skm_26 (by decide))
  have m61 := m38.kept (hF1.arr hg16 skm_27 (by decide))
  have m62 := m39.kept (hF1.arr hg17 skm_28 (by decide))
  have m63 := m40.kept (hF1.arr hg18 skm_19 (by decide))
  have m64 := m41.kept (hF1.arr hg19 skm_52 (by decide))
  have m65 := (hF1.fld hr_o0 skm_0 (k := 0) (by decide) (by decide)).trans m20
  have hF := hF.more hF1 (by decide)
  try dsimp only at hw43
  obtain ⟨h66, hi67, hi68⟩ := hw43
  refine lv_if_ne (tgt := 20) hx hb dX12_choose_13 (by decide) (fun c69 => ?_) (fun c69 => ?_)
  · have t70 : r42.toInt ≠ 0 := ti_ne c69 rfl (by decide)
    have t71 : (0 : Int32).toInt = 0 := by decide
    have t72 : (60 : Int32).toInt = 60 := by decide
    have t73 : (0 : Int32).toInt ≤ p0.toInt ∧ p0.toInt ≤ (60 : Int32).toInt := hi67 ((bit_of ⟨by omega, by omega⟩).resolve_left c69)
    refine lv_iconst (v := 0) hx hb dX12_choose_20 (by decide) ?_
    refine lv_iconst (v := 1) hx hb dX12_choose_21 (by decide) ?_
    have hFc := gA_free hG hA hS
    refine va_calli (va_runV (As := [.int 0, .int 1]) (rest := []) ⟨hx, hb, hml, hown, hts⟩ (s_throwsIf l dC dI kA adK adV G H q wZ wN wH wB wC wL wK wU wV PI im PM PT lS lB lE lN o0 0 1 hT hr_o0 (rg_t (a := 0) (by decide) (by first | decide | omega) (by first | decide | omega)) hgz hgn hgh hgb hgc hgi hgu) (cwV 2 hts (goodIn_app (goodIn_r _ [7, 8, 9, 5] rfl (by decide +kernel)) (goodIn_ca (goodIn_r _ [6, 1] rfl (by decide +kernel)) (bs_in _ _))) rfl rfl rfl (by decide +kernel) ⟨(Nat.le_of_ble_eq_true rfl), (Nat.le_of_ble_eq_true rfl)⟩) ⟨fun a U g mk q => by obtain ⟨q0, q1, qK, qE⟩ := q; exact ⟨q0, q1, va_K.moved (u := U) (U := U.calling g mk a) (Vm.Alike.refl U.vm) qK, EVS.blind g mk a qE⟩, gH_rc hK hT hr_o0 shm_0 rfl, fun U hU hW => ⟨rfl, hU, va_K.moved hW.alike hK, hE.call hS hFc hU hW⟩⟩ rfl rfl hl.1 rfl (lv_room (Nat.le_of_ble_eq_true rfl)) dX12_choose_22 ⟨(Nat.le_of_ble_eq_true rfl), (Nat.le_of_ble_eq_true rfl)⟩) hS (fun q _ h => hFc q h) hFc (fun r74 u t H locs ht hvm hw75 hB _ _ hS => ?_)
    obtain ⟨hT, hF1⟩ := hB
    rw [ht] at hT hF1
    have m76 := (hF1.fld hr_o0 skm_0 (k := 42) (by decide) (by decide)).trans m44
    have m77 := (hF1.fld hr_o0 skm_0 (k := 47) (by decide) (by decide)).trans m45
    have m78 := m46.kept (hF1.arr hg1 skm_39 (by decide))
    have m79 := m47.kept (hF1.arr hg2 skm_47 (by decide))
    have m80 := m48.kept (hF1.arr hg3 skm_40 (by decide))
    have m81 := m49.kept (hF1.arr hg4 skm_32 (by decide))
    have m82 := m50.kept (hF1.arr hg5 skm_33 (by decide))
    have m83 := m51.kept (hF1.arr hg6 skm_34 (by decide))
    have m84 := m52.kept (hF1.arr hg7 skm_35 (by decide))
    have m85 := m53.kept (hF1.arr hg8 skm_36 (by decide))
    have m86 := m54.kept (hF1.arr hg9 skm_37 (by decide))
    have m87 := m55.kept (hF1.arr hg10 skm_41 (by decide))
    have m88 := m56.kept (hF1.arr hg11 skm_31 (by decide))
    have m89 := m57.kept (hF1.arr hg12 skm_30 (by decide))
    have m90 := m58.kept (hF1.arr hg13 skm_20 (by decide))
    have m91 := m59.kept (hF1.arr hg14 skm_25 (by decide))
    have m92 := m60.kept (hF1.arr hg15 skm_26 (by decide))
    have m93 := m61.kept (hF1.arr hg16 skm_27 (by decide))
    have m94 := m62.kept (hF1.arr hg17 skm_28 (by decide))
    have m95 := m63.kept (hF1.arr hg18 skm_19 (by decide))
    have m96 := m64.kept (hF1.arr hg19 skm_52 (by decide))
    have hF := hF.more hF1 (by decide)
    try dsimp only at hw75
    obtain ⟨h98, hd99⟩ := hw75
    obtain rfl : (0 : Int32) = r74 := hd99.symm
    refine lv_if_eq (tgt := 30) hx hb dX12_choose_25 (by decide) (fun c100 => ?_) (fun c100 => absurd c100 (by decide))
    refine lv_iconst (v := 0) hx hb dX12_choose_30 (by decide) ?_
    refine lv_istore_n (lv' := [(2, .int 0), (0, .ref o0), (1, .int p0)]) hx hb dX12_choose_31 rfl hl (by decide) rfl (fun ls hl => ?_)
    have key831 : ∀ (n831 i101 : Nat), i101 + n831 = 60 → 0 ≤ i101 → ∀ (V118 : Nat → Int32), ((zPo (zLs vG vA vD vC vU vI vM vW) A9 V118 i101) ∧ (((i101 : Nat) : Int) ≤ sn.toInt)) → ∀ (H : Heap) (locs : List Loc), gH (dC, dI) kA (SHm q (wP wZ wN wH wB wC wL wK wU wV) PI im PM PT lS lB lE lN) G H → gF (dC, dI) SKm G ([(0, 0), (30, 0), (31, 0), (39, 0), (47, 0), (51, 0), (52, 0)] : List (Nat × Nat)) s.heap H → va_S A s.heap H locs → ct H (q 38) 60 vH → ct H (q 46) 30 vR → ct H (q 39) 60 vG → ct H (q 31) 60 vA → ct H (q 32) 60 vD → ct H (q 33) 60 vC → ct H (q 34) 60 vU → ct H (q 35) 60 vI → ct H (q 36) 60 vM → ct H (q 40) 60 vW → ct H (q 19) 60 vO → ct H (q 24) 60 vB → ct H (q 25) 60 vX → ct H (q 26) 1200 vS → ct H (q 27) 1200 vN → ct H (q 18) 3 vL → ct H (q 51) 60 V118 → el H o0 (dI 15 42) = some (.int sn) → el H o0 (dI 15 47) = some (.int fm) → ∀ ls : Array Slot, lv_has ls 6 [(2, .int (nI i101)), (0, .ref o0), (1, .int p0)] → W p l e (headSpec w_s_chooseZ ({ frames := 6, cells := 0, slots := 0, locals := 134 })).room s m #[.ref o0, .int p0] below meth c H locs 0 0 (MQ below (va_Qi (fun (r : Int32) (u : (Nat → Int32) × (Nat → Int32)) => match u with | (vH1, vR1) => ((zHb vH1 sn.toInt ∧ ((1 ≤ p0.toInt ∧ p0.toInt ≤ 60) ∧ 0 < fm.toInt ∧ zNO (zLs vG vA vD vC vU vI vM vW) A9 sn.toInt)) ∨ ((vH = vH1 ∧ vR = vR1) ∧ ¬ ((1 ≤ p0.toInt ∧ p0.toInt ≤ 60) ∧ 0 < fm.toInt ∧ zNO (zLs vG vA vD vC vU vI vM vW) A9 sn.toInt)))) (fun (u : (Nat → Int32) × (Nat → Int32)) (t : State) => match u with | (vH1, vR1) => gH (dC, dI) kA (SHm q (wP wZ wN wH wB wC wL wK wU wV) PI im PM PT lS lB lE lN) G t.heap ∧ gF (dC, dI) SKm G ([(0, 0), (30, 0), (31, 0), (39, 0), (47, 0), (51, 0), (52, 0)] : List (Nat × Nat)) s.heap t.heap ∧ ct t.heap (q 38) 60 vH1 ∧ ct t.heap (q 46) 30 vR1) A) #[.ref o0, .int p0] s 0 0 A) (F0 m 32 ls []) := by
      intro n831
      induction n831 with
      | zero =>
        intro i101 hn831 hlo832 V118 ⟨hj122, hj123⟩ H locs hT hF hS m102 m103 m104 m105 m106 m107 m108 m109 m110 m111 m112 m113 m114 m115 m116 m117 m119 m120 m121 ls hl
        obtain rfl : 60 = i101 := by omega
        refine lv_iload_n hx hb dX12_choose_32 rfl (lv_at hl 0 rfl) ?_
        refine lv_aload_n hx hb dX12_choose_33 rfl (lv_at hl 1 rfl) ?_
        refine tw_getM (v := .int sn) hx hb hts bF_X12 hown hK hT hr_o0 shm_0 rfl 42 (by decide) (ht_at hts 9 rfl) (fun _ h9 => h9) m120 dX12_choose_34 ?_
        refine lv_icmp_ge (tgt := 90) hx hb dX12_choose_37 (by decide) (fun c833 => ?_) (fun c833 => (by exfalso; have q9 : ((60 : Nat) : Int) < sn.toInt := ti_nle c833 rfl (nI_toInt (by omega)); omega))
        have t834 : sn.toInt ≤ ((60 : Nat) : Int) := ti_le c833 rfl (nI_toInt (by omega))
        refine lv_iconst (v := 0) hx hb dX12_choose_90 (by decide) ?_
        refine lv_istore_n (lv' := [(2, .int 0), (0, .ref o0), (1, .int p0)]) hx hb dX12_choose_91 rfl hl (by decide) rfl (fun ls hl => ?_)
        refine lv_iconst (v := 0) hx hb dX12_choose_92 (by decide) ?_
        refine lv_istore_n (lv' := [(3, .int 0), (2, .int 0), (0, .ref o0), (1, .int p0)]) hx hb dX12_choose_93 rfl hl (by decide) rfl (fun ls hl => ?_)
        have key1110 : ∀ (n1110 i835 : Nat), i835 + n1110 = 60 → 0 ≤ i835 → ∀ (z836 : Int32), ∀ (V837 : Nat → Int32), ∀ (V839 : Nat → Int32), ∀ (V855 : Nat → Int32), (((((i835 : Nat) : Int) = 0 ∧ vH = V837 ∧ vR = V839 ∧ zPo (zLs vG vA vD vC vU vI vM vW) A9 V855 sn.toNatClampNeg) ∨ (1 ≤ ((i835 : Nat) : Int) ∧ zHb V837 sn.toInt ∧ 0 < fm.toInt ∧ zNO (zLs vG vA vD vC vU vI vM vW) A9 sn.toInt))) → ∀ (H : Heap) (locs : List Loc), gH (dC, dI) kA (SHm q (wP wZ wN wH wB wC wL wK wU wV) PI im PM PT lS lB lE lN) G H → gF (dC, dI) SKm G ([(0, 0), (30, 0), (31, 0), (39, 0), (47, 0), (51, 0), (52, 0)] : List (Nat × Nat)) s.heap H → va_S A s.heap H locs → ct H (q 38) 60 V837 → ct H (q 46) 30 V839 → ct H (q 39) 60 vG → ct H (q 31) 60 vA → ct H (q 32) 60 vD → ct H (q 33) 60 vC → ct H (q 34) 60 vU → ct H (q 35) 60 vI → ct H (q 36) 60 vM → ct H (q 40) 60 vW → ct H (q 19) 60 vO → ct H (q 24) 60 vB → ct H (q 25) 60 vX → ct H (q 26) 1200 vS → ct H (q 27) 1200 vN → ct H (q 18) 3 vL → ct H (q 51) 60 V855 → el H o0 (dI 15 42) = some (.int sn) → el H o0 (dI 15 47) = some (.int fm) → ∀ ls : Array Slot, lv_has ls 6 [(3, .int (nI i835)), (2, .int z836), (0, .ref o0), (1, .int p0)] → W p l e (headSpec w_s_chooseZ ({ frames := 6, cells := 0, slots := 0, locals := 134 })).room s m #[.ref o0, .int p0] below meth c H locs 0 0 (MQ below (va_Qi (fun (r : Int32) (u : (Nat → Int32) × (Nat → Int32)) => match u with | (vH1, vR1) => ((zHb vH1 sn.toInt ∧ ((1 ≤ p0.toInt ∧ p0.toInt ≤ 60) ∧ 0 < fm.toInt ∧ zNO (zLs vG vA vD vC vU vI vM vW) A9 sn.toInt)) ∨ ((vH = vH1 ∧ vR = vR1) ∧ ¬ ((1 ≤ p0.toInt ∧ p0.toInt ≤ 60) ∧ 0 < fm.toInt ∧ zNO (zLs vG vA vD vC vU vI vM vW) A9 sn.toInt)))) (fun (u : (Nat → Int32) × (Nat → Int32)) (t : State) => match u with | (vH1, vR1) => gH (dC, dI) kA (SHm q (wP wZ wN wH wB wC wL wK wU wV) PI im PM PT lS lB lE lN) G t.heap ∧ gF (dC, dI) SKm G ([(0, 0), (30, 0), (31, 0), (39, 0), (47, 0), (51, 0), (52, 0)] : List (Nat × Nat)) s.heap t.heap ∧ ct t.heap (q 38) 60 vH1 ∧ ct t.heap (q 46) 30 vR1) A) #[.ref o0, .int p0] s 0 0 A) (F0 m 94 ls []) := by
          intro n1110
          induction n1110 with
          | zero =>
            intro i835 hn1110 hlo1111 z836 V837 V839 V855 hj859 H locs hT hF hS m838 m840 m841 m842 m843 m844 m845 m846 m847 m848 m849 m850 m851 m852 m853 m854 m856 m857 m858 ls hl
            obtain rfl : 60 = i835 := by omega
            refine lv_iload_n hx hb dX12_choose_94 rfl (lv_at hl 0 rfl) ?_
            refine lv_iload_n hx hb dX12_choose_95 rfl (lv_at hl 3 rfl) ?_
            refine lv_icmp_ge (tgt := 158) hx hb dX12_choose_96 (by decide) (fun c1112 => ?_) (fun c1112 => (by exfalso; have q9 : ((60 : Nat) : Int) < p0.toInt := ti_nle c1112 rfl (nI_toInt (by omega)); omega))
            have t1113 : p0.toInt ≤ ((60 : Nat) : Int) := ti_le c1112 rfl (nI_toInt (by omega))
            refine lv_iload_n hx hb dX12_choose_158 rfl (lv_at hl 1 rfl) ?_
            exact W.iret (v := z836) hx hb hr (fun t ht hW => ⟨⟨z836, (V837, V839), rfl, (by exact (by rcases hj859 with ⟨h8, h7, h6, h5⟩ | ⟨h8, h7, h6, h5⟩; (exact Or.inr ⟨⟨h7, h6⟩, fun h4 => by have := h4.1; omega⟩); exact Or.inl ⟨h7, ⟨by omega, by omega⟩, h6, h5⟩)), by (try dsimp only); rw [ht]; exact ⟨hT, hF, m838, m840⟩⟩, hS.F ht⟩) hS.2.2 dX12_choose_159
          | succ n1110 ih1110 =>
            intro i835 hn1110 hlo1111 z836 V837 V839 V855 hj859 H locs hT hF hS m838 m840 m841 m842 m843 m844 m845 m846 m847 m848 m849 m850 m851 m852 m853 m854 m856 m857 m858 ls hl
            have hlt1113 : i835 < 60 := by omega
            refine lv_iload_n hx hb dX12_choose_94 rfl (lv_at hl 0 rfl) ?_
            refine lv_iload_n hx hb dX12_choose_95 rfl (lv_at hl 3 rfl) ?_
            refine lv_icmp_ge (tgt := 158) hx hb dX12_choose_96 (by decide) (fun c1114 => ?_) (fun c1114 => ?_)
            · have t1115 : p0.toInt ≤ ((i835 : Nat) : Int) := ti_le c1114 rfl (nI_toInt (by omega))
              refine lv_iload_n hx hb dX12_choose_158 rfl (lv_at hl 1 rfl) ?_
              exact W.iret (v := z836) hx hb hr (fun t ht hW => ⟨⟨z836, (V837, V839), rfl, (by exact (by rcases hj859 with ⟨h8, h7, h6, h5⟩ | ⟨h8, h7, h6, h5⟩; (exact Or.inr ⟨⟨h7, h6⟩, fun h4 => by have := h4.1; omega⟩); exact Or.inl ⟨h7, ⟨by omega, by omega⟩, h6, h5⟩)), by (try dsimp only); rw [ht]; exact ⟨hT, hF, m838, m840⟩⟩, hS.F ht⟩) hS.2.2 dX12_choose_159
            · have t1116 : ((i835 : Nat) : Int) < p0.toInt := ti_nle c1114 rfl (nI_toInt (by omega))
              rcases hj859 with ⟨ha1118, rfl, rfl, hpo1119⟩ | ⟨hb1122, hzb1123, hfm1124, hno1125⟩
              · refine lv_aload_n hx hb dX12_choose_99 rfl (lv_at hl 2 rfl) ?_
                have hFc := gA_free hG hA hS
                refine va_calli (va_runV (As := []) (rest := []) ⟨hx, hb, hml, hown, hts⟩ (s_nextOneZ l dC dI kA adK adV G H q wZ wN wH wB wC wL wK wU wV PI im PM PT lS lB lE lN o0 sn V855 hT hr_o0 m857 (by have q8 := ti_all sn; omega) m856 hgz hgn hgh hgb hgc hgi hgu) (cwV 0 hts (goodIn_app (goodIn_r _ [15, 16, 17, 5] rfl (by decide +kernel)) (goodIn_ca (goodIn_r _ [11, 10, 12, 13, 14] rfl (by decide +kernel)) (bs_in _ _))) rfl rfl rfl (by decide +kernel) ⟨(Nat.le_of_ble_eq_true rfl), (Nat.le_of_ble_eq_true rfl)⟩) ⟨fun a U g mk q => by obtain ⟨q0, q1, qK, qE⟩ := q; exact ⟨q0, q1, va_K.moved (u := U) (U := U.calling g mk a) (Vm.Alike.refl U.vm) qK, EVS.blind g mk a qE⟩, gH_rc hK hT hr_o0 shm_0 rfl, fun U hU hW => ⟨rfl, hU, va_K.moved hW.alike hK, hE.call hS hFc hU hW⟩⟩ rfl rfl hl.1 rfl (lv_room (Nat.le_of_ble_eq_true rfl)) dX12_choose_100 ⟨(Nat.le_of_ble_eq_true rfl), (Nat.le_of_ble_eq_true rfl)⟩) hS (fun q _ h => hFc q h) hFc (fun r1126 u t H locs ht hvm hw1127 hB _ _ hS => ?_)
                obtain ⟨hT, hF1⟩ := hB
                rw [ht] at hT hF1
                have m1128 := m838.kept (hF1.arr hg1 skm_39 (by decide))
                have m1129 := m840.kept (hF1.arr hg2 skm_47 (by decide))
                have m1130 := m841.kept (hF1.arr hg3 skm_40 (by decide))
                have m1131 := m842.kept (hF1.arr hg4 skm_32 (by decide))
                have m1132 := m843.kept (hF1.arr hg5 skm_33 (by decide))
                have m1133 := m844.kept (hF1.arr hg6 skm_34 (by decide))
                have m1134 := m845.kept (hF1.arr hg7 skm_35 (by decide))
                have m1135 := m846.kept (hF1.arr hg8 skm_36 (by decide))
                have m1136 := m847.kept (hF1.arr hg9 skm_37 (by decide))
                have m1137 := m848.kept (hF1.arr hg10 skm_41 (by decide))
                have m1138 := m849.kept (hF1.arr hg13 skm_20 (by decide))
                have m1139 := m850.kept (hF1.arr hg14 skm_25 (by decide))
                have m1140 := m851.kept (hF1.arr hg15 skm_26 (by decide))
                have m1141 := m852.kept (hF1.arr hg16 skm_27 (by decide))
                have m1142 := m853.kept (hF1.arr hg17 skm_28 (by decide))
                have m1143 := m854.kept (hF1.arr hg18 skm_19 (by decide))
                have m1144 := m856.kept (hF1.arr hg19 skm_52 (by decide))
                have m1145 := (hF1.fld hr_o0 skm_0 (k := 42) (by decide) (by decide)).trans m857
                have m1146 := (hF1.fld hr_o0 skm_0 (k := 47) (by decide) (by decide)).trans m858
                have hF := hF.more hF1 (by decide)
                try dsimp only at hw1127
                obtain ⟨h1147, hf1148⟩ := hw1127
                refine lv_istore (lv' := [(4, .int r1126), (3, .int (nI i835)), (2, .int z836), (0, .ref o0), (1, .int p0)]) hx hb dX12_choose_103 hl (by decide) rfl (fun ls hl => ?_)
                refine lv_aload_n hx hb dX12_choose_105 rfl (lv_at hl 3 rfl) ?_
                have hFc := gA_free hG hA hS
                refine va_calli (va_runV (As := []) (rest := []) ⟨hx, hb, hml, hown, hts⟩ (s_bestFarmZ l dC dI kA adK adV G H q wZ wN wH wB wC wL wK wU wV PI im PM PT lS lB lE lN o0 fm vR hT hr_o0 m1146 (by have q8 := ti_all fm; omega) hnh m1129 hgz hgn hgh hgb hgc hgi hgu) (cwV 0 hts (goodIn_app (goodIn_r _ [38, 39, 40, 5] rfl (by decide +kernel)) (goodIn_ca (goodIn_r _ [18, 19, 20, 21, 22, 23, 24, 25, 26, 27, 28, 29, 30, 31, 2, 3, 4, 5, 32, 33, 34, 35, 36, 37] rfl (by decide +kernel)) (bs_in _ _))) rfl rfl rfl (by decide +kernel) ⟨(Nat.le_of_ble_eq_true rfl), (Nat.le_of_ble_eq_true rfl)⟩) ⟨fun a U g mk q => by obtain ⟨q0, q1, qK, qE⟩ := q; exact ⟨q0, q1, va_K.moved (u := U) (U := U.calling g mk a) (Vm.Alike.refl U.vm) qK, EVS.blind g mk a qE⟩, gH_rc hK hT hr_o0 shm_0 rfl, fun U hU hW => ⟨rfl, hU, va_K.moved hW.alike hK, hE.call hS hFc hU hW⟩⟩ rfl rfl hl.1 rfl (lv_room (Nat.le_of_ble_eq_true rfl)) dX12_choose_106 ⟨(Nat.le_of_ble_eq_true rfl), (Nat.le_of_ble_eq_true rfl)⟩) hS (fun q _ h => hFc q h) hFc (fun r1149 u t H locs ht hvm hw1150 hB _ _ hS => ?_)
                obtain ⟨hT, hF1⟩ := hB
                rw [ht] at hT hF1
                have m1151 := m1128.kept (hF1.arr hg1 skm_39 (by decide))
                have m1152 := m1129.kept (hF1.arr hg2 skm_47 (by decide))
                have m1153 := m1130.kept (hF1.arr hg3 skm_40 (by decide))
                have m1154 := m1131.kept (hF1.arr hg4 skm_32 (by decide))
                have m1155 := m1132.kept (hF1.arr hg5 skm_33 (by decide))
                have m1156 := m1133.kept (hF1.arr hg6 skm_34 (by decide))
                have m1157 := m1134.kept (hF1.arr hg7 skm_35 (by decide))
                have m1158 := m1135.kept (hF1.arr hg8 skm_36 (by decide))
                have m1159 := m1136.kept (hF1.arr hg9 skm_37 (by decide))
                have m1160 := m1137.kept (hF1.arr hg10 skm_41 (by decide))
                have m1161 := m1138.kept (hF1.arr hg13 skm_20 (by decide))
                have m1162 := m1139.kept (hF1.arr hg14 skm_25 (by decide))
                have m1163 := m1140.kept (hF1.arr hg15 skm_26 (by decide))
                have m1164 := m1141.kept (hF1.arr hg16 skm_27 (by decide))
                have m1165 := m1142.kept (hF1.arr hg17 skm_28 (by decide))
                have m1166 := m1143.kept (hF1.arr hg18 skm_19 (by decide))
                have m1167 := m1144.kept (hF1.arr hg19 skm_52 (by decide))
                have m1168 := (hF1.fld hr_o0 skm_0 (k := 42) (by decide) (by decide)).trans m1145
                have m1169 := (hF1.fld hr_o0 skm_0 (k := 47) (by decide) (by decide)).trans m1146
                have hF := hF.more hF1 (by decide)
                try dsimp only at hw1150
                obtain ⟨h1170, hf1171⟩ := hw1150
                refine lv_istore (lv' := [(5, .int r1149), (4, .int r1126), (3, .int (nI i835)), (2, .int z836), (0, .ref o0), (1, .int p0)]) hx hb dX12_choose_109 hl (by decide) rfl (fun ls hl => ?_)
                refine lv_iload hx hb dX12_choose_111 (lv_at hl 1 rfl) ?_
                refine lv_if_lt (tgt := 121) hx hb dX12_choose_113 (by decide) (fun c1172 => ?_) (fun c1172 => ?_)
                · have t1173 : r1126.toInt < 0 := ti_lt c1172 rfl (by decide)
                  refine lv_iload_n hx hb dX12_choose_121 rfl (lv_at hl 3 rfl) ?_
                  exact W.iret (v := z836) hx hb hr (fun t ht hW => ⟨⟨z836, (vH, vR), rfl, (by exact (Or.inr ⟨⟨rfl, rfl⟩, fun h8 => by have := h8.2.1; have n9 := h8.2.2; rcases hf1148 with ⟨h7, h6⟩ | ⟨h7, h6, h5⟩; (exact (hpo1119.no (by have := tn_of (show sn.toInt = sn.toInt from rfl) (by omega); omega) h6) n9); omega⟩)), by (try dsimp only); rw [ht]; exact ⟨hT, hF, m1151, m1152⟩⟩, hS.F ht⟩) hS.2.2 dX12_choose_122
                · have t1174 : 0 ≤ r1126.toInt := ti_nlt c1172 rfl (by decide)
                  refine lv_iload hx hb dX12_choose_116 (lv_at hl 0 rfl) ?_
                  refine lv_if_ge (tgt := 123) hx hb dX12_choose_118 (by decide) (fun c1175 => ?_) (fun c1175 => ?_)
                  · have t1176 : 0 ≤ r1149.toInt := ti_le c1175 (by decide) rfl
                    refine lv_aload_n hx hb dX12_choose_123 rfl (lv_at hl 4 rfl) ?_
                    refine tw_get hx hb hts bF_X12 hown hK hT hr_o0 shm_0 rfl 51 (by decide) (ht_at hts 11 rfl) (fun _ h9 => h9) dX12_choose_124 (fun v9 m1177 h9 => ?_)
                    obtain ⟨rfl, hg1178⟩ := h9 _ rfl
                    refine lv_iload hx hb dX12_choose_127 (lv_at hl 1 rfl) ?_
                    refine lv_iconst (v := 0) hx hb dX12_choose_129 (by decide) ?_
                    refine tw_zast (i := r1126) (x := 0) hx hb hK hT hG hS hg19 shm_52 rfl (vin_t (a := r1126.toInt) rfl (by omega) (by omega)) (gi_z (rg_t (a := 0) (by decide) (by first | decide | omega) (by first | decide | omega)) (by decide) (by decide)) dX12_choose_130 (fun H locs hT oq m1179 oi hS => ?_)
                    have hF := hF.ast hg19 skm_52 oq (by decide)
                    have m1180 := m1151.kept (oq _ (gne hg1 hg19 (by decide)))
                    have m1181 := m1152.kept (oq _ (gne hg2 hg19 (by decide)))
                    have m1182 := m1153.kept (oq _ (gne hg3 hg19 (by decide)))
                    have m1183 := m1154.kept (oq _ (gne hg4 hg19 (by decide)))
                    have m1184 := m1155.kept (oq _ (gne hg5 hg19 (by decide)))
                    have m1185 := m1156.kept (oq _ (gne hg6 hg19 (by decide)))
                    have m1186 := m1157.kept (oq _ (gne hg7 hg19 (by decide)))
                    have m1187 := m1158.kept (oq _ (gne hg8 hg19 (by decide)))
                    have m1188 := m1159.kept (oq _ (gne hg9 hg19 (by decide)))
                    have m1189 := m1160.kept (oq _ (gne hg10 hg19 (by decide)))
                    have m1190 := m1161.kept (oq _ (gne hg13 hg19 (by decide)))
                    have m1191 := m1162.kept (oq _ (gne hg14 hg19 (by decide)))
                    have m1192 := m1163.kept (oq _ (gne hg15 hg19 (by decide)))
                    have m1193 := m1164.kept (oq _ (gne hg16 hg19 (by decide)))
                    have m1194 := m1165.kept (oq _ (gne hg17 hg19 (by decide)))
                    have m1195 := m1166.kept (oq _ (gne hg18 hg19 (by decide)))
                    have m1196 := m1167.put (show el H (q 51) _ = some (.int 0) from m1179) oi
                    have m1197 := (el_kept (oq _ (gne hr_o0 hg19 (by decide)))).trans m1168
                    have m1198 := (el_kept (oq _ (gne hr_o0 hg19 (by decide)))).trans m1169
                    refine lv_aload_n hx hb dX12_choose_131 rfl (lv_at hl 4 rfl) ?_
                    refine tw_get hx hb hts bF_X12 hown hK hT hr_o0 shm_0 rfl 38 (by decide) (ht_at hts 40 rfl) (fun _ h9 => h9) dX12_choose_132 (fun v9 m1199 h9 => ?_)
                    obtain ⟨rfl, hg1200⟩ := h9 _ rfl
                    refine lv_iload hx hb dX12_choose_135 (lv_at hl 1 rfl) ?_
                    refine lv_iload hx hb dX12_choose_137 (lv_at hl 0 rfl) ?_
                    refine tw_iast (i := r1126) (x := r1149) hx hb hK hT hG hS hg1 shm_39 rfl (vin_t (a := r1126.toInt) rfl (by omega) (by omega)) (gi_of (show r1149.toInt = r1149.toInt from rfl) (by omega) (by omega)) dX12_choose_139 (fun H locs hT oq m1201 oi hS => ?_)
                    have hF := hF.ast hg1 skm_39 oq (by decide)
                    have m1202 := m1180.put m1201 oi
                    have m1203 := m1181.kept (oq _ (gne hg2 hg1 (by decide)))
                    have m1204 := m1182.kept (oq _ (gne hg3 hg1 (by decide)))
                    have m1205 := m1183.kept (oq _ (gne hg4 hg1 (by decide)))
                    have m1206 := m1184.kept (oq _ (gne hg5 hg1 (by decide)))
                    have m1207 := m1185.kept (oq _ (gne hg6 hg1 (by decide)))
                    have m1208 := m1186.kept (oq _ (gne hg7 hg1 (by decide)))
                    have m1209 := m1187.kept (oq _ (gne hg8 hg1 (by decide)))
                    have m1210 := m1188.kept (oq _ (gne hg9 hg1 (by decide)))
                    have m1211 := m1189.kept (oq _ (gne hg10 hg1 (by decide)))
                    have m1212 := m1190.kept (oq _ (gne hg13 hg1 (by decide)))
                    have m1213 := m1191.kept (oq _ (gne hg14 hg1 (by decide)))
                    have m1214 := m1192.kept (oq _ (gne hg15 hg1 (by decide)))
                    have m1215 := m1193.kept (oq _ (gne hg16 hg1 (by decide)))
                    have m1216 := m1194.kept (oq _ (gne hg17 hg1 (by decide)))
                    have m1217 := m1195.kept (oq _ (gne hg18 hg1 (by decide)))
                    have m1218 := m1196.kept (oq _ (gne hg19 hg1 (by decide)))
                    have m1219 := (el_kept (oq _ (gne hr_o0 hg1 (by decide)))).trans m1197
                    have m1220 := (el_kept (oq _ (gne hr_o0 hg1 (by decide)))).trans m1198
                    refine lv_aload_n hx hb dX12_choose_140 rfl (lv_at hl 4 rfl) ?_
                    refine tw_get hx hb hts bF_X12 hown hK hT hr_o0 shm_0 rfl 46 (by decide) (ht_at hts 19 rfl) (fun _ h9 => h9) dX12_choose_141 (fun v9 m1221 h9 => ?_)
                    obtain ⟨rfl, hg1222⟩ := h9 _ rfl
                    refine lv_iload hx hb dX12_choose_144 (lv_at hl 0 rfl) ?_
                    refine lv_iload hx hb dX12_choose_146 (lv_at hl 1 rfl) ?_
                    refine tw_iast (i := r1149) (x := r1126) hx hb hK hT hG hS hg2 shm_47 rfl (vin_t (a := r1149.toInt) rfl (by omega) (by omega)) (gi_of (show r1126.toInt = r1126.toInt from rfl) (by omega) (by omega)) dX12_choose_148 (fun H locs hT oq m1223 oi hS => ?_)
                    have hF := hF.ast hg2 skm_47 oq (by decide)
                    have m1224 := m1202.kept (oq _ (gne hg1 hg2 (by decide)))
                    have m1225 := m1203.put m1223 oi
                    have m1226 := m1204.kept (oq _ (gne hg3 hg2 (by decide)))
                    have m1227 := m1205.kept (oq _ (gne hg4 hg2 (by decide)))
                    have m1228 := m1206.kept (oq _ (gne hg5 hg2 (by decide)))
                    have m1229 := m1207.kept (oq _ (gne hg6 hg2 (by decide)))
                    have m1230 := m1208.kept (oq _ (gne hg7 hg2 (by decide)))
                    have m1231 := m1209.kept (oq _ (gne hg8 hg2 (by decide)))
                    have m1232 := m1210.kept (oq _ (gne hg9 hg2 (by decide)))
                    have m1233 := m1211.kept (oq _ (gne hg10 hg2 (by decide)))
                    have m1234 := m1212.kept (oq _ (gne hg13 hg2 (by decide)))
                    have m1235 := m1213.kept (oq _ (gne hg14 hg2 (by decide)))
                    have m1236 := m1214.kept (oq _ (gne hg15 hg2 (by decide)))
                    have m1237 := m1215.kept (oq _ (gne hg16 hg2 (by decide)))
                    have m1238 := m1216.kept (oq _ (gne hg17 hg2 (by decide)))
                    have m1239 := m1217.kept (oq _ (gne hg18 hg2 (by decide)))
                    have m1240 := m1218.kept (oq _ (gne hg19 hg2 (by decide)))
                    have m1241 := (el_kept (oq _ (gne hr_o0 hg2 (by decide)))).trans m1219
                    have m1242 := (el_kept (oq _ (gne hr_o0 hg2 (by decide)))).trans m1220
                    have m1243 := (el_kept (oq _ (gne hg1 hg2 (by decide)))).trans m1201
                    obtain ⟨x1244, ex1244⟩ : ∃ y : Int32, y = z836 + 1 := ⟨_, rfl⟩
                    refine lv_iinc (v := x1244) (lv' := [(2, .int x1244), (5, .int r1149), (4, .int r1126), (3, .int (nI i835)), (0, .ref o0), (1, .int p0)]) hx hb dX12_choose_149 hl (k := 3) rfl (by first | (rw [ex1244]; done) | (rw [ex1244]; rfl)) (by decide) rfl (fun ls hl => ?_)
                    refine lv_iinc (v := nI (i835 + 1)) (lv' := [(3, .int (nI (i835 + 1))), (2, .int x1244), (5, .int r1149), (4, .int r1126), (0, .ref o0), (1, .int p0)]) hx hb dX12_choose_152 hl (k := 3) rfl (nI_add i835 1) (by decide) rfl (fun ls hl => ?_)
                    refine lv_goto (tgt := 94) hx hb dX12_choose_155 (by decide) ?_
                    exact ih1110 (i835 + 1) (by omega) (by omega) x1244 (cu vH r1126.toNatClampNeg r1149) (cu vR r1149.toNatClampNeg r1126) (cu V855 r1126.toNatClampNeg (0 : Int32)) (Or.inr ⟨by omega, zHb_at (by have := tn_of (show r1126.toInt = r1126.toInt from rfl) (by omega); omega) (by have := (show r1149.toInt = r1149.toInt from rfl); omega), by omega, hpo1119.yes (by have := tn_of (show sn.toInt = sn.toInt from rfl) (by omega); omega) ((hf1148.resolve_left (fun h8 => by have := h8.1; omega)).2.2)⟩) _ _ hT hF hS m1224 m1225 m1226 m1227 m1228 m1229 m1230 m1231 m1232 m1233 m1234 m1235 m1236 m1237 m1238 m1239 m1240 m1241 m1242 ls (lv_sub hl [0, 1, 4, 5] rfl)
                  · have t1245 : r1149.toInt < 0 := ti_nle c1175 (by decide) rfl
                    refine lv_iload_n hx hb dX12_choose_121 rfl (lv_at hl 3 rfl) ?_
                    exact W.iret (v := z836) hx hb hr (fun t ht hW => ⟨⟨z836, (vH, vR), rfl, (by exact (Or.inr ⟨⟨rfl, rfl⟩, fun h8 => by have := h8.2.1; have n9 := h8.2.2; rcases hf1148 with ⟨h7, h6⟩ | ⟨h7, h6, h5⟩; (exact (hpo1119.no (by have := tn_of (show sn.toInt = sn.toInt from rfl) (by omega); omega) h6) n9); omega⟩)), by (try dsimp only); rw [ht]; exact ⟨hT, hF, m1151, m1152⟩⟩, hS.F ht⟩) hS.2.2 dX12_choose_122
              · refine lv_aload_n hx hb dX12_choose_99 rfl (lv_at hl 2 rfl) ?_
                have hFc := gA_free hG hA hS
                refine va_calli (va_runV (As := []) (rest := []) ⟨hx, hb, hml, hown, hts⟩ (s_nextOne l dC dI kA adK adV G H q wZ wN wH wB wC wL wK wU wV PI im PM PT lS lB lE lN o0 hT hr_o0 hgz hgn hgh hgb hgc hgi hgu) (cwV 0 hts (goodIn_app (goodIn_r _ [15, 16, 17, 5] rfl (by decide +kernel)) (goodIn_ca (goodIn_r _ [11, 10, 12, 13, 14] rfl (by decide +kernel)) (bs_in _ _))) rfl rfl rfl (by decide +kernel) ⟨(Nat.le_of_ble_eq_true rfl), (Nat.le_of_ble_eq_true rfl)⟩) ⟨fun a U g mk q => by obtain ⟨q0, q1, qK, qE⟩ := q; exact ⟨q0, q1, va_K.moved (u := U) (U := U.calling g mk a) (Vm.Alike.refl U.vm) qK, EVS.blind g mk a qE⟩, gH_rc hK hT hr_o0 shm_0 rfl, fun U hU hW => ⟨rfl, hU, va_K.moved hW.alike hK, hE.call hS hFc hU hW⟩⟩ rfl rfl hl.1 rfl (lv_room (Nat.le_of_ble_eq_true rfl)) dX12_choose_100 ⟨(Nat.le_of_ble_eq_true rfl), (Nat.le_of_ble_eq_true rfl)⟩) hS (fun q _ h => hFc q h) hFc (fun r1246 u t H locs ht hvm hw1247 hB _ _ hS => ?_)
                obtain ⟨hT, hF1⟩ := hB
                rw [ht] at hT hF1
                have m1248 := m838.kept (hF1.arr hg1 skm_39 (by decide))
                have m1249 := m840.kept (hF1.arr hg2 skm_47 (by decide))
                have m1250 := m841.kept (hF1.arr hg3 skm_40 (by decide))
                have m1251 := m842.kept (hF1.arr hg4 skm_32 (by decide))
                have m1252 := m843.kept (hF1.arr hg5 skm_33 (by decide))
                have m1253 := m844.kept (hF1.arr hg6 skm_34 (by decide))
                have m1254 := m845.kept (hF1.arr hg7 skm_35 (by decide))
                have m1255 := m846.kept (hF1.arr hg8 skm_36 (by decide))
                have m1256 := m847.kept (hF1.arr hg9 skm_37 (by decide))
                have m1257 := m848.kept (hF1.arr hg10 skm_41 (by decide))
                have m1258 := m849.kept (hF1.arr hg13 skm_20 (by decide))
                have m1259 := m850.kept (hF1.arr hg14 skm_25 (by decide))
                have m1260 := m851.kept (hF1.arr hg15 skm_26 (by decide))
                have m1261 := m852.kept (hF1.arr hg16 skm_27 (by decide))
                have m1262 := m853.kept (hF1.arr hg17 skm_28 (by decide))
                have m1263 := m854.kept (hF1.arr hg18 skm_19 (by decide))
                have m1264 := m856.kept (hF1.arr hg19 skm_52 (by decide))
                have m1265 := (hF1.fld hr_o0 skm_0 (k := 42) (by decide) (by decide)).trans m857
                have m1266 := (hF1.fld hr_o0 skm_0 (k := 47) (by decide) (by decide)).trans m858
                have hF := hF.more hF1 (by decide)
                try dsimp only at hw1247
                have h1267 := hw1247
                refine lv_istore (lv' := [(4, .int r1246), (3, .int (nI i835)), (2, .int z836), (0, .ref o0), (1, .int p0)]) hx hb dX12_choose_103 hl (by decide) rfl (fun ls hl => ?_)
                refine lv_aload_n hx hb dX12_choose_105 rfl (lv_at hl 3 rfl) ?_
                have hFc := gA_free hG hA hS
                refine va_calli (va_runV (As := []) (rest := []) ⟨hx, hb, hml, hown, hts⟩ (s_bestFarm l dC dI kA adK adV G H q wZ wN wH wB wC wL wK wU wV PI im PM PT lS lB lE lN o0 hT hr_o0 hgz hgn hgh hgb hgc hgi hgu) (cwV 0 hts (goodIn_app (goodIn_r _ [38, 39, 40, 5] rfl (by decide +kernel)) (goodIn_ca (goodIn_r _ [18, 19, 20, 21, 22, 23, 24, 25, 26, 27, 28, 29, 30, 31, 2, 3, 4, 5, 32, 33, 34, 35, 36, 37] rfl (by decide +kernel)) (bs_in _ _))) rfl rfl rfl (by decide +kernel) ⟨(Nat.le_of_ble_eq_true rfl), (Nat.le_of_ble_eq_true rfl)⟩) ⟨fun a U g mk q => by obtain ⟨q0, q1, qK, qE⟩ := q; exact ⟨q0, q1, va_K.moved (u := U) (U := U.calling g mk a) (Vm.Alike.refl U.vm) qK, EVS.blind g mk a qE⟩, gH_rc hK hT hr_o0 shm_0 rfl, fun U hU hW => ⟨rfl, hU, va_K.moved hW.alike hK, hE.call hS hFc hU hW⟩⟩ rfl rfl hl.1 rfl (lv_room (Nat.le_of_ble_eq_true rfl)) dX12_choose_106 ⟨(Nat.le_of_ble_eq_true rfl), (Nat.le_of_ble_eq_true rfl)⟩) hS (fun q _ h => hFc q h) hFc (fun r1268 u t H locs ht hvm hw1269 hB _ _ hS => ?_)
                obtain ⟨hT, hF1⟩ := hB
                rw [ht] at hT hF1
                have m1270 := m1248.kept (hF1.arr hg1 skm_39 (by decide))
                have m1271 := m1249.kept (hF1.arr hg2 skm_47 (by decide))
                have m1272 := m1250.kept (hF1.arr hg3 skm_40 (by decide))
                have m1273 := m1251.kept (hF1.arr hg4 skm_32 (by decide))
                have m1274 := m1252.kept (hF1.arr hg5 skm_33 (by decide))
                have m1275 := m1253.kept (hF1.arr hg6 skm_34 (by decide))
                have m1276 := m1254.kept (hF1.arr hg7 skm_35 (by decide))
                have m1277 := m1255.kept (hF1.arr hg8 skm_36 (by decide))
                have m1278 := m1256.kept (hF1.arr hg9 skm_37 (by decide))
                have m1279 := m1257.kept (hF1.arr hg10 skm_41 (by decide))
                have m1280 := m1258.kept (hF1.arr hg13 skm_20 (by decide))
                have m1281 := m1259.kept (hF1.arr hg14 skm_25 (by decide))
                have m1282 := m1260.kept (hF1.arr hg15 skm_26 (by decide))
                have m1283 := m1261.kept (hF1.arr hg16 skm_27 (by decide))
                have m1284 := m1262.kept (hF1.arr hg17 skm_28 (by decide))
                have m1285 := m1263.kept (hF1.arr hg18 skm_19 (by decide))
                have m1286 := m1264.kept (hF1.arr hg19 skm_52 (by decide))
                have m1287 := (hF1.fld hr_o0 skm_0 (k := 42) (by decide) (by decide)).trans m1265
                have m1288 := (hF1.fld hr_o0 skm_0 (k := 47) (by decide) (by decide)).trans m1266
                have hF := hF.more hF1 (by decide)
                try dsimp only at hw1269
                have h1289 := hw1269
                refine lv_istore (lv' := [(5, .int r1268), (4, .int r1246), (3, .int (nI i835)), (2, .int z836), (0, .ref o0), (1, .int p0)]) hx hb dX12_choose_109 hl (by decide) rfl (fun ls hl => ?_)
                refine lv_iload hx hb dX12_choose_111 (lv_at hl 1 rfl) ?_
                refine lv_if_lt (tgt := 121) hx hb dX12_choose_113 (by decide) (fun c1290 => ?_) (fun c1290 => ?_)
                · have t1291 : r1246.toInt < 0 := ti_lt c1290 rfl (by decide)
                  refine lv_iload_n hx hb dX12_choose_121 rfl (lv_at hl 3 rfl) ?_
                  exact W.iret (v := z836) hx hb hr (fun t ht hW => ⟨⟨z836, (V837, V839), rfl, (by exact (Or.inl ⟨hzb1123, ⟨by omega, by omega⟩, hfm1124, hno1125⟩)), by (try dsimp only); rw [ht]; exact ⟨hT, hF, m1270, m1271⟩⟩, hS.F ht⟩) hS.2.2 dX12_choose_122
                · have t1292 : 0 ≤ r1246.toInt := ti_nlt c1290 rfl (by decide)
                  refine lv_iload hx hb dX12_choose_116 (lv_at hl 0 rfl) ?_
                  refine lv_if_ge (tgt := 123) hx hb dX12_choose_118 (by decide) (fun c1293 => ?_) (fun c1293 => ?_)
                  · have t1294 : 0 ≤ r1268.toInt := ti_le c1293 (by decide) rfl
                    refine lv_aload_n hx hb dX12_choose_123 rfl (lv_at hl 4 rfl) ?_
                    refine tw_get hx hb hts bF_X12 hown hK hT hr_o0 shm_0 rfl 51 (by decide) (ht_at hts 11 rfl) (fun _ h9 => h9) dX12_choose_124 (fun v9 m1295 h9 => ?_)
                    obtain ⟨rfl, hg1296⟩ := h9 _ rfl
                    refine lv_iload hx hb dX12_choose_127 (lv_at hl 1 rfl) ?_
                    refine lv_iconst (v := 0) hx hb dX12_choose_129 (by decide) ?_
                    refine tw_zast (i := r1246) (x := 0) hx hb hK hT hG hS hg19 shm_52 rfl (vin_t (a := r1246.toInt) rfl (by omega) (by omega)) (gi_z (rg_t (a := 0) (by decide) (by first | decide | omega) (by first | decide | omega)) (by decide) (by decide)) dX12_choose_130 (fun H locs hT oq m1297 oi hS => ?_)
                    have hF := hF.ast hg19 skm_52 oq (by decide)
                    have m1298 := m1270.kept (oq _ (gne hg1 hg19 (by decide)))
                    have m1299 := m1271.kept (oq _ (gne hg2 hg19 (by decide)))
                    have m1300 := m1272.kept (oq _ (gne hg3 hg19 (by decide)))
                    have m1301 := m1273.kept (oq _ (gne hg4 hg19 (by decide)))
                    have m1302 := m1274.kept (oq _ (gne hg5 hg19 (by decide)))
                    have m1303 := m1275.kept (oq _ (gne hg6 hg19 (by decide)))
                    have m1304 := m1276.kept (oq _ (gne hg7 hg19 (by decide)))
                    have m1305 := m1277.kept (oq _ (gne hg8 hg19 (by decide)))
                    have m1306 := m1278.kept (oq _ (gne hg9 hg19 (by decide)))
                    have m1307 := m1279.kept (oq _ (gne hg10 hg19 (by decide)))
                    have m1308 := m1280.kept (oq _ (gne hg13 hg19 (by decide)))
                    have m1309 := m1281.kept (oq _ (gne hg14 hg19 (by decide)))
                    have m1310 := m1282.kept (oq _ (gne hg15 hg19 (by decide)))
                    have m1311 := m1283.kept (oq _ (gne hg16 hg19 (by decide)))
                    have m1312 := m1284.kept (oq _ (gne hg17 hg19 (by decide)))
                    have m1313 := m1285.kept (oq _ (gne hg18 hg19 (by decide)))
                    have m1314 := m1286.put (show el H (q 51) _ = some (.int 0) from m1297) oi
                    have m1315 := (el_kept (oq _ (gne hr_o0 hg19 (by decide)))).trans m1287
                    have m1316 := (el_kept (oq _ (gne hr_o0 hg19 (by decide)))).trans m1288
                    refine lv_aload_n hx hb dX12_choose_131 rfl (lv_at hl 4 rfl) ?_
                    refine tw_get hx hb hts bF_X12 hown hK hT hr_o0 shm_0 rfl 38 (by decide) (ht_at hts 40 rfl) (fun _ h9 => h9) dX12_choose_132 (fun v9 m1317 h9 => ?_)
                    obtain ⟨rfl, hg1318⟩ := h9 _ rfl
                    refine lv_iload hx hb dX12_choose_135 (lv_at hl 1 rfl) ?_
                    refine lv_iload hx hb dX12_choose_137 (lv_at hl 0 rfl) ?_
                    refine tw_iast (i := r1246) (x := r1268) hx hb hK hT hG hS hg1 shm_39 rfl (vin_t (a := r1246.toInt) rfl (by omega) (by omega)) (gi_of (show r1268.toInt = r1268.toInt from rfl) (by omega) (by omega)) dX12_choose_139 (fun H locs hT oq m1319 oi hS => ?_)
                    have hF := hF.ast hg1 skm_39 oq (by decide)
                    have m1320 := m1298.put m1319 oi
                    have m1321 := m1299.kept (oq _ (gne hg2 hg1 (by decide)))
                    have m1322 := m1300.kept (oq _ (gne hg3 hg1 (by decide)))
                    have m1323 := m1301.kept (oq _ (gne hg4 hg1 (by decide)))
                    have m1324 := m1302.kept (oq _ (gne hg5 hg1 (by decide)))
                    have m1325 := m1303.kept (oq _ (gne hg6 hg1 (by decide)))
                    have m1326 := m1304.kept (oq _ (gne hg7 hg1 (by decide)))
                    have m1327 := m1305.kept (oq _ (gne hg8 hg1 (by decide)))
                    have m1328 := m1306.kept (oq _ (gne hg9 hg1 (by decide)))
                    have m1329 := m1307.kept (oq _ (gne hg10 hg1 (by decide)))
                    have m1330 := m1308.kept (oq _ (gne hg13 hg1 (by decide)))
                    have m1331 := m1309.kept (oq _ (gne hg14 hg1 (by decide)))
                    have m1332 := m1310.kept (oq _ (gne hg15 hg1 (by decide)))
                    have m1333 := m1311.kept (oq _ (gne hg16 hg1 (by decide)))
                    have m1334 := m1312.kept (oq _ (gne hg17 hg1 (by decide)))
                    have m1335 := m1313.kept (oq _ (gne hg18 hg1 (by decide)))
                    have m1336 := m1314.kept (oq _ (gne hg19 hg1 (by decide)))
                    have m1337 := (el_kept (oq _ (gne hr_o0 hg1 (by decide)))).trans m1315
                    have m1338 := (el_kept (oq _ (gne hr_o0 hg1 (by decide)))).trans m1316
                    refine lv_aload_n hx hb dX12_choose_140 rfl (lv_at hl 4 rfl) ?_
                    refine tw_get hx hb hts bF_X12 hown hK hT hr_o0 shm_0 rfl 46 (by decide) (ht_at hts 19 rfl) (fun _ h9 => h9) dX12_choose_141 (fun v9 m1339 h9 => ?_)
                    obtain ⟨rfl, hg1340⟩ := h9 _ rfl
                    refine lv_iload hx hb dX12_choose_144 (lv_at hl 0 rfl) ?_
                    refine lv_iload hx hb dX12_choose_146 (lv_at hl 1 rfl) ?_
                    refine tw_iast (i := r1268) (x := r1246) hx hb hK hT hG hS hg2 shm_47 rfl (vin_t (a := r1268.toInt) rfl (by omega) (by omega)) (gi_of (show r1246.toInt = r1246.toInt from rfl) (by omega) (by omega)) dX12_choose_148 (fun H locs hT oq m1341 oi hS => ?_)
                    have hF := hF.ast hg2 skm_47 oq (by decide)
                    have m1342 := m1320.kept (oq _ (gne hg1 hg2 (by decide)))
                    have m1343 := m1321.put m1341 oi
                    have m1344 := m1322.kept (oq _ (gne hg3 hg2 (by decide)))
                    have m1345 := m1323.kept (oq _ (gne hg4 hg2 (by decide)))
                    have m1346 := m1324.kept (oq _ (gne hg5 hg2 (by decide)))
                    have m1347 := m1325.kept (oq _ (gne hg6 hg2 (by decide)))
                    have m1348 := m1326.kept (oq _ (gne hg7 hg2 (by decide)))
                    have m1349 := m1327.kept (oq _ (gne hg8 hg2 (by decide)))
                    have m1350 := m1328.kept (oq _ (gne hg9 hg2 (by decide)))
                    have m1351 := m1329.kept (oq _ (gne hg10 hg2 (by decide)))
                    have m1352 := m1330.kept (oq _ (gne hg13 hg2 (by decide)))
                    have m1353 := m1331.kept (oq _ (gne hg14 hg2 (by decide)))
                    have m1354 := m1332.kept (oq _ (gne hg15 hg2 (by decide)))
                    have m1355 := m1333.kept (oq _ (gne hg16 hg2 (by decide)))
                    have m1356 := m1334.kept (oq _ (gne hg17 hg2 (by decide)))
                    have m1357 := m1335.kept (oq _ (gne hg18 hg2 (by decide)))
                    have m1358 := m1336.kept (oq _ (gne hg19 hg2 (by decide)))
                    have m1359 := (el_kept (oq _ (gne hr_o0 hg2 (by decide)))).trans m1337
                    have m1360 := (el_kept (oq _ (gne hr_o0 hg2 (by decide)))).trans m1338
                    have m1361 := (el_kept (oq _ (gne hg1 hg2 (by decide)))).trans m1319
                    obtain ⟨x1362, ex1362⟩ : ∃ y : Int32, y = z836 + 1 := ⟨_, rfl⟩
                    refine lv_iinc (v := x1362) (lv' := [(2, .int x1362), (5, .int r1268), (4, .int r1246), (3, .int (nI i835)), (0, .ref o0), (1, .int p0)]) hx hb dX12_choose_149 hl (k := 3) rfl (by first | (rw [ex1362]; done) | (rw [ex1362]; rfl)) (by decide) rfl (fun ls hl => ?_)
                    refine lv_iinc (v := nI (i835 + 1)) (lv' := [(3, .int (nI (i835 + 1))), (2, .int x1362), (5, .int r1268), (4, .int r1246), (0, .ref o0), (1, .int p0)]) hx hb dX12_choose_152 hl (k := 3) rfl (nI_add i835 1) (by decide) rfl (fun ls hl => ?_)
                    refine lv_goto (tgt := 94) hx hb dX12_choose_155 (by decide) ?_
                    exact ih1110 (i835 + 1) (by omega) (by omega) x1362 (cu V837 r1246.toNatClampNeg r1268) (cu V839 r1268.toNatClampNeg r1246) (cu V855 r1246.toNatClampNeg (0 : Int32)) (Or.inr ⟨by omega, zHb_cu hzb1123 (by have := (show r1268.toInt = r1268.toInt from rfl); omega), hfm1124, hno1125⟩) _ _ hT hF hS m1342 m1343 m1344 m1345 m1346 m1347 m1348 m1349 m1350 m1351 m1352 m1353 m1354 m1355 m1356 m1357 m1358 m1359 m1360 ls (lv_sub hl [0, 1, 4, 5] rfl)
                  · have t1363 : r1268.toInt < 0 := ti_nle c1293 (by decide) rfl
                    refine lv_iload_n hx hb dX12_choose_121 rfl (lv_at hl 3 rfl) ?_
                    exact W.iret (v := z836) hx hb hr (fun t ht hW => ⟨⟨z836, (V837, V839), rfl, (by exact (Or.inl ⟨hzb1123, ⟨by omega, by omega⟩, hfm1124, hno1125⟩)), by (try dsimp only); rw [ht]; exact ⟨hT, hF, m1270, m1271⟩⟩, hS.F ht⟩) hS.2.2 dX12_choose_122
        exact key1110 (60 - 0) 0 (by omega) (Nat.le_refl _) 0 vH vR V118 (Or.inl ⟨by omega, rfl, rfl, by rw [show sn.toNatClampNeg = 60 from by have := tn_of (show sn.toInt = sn.toInt from rfl) (by omega); omega]; exact hj122⟩) _ _ hT hF hS m102 m103 m104 m105 m106 m107 m108 m109 m110 m111 m112 m113 m114 m115 m116 m117 m119 m120 m121 ls (lv_sub hl [0, 1, 2, 3] rfl)
      | succ n831 ih831 =>
        intro i101 hn831 hlo832 V118 ⟨hj122, hj123⟩ H locs hT hF hS m102 m103 m104 m105 m106 m107 m108 m109 m110 m111 m112 m113 m114 m115 m116 m117 m119 m120 m121 ls hl
        have hlt1363 : i101 < 60 := by omega
        refine lv_iload_n hx hb dX12_choose_32 rfl (lv_at hl 0 rfl) ?_
        refine lv_aload_n hx hb dX12_choose_33 rfl (lv_at hl 1 rfl) ?_
        refine tw_getM (v := .int sn) hx hb hts bF_X12 hown hK hT hr_o0 shm_0 rfl 42 (by decide) (ht_at hts 9 rfl) (fun _ h9 => h9) m120 dX12_choose_34 ?_
        refine lv_icmp_ge (tgt := 90) hx hb dX12_choose_37 (by decide) (fun c1364 => ?_) (fun c1364 => ?_)
        · have t1365 : sn.toInt ≤ ((i101 : Nat) : Int) := ti_le c1364 rfl (nI_toInt (by omega))
          refine lv_iconst (v := 0) hx hb dX12_choose_90 (by decide) ?_
          refine lv_istore_n (lv' := [(2, .int 0), (0, .ref o0), (1, .int p0)]) hx hb dX12_choose_91 rfl hl (by decide) rfl (fun ls hl => ?_)
          refine lv_iconst (v := 0) hx hb dX12_choose_92 (by decide) ?_
          refine lv_istore_n (lv' := [(3, .int 0), (2, .int 0), (0, .ref o0), (1, .int p0)]) hx hb dX12_choose_93 rfl hl (by decide) rfl (fun ls hl => ?_)
          have key1641 : ∀ (n1641 i1366 : Nat), i1366 + n1641 = 60 → 0 ≤ i1366 → ∀ (z1367 : Int32), ∀ (V1368 : Nat → Int32), ∀ (V1370 : Nat → Int32), ∀ (V1386 : Nat → Int32), (((((i1366 : Nat) : Int) = 0 ∧ vH = V1368 ∧ vR = V1370 ∧ zPo (zLs vG vA vD vC vU vI vM vW) A9 V1386 sn.toNatClampNeg) ∨ (1 ≤ ((i1366 : Nat) : Int) ∧ zHb V1368 sn.toInt ∧ 0 < fm.toInt ∧ zNO (zLs vG vA vD vC vU vI vM vW) A9 sn.toInt))) → ∀ (H : Heap) (locs : List Loc), gH (dC, dI) kA (SHm q (wP wZ wN wH wB wC wL wK wU wV) PI im PM PT lS lB lE lN) G H → gF (dC, dI) SKm G ([(0, 0), (30, 0), (31, 0), (39, 0), (47, 0), (51, 0), (52, 0)] : List (Nat × Nat)) s.heap H → va_S A s.heap H locs → ct H (q 38) 60 V1368 → ct H (q 46) 30 V1370 → ct H (q 39) 60 vG → ct H (q 31) 60 vA → ct H (q 32) 60 vD → ct H (q 33) 60 vC → ct H (q 34) 60 vU → ct H (q 35) 60 vI → ct H (q 36) 60 vM → ct H (q 40) 60 vW → ct H (q 19) 60 vO → ct H (q 24) 60 vB → ct H (q 25) 60 vX → ct H (q 26) 1200 vS → ct H (q 27) 1200 vN → ct H (q 18) 3 vL → ct H (q 51) 60 V1386 → el H o0 (dI 15 42) = some (.int sn) → el H o0 (dI 15 47) = some (.int fm) → ∀ ls : Array Slot, lv_has ls 6 [(3, .int (nI i1366)), (2, .int z1367), (0, .ref o0), (1, .int p0)] → W p l e (headSpec w_s_chooseZ ({ frames := 6, cells := 0, slots := 0, locals := 134 })).room s m #[.ref o0, .int p0] below meth c H locs 0 0 (MQ below (va_Qi (fun (r : Int32) (u : (Nat → Int32) × (Nat → Int32)) => match u with | (vH1, vR1) => ((zHb vH1 sn.toInt ∧ ((1 ≤ p0.toInt ∧ p0.toInt ≤ 60) ∧ 0 < fm.toInt ∧ zNO (zLs vG vA vD vC vU vI vM vW) A9 sn.toInt)) ∨ ((vH = vH1 ∧ vR = vR1) ∧ ¬ ((1 ≤ p0.toInt ∧ p0.toInt ≤ 60) ∧ 0 < fm.toInt ∧ zNO (zLs vG vA vD vC vU vI vM vW) A9 sn.toInt)))) (fun (u : (Nat → Int32) × (Nat → Int32)) (t : State) => match u with | (vH1, vR1) => gH (dC, dI) kA (SHm q (wP wZ wN wH wB wC wL wK wU wV) PI im PM PT lS lB lE lN) G t.heap ∧ gF (dC, dI) SKm G ([(0, 0), (30, 0), (31, 0), (39, 0), (47, 0), (51, 0), (52, 0)] : List (Nat × Nat)) s.heap t.heap ∧ ct t.heap (q 38) 60 vH1 ∧ ct t.heap (q 46) 30 vR1) A) #[.ref o0, .int p0] s 0 0 A) (F0 m 94 ls []) := by
            intro n1641
            induction n1641 with
            | zero =>
              intro i1366 hn1641 hlo1642 z1367 V1368 V1370 V1386 hj1390 H locs hT hF hS m1369 m1371 m1372 m1373 m1374 m1375 m1376 m1377 m1378 m1379 m1380 m1381 m1382 m1383 m1384 m1385 m1387 m1388 m1389 ls hl
              obtain rfl : 60 = i1366 := by omega
              refine lv_iload_n hx hb dX12_choose_94 rfl (lv_at hl 0 rfl) ?_
              refine lv_iload_n hx hb dX12_choose_95 rfl (lv_at hl 3 rfl) ?_
              refine lv_icmp_ge (tgt := 158) hx hb dX12_choose_96 (by decide) (fun c1643 => ?_) (fun c1643 => (by exfalso; have q9 : ((60 : Nat) : Int) < p0.toInt := ti_nle c1643 rfl (nI_toInt (by omega)); omega))
              have t1644 : p0.toInt ≤ ((60 : Nat) : Int) := ti_le c1643 rfl (nI_toInt (by omega))
              refine lv_iload_n hx hb dX12_choose_158 rfl (lv_at hl 1 rfl) ?_
              exact W.iret (v := z1367) hx hb hr (fun t ht hW => ⟨⟨z1367, (V1368, V1370), rfl, (by exact (by rcases hj1390 with ⟨h8, h7, h6, h5⟩ | ⟨h8, h7, h6, h5⟩; (exact Or.inr ⟨⟨h7, h6⟩, fun h4 => by have := h4.1; omega⟩); exact Or.inl ⟨h7, ⟨by omega, by omega⟩, h6, h5⟩)), by (try dsimp only); rw [ht]; exact ⟨hT, hF, m1369, m1371⟩⟩, hS.F ht⟩) hS.2.2 dX12_choose_159
            | succ n1641 ih1641 =>
              intro i1366 hn1641 hlo1642 z1367 V1368 V1370 V1386 hj1390 H locs hT hF hS m1369 m1371 m1372 m1373 m1374 m1375 m1376 m1377 m1378 m1379 m1380 m1381 m1382 m1383 m1384 m1385 m1387 m1388 m1389 ls hl
              have hlt1644 : i1366 < 60 := by omega
              refine lv_iload_n hx hb dX12_choose_94 rfl (lv_at hl 0 rfl) ?_
              refine lv_iload_n hx hb dX12_choose_95 rfl (lv_at hl 3 rfl) ?_
              refine lv_icmp_ge (tgt := 158) hx hb dX12_choose_96 (by decide) (fun c1645 => ?_) (fun c1645 => ?_)
              · have t1646 : p0.toInt ≤ ((i1366 : Nat) : Int) := ti_le c1645 rfl (nI_toInt (by omega))
                refine lv_iload_n hx hb dX12_choose_158 rfl (lv_at hl 1 rfl) ?_
                exact W.iret (v := z1367) hx hb hr (fun t ht hW => ⟨⟨z1367, (V1368, V1370), rfl, (by exact (by rcases hj1390 with ⟨h8, h7, h6, h5⟩ | ⟨h8, h7, h6, h5⟩; (exact Or.inr ⟨⟨h7, h6⟩, fun h4 => by have := h4.1; omega⟩); exact Or.inl ⟨h7, ⟨by omega, by omega⟩, h6, h5⟩)), by (try dsimp only); rw [ht]; exact ⟨hT, hF, m1369, m1371⟩⟩, hS.F ht⟩) hS.2.2 dX12_choose_159
              · have t1647 : ((i1366 : Nat) : Int) < p0.toInt := ti_nle c1645 rfl (nI_toInt (by omega))
                rcases hj1390 with ⟨ha1649, rfl, rfl, hpo1650⟩ | ⟨hb1653, hzb1654, hfm1655, hno1656⟩
                · refine lv_aload_n hx hb dX12_choose_99 rfl (lv_at hl 2 rfl) ?_
                  have hFc := gA_free hG hA hS
                  refine va_calli (va_runV (As := []) (rest := []) ⟨hx, hb, hml, hown, hts⟩ (s_nextOneZ l dC dI kA adK adV G H q wZ wN wH wB wC wL wK wU wV PI im PM PT lS lB lE lN o0 sn V1386 hT hr_o0 m1388 (by have q8 := ti_all sn; omega) m1387 hgz hgn hgh hgb hgc hgi hgu) (cwV 0 hts (goodIn_app (goodIn_r _ [15, 16, 17, 5] rfl (by decide +kernel)) (goodIn_ca (goodIn_r _ [11, 10, 12, 13, 14] rfl (by decide +kernel)) (bs_in _ _))) rfl rfl rfl (by decide +kernel) ⟨(Nat.le_of_ble_eq_true rfl), (Nat.le_of_ble_eq_true rfl)⟩) ⟨fun a U g mk q => by obtain ⟨q0, q1, qK, qE⟩ := q; exact ⟨q0, q1, va_K.moved (u := U) (U := U.calling g mk a) (Vm.Alike.refl U.vm) qK, EVS.blind g mk a qE⟩, gH_rc hK hT hr_o0 shm_0 rfl, fun U hU hW => ⟨rfl, hU, va_K.moved hW.alike hK, hE.call hS hFc hU hW⟩⟩ rfl rfl hl.1 rfl (lv_room (Nat.le_of_ble_eq_true rfl)) dX12_choose_100 ⟨(Nat.le_of_ble_eq_true rfl), (Nat.le_of_ble_eq_true rfl)⟩) hS (fun q _ h => hFc q h) hFc (fun r1657 u t H locs ht hvm hw1658 hB _ _ hS => ?_)
                  obtain ⟨hT, hF1⟩ := hB
                  rw [ht] at hT hF1
                  have m1659 := m1369.kept (hF1.arr hg1 skm_39 (by decide))
                  have m1660 := m1371.kept (hF1.arr hg2 skm_47 (by decide))
                  have m1661 := m1372.kept (hF1.arr hg3 skm_40 (by decide))
                  have m1662 := m1373.kept (hF1.arr hg4 skm_32 (by decide))
                  have m1663 := m1374.kept (hF1.arr hg5 skm_33 (by decide))
                  have m1664 := m1375.kept (hF1.arr hg6 skm_34 (by decide))
                  have m1665 := m1376.kept (hF1.arr hg7 skm_35 (by decide))
                  have m1666 := m1377.kept (hF1.arr hg8 skm_36 (by decide))
                  have m1667 := m1378.kept (hF1.arr hg9 skm_37 (by decide))
                  have m1668 := m1379.kept (hF1.arr hg10 skm_41 (by decide))
                  have m1669 := m1380.kept (hF1.arr hg13 skm_20 (by decide))
                  have m1670 := m1381.kept (hF1.arr hg14 skm_25 (by decide))
                  have m1671 := m1382.kept (hF1.arr hg15 skm_26 (by decide))
                  have m1672 := m1383.kept (hF1.arr hg16 skm_27 (by decide))
                  have m1673 := m1384.kept (hF1.arr hg17 skm_28 (by decide))
                  have m1674 := m1385.kept (hF1.arr hg18 skm_19 (by decide))
                  have m1675 := m1387.kept (hF1.arr hg19 skm_52 (by decide))
                  have m1676 := (hF1.fld hr_o0 skm_0 (k := 42) (by decide) (by decide)).trans m1388
                  have m1677 := (hF1.fld hr_o0 skm_0 (k := 47) (by decide) (by decide)).trans m1389
                  have hF := hF.more hF1 (by decide)
                  try dsimp only at hw1658
                  obtain ⟨h1678, hf1679⟩ := hw1658
                  refine lv_istore (lv' := [(4, .int r1657), (3, .int (nI i1366)), (2, .int z1367), (0, .ref o0), (1, .int p0)]) hx hb dX12_choose_103 hl (by decide) rfl (fun ls hl => ?_)
                  refine lv_aload_n hx hb dX12_choose_105 rfl (lv_at hl 3 rfl) ?_
                  have hFc := gA_free hG hA hS
                  refine va_calli (va_runV (As := []) (rest := []) ⟨hx, hb, hml, hown, hts⟩ (s_bestFarmZ l dC dI kA adK adV G H q wZ wN wH wB wC wL wK wU wV PI im PM PT lS lB lE lN o0 fm vR hT hr_o0 m1677 (by have q8 := ti_all fm; omega) hnh m1660 hgz hgn hgh hgb hgc hgi hgu) (cwV 0 hts (goodIn_app (goodIn_r _ [38, 39, 40, 5] rfl (by decide +kernel)) (goodIn_ca (goodIn_r _ [18, 19, 20, 21, 22, 23, 24, 25, 26, 27, 28, 29, 30, 31, 2, 3, 4, 5, 32, 33, 34, 35, 36, 37] rfl (by decide +kernel)) (bs_in _ _))) rfl rfl rfl (by decide +kernel) ⟨(Nat.le_of_ble_eq_true rfl), (Nat.le_of_ble_eq_true rfl)⟩) ⟨fun a U g mk q => by obtain ⟨q0, q1, qK, qE⟩ := q; exact ⟨q0, q1, va_K.moved (u := U) (U := U.calling g mk a) (Vm.Alike.refl U.vm) qK, EVS.blind g mk a qE⟩, gH_rc hK hT hr_o0 shm_0 rfl, fun U hU hW => ⟨rfl, hU, va_K.moved hW.alike hK, hE.call hS hFc hU hW⟩⟩ rfl rfl hl.1 rfl (lv_room (Nat.le_of_ble_eq_true rfl)) dX12_choose_106 ⟨(Nat.le_of_ble_eq_true rfl), (Nat.le_of_ble_eq_true rfl)⟩) hS (fun q _ h => hFc q h) hFc (fun r1680 u t H locs ht hvm hw1681 hB _ _ hS => ?_)
                  obtain ⟨hT, hF1⟩ := hB
                  rw [ht] at hT hF1
                  have m1682 := m1659.kept (hF1.arr hg1 skm_39 (by decide))
                  have m1683 := m1660.kept (hF1.arr hg2 skm_47 (by decide))
                  have m1684 := m1661.kept (hF1.arr hg3 skm_40 (by decide))
                  have m1685 := m1662.kept (hF1.arr hg4 skm_32 (by decide))
                  have m1686 := m1663.kept (hF1.arr hg5 skm_33 (by decide))
                  have m1687 := m1664.kept (hF1.arr hg6 skm_34 (by decide))
                  have m1688 := m1665.kept (hF1.arr hg7 skm_35 (by decide))
                  have m1689 := m1666.kept (hF1.arr hg8 skm_36 (by decide))
                  have m1690 := m1667.kept (hF1.arr hg9 skm_37 (by decide))
                  have m1691 := m1668.kept (hF1.arr hg10 skm_41 (by decide))
                  have m1692 := m1669.kept (hF1.arr hg13 skm_20 (by decide))
                  have m1693 := m1670.kept (hF1.arr hg14 skm_25 (by decide))
                  have m1694 := m1671.kept (hF1.arr hg15 skm_26 (by decide))
                  have m1695 := m1672.kept (hF1.arr hg16 skm_27 (by decide))
                  have m1696 := m1673.kept (hF1.arr hg17 skm_28 (by decide))
                  have m1697 := m1674.kept (hF1.arr hg18 skm_19 (by decide))
                  have m1698 := m1675.kept (hF1.arr hg19 skm_52 (by decide))
                  have m1699 := (hF1.fld hr_o0 skm_0 (k := 42) (by decide) (by decide)).trans m1676
                  have m1700 := (hF1.fld hr_o0 skm_0 (k := 47) (by decide) (by decide)).trans m1677
                  have hF := hF.more hF1 (by decide)
                  try dsimp only at hw1681
                  obtain ⟨h1701, hf1702⟩ := hw1681
                  refine lv_istore (lv' := [(5, .int r1680), (4, .int r1657), (3, .int (nI i1366)), (2, .int z1367), (0, .ref o0), (1, .int p0)]) hx hb dX12_choose_109 hl (by decide) rfl (fun ls hl => ?_)
                  refine lv_iload hx hb dX12_choose_111 (lv_at hl 1 rfl) ?_
                  refine lv_if_lt (tgt := 121) hx hb dX12_choose_113 (by decide) (fun c1703 => ?_) (fun c1703 => ?_)
                  · have t1704 : r1657.toInt < 0 := ti_lt c1703 rfl (by decide)
                    refine lv_iload_n hx hb dX12_choose_121 rfl (lv_at hl 3 rfl) ?_
                    exact W.iret (v := z1367) hx hb hr (fun t ht hW => ⟨⟨z1367, (vH, vR), rfl, (by exact (Or.inr ⟨⟨rfl, rfl⟩, fun h8 => by have := h8.2.1; have n9 := h8.2.2; rcases hf1679 with ⟨h7, h6⟩ | ⟨h7, h6, h5⟩; (exact (hpo1650.no (by have := tn_of (show sn.toInt = sn.toInt from rfl) (by omega); omega) h6) n9); omega⟩)), by (try dsimp only); rw [ht]; exact ⟨hT, hF, m1682, m1683⟩⟩, hS.F ht⟩) hS.2.2 dX12_choose_122
                  · have t1705 : 0 ≤ r1657.toInt := ti_nlt c1703 rfl (by decide)
                    refine lv_iload hx hb dX12_choose_116 (lv_at hl 0 rfl) ?_
                    refine lv_if_ge (tgt := 123) hx hb dX12_choose_118 (by decide) (fun c1706 => ?_) (fun c1706 => ?_)
                    · have t1707 : 0 ≤ r1680.toInt := ti_le c1706 (by decide) rfl
                      refine lv_aload_n hx hb dX12_choose_123 rfl (lv_at hl 4 rfl) ?_
                      refine tw_get hx hb hts bF_X12 hown hK hT hr_o0 shm_0 rfl 51 (by decide) (ht_at hts 11 rfl) (fun _ h9 => h9) dX12_choose_124 (fun v9 m1708 h9 => ?_)
                      obtain ⟨rfl, hg1709⟩ := h9 _ rfl
                      refine lv_iload hx hb dX12_choose_127 (lv_at hl 1 rfl) ?_
                      refine lv_iconst (v := 0) hx hb dX12_choose_129 (by decide) ?_
                      refine tw_zast (i := r1657) (x := 0) hx hb hK hT hG hS hg19 shm_52 rfl (vin_t (a := r1657.toInt) rfl (by omega) (by omega)) (gi_z (rg_t (a := 0) (by decide) (by first | decide | omega) (by first | decide | omega)) (by decide) (by decide)) dX12_choose_130 (fun H locs hT oq m1710 oi hS => ?_)
                      have hF := hF.ast hg19 skm_52 oq (by decide)
                      have m1711 := m1682.kept (oq _ (gne hg1 hg19 (by decide)))
                      have m1712 := m1683.kept (oq _ (gne hg2 hg19 (by decide)))
                      have m1713 := m1684.kept (oq _ (gne hg3 hg19 (by decide)))
                      have m1714 := m1685.kept (oq _ (gne hg4 hg19 (by decide)))
                      have m1715 := m1686.kept (oq _ (gne hg5 hg19 (by decide)))
                      have m1716 := m1687.kept (oq _ (gne hg6 hg19 (by decide)))
                      have m1717 := m1688.kept (oq _ (gne hg7 hg19 (by decide)))
                      have m1718 := m1689.kept (oq _ (gne hg8 hg19 (by decide)))
                      have m1719 := m1690.kept (oq _ (gne hg9 hg19 (by decide)))
                      have m1720 := m1691.kept (oq _ (gne hg10 hg19 (by decide)))
                      have m1721 := m1692.kept (oq _ (gne hg13 hg19 (by decide)))
                      have m1722 := m1693.kept (oq _ (gne hg14 hg19 (by decide)))
                      have m1723 := m1694.kept (oq _ (gne hg15 hg19 (by decide)))
                      have m1724 := m1695.kept (oq _ (gne hg16 hg19 (by decide)))
                      have m1725 := m1696.kept (oq _ (gne hg17 hg19 (by decide)))
                      have m1726 := m1697.kept (oq _ (gne hg18 hg19 (by decide)))
                      have m1727 := m1698.put (show el H (q 51) _ = some (.int 0) from m1710) oi
                      have m1728 := (el_kept (oq _ (gne hr_o0 hg19 (by decide)))).trans m1699
                      have m1729 := (el_kept (oq _ (gne hr_o0 hg19 (by decide)))).trans m1700
                      refine lv_aload_n hx hb dX12_choose_131 rfl (lv_at hl 4 rfl) ?_
                      refine tw_get hx hb hts bF_X12 hown hK hT hr_o0 shm_0 rfl 38 (by decide) (ht_at hts 40 rfl) (fun _ h9 => h9) dX12_choose_132 (fun v9 m1730 h9 => ?_)
                      obtain ⟨rfl, hg1731⟩ := h9 _ rfl
                      refine lv_iload hx hb dX12_choose_135 (lv_at hl 1 rfl) ?_
                      refine lv_iload hx hb dX12_choose_137 (lv_at hl 0 rfl) ?_
                      refine tw_iast (i := r1657) (x := r1680) hx hb hK hT hG hS hg1 shm_39 rfl (vin_t (a := r1657.toInt) rfl (by omega) (by omega)) (gi_of (show r1680.toInt = r1680.toInt from rfl) (by omega) (by omega)) dX12_choose_139 (fun H locs hT oq m1732 oi hS => ?_)
                      have hF := hF.ast hg1 skm_39 oq (by decide)
                      have m1733 := m1711.put m1732 oi
                      have m1734 := m1712.kept (oq _ (gne hg2 hg1 (by decide)))
                      have m1735 := m1713.kept (oq _ (gne hg3 hg1 (by decide)))
                      have m1736 := m1714.kept (oq _ (gne hg4 hg1 (by decide)))
                      have m1737 := m1715.kept (oq _ (gne hg5 hg1 (by decide)))
                      have m1738 := m1716.kept (oq _ (gne hg6 hg1 (by decide)))
                      have m1739 := m1717.kept (oq _ (gne hg7 hg1 (by decide)))
                      have m1740 := m1718.kept (oq _ (gne hg8 hg1 (by decide)))
                      have m1741 := m1719.kept (oq _ (gne hg9 hg1 (by decide)))
                      have m1742 := m1720.kept (oq _ (gne hg10 hg1 (by decide)))
                      have m1743 := m1721.kept (oq _ (gne hg13 hg1 (by decide)))
                      have m1744 := m1722.kept (oq _ (gne hg14 hg1 (by decide)))
                      have m1745 := m1723.kept (oq _ (gne hg15 hg1 (by decide)))
                      have m1746 := m1724.kept (oq _ (gne hg16 hg1 (by decide)))
                      have m1747 := m1725.kept (oq _ (gne hg17 hg1 (by decide)))
                      have m1748 := m1726.kept (oq _ (gne hg18 hg1 (by decide)))
                      have m1749 := m1727.kept (oq _ (gne hg19 hg1 (by decide)))
                      have m1750 := (el_kept (oq _ (gne hr_o0 hg1 (by decide)))).trans m1728
                      have m1751 := (el_kept (oq _ (gne hr_o0 hg1 (by decide)))).trans m1729
                      refine lv_aload_n hx hb dX12_choose_140 rfl (lv_at hl 4 rfl) ?_
                      refine tw_get hx hb hts bF_X12 hown hK hT hr_o0 shm_0 rfl 46 (by decide) (ht_at hts 19 rfl) (fun _ h9 => h9) dX12_choose_141 (fun v9 m1752 h9 => ?_)
                      obtain ⟨rfl, hg1753⟩ := h9 _ rfl
                      refine lv_iload hx hb dX12_choose_144 (lv_at hl 0 rfl) ?_
                      refine lv_iload hx hb dX12_choose_146 (lv_at hl 1 rfl) ?_
                      refine tw_iast (i := r1680) (x := r1657) hx hb hK hT hG hS hg2 shm_47 rfl (vin_t (a := r1680.toInt) rfl (by omega) (by omega)) (gi_of (show r1657.toInt = r1657.toInt from rfl) (by omega) (by omega)) dX12_choose_148 (fun H locs hT oq m1754 oi hS => ?_)
                      have hF := hF.ast hg2 skm_47 oq (by decide)
                      have m1755 := m1733.kept (oq _ (gne hg1 hg2 (by decide)))
                      have m1756 := m1734.put m1754 oi
                      have m1757 := m1735.kept (oq _ (gne hg3 hg2 (by decide)))
                      have m1758 := m1736.kept (oq _ (gne hg4 hg2 (by decide)))
                      have m1759 := m1737.kept (oq _ (gne hg5 hg2 (by decide)))
                      have m1760 := m1738.kept (oq _ (gne hg6 hg2 (by decide)))
                      have m1761 := m1739.kept (oq _ (gne hg7 hg2 (by decide)))
                      have m1762 := m1740.kept (oq _ (gne hg8 hg2 (by decide)))
                      have m1763 := m1741.kept (oq _ (gne hg9 hg2 (by decide)))
                      have m1764 := m1742.kept (oq _ (gne hg10 hg2 (by decide)))
                      have m1765 := m1743.kept (oq _ (gne hg13 hg2 (by decide)))
                      have m1766 := m1744.kept (oq _ (gne hg14 hg2 (by decide)))
                      have m1767 := m1745.kept (oq _ (gne hg15 hg2 (by decide)))
                      have m1768 := m1746.kept (oq _ (gne hg16 hg2 (by decide)))
                      have m1769 := m1747.kept (oq _ (gne hg17 hg2 (by decide)))
                      have m1770 := m1748.kept (oq _ (gne hg18 hg2 (by decide)))
                      have m1771 := m1749.kept (oq _ (gne hg19 hg2 (by decide)))
                      have m1772 := (el_kept (oq _ (gne hr_o0 hg2 (by decide)))).trans m1750
                      have m1773 := (el_kept (oq _ (gne hr_o0 hg2 (by decide)))).trans m1751
                      have m1774 := (el_kept (oq _ (gne hg1 hg2 (by decide)))).trans m1732
                      obtain ⟨x1775, ex1775⟩ : ∃ y : Int32, y = z1367 + 1 := ⟨_, rfl⟩
                      refine lv_iinc (v := x1775) (lv' := [(2, .int x1775), (5, .int r1680), (4, .int r1657), (3, .int (nI i1366)), (0, .ref o0), (1, .int p0)]) hx hb dX12_choose_149 hl (k := 3) rfl (by first | (rw [ex1775]; done) | (rw [ex1775]; rfl)) (by decide) rfl (fun ls hl => ?_)
                      refine lv_iinc (v := nI (i1366 + 1)) (lv' := [(3, .int (nI (i1366 + 1))), (2, .int x1775), (5, .int r1680), (4, .int r1657), (0, .ref o0), (1, .int p0)]) hx hb dX12_choose_152 hl (k := 3) rfl (nI_add i1366 1) (by decide) rfl (fun ls hl => ?_)
                      refine lv_goto (tgt := 94) hx hb dX12_choose_155 (by decide) ?_
                      exact ih1641 (i1366 + 1) (by omega) (by omega) x1775 (cu vH r1657.toNatClampNeg r1680) (cu vR r1680.toNatClampNeg r1657) (cu V1386 r1657.toNatClampNeg (0 : Int32)) (Or.inr ⟨by omega, zHb_at (by have := tn_of (show r1657.toInt = r1657.toInt from rfl) (by omega); omega) (by have := (show r1680.toInt = r1680.toInt from rfl); omega), by omega, hpo1650.yes (by have := tn_of (show sn.toInt = sn.toInt from rfl) (by omega); omega) ((hf1679.resolve_left (fun h8 => by have := h8.1; omega)).2.2)⟩) _ _ hT hF hS m1755 m1756 m1757 m1758 m1759 m1760 m1761 m1762 m1763 m1764 m1765 m1766 m1767 m1768 m1769 m1770 m1771 m1772 m1773 ls (lv_sub hl [0, 1, 4, 5] rfl)
                    · have t1776 : r1680.toInt < 0 := ti_nle c1706 (by decide) rfl
                      refine lv_iload_n hx hb dX12_choose_121 rfl (lv_at hl 3 rfl) ?_
                      exact W.iret (v := z1367) hx hb hr (fun t ht hW => ⟨⟨z1367, (vH, vR), rfl, (by exact (Or.inr ⟨⟨rfl, rfl⟩, fun h8 => by have := h8.2.1; have n9 := h8.2.2; rcases hf1679 with ⟨h7, h6⟩ | ⟨h7, h6, h5⟩; (exact (hpo1650.no (by have := tn_of (show sn.toInt = sn.toInt from rfl) (by omega); omega) h6) n9); omega⟩)), by (try dsimp only); rw [ht]; exact ⟨hT, hF, m1682, m1683⟩⟩, hS.F ht⟩) hS.2.2 dX12_choose_122
                · refine lv_aload_n hx hb dX12_choose_99 rfl (lv_at hl 2 rfl) ?_
                  have hFc := gA_free hG hA hS
                  refine va_calli (va_runV (As := []) (rest := []) ⟨hx, hb, hml, hown, hts⟩ (s_nextOne l dC dI kA adK adV G H q wZ wN wH wB wC wL wK wU wV PI im PM PT lS lB lE lN o0 hT hr_o0 hgz hgn hgh hgb hgc hgi hgu) (cwV 0 hts (goodIn_app (goodIn_r _ [15, 16, 17, 5] rfl (by decide +kernel)) (goodIn_ca (goodIn_r _ [11, 10, 12, 13, 14] rfl (by decide +kernel)) (bs_in _ _))) rfl rfl rfl (by decide +kernel) ⟨(Nat.le_of_ble_eq_true rfl), (Nat.le_of_ble_eq_true rfl)⟩) ⟨fun a U g mk q => by obtain ⟨q0, q1, qK, qE⟩ := q; exact ⟨q0, q1, va_K.moved (u := U) (U := U.calling g mk a) (Vm.Alike.refl U.vm) qK, EVS.blind g mk a qE⟩, gH_rc hK hT hr_o0 shm_0 rfl, fun U hU hW => ⟨rfl, hU, va_K.moved hW.alike hK, hE.call hS hFc hU hW⟩⟩ rfl rfl hl.1 rfl (lv_room (Nat.le_of_ble_eq_true rfl)) dX12_choose_100 ⟨(Nat.le_of_ble_eq_true rfl), (Nat.le_of_ble_eq_true rfl)⟩) hS (fun q _ h => hFc q h) hFc (fun r1777 u t H locs ht hvm hw1778 hB _ _ hS => ?_)
                  obtain ⟨hT, hF1⟩ := hB
                  rw [ht] at hT hF1
                  have m1779 := m1369.kept (hF1.arr hg1 skm_39 (by decide))
                  have m1780 := m1371.kept (hF1.arr hg2 skm_47 (by decide))
                  have m1781 := m1372.kept (hF1.arr hg3 skm_40 (by decide))
                  have m1782 := m1373.kept (hF1.arr hg4 skm_32 (by decide))
                  have m1783 := m1374.kept (hF1.arr hg5 skm_33 (by decide))
                  have m1784 := m1375.kept (hF1.arr hg6 skm_34 (by decide))
                  have m1785 := m1376.kept (hF1.arr hg7 skm_35 (by decide))
                  have m1786 := m1377.kept (hF1.arr hg8 skm_36 (by decide))
                  have m1787 := m1378.kept (hF1.arr hg9 skm_37 (by decide))
                  have m1788 := m1379.kept (hF1.arr hg10 skm_41 (by decide))
                  have m1789 := m1380.kept (hF1.arr hg13 skm_20 (by decide))
                  have m1790 := m1381.kept (hF1.arr hg14 skm_25 (by decide))
                  have m1791 := m1382.kept (hF1.arr hg15 skm_26 (by decide))
                  have m1792 := m1383.kept (hF1.arr hg16 skm_27 (by decide))
                  have m1793 := m1384.kept (hF1.arr hg17 skm_28 (by decide))
                  have m1794 := m1385.kept (hF1.arr hg18 skm_19 (by decide))
                  have m1795 := m1387.kept (hF1.arr hg19 skm_52 (by decide))
                  have m1796 := (hF1.fld hr_o0 skm_0 (k := 42) (by decide) (by decide)).trans m1388
                  have m1797 := (hF1.fld hr_o0 skm_0 (k := 47) (by decide) (by decide)).trans m1389
                  have hF := hF.more hF1 (by decide)
                  try dsimp only at hw1778
                  have h1798 := hw1778
                  refine lv_istore (lv' := [(4, .int r1777), (3, .int (nI i1366)), (2, .int z1367), (0, .ref o0), (1, .int p0)]) hx hb dX12_choose_103 hl (by decide) rfl (fun ls hl => ?_)
                  refine lv_aload_n hx hb dX12_choose_105 rfl (lv_at hl 3 rfl) ?_
                  have hFc := gA_free hG hA hS
                  refine va_calli (va_runV (As := []) (rest := []) ⟨hx, hb, hml, hown, hts⟩ (s_bestFarm l dC dI kA adK adV G H q wZ wN wH wB wC wL wK wU wV PI im PM PT lS lB lE lN o0 hT hr_o0 hgz hgn hgh hgb hgc hgi hgu) (cwV 0 hts (goodIn_app (goodIn_r _ [38, 39, 40, 5] rfl (by decide +kernel)) (goodIn_ca (goodIn_r _ [18, 19, 20, 21, 22, 23, 24, 25, 26, 27, 28, 29, 30, 31, 2, 3, 4, 5, 32, 33, 34, 35, 36, 37] rfl (by decide +kernel)) (bs_in _ _))) rfl rfl rfl (by decide +kernel) ⟨(Nat.le_of_ble_eq_true rfl), (Nat.le_of_ble_eq_true rfl)⟩) ⟨fun a U g mk q => by obtain ⟨q0, q1, qK, qE⟩ := q; exact ⟨q0, q1, va_K.moved (u := U) (U := U.calling g mk a) (Vm.Alike.refl U.vm) qK, EVS.blind g mk a qE⟩, gH_rc hK hT hr_o0 shm_0 rfl, fun U hU hW => ⟨rfl, hU, va_K.moved hW.alike hK, hE.call hS hFc hU hW⟩⟩ rfl rfl hl.1 rfl (lv_room (Nat.le_of_ble_eq_true rfl)) dX12_choose_106 ⟨(Nat.le_of_ble_eq_true rfl), (Nat.le_of_ble_eq_true rfl)⟩) hS (fun q _ h => hFc q h) hFc (fun r1799 u t H locs ht hvm hw1800 hB _ _ hS => ?_)
                  obtain ⟨hT, hF1⟩ := hB
                  rw [ht] at hT hF1
                  have m1801 := m1779.kept (hF1.arr hg1 skm_39 (by decide))
                  have m1802 := m1780.kept (hF1.arr hg2 skm_47 (by decide))
                  have m1803 := m1781.kept (hF1.arr hg3 skm_40 (by decide))
                  have m1804 := m1782.kept (hF1.arr hg4 skm_32 (by decide))
                  have m1805 := m1783.kept (hF1.arr hg5 skm_33 (by decide))
                  have m1806 := m1784.kept (hF1.arr hg6 skm_34 (by decide))
                  have m1807 := m1785.kept (hF1.arr hg7 skm_35 (by decide))
                  have m1808 := m1786.kept (hF1.arr hg8 skm_36 (by decide))
                  have m1809 := m1787.kept (hF1.arr hg9 skm_37 (by decide))
                  have m1810 := m1788.kept (hF1.arr hg10 skm_41 (by decide))
                  have m1811 := m1789.kept (hF1.arr hg13 skm_20 (by decide))
                  have m1812 := m1790.kept (hF1.arr hg14 skm_25 (by decide))
                  have m1813 := m1791.kept (hF1.arr hg15 skm_26 (by decide))
                  have m1814 := m1792.kept (hF1.arr hg16 skm_27 (by decide))
                  have m1815 := m1793.kept (hF1.arr hg17 skm_28 (by decide))
                  have m1816 := m1794.kept (hF1.arr hg18 skm_19 (by decide))
                  have m1817 := m1795.kept (hF1.arr hg19 skm_52 (by decide))
                  have m1818 := (hF1.fld hr_o0 skm_0 (k := 42) (by decide) (by decide)).trans m1796
                  have m1819 := (hF1.fld hr_o0 skm_0 (k := 47) (by decide) (by decide)).trans m1797
                  have hF := hF.more hF1 (by decide)
                  try dsimp only at hw1800
                  have h1820 := hw1800
                  refine lv_istore (lv' := [(5, .int r1799), (4, .int r1777), (3, .int (nI i1366)), (2, .int z1367), (0, .ref o0), (1, .int p0)]) hx hb dX12_choose_109 hl (by decide) rfl (fun ls hl => ?_)
                  refine lv_iload hx hb dX12_choose_111 (lv_at hl 1 rfl) ?_
                  refine lv_if_lt (tgt := 121) hx hb dX12_choose_113 (by decide) (fun c1821 => ?_) (fun c1821 => ?_)
                  · have t1822 : r1777.toInt < 0 := ti_lt c1821 rfl (by decide)
                    refine lv_iload_n hx hb dX12_choose_121 rfl (lv_at hl 3 rfl) ?_
                    exact W.iret (v := z1367) hx hb hr (fun t ht hW => ⟨⟨z1367, (V1368, V1370), rfl, (by exact (Or.inl ⟨hzb1654, ⟨by omega, by omega⟩, hfm1655, hno1656⟩)), by (try dsimp only); rw [ht]; exact ⟨hT, hF, m1801, m1802⟩⟩, hS.F ht⟩) hS.2.2 dX12_choose_122
                  · have t1823 : 0 ≤ r1777.toInt := ti_nlt c1821 rfl (by decide)
                    refine lv_iload hx hb dX12_choose_116 (lv_at hl 0 rfl) ?_
                    refine lv_if_ge (tgt := 123) hx hb dX12_choose_118 (by decide) (fun c1824 => ?_) (fun c1824 => ?_)
                    · have t1825 : 0 ≤ r1799.toInt := ti_le c1824 (by decide) rfl
                      refine lv_aload_n hx hb dX12_choose_123 rfl (lv_at hl 4 rfl) ?_
                      refine tw_get hx hb hts bF_X12 hown hK hT hr_o0 shm_0 rfl 51 (by decide) (ht_at hts 11 rfl) (fun _ h9 => h9) dX12_choose_124 (fun v9 m1826 h9 => ?_)
                      obtain ⟨rfl, hg1827⟩ := h9 _ rfl
                      refine lv_iload hx hb dX12_choose_127 (lv_at hl 1 rfl) ?_
                      refine lv_iconst (v := 0) hx hb dX12_choose_129 (by decide) ?_
                      refine tw_zast (i := r1777) (x := 0) hx hb hK hT hG hS hg19 shm_52 rfl (vin_t (a := r1777.toInt) rfl (by omega) (by omega)) (gi_z (rg_t (a := 0) (by decide) (by first | decide | omega) (by first | decide | omega)) (by decide) (by decide)) dX12_choose_130 (fun H locs hT oq m1828 oi hS => ?_)
                      have hF := hF.ast hg19 skm_52 oq (by decide)
                      have m1829 := m1801.kept (oq _ (gne hg1 hg19 (by decide)))
                      have m1830 := m1802.kept (oq _ (gne hg2 hg19 (by decide)))
                      have m1831 := m1803.kept (oq _ (gne hg3 hg19 (by decide)))
                      have m1832 := m1804.kept (oq _ (gne hg4 hg19 (by decide)))
                      have m1833 := m1805.kept (oq _ (gne hg5 hg19 (by decide)))
                      have m1834 := m1806.kept (oq _ (gne hg6 hg19 (by decide)))
                      have m1835 := m1807.kept (oq _ (gne hg7 hg19 (by decide)))
                      have m1836 := m1808.kept (oq _ (gne hg8 hg19 (by decide)))
                      have m1837 := m1809.kept (oq _ (gne hg9 hg19 (by decide)))
                      have m1838 := m1810.kept (oq _ (gne hg10 hg19 (by decide)))
                      have m1839 := m1811.kept (oq _ (gne hg13 hg19 (by decide)))
                      have m1840 := m1812.kept (oq _ (gne hg14 hg19 (by decide)))
                      have m1841 := m1813.kept (oq _ (gne hg15 hg19 (by decide)))
                      have m1842 := m1814.kept (oq _ (gne hg16 hg19 (by decide)))
                      have m1843 := m1815.kept (oq _ (gne hg17 hg19 (by decide)))
                      have m1844 := m1816.kept (oq _ (gne hg18 hg19 (by decide)))
                      have m1845 := m1817.put (show el H (q 51) _ = some (.int 0) from m1828) oi
                      have m1846 := (el_kept (oq _ (gne hr_o0 hg19 (by decide)))).trans m1818
                      have m1847 := (el_kept (oq _ (gne hr_o0 hg19 (by decide)))).trans m1819
                      refine lv_aload_n hx hb dX12_choose_131 rfl (lv_at hl 4 rfl) ?_
                      refine tw_get hx hb hts bF_X12 hown hK hT hr_o0 shm_0 rfl 38 (by decide) (ht_at hts 40 rfl) (fun _ h9 => h9) dX12_choose_132 (fun v9 m1848 h9 => ?_)
                      obtain ⟨rfl, hg1849⟩ := h9 _ rfl
                      refine lv_iload hx hb dX12_choose_135 (lv_at hl 1 rfl) ?_
                      refine lv_iload hx hb dX12_choose_137 (lv_at hl 0 rfl) ?_
                      refine tw_iast (i := r1777) (x := r1799) hx hb hK hT hG hS hg1 shm_39 rfl (vin_t (a := r1777.toInt) rfl (by omega) (by omega)) (gi_of (show r1799.toInt = r1799.toInt from rfl) (by omega) (by omega)) dX12_choose_139 (fun H locs hT oq m1850 oi hS => ?_)
                      have hF := hF.ast hg1 skm_39 oq (by decide)
                      have m1851 := m1829.put m1850 oi
                      have m1852 := m1830.kept (oq _ (gne hg2 hg1 (by decide)))
                      have m1853 := m1831.kept (oq _ (gne hg3 hg1 (by decide)))
                      have m1854 := m1832.kept (oq _ (gne hg4 hg1 (by decide)))
                      have m1855 := m1833.kept (oq _ (gne hg5 hg1 (by decide)))
                      have m1856 := m1834.kept (oq _ (gne hg6 hg1 (by decide)))
                      have m1857 := m1835.kept (oq _ (gne hg7 hg1 (by decide)))
                      have m1858 := m1836.kept (oq _ (gne hg8 hg1 (by decide)))
                      have m1859 := m1837.kept (oq _ (gne hg9 hg1 (by decide)))
                      have m1860 := m1838.kept (oq _ (gne hg10 hg1 (by decide)))
                      have m1861 := m1839.kept (oq _ (gne hg13 hg1 (by decide)))
                      have m1862 := m1840.kept (oq _ (gne hg14 hg1 (by decide)))
                      have m1863 := m1841.kept (oq _ (gne hg15 hg1 (by decide)))
                      have m1864 := m1842.kept (oq _ (gne hg16 hg1 (by decide)))
                      have m1865 := m1843.kept (oq _ (gne hg17 hg1 (by decide)))
                      have m1866 := m1844.kept (oq _ (gne hg18 hg1 (by decide)))
                      have m1867 := m1845.kept (oq _ (gne hg19 hg1 (by decide)))
                      have m1868 := (el_kept (oq _ (gne hr_o0 hg1 (by decide)))).trans m1846
                      have m1869 := (el_kept (oq _ (gne hr_o0 hg1 (by decide)))).trans m1847
                      refine lv_aload_n hx hb dX12_choose_140 rfl (lv_at hl 4 rfl) ?_
                      refine tw_get hx hb hts bF_X12 hown hK hT hr_o0 shm_0 rfl 46 (by decide) (ht_at hts 19 rfl) (fun _ h9 => h9) dX12_choose_141 (fun v9 m1870 h9 => ?_)
                      obtain ⟨rfl, hg1871⟩ := h9 _ rfl
                      refine lv_iload hx hb dX12_choose_144 (lv_at hl 0 rfl) ?_
                      refine lv_iload hx hb dX12_choose_146 (lv_at hl 1 rfl) ?_
                      refine tw_iast (i := r1799) (x := r1777) hx hb hK hT hG hS hg2 shm_47 rfl (vin_t (a := r1799.toInt) rfl (by omega) (by omega)) (gi_of (show r1777.toInt = r1777.toInt from rfl) (by omega) (by omega)) dX12_choose_148 (fun H locs hT oq m1872 oi hS => ?_)
                      have hF := hF.ast hg2 skm_47 oq (by decide)
                      have m1873 := m1851.kept (oq _ (gne hg1 hg2 (by decide)))
                      have m1874 := m1852.put m1872 oi
                      have m1875 := m1853.kept (oq _ (gne hg3 hg2 (by decide)))
                      have m1876 := m1854.kept (oq _ (gne hg4 hg2 (by decide)))
                      have m1877 := m1855.kept (oq _ (gne hg5 hg2 (by decide)))
                      have m1878 := m1856.kept (oq _ (gne hg6 hg2 (by decide)))
                      have m1879 := m1857.kept (oq _ (gne hg7 hg2 (by decide)))
                      have m1880 := m1858.kept (oq _ (gne hg8 hg2 (by decide)))
                      have m1881 := m1859.kept (oq _ (gne hg9 hg2 (by decide)))
                      have m1882 := m1860.kept (oq _ (gne hg10 hg2 (by decide)))
                      have m1883 := m1861.kept (oq _ (gne hg13 hg2 (by decide)))
                      have m1884 := m1862.kept (oq _ (gne hg14 hg2 (by decide)))
                      have m1885 := m1863.kept (oq _ (gne hg15 hg2 (by decide)))
                      have m1886 := m1864.kept (oq _ (gne hg16 hg2 (by decide)))
                      have m1887 := m1865.kept (oq _ (gne hg17 hg2 (by decide)))
                      have m1888 := m1866.kept (oq _ (gne hg18 hg2 (by decide)))
                      have m1889 := m1867.kept (oq _ (gne hg19 hg2 (by decide)))
                      have m1890 := (el_kept (oq _ (gne hr_o0 hg2 (by decide)))).trans m1868
                      have m1891 := (el_kept (oq _ (gne hr_o0 hg2 (by decide)))).trans m1869
                      have m1892 := (el_kept (oq _ (gne hg1 hg2 (by decide)))).trans m1850
                      obtain ⟨x1893, ex1893⟩ : ∃ y : Int32, y = z1367 + 1 := ⟨_, rfl⟩
                      refine lv_iinc (v := x1893) (lv' := [(2, .int x1893), (5, .int r1799), (4, .int r1777), (3, .int (nI i1366)), (0, .ref o0), (1, .int p0)]) hx hb dX12_choose_149 hl (k := 3) rfl (by first | (rw [ex1893]; done) | (rw [ex1893]; rfl)) (by decide) rfl (fun ls hl => ?_)
                      refine lv_iinc (v := nI (i1366 + 1)) (lv' := [(3, .int (nI (i1366 + 1))), (2, .int x1893), (5, .int r1799), (4, .int r1777), (0, .ref o0), (1, .int p0)]) hx hb dX12_choose_152 hl (k := 3) rfl (nI_add i1366 1) (by decide) rfl (fun ls hl => ?_)
                      refine lv_goto (tgt := 94) hx hb dX12_choose_155 (by decide) ?_
                      exact ih1641 (i1366 + 1) (by omega) (by omega) x1893 (cu V1368 r1777.toNatClampNeg r1799) (cu V1370 r1799.toNatClampNeg r1777) (cu V1386 r1777.toNatClampNeg (0 : Int32)) (Or.inr ⟨by omega, zHb_cu hzb1654 (by have := (show r1799.toInt = r1799.toInt from rfl); omega), hfm1655, hno1656⟩) _ _ hT hF hS m1873 m1874 m1875 m1876 m1877 m1878 m1879 m1880 m1881 m1882 m1883 m1884 m1885 m1886 m1887 m1888 m1889 m1890 m1891 ls (lv_sub hl [0, 1, 4, 5] rfl)
                    · have t1894 : r1799.toInt < 0 := ti_nle c1824 (by decide) rfl
                      refine lv_iload_n hx hb dX12_choose_121 rfl (lv_at hl 3 rfl) ?_
                      exact W.iret (v := z1367) hx hb hr (fun t ht hW => ⟨⟨z1367, (V1368, V1370), rfl, (by exact (Or.inl ⟨hzb1654, ⟨by omega, by omega⟩, hfm1655, hno1656⟩)), by (try dsimp only); rw [ht]; exact ⟨hT, hF, m1801, m1802⟩⟩, hS.F ht⟩) hS.2.2 dX12_choose_122
          exact key1641 (60 - 0) 0 (by omega) (Nat.le_refl _) 0 vH vR V118 (Or.inl ⟨by omega, rfl, rfl, by rw [show sn.toNatClampNeg = i101 from by have := tn_of (show sn.toInt = sn.toInt from rfl) (by omega); omega]; exact hj122⟩) _ _ hT hF hS m102 m103 m104 m105 m106 m107 m108 m109 m110 m111 m112 m113 m114 m115 m116 m117 m119 m120 m121 ls (lv_sub hl [0, 1, 2, 3] rfl)
        · have t1895 : ((i101 : Nat) : Int) < sn.toInt := ti_nle c1364 rfl (nI_toInt (by omega))
          refine lv_aload_n hx hb dX12_choose_40 rfl (lv_at hl 1 rfl) ?_
          refine tw_get hx hb hts bF_X12 hown hK hT hr_o0 shm_0 rfl 51 (by decide) (ht_at hts 11 rfl) (fun _ h9 => h9) dX12_choose_41 (fun v9 m1896 h9 => ?_)
          obtain ⟨rfl, hg1897⟩ := h9 _ rfl
          refine lv_iload_n hx hb dX12_choose_44 rfl (lv_at hl 0 rfl) ?_
          refine lv_aload_n hx hb dX12_choose_45 rfl (lv_at hl 1 rfl) ?_
          refine tw_get hx hb hts bF_X12 hown hK hT hr_o0 shm_0 rfl 38 (by decide) (ht_at hts 40 rfl) (fun _ h9 => h9) dX12_choose_46 (fun v9 m1898 h9 => ?_)
          obtain ⟨rfl, hg1899⟩ := h9 _ rfl
          refine lv_iload_n hx hb dX12_choose_49 rfl (lv_at hl 0 rfl) ?_
          refine tw_iald (i := (nI i101)) hx hb hK hT hg1 shm_39 rfl (vp_in_nI (by omega) (by decide)) dX12_choose_50 (fun v9 m1900 h9 => ?_)
          obtain ⟨x1901, rfl, gx1901, kx1901⟩ := h9
          have cx1901 := m102.at m1900 (by have q9 := tn_of (show (nI i101).toInt = ((i101 : Nat) : Int) from (nI_toInt (by omega))) (by omega); omega)
          have t1902 : x1901.toInt < 0 := (by rw [cx1901, tn_nI (by omega)]; exact hall i101 (by omega))
          refine lv_if_ge (tgt := 70) hx hb dX12_choose_51 (by decide) (fun c1903 => (by exfalso; have q9 : 0 ≤ x1901.toInt := ti_le c1903 (by decide) rfl; omega)) (fun c1903 => ?_)
          have t1904 : x1901.toInt < 0 := ti_nle c1903 (by decide) rfl
          refine lv_aload_n hx hb dX12_choose_54 rfl (lv_at hl 1 rfl) ?_
          refine lv_iload_n hx hb dX12_choose_55 rfl (lv_at hl 0 rfl) ?_
          refine lv_bipush (v := 6) hx hb dX12_choose_56 (by decide) ?_
          obtain ⟨V1905, m1906⟩ := ctl_of hT hg11 shm_31
          obtain ⟨V1907, m1908⟩ := ctl_of hT hg12 shm_30
          have hFc := gA_free hG hA hS
          refine va_calll (va_runV (As := [.int (nI i101), .int 6]) (rest := [.int (nI i101), .ref (q 51)]) ⟨hx, hb, hml, hown, hts⟩ (s_sumOut l dC dI kA adK adV G H q wZ wN wH wB wC wL wK wU wV PI im PM PT lS lB lE lN o0 (nI i101) vH vG vA vD vC vU vI vM vW V1905 V1907 vO vB vX vS vN vL A9 hT hr_o0 (rg_t (a := ((i101 : Nat) : Int)) (nI_toInt (by omega)) (by omega) (by omega)) (hall _ (by have := tn_of (show (nI i101).toInt = ((i101 : Nat) : Int) from (nI_toInt (by omega))) (by omega); omega)) hfo hzk m102 m104 m105 m106 m107 m108 m109 m110 m111 m1906 m1908 m112 m113 m114 m115 m116 m117 hgz hgn hgh hgb hgc hgi hgu) (cwV 2 hts (goodIn_app (goodIn_r _ [78, 79, 80, 5] rfl (by decide +kernel)) (goodIn_ca (goodIn_r _ [42, 43, 44, 45, 41, 46, 47, 48, 5, 49, 50, 51, 52, 53, 54, 55, 56, 57, 58, 59, 60, 61, 62, 63, 64, 65, 66, 67, 68, 69, 70, 71, 72, 27, 73, 74, 75, 76, 77] rfl (by decide +kernel)) (bs_in _ _))) rfl rfl rfl (by decide +kernel) ⟨(Nat.le_of_ble_eq_true rfl), (Nat.le_of_ble_eq_true rfl)⟩) ⟨fun a U g mk q => by obtain ⟨q0, q1, qK, qE⟩ := q; exact ⟨q0, q1, va_K.moved (u := U) (U := U.calling g mk a) (Vm.Alike.refl U.vm) qK, EVS.blind g mk a qE⟩, gH_rc hK hT hr_o0 shm_0 rfl, fun U hU hW => ⟨rfl, hU, va_K.moved hW.alike hK, hE.call hS hFc hU hW⟩⟩ rfl rfl hl.1 rfl (lv_room (Nat.le_of_ble_eq_true rfl)) dX12_choose_58 ⟨(Nat.le_of_ble_eq_true rfl), (Nat.le_of_ble_eq_true rfl)⟩) hS (fun q _ h => hFc q h) hFc (fun r1909 u t H locs ht hvm hw1910 hB _ _ hS => ?_)
          obtain ⟨hT, hF1⟩ := hB
          rw [ht] at hT hF1
          have m1911 := m102.kept (hF1.arr hg1 skm_39 (by decide))
          have m1912 := m103.kept (hF1.arr hg2 skm_47 (by decide))
          have m1913 := m104.kept (hF1.arr hg3 skm_40 (by decide))
          have m1914 := m105.kept (hF1.arr hg4 skm_32 (by decide))
          have m1915 := m106.kept (hF1.arr hg5 skm_33 (by decide))
          have m1916 := m107.kept (hF1.arr hg6 skm_34 (by decide))
          have m1917 := m108.kept (hF1.arr hg7 skm_35 (by decide))
          have m1918 := m109.kept (hF1.arr hg8 skm_36 (by decide))
          have m1919 := m110.kept (hF1.arr hg9 skm_37 (by decide))
          have m1920 := m111.kept (hF1.arr hg10 skm_41 (by decide))
          have m1921 := m112.kept (hF1.arr hg13 skm_20 (by decide))
          have m1922 := m113.kept (hF1.arr hg14 skm_25 (by decide))
          have m1923 := m114.kept (hF1.arr hg15 skm_26 (by decide))
          have m1924 := m115.kept (hF1.arr hg16 skm_27 (by decide))
          have m1925 := m116.kept (hF1.arr hg17 skm_28 (by decide))
          have m1926 := m117.kept (hF1.arr hg18 skm_19 (by decide))
          have m1927 := m119.kept (hF1.arr hg19 skm_52 (by decide))
          have m1928 := (hF1.fld hr_o0 skm_0 (k := 42) (by decide) (by decide)).trans m120
          have m1929 := (hF1.fld hr_o0 skm_0 (k := 47) (by decide) (by decide)).trans m121
          have m1930 := (el_kept (hF1.arr hg1 skm_39 (by decide))).trans m1900
          have hF := hF.more hF1 (by decide)
          try dsimp only at hw1910
          have hf1933 := hw1910
          refine lv_lconst (v := 0) hx hb dX12_choose_61 (by decide) ?_
          refine W.lcmp hx hb dX12_choose_62 ?_
          refine lv_topi (fun x1934 ex1934 => ?_)
          have t1935 : (r1909.toInt < 0 ∧ x1934.toInt = -1) ∨ (r1909.toInt = 0 ∧ x1934.toInt = 0) ∨ (0 < r1909.toInt ∧ x1934.toInt = 1) := tl_c ex1934 rfl (by decide)
          refine lv_if_ne (tgt := 70) hx hb dX12_choose_63 (by decide) (fun c1936 => ?_) (fun c1936 => ?_)
          · have t1937 : x1934.toInt ≠ 0 := ti_ne c1936 rfl (by decide)
            refine lv_iconst (v := 0) hx hb dX12_choose_70 (by decide) ?_
            refine tw_zast (i := (nI i101)) (x := 0) hx hb hK hT hG hS hg19 shm_52 rfl (vp_in_nI (by omega) (by decide)) (gi_z (rg_t (a := 0) (by decide) (by first | decide | omega) (by first | decide | omega)) (by decide) (by decide)) dX12_choose_71 (fun H locs hT oq m1938 oi hS => ?_)
            have hF := hF.ast hg19 skm_52 oq (by decide)
            have m1939 := m1911.kept (oq _ (gne hg1 hg19 (by decide)))
            have m1940 := m1912.kept (oq _ (gne hg2 hg19 (by decide)))
            have m1941 := m1913.kept (oq _ (gne hg3 hg19 (by decide)))
            have m1942 := m1914.kept (oq _ (gne hg4 hg19 (by decide)))
            have m1943 := m1915.kept (oq _ (gne hg5 hg19 (by decide)))
            have m1944 := m1916.kept (oq _ (gne hg6 hg19 (by decide)))
            have m1945 := m1917.kept (oq _ (gne hg7 hg19 (by decide)))
            have m1946 := m1918.kept (oq _ (gne hg8 hg19 (by decide)))
            have m1947 := m1919.kept (oq _ (gne hg9 hg19 (by decide)))
            have m1948 := m1920.kept (oq _ (gne hg10 hg19 (by decide)))
            have m1949 := m1921.kept (oq _ (gne hg13 hg19 (by decide)))
            have m1950 := m1922.kept (oq _ (gne hg14 hg19 (by decide)))
            have m1951 := m1923.kept (oq _ (gne hg15 hg19 (by decide)))
            have m1952 := m1924.kept (oq _ (gne hg16 hg19 (by decide)))
            have m1953 := m1925.kept (oq _ (gne hg17 hg19 (by decide)))
            have m1954 := m1926.kept (oq _ (gne hg18 hg19 (by decide)))
            have m1955 := m1927.put (show el H (q 51) _ = some (.int 0) from m1938) oi
            have m1956 := (el_kept (oq _ (gne hr_o0 hg19 (by decide)))).trans m1928
            have m1957 := (el_kept (oq _ (gne hr_o0 hg19 (by decide)))).trans m1929
            have m1958 := (el_kept (oq _ (gne hg1 hg19 (by decide)))).trans m1930
            refine lv_aload_n hx hb dX12_choose_72 rfl (lv_at hl 1 rfl) ?_
            refine tw_get hx hb hts bF_X12 hown hK hT hr_o0 shm_0 rfl 50 (by decide) (ht_at hts 12 rfl) (fun _ h9 => h9) dX12_choose_73 (fun v9 m1959 h9 => ?_)
            obtain ⟨rfl, hg1960⟩ := h9 _ rfl
            refine lv_iload_n hx hb dX12_choose_76 rfl (lv_at hl 0 rfl) ?_
            refine lv_aload_n hx hb dX12_choose_77 rfl (lv_at hl 1 rfl) ?_
            refine lv_iload_n hx hb dX12_choose_78 rfl (lv_at hl 0 rfl) ?_
            refine lv_iconst (v := 4) hx hb dX12_choose_79 (by decide) ?_
            have hFc := gA_free hG hA hS
            refine va_calll (va_runV (As := [.int (nI i101), .int 4]) (rest := [.int (nI i101), .ref (q 50)]) ⟨hx, hb, hml, hown, hts⟩ (s_sumOf l dC dI kA adK adV G H q wZ wN wH wB wC wL wK wU wV PI im PM PT lS lB lE lN o0 (nI i101) 4 hT hr_o0 (rg_t (a := ((i101 : Nat) : Int)) (nI_toInt (by omega)) (by omega) (by omega)) (by assumption) hgz hgn hgh hgb hgc hgi hgu) (cwV 2 hts (goodIn_app (goodIn_r _ [78, 79, 80, 5] rfl (by decide +kernel)) (goodIn_ca (goodIn_r _ [42, 43, 44, 45, 41, 22, 23, 24, 25, 26, 27, 28, 29, 30, 31, 2, 3, 4, 5, 32, 33, 46, 47, 48, 49, 50, 51, 52, 53, 54, 55, 56, 34, 81, 82, 83, 84, 85, 86, 87, 88, 89, 90, 91, 92, 93, 94, 95, 96, 97, 57, 58, 59, 60, 61, 62, 63, 64, 65, 66, 67, 68, 69, 70, 71, 72, 73, 74, 75, 76, 77, 98] rfl (by decide +kernel)) (bs_in _ _))) rfl rfl rfl (by decide +kernel) ⟨(Nat.le_of_ble_eq_true rfl), (Nat.le_of_ble_eq_true rfl)⟩) ⟨fun a U g mk q => by obtain ⟨q0, q1, qK, qE⟩ := q; exact ⟨q0, q1, va_K.moved (u := U) (U := U.calling g mk a) (Vm.Alike.refl U.vm) qK, EVS.blind g mk a qE⟩, gH_rc hK hT hr_o0 shm_0 rfl, fun U hU hW => ⟨rfl, hU, va_K.moved hW.alike hK, hE.call hS hFc hU hW⟩⟩ rfl rfl hl.1 rfl (lv_room (Nat.le_of_ble_eq_true rfl)) dX12_choose_80 ⟨(Nat.le_of_ble_eq_true rfl), (Nat.le_of_ble_eq_true rfl)⟩) hS (fun q _ h => hFc q h) hFc (fun r1961 u t H locs ht hvm hw1962 hB _ _ hS => ?_)
            obtain ⟨hT, hF1⟩ := hB
            rw [ht] at hT hF1
            have m1963 := m1939.kept (hF1.arr hg1 skm_39 (by decide))
            have m1964 := m1940.kept (hF1.arr hg2 skm_47 (by decide))
            have m1965 := m1941.kept (hF1.arr hg3 skm_40 (by decide))
            have m1966 := m1942.kept (hF1.arr hg4 skm_32 (by decide))
            have m1967 := m1943.kept (hF1.arr hg5 skm_33 (by decide))
            have m1968 := m1944.kept (hF1.arr hg6 skm_34 (by decide))
            have m1969 := m1945.kept (hF1.arr hg7 skm_35 (by decide))
            have m1970 := m1946.kept (hF1.arr hg8 skm_36 (by decide))
            have m1971 := m1947.kept (hF1.arr hg9 skm_37 (by decide))
            have m1972 := m1948.kept (hF1.arr hg10 skm_41 (by decide))
            have m1973 := m1949.kept (hF1.arr hg13 skm_20 (by decide))
            have m1974 := m1950.kept (hF1.arr hg14 skm_25 (by decide))
            have m1975 := m1951.kept (hF1.arr hg15 skm_26 (by decide))
            have m1976 := m1952.kept (hF1.arr hg16 skm_27 (by decide))
            have m1977 := m1953.kept (hF1.arr hg17 skm_28 (by decide))
            have m1978 := m1954.kept (hF1.arr hg18 skm_19 (by decide))
            have m1979 := m1955.kept (hF1.arr hg19 skm_52 (by decide))
            have m1980 := (hF1.fld hr_o0 skm_0 (k := 42) (by decide) (by decide)).trans m1956
            have m1981 := (hF1.fld hr_o0 skm_0 (k := 47) (by decide) (by decide)).trans m1957
            have m1982 := (el_kept (hF1.arr hg1 skm_39 (by decide))).trans m1958
            have hF := hF.more hF1 (by decide)
            try dsimp only at hw1962
            refine tw_last (i := (nI i101))  hx hb hK hT hG hS hg1960 shm_51 rfl (vp_in_nI (by omega) (by decide)) ⟨_, rfl⟩ dX12_choose_83 (fun H locs hT oq m1983 oi hS => ?_)
            have hF := hF.ast hg1960 skm_51 oq (by decide)
            have m1984 := m1963.kept (oq _ (gne hg1 hg1960 (by decide)))
            have m1985 := m1964.kept (oq _ (gne hg2 hg1960 (by decide)))
            have m1986 := m1965.kept (oq _ (gne hg3 hg1960 (by decide)))
            have m1987 := m1966.kept (oq _ (gne hg4 hg1960 (by decide)))
            have m1988 := m1967.kept (oq _ (gne hg5 hg1960 (by decide)))
            have m1989 := m1968.kept (oq _ (gne hg6 hg1960 (by decide)))
            have m1990 := m1969.kept (oq _ (gne hg7 hg1960 (by decide)))
            have m1991 := m1970.kept (oq _ (gne hg8 hg1960 (by decide)))
            have m1992 := m1971.kept (oq _ (gne hg9 hg1960 (by decide)))
            have m1993 := m1972.kept (oq _ (gne hg10 hg1960 (by decide)))
            have m1994 := m1973.kept (oq _ (gne hg13 hg1960 (by decide)))
            have m1995 := m1974.kept (oq _ (gne hg14 hg1960 (by decide)))
            have m1996 := m1975.kept (oq _ (gne hg15 hg1960 (by decide)))
            have m1997 := m1976.kept (oq _ (gne hg16 hg1960 (by decide)))
            have m1998 := m1977.kept (oq _ (gne hg17 hg1960 (by decide)))
            have m1999 := m1978.kept (oq _ (gne hg18 hg1960 (by decide)))
            have m2000 := m1979.kept (oq _ (gne hg19 hg1960 (by decide)))
            have m2001 := (el_kept (oq _ (gne hr_o0 hg1960 (by decide)))).trans m1980
            have m2002 := (el_kept (oq _ (gne hr_o0 hg1960 (by decide)))).trans m1981
            have m2003 := (el_kept (oq _ (gne hg1 hg1960 (by decide)))).trans m1982
            refine lv_iinc (v := nI (i101 + 1)) (lv' := [(2, .int (nI (i101 + 1))), (0, .ref o0), (1, .int p0)]) hx hb dX12_choose_84 hl (k := 0) rfl (nI_add i101 1) (by decide) rfl (fun ls hl => ?_)
            refine lv_goto (tgt := 32) hx hb dX12_choose_87 (by decide) ?_
            exact ih831 (i101 + 1) (by omega) (by omega) (cu V118 (nI i101).toNatClampNeg (0 : Int32)) ⟨(zPo_s hj122 (tn_nI (by omega)) (by have o9 := hf1933; rw [tn_nI (by omega)] at o9; have x9 := (show (0 : Int32).toInt = 0 from (by decide)); have y9 : r1909.toInt = r1909.toInt := rfl; rcases o9 with ⟨h8, h7⟩ | ⟨h8, h7⟩; (exact Or.inl ⟨by omega, h7⟩); exact Or.inr ⟨by omega, h7⟩)), (by omega)⟩ _ _ hT hF hS m1984 m1985 m1986 m1987 m1988 m1989 m1990 m1991 m1992 m1993 m1994 m1995 m1996 m1997 m1998 m1999 m2000 m2001 m2002 ls (lv_sub hl [0, 1, 2] rfl)
          · have t2004 : x1934.toInt = 0 := ti_eq c1936 rfl (by decide)
            refine lv_iconst (v := 1) hx hb dX12_choose_66 (by decide) ?_
            refine lv_goto (tgt := 71) hx hb dX12_choose_67 (by decide) ?_
            refine tw_zast (i := (nI i101)) (x := 1) hx hb hK hT hG hS hg19 shm_52 rfl (vp_in_nI (by omega) (by decide)) (gi_z (rg_t (a := 1) (by decide) (by first | decide | omega) (by first | decide | omega)) (by decide) (by decide)) dX12_choose_71 (fun H locs hT oq m2005 oi hS => ?_)
            have hF := hF.ast hg19 skm_52 oq (by decide)
            have m2006 := m1911.kept (oq _ (gne hg1 hg19 (by decide)))
            have m2007 := m1912.kept (oq _ (gne hg2 hg19 (by decide)))
            have m2008 := m1913.kept (oq _ (gne hg3 hg19 (by decide)))
            have m2009 := m1914.kept (oq _ (gne hg4 hg19 (by decide)))
            have m2010 := m1915.kept (oq _ (gne hg5 hg19 (by decide)))
            have m2011 := m1916.kept (oq _ (gne hg6 hg19 (by decide)))
            have m2012 := m1917.kept (oq _ (gne hg7 hg19 (by decide)))
            have m2013 := m1918.kept (oq _ (gne hg8 hg19 (by decide)))
            have m2014 := m1919.kept (oq _ (gne hg9 hg19 (by decide)))
            have m2015 := m1920.kept (oq _ (gne hg10 hg19 (by decide)))
            have m2016 := m1921.kept (oq _ (gne hg13 hg19 (by decide)))
            have m2017 := m1922.kept (oq _ (gne hg14 hg19 (by decide)))
            have m2018 := m1923.kept (oq _ (gne hg15 hg19 (by decide)))
            have m2019 := m1924.kept (oq _ (gne hg16 hg19 (by decide)))
            have m2020 := m1925.kept (oq _ (gne hg17 hg19 (by decide)))
            have m2021 := m1926.kept (oq _ (gne hg18 hg19 (by decide)))
            have m2022 := m1927.put (show el H (q 51) _ = some (.int 1) from m2005) oi
            have m2023 := (el_kept (oq _ (gne hr_o0 hg19 (by decide)))).trans m1928
            have m2024 := (el_kept (oq _ (gne hr_o0 hg19 (by decide)))).trans m1929
            have m2025 := (el_kept (oq _ (gne hg1 hg19 (by decide)))).trans m1930
            refine lv_aload_n hx hb dX12_choose_72 rfl (lv_at hl 1 rfl) ?_
            refine tw_get hx hb hts bF_X12 hown hK hT hr_o0 shm_0 rfl 50 (by decide) (ht_at hts 12 rfl) (fun _ h9 => h9) dX12_choose_73 (fun v9 m2026 h9 => ?_)
            obtain ⟨rfl, hg2027⟩ := h9 _ rfl
            refine lv_iload_n hx hb dX12_choose_76 rfl (lv_at hl 0 rfl) ?_
            refine lv_aload_n hx hb dX12_choose_77 rfl (lv_at hl 1 rfl) ?_
            refine lv_iload_n hx hb dX12_choose_78 rfl (lv_at hl 0 rfl) ?_
            refine lv_iconst (v := 4) hx hb dX12_choose_79 (by decide) ?_
            have hFc := gA_free hG hA hS
            refine va_calll (va_runV (As := [.int (nI i101), .int 4]) (rest := [.int (nI i101), .ref (q 50)]) ⟨hx, hb, hml, hown, hts⟩ (s_sumOf l dC dI kA adK adV G H q wZ wN wH wB wC wL wK wU wV PI im PM PT lS lB lE lN o0 (nI i101) 4 hT hr_o0 (rg_t (a := ((i101 : Nat) : Int)) (nI_toInt (by omega)) (by omega) (by omega)) (by assumption) hgz hgn hgh hgb hgc hgi hgu) (cwV 2 hts (goodIn_app (goodIn_r _ [78, 79, 80, 5] rfl (by decide +kernel)) (goodIn_ca (goodIn_r _ [42, 43, 44, 45, 41, 22, 23, 24, 25, 26, 27, 28, 29, 30, 31, 2, 3, 4, 5, 32, 33, 46, 47, 48, 49, 50, 51, 52, 53, 54, 55, 56, 34, 81, 82, 83, 84, 85, 86, 87, 88, 89, 90, 91, 92, 93, 94, 95, 96, 97, 57, 58, 59, 60, 61, 62, 63, 64, 65, 66, 67, 68, 69, 70, 71, 72, 73, 74, 75, 76, 77, 98] rfl (by decide +kernel)) (bs_in _ _))) rfl rfl rfl (by decide +kernel) ⟨(Nat.le_of_ble_eq_true rfl), (Nat.le_of_ble_eq_true rfl)⟩) ⟨fun a U g mk q => by obtain ⟨q0, q1, qK, qE⟩ := q; exact ⟨q0, q1, va_K.moved (u := U) (U := U.calling g mk a) (Vm.Alike.refl U.vm) qK, EVS.blind g mk a qE⟩, gH_rc hK hT hr_o0 shm_0 rfl, fun U hU hW => ⟨rfl, hU, va_K.moved hW.alike hK, hE.call hS hFc hU hW⟩⟩ rfl rfl hl.1 rfl (lv_room (Nat.le_of_ble_eq_true rfl)) dX12_choose_80 ⟨(Nat.le_of_ble_eq_true rfl), (Nat.le_of_ble_eq_true rfl)⟩) hS (fun q _ h => hFc q h) hFc (fun r2028 u t H locs ht hvm hw2029 hB _ _ hS => ?_)
            obtain ⟨hT, hF1⟩ := hB
            rw [ht] at hT hF1
            have m2030 := m2006.kept (hF1.arr hg1 skm_39 (by decide))
            have m2031 := m2007.kept (hF1.arr hg2 skm_47 (by decide))
            have m2032 := m2008.kept (hF1.arr hg3 skm_40 (by decide))
            have m2033 := m2009.kept (hF1.arr hg4 skm_32 (by decide))
            have m2034 := m2010.kept (hF1.arr hg5 skm_33 (by decide))
            have m2035 := m2011.kept (hF1.arr hg6 skm_34 (by decide))
            have m2036 := m2012.kept (hF1.arr hg7 skm_35 (by decide))
            have m2037 := m2013.kept (hF1.arr hg8 skm_36 (by decide))
            have m2038 := m2014.kept (hF1.arr hg9 skm_37 (by decide))
            have m2039 := m2015.kept (hF1.arr hg10 skm_41 (by decide))
            have m2040 := m2016.kept (hF1.arr hg13 skm_20 (by decide))
            have m2041 := m2017.kept (hF1.arr hg14 skm_25 (by decide))
            have m2042 := m2018.kept (hF1.arr hg15 skm_26 (by decide))
            have m2043 := m2019.kept (hF1.arr hg16 skm_27 (by decide))
            have m2044 := m2020.kept (hF1.arr hg17 skm_28 (by decide))
            have m2045 := m2021.kept (hF1.arr hg18 skm_19 (by decide))
            have m2046 := m2022.kept (hF1.arr hg19 skm_52 (by decide))
            have m2047 := (hF1.fld hr_o0 skm_0 (k := 42) (by decide) (by decide)).trans m2023
            have m2048 := (hF1.fld hr_o0 skm_0 (k := 47) (by decide) (by decide)).trans m2024
            have m2049 := (el_kept (hF1.arr hg1 skm_39 (by decide))).trans m2025
            have hF := hF.more hF1 (by decide)
            try dsimp only at hw2029
            refine tw_last (i := (nI i101))  hx hb hK hT hG hS hg2027 shm_51 rfl (vp_in_nI (by omega) (by decide)) ⟨_, rfl⟩ dX12_choose_83 (fun H locs hT oq m2050 oi hS => ?_)
            have hF := hF.ast hg2027 skm_51 oq (by decide)
            have m2051 := m2030.kept (oq _ (gne hg1 hg2027 (by decide)))
            have m2052 := m2031.kept (oq _ (gne hg2 hg2027 (by decide)))
            have m2053 := m2032.kept (oq _ (gne hg3 hg2027 (by decide)))
            have m2054 := m2033.kept (oq _ (gne hg4 hg2027 (by decide)))
            have m2055 := m2034.kept (oq _ (gne hg5 hg2027 (by decide)))
            have m2056 := m2035.kept (oq _ (gne hg6 hg2027 (by decide)))
            have m2057 := m2036.kept (oq _ (gne hg7 hg2027 (by decide)))
            have m2058 := m2037.kept (oq _ (gne hg8 hg2027 (by decide)))
            have m2059 := m2038.kept (oq _ (gne hg9 hg2027 (by decide)))
            have m2060 := m2039.kept (oq _ (gne hg10 hg2027 (by decide)))
            have m2061 := m2040.kept (oq _ (gne hg13 hg2027 (by decide)))
            have m2062 := m2041.kept (oq _ (gne hg14 hg2027 (by decide)))
            have m2063 := m2042.kept (oq _ (gne hg15 hg2027 (by decide)))
            have m2064 := m2043.kept (oq _ (gne hg16 hg2027 (by decide)))
            have m2065 := m2044.kept (oq _ (gne hg17 hg2027 (by decide)))
            have m2066 := m2045.kept (oq _ (gne hg18 hg2027 (by decide)))
            have m2067 := m2046.kept (oq _ (gne hg19 hg2027 (by decide)))
            have m2068 := (el_kept (oq _ (gne hr_o0 hg2027 (by decide)))).trans m2047
            have m2069 := (el_kept (oq _ (gne hr_o0 hg2027 (by decide)))).trans m2048
            have m2070 := (el_kept (oq _ (gne hg1 hg2027 (by decide)))).trans m2049
            refine lv_iinc (v := nI (i101 + 1)) (lv' := [(2, .int (nI (i101 + 1))), (0, .ref o0), (1, .int p0)]) hx hb dX12_choose_84 hl (k := 0) rfl (nI_add i101 1) (by decide) rfl (fun ls hl => ?_)
            refine lv_goto (tgt := 32) hx hb dX12_choose_87 (by decide) ?_
            exact ih831 (i101 + 1) (by omega) (by omega) (cu V118 (nI i101).toNatClampNeg (1 : Int32)) ⟨(zPo_s hj122 (tn_nI (by omega)) (by have o9 := hf1933; rw [tn_nI (by omega)] at o9; have x9 := (show (1 : Int32).toInt = 1 from (by decide)); have y9 : r1909.toInt = r1909.toInt := rfl; rcases o9 with ⟨h8, h7⟩ | ⟨h8, h7⟩; (exact Or.inl ⟨by omega, h7⟩); exact Or.inr ⟨by omega, h7⟩)), (by omega)⟩ _ _ hT hF hS m2051 m2052 m2053 m2054 m2055 m2056 m2057 m2058 m2059 m2060 m2061 m2062 m2063 m2064 m2065 m2066 m2067 m2068 m2069 ls (lv_sub hl [0, 1, 2] rfl)
    exact key831 (60 - 0) 0 (by omega) (Nat.le_refl _) vP ⟨zPo_0, (by omega)⟩ _ _ hT hF hS m78 m79 m80 m81 m82 m83 m84 m85 m86 m87 m90 m91 m92 m93 m94 m95 m96 m76 m77 ls (lv_sub hl [0, 1, 2] rfl)
  · have t2071 : r42.toInt = 0 := ti_eq c69 rfl (by decide)
    have t2072 : (0 : Int32).toInt = 0 := by decide
    have t2073 : (60 : Int32).toInt = 60 := by decide
    have t2074 : p0.toInt < (0 : Int32).toInt ∨ (60 : Int32).toInt < p0.toInt := hi68 c69
    refine lv_iconst (v := 1) hx hb dX12_choose_16 (by decide) ?_
    refine lv_goto (tgt := 21) hx hb dX12_choose_17 (by decide) ?_
    refine lv_iconst (v := 1) hx hb dX12_choose_21 (by decide) ?_
    have hFc := gA_free hG hA hS
    refine va_calli (va_runV (As := [.int 1, .int 1]) (rest := []) ⟨hx, hb, hml, hown, hts⟩ (s_throwsIf l dC dI kA adK adV G H q wZ wN wH wB wC wL wK wU wV PI im PM PT lS lB lE lN o0 1 1 hT hr_o0 (rg_t (a := 1) (by decide) (by first | decide | omega) (by first | decide | omega)) hgz hgn hgh hgb hgc hgi hgu) (cwV 2 hts (goodIn_app (goodIn_r _ [7, 8, 9, 5] rfl (by decide +kernel)) (goodIn_ca (goodIn_r _ [6, 1] rfl (by decide +kernel)) (bs_in _ _))) rfl rfl rfl (by decide +kernel) ⟨(Nat.le_of_ble_eq_true rfl), (Nat.le_of_ble_eq_true rfl)⟩) ⟨fun a U g mk q => by obtain ⟨q0, q1, qK, qE⟩ := q; exact ⟨q0, q1, va_K.moved (u := U) (U := U.calling g mk a) (Vm.Alike.refl U.vm) qK, EVS.blind g mk a qE⟩, gH_rc hK hT hr_o0 shm_0 rfl, fun U hU hW => ⟨rfl, hU, va_K.moved hW.alike hK, hE.call hS hFc hU hW⟩⟩ rfl rfl hl.1 rfl (lv_room (Nat.le_of_ble_eq_true rfl)) dX12_choose_22 ⟨(Nat.le_of_ble_eq_true rfl), (Nat.le_of_ble_eq_true rfl)⟩) hS (fun q _ h => hFc q h) hFc (fun r2075 u t H locs ht hvm hw2076 hB _ _ hS => ?_)
    obtain ⟨hT, hF1⟩ := hB
    rw [ht] at hT hF1
    have m2077 := (hF1.fld hr_o0 skm_0 (k := 42) (by decide) (by decide)).trans m44
    have m2078 := (hF1.fld hr_o0 skm_0 (k := 47) (by decide) (by decide)).trans m45
    have m2079 := m46.kept (hF1.arr hg1 skm_39 (by decide))
    have m2080 := m47.kept (hF1.arr hg2 skm_47 (by decide))
    have m2081 := m48.kept (hF1.arr hg3 skm_40 (by decide))
    have m2082 := m49.kept (hF1.arr hg4 skm_32 (by decide))
    have m2083 := m50.kept (hF1.arr hg5 skm_33 (by decide))
    have m2084 := m51.kept (hF1.arr hg6 skm_34 (by decide))
    have m2085 := m52.kept (hF1.arr hg7 skm_35 (by decide))
    have m2086 := m53.kept (hF1.arr hg8 skm_36 (by decide))
    have m2087 := m54.kept (hF1.arr hg9 skm_37 (by decide))
    have m2088 := m55.kept (hF1.arr hg10 skm_41 (by decide))
    have m2089 := m56.kept (hF1.arr hg11 skm_31 (by decide))
    have m2090 := m57.kept (hF1.arr hg12 skm_30 (by decide))
    have m2091 := m58.kept (hF1.arr hg13 skm_20 (by decide))
    have m2092 := m59.kept (hF1.arr hg14 skm_25 (by decide))
    have m2093 := m60.kept (hF1.arr hg15 skm_26 (by decide))
    have m2094 := m61.kept (hF1.arr hg16 skm_27 (by decide))
    have m2095 := m62.kept (hF1.arr hg17 skm_28 (by decide))
    have m2096 := m63.kept (hF1.arr hg18 skm_19 (by decide))
    have m2097 := m64.kept (hF1.arr hg19 skm_52 (by decide))
    have hF := hF.more hF1 (by decide)
    try dsimp only at hw2076
    obtain ⟨h2099, hd2100⟩ := hw2076
    obtain rfl : (1 : Int32) = r2075 := hd2100.symm
    refine lv_if_eq (tgt := 30) hx hb dX12_choose_25 (by decide) (fun c2101 => absurd c2101 (by decide)) (fun c2101 => ?_)
    refine lv_iconst (v := 0) hx hb dX12_choose_28 (by decide) ?_
    exact W.iret (v := 0) hx hb hr (fun t ht hW => ⟨⟨0, (vH, vR), rfl, (by exact (Or.inr ⟨⟨rfl, rfl⟩, fun h8 => by have := h8.1; omega⟩)), by (try dsimp only); rw [ht]; exact ⟨hT, hF, m2079, m2080⟩⟩, hS.F ht⟩) hS.2.2 dX12_choose_29
def w_s_chooseH : List Cond := .code yX12_choose cX12_choose 6 (some .int) :: (HAppend.hAppend (α := List Cond) (β := List Cond) (γ := List Cond) [.fieldLink RX12 194 "SeaLandModel" "thrown" "I", .code yX12_in cX12_in 3 (some .boolean), .methodLink RX12 197 yX12_in, .static yX12_in, .initialized RX12, .code yX12_throwsIf cX12_throwsIf 3 (some .boolean), .methodLink RX12 224 yX12_throwsIf, .instanceMethod yX12_throwsIf, .selects RX12 yX12_throwsIf yX12_throwsIf, .fieldLink RX12 495 "SeaLandModel" "settlers" "I", .code yX12_nextOne cX12_nextOne 3 (some .int), .fieldLink RX12 131 "SeaLandModel" "open" "[Z", .fieldLink RX12 128 "SeaLandModel" "marks" "[J", .fieldLink RX12 98 "SeaLandModel" "drawn" "[I", .methodLink RX12 508 yX12_nextOne, .instanceMethod yX12_nextOne, .selects RX12 yX12_nextOne yX12_nextOne, .code yX12_bestFarm cX12_bestFarm 3 (some .int), .fieldLink RX12 498 "SeaLandModel" "farms" "I", .fieldLink RX12 122 "SeaLandModel" "holder" "[I", .code yX12_worthOf cX12_worthOf 5 (some .int), .fieldLink RX12 113 "SeaLandModel" "farmFrom" "[I", .fieldLink RX12 116 "SeaLandModel" "farmTo" "[I", .code yX12_isIn cX12_isIn 5 (some .boolean), .methodLink RX12 207 Lib.Math.min.name, .static Lib.Math.min.name, .initialized "java/lang/Math", .code Lib.Math.min.name Lib.Math.min.code 2 (some .int), .methodLink RX12 211 Lib.Math.max.name, .static Lib.Math.max.name, .code Lib.Math.max.name Lib.Math.max.code 2 (some .int), .methodLink RX12 232 yX12_isIn, .static yX12_isIn, .fieldLink RX12 9 "SeaLandModel" "world" "[I", .methodLink RX12 505 yX12_worthOf, .instanceMethod yX12_worthOf, .selects RX12 yX12_worthOf yX12_worthOf, .methodLink RX12 511 yX12_bestFarm, .instanceMethod yX12_bestFarm, .selects RX12 yX12_bestFarm yX12_bestFarm, .fieldLink RX12 101 "SeaLandModel" "holds" "[I", .code yX12_sumOf cX12_sumOf 6 (some .long), .code yX12_looksAt cX12_looksAt 2 none, .fieldLink RX12 76 "SeaLandModel" "facts" "[J", .code yX12_acres cX12_acres 4 (some .int), .methodLink RX12 467 yX12_acres, .instanceMethod yX12_acres, .selects RX12 yX12_acres yX12_acres, .fieldLink RX12 104 "SeaLandModel" "gain" "[I", .fieldLink RX12 79 "SeaLandModel" "age" "[I", .fieldLink RX12 82 "SeaLandModel" "sons" "[I", .fieldLink RX12 85 "SeaLandModel" "coin" "[I", .fieldLink RX12 88 "SeaLandModel" "cattle" "[I", .fieldLink RX12 91 "SeaLandModel" "isKin" "[Z", .fieldLink RX12 95 "SeaLandModel" "isBoard" "[Z", .code yX12_near cX12_near 5 (some .int), .code yX12_isDike cX12_isDike 2 (some .boolean), .code yX12_of cX12_of 3 (some .int), .code yX12_at cX12_at 2 (some .int), .methodLink RX12 214 yX12_at, .static yX12_at, .methodLink RX12 217 yX12_of, .instanceMethod yX12_of, .selects RX12 yX12_of yX12_of, .methodLink RX12 272 yX12_isDike, .instanceMethod yX12_isDike, .selects RX12 yX12_isDike yX12_isDike, .code yX12_steps cX12_steps 2 (some .int), .methodLink RX12 201 Lib.Math.abs.name, .static Lib.Math.abs.name, .code Lib.Math.abs.name Lib.Math.abs.code 1 (some .int), .methodLink RX12 262 yX12_steps, .static yX12_steps, .methodLink RX12 469 yX12_near, .instanceMethod yX12_near, .selects RX12 yX12_near yX12_near, .fieldLink RX12 107 "SeaLandModel" "owes" "[I", .methodLink RX12 474 yX12_looksAt, .instanceMethod yX12_looksAt, .selects RX12 yX12_looksAt yX12_looksAt, .fieldLink RX12 42 "SeaLandModel" "lines" "[I", .fieldLink RX12 45 "SeaLandModel" "sort" "[I", .code yX12_holds cX12_holds 9 (some .boolean), .fieldLink RX12 60 "SeaLandModel" "begins" "[I", .fieldLink RX12 63 "SeaLandModel" "ends" "[I", .fieldLink RX12 66 "SeaLandModel" "step" "[I", .fieldLink RX12 72 "SeaLandModel" "value" "[J", .methodLink RX12 471 Lib.MathLoose.max_long.x, .static Lib.MathLoose.max_long.x, .code Lib.MathLoose.max_long.x Lib.MathLoose.max_long.code 4 (some .long), .fieldLink RX12 69 "SeaLandModel" "than" "[I", .methodLink RX12 478 yX12_holds, .instanceMethod yX12_holds, .selects RX12 yX12_holds yX12_holds, .fieldLink RX12 48 "SeaLandModel" "told" "[I", .methodLink RX12 480 yX12_sumOf, .instanceMethod yX12_sumOf, .selects RX12 yX12_sumOf yX12_sumOf] bs)
set_option maxHeartbeats 4000000 in
set_option maxRecDepth 100000 in
theorem s_chooseH (l : Launch) (dC : Nat → ClassId) (dI : Nat → Nat → Nat) (kA : Nat → ClassId) (adK adV : Nat → Nat) (G : gT) (H0 : Heap) (q : Nat → Nat) (wZ wN : Nat → Int) (wH wB wC : Int) (wL wK : Nat → Prop) (wU wV : Nat → Nat) (PI : Nat → Int → Prop) (im : Int) (PM PT : Nat → Int → Prop) (lS lB lE : Nat → Nat → Int → Prop) (lN : Nat → Int) (o0 : Nat) (p0 : Int32) (sn : Int32) (vH : Nat → Int32)  (hT : gH (dC, dI) kA (SHm q (wP wZ wN wH wB wC wL wK wU wV) PI im PM PT lS lB lE lN) G H0) (hr_o0 : G o0 = some 0) (hm_sn : el H0 o0 (dI 15 42) = some (.int sn)) (hq0 : 0 ≤ sn.toInt ∧ sn.toInt ≤ 60) (hzb : zHb vH sn.toInt) (hlaw : lawsOK lS lB lE lN) (hc_vH : ct H0 (q 38) 60 vH) (hgz : ∀ i, 0 ≤ wZ i) (hgn : ∀ i, 6500000 ≤ wN i ∧ wN i ≤ 20200000) (hgh : 0 ≤ wH ∧ wH ≤ 40000) (hgb : 0 ≤ wB ∧ wB ≤ 3850000) (hgc : 0 ≤ wC ∧ wC ≤ 30) (hgi : 0 ≤ im ∧ im ≤ 1) (hgu : ∀ a t, G a = some (t + 1) → a = q t) : Met l yX12_choose w_s_chooseH ({ frames := 6, cells := 0, slots := 0, locals := 134 }) (va_Pc [.ref o0, .int p0] (fun U => U.heap = H0 ∧ va_K (dC, dI) vwCl (tyl kA) U ∧ EVS adK adV (gA G H0.size) U U.heap)) (va_Qi (fun (r : Int32) (u : (Nat → Int32)) => (zHb u sn.toInt)) (fun (vH1 : (Nat → Int32)) (t : State) => gH (dC, dI) kA (SHm q (wP wZ wN wH wB wC wL wK wU wV) PI im PM PT lS lB lE lN) G t.heap ∧ gF (dC, dI) SKm G ([(0, 0), (30, 0), (31, 0), (39, 0), (47, 0), (51, 0), (52, 0)] : List (Nat × Nat)) H0 t.heap ∧ ct t.heap (q 38) 60 vH1) (gA G H0.size)) 0 0 (gA G H0.size) := by
  refine Met.ofW (cc := cX12_choose) (maxL := 6) (ret := (some .int)) (by decide) rfl ?_
  intro p e s m args below meth c s₁ B hml hv
  obtain ⟨rfl, hH0, hK, hE⟩ := hv
  have hx := B.exec
  have hb := B.bytes
  have hr := B.returns
  have hts := atoms_spec (ws := w_s_chooseH) B.pre
  have hown : s.vm.findClass RX12 = some m.cls := findClass_of_methodNamed B.named
  have hlocks := B.notSynchronized
  subst hH0
  generalize hAe : gA G s.heap.size = A at hE ⊢
  have hA : ∀ q : Nat, s.heap.size ≤ q → A q := fun q h => by rw [← hAe]; exact Or.inr h
  have hG := gA_of hAe
  have hS : va_S A s.heap s.heap [] := va_S.rf
  have hF : gF (dC, dI) SKm G ([(0, 0), (30, 0), (31, 0), (39, 0), (47, 0), (51, 0), (52, 0)] : List (Nat × Nat)) s.heap s.heap := gF.rf
  have hl := lv_entry ([.ref o0, .int p0]) (n := 6) (Nat.le_of_ble_eq_true rfl)
  rw [lg_entry_eq]
  generalize (lg_sl ([.ref o0, .int p0]) ++ List.replicate (6 - (lg_sl ([.ref o0, .int p0])).length) Slot.unset).toArray = ls at hl ⊢
  have hl : lv_has ls 6 [(0, .ref o0), (1, .int p0)] := hl
  have hg1 : G (q 38) = some 39 := gx_of hT hr_o0 shm_0 (k := 38) (by decide) rfl
  refine lv_aload_n hx hb dX12_choose_0 rfl (lv_at hl 0 rfl) ?_
  refine lv_iconst (v := 0) hx hb dX12_choose_1 (by decide) ?_
  refine tw_put (v := .int 0) (ty := .int) hx hb hts bF_X12 tyX12 tyX12_ok nmX12 hown hK hT hG hS hr_o0 shm_0 rfl 0 (by decide) (ht_at hts 0 rfl) (fun _ h9 => h9) rfl (by decide +kernel) rfl rfl (gl_at rfl (gi_all _)) dX12_choose_2 (fun H locs hT oq m2 oj hS => ?_)
  have hF := hF.put hr_o0 skm_0 oq oj (by decide)
  have m3 := (oj 42 (by decide) (by decide)).trans hm_sn
  have m4 := hc_vH.kept (oq _ (gne hg1 hr_o0 (by decide)))
  refine lv_aload_n hx hb dX12_choose_5 rfl (lv_at hl 0 rfl) ?_
  refine lv_iload_n hx hb dX12_choose_6 rfl (lv_at hl 1 rfl) ?_
  refine lv_iconst (v := 0) hx hb dX12_choose_7 (by decide) ?_
  refine lv_bipush (v := 60) hx hb dX12_choose_8 (by decide) ?_
  have hFc := gA_free hG hA hS
  refine va_calli (va_runS (As := [.int p0, .int 0, .int 60]) (rest := [.ref o0]) ⟨hx, hb, hml, hown, hts⟩ (s_in l dC dI kA adK adV G H q wZ wN wH wB wC wL wK wU wV PI im PM PT lS lB lE lN p0 0 60 hT hgz hgn hgh hgb hgc hgi hgu) (va_cwS 3 hts (goodIn_app (goodIn_r _ [3, 4, 5] rfl (by decide +kernel)) (goodIn_ca (goodIn_r _ [2] rfl (by decide +kernel)) (bs_in _ _))) rfl rfl rfl (by decide +kernel) ⟨(Nat.le_of_ble_eq_true rfl), (Nat.le_of_ble_eq_true rfl)⟩) ⟨fun a U g mk q => by obtain ⟨q0, q1, qK, qE⟩ := q; exact ⟨q0, q1, va_K.moved (u := U) (U := U.calling g mk a) (Vm.Alike.refl U.vm) qK, EVS.blind g mk a qE⟩, fun U hU hW => ⟨rfl, hU, va_K.moved hW.alike hK, hE.call hS hFc hU hW⟩⟩ rfl rfl hl.1 rfl (lv_room (Nat.le_of_ble_eq_true rfl)) dX12_choose_10 ⟨(Nat.le_of_ble_eq_true rfl), (Nat.le_of_ble_eq_true rfl)⟩) hS (fun q _ h => hFc q h) hFc (fun r5 u t H locs ht hvm hw6 hB _ _ hS => ?_)
  obtain ⟨hT, hF1⟩ := hB
  rw [ht] at hT hF1
  have m7 := (hF1.fld hr_o0 skm_0 (k := 42) (by decide) (by decide)).trans m3
  have m8 := m4.kept (hF1.arr hg1 skm_39 (by decide))
  have m9 := (hF1.fld hr_o0 skm_0 (k := 0) (by decide) (by decide)).trans m2
  have hF := hF.more hF1 (by decide)
  try dsimp only at hw6
  obtain ⟨h10, hi11, hi12⟩ := hw6
  refine lv_if_ne (tgt := 20) hx hb dX12_choose_13 (by decide) (fun c13 => ?_) (fun c13 => ?_)
  · have t14 : r5.toInt ≠ 0 := ti_ne c13 rfl (by decide)
    have t15 : (0 : Int32).toInt = 0 := by decide
    have t16 : (60 : Int32).toInt = 60 := by decide
    have t17 : (0 : Int32).toInt ≤ p0.toInt ∧ p0.toInt ≤ (60 : Int32).toInt := hi11 ((bit_of ⟨by omega, by omega⟩).resolve_left c13)
    refine lv_iconst (v := 0) hx hb dX12_choose_20 (by decide) ?_
    refine lv_iconst (v := 1) hx hb dX12_choose_21 (by decide) ?_
    have hFc := gA_free hG hA hS
    refine va_calli (va_runV (As := [.int 0, .int 1]) (rest := []) ⟨hx, hb, hml, hown, hts⟩ (s_throwsIf l dC dI kA adK adV G H q wZ wN wH wB wC wL wK wU wV PI im PM PT lS lB lE lN o0 0 1 hT hr_o0 (rg_t (a := 0) (by decide) (by first | decide | omega) (by first | decide | omega)) hgz hgn hgh hgb hgc hgi hgu) (cwV 2 hts (goodIn_app (goodIn_r _ [7, 8, 9, 5] rfl (by decide +kernel)) (goodIn_ca (goodIn_r _ [6, 1] rfl (by decide +kernel)) (bs_in _ _))) rfl rfl rfl (by decide +kernel) ⟨(Nat.le_of_ble_eq_true rfl), (Nat.le_of_ble_eq_true rfl)⟩) ⟨fun a U g mk q => by obtain ⟨q0, q1, qK, qE⟩ := q; exact ⟨q0, q1, va_K.moved (u := U) (U := U.calling g mk a) (Vm.Alike.refl U.vm) qK, EVS.blind g mk a qE⟩, gH_rc hK hT hr_o0 shm_0 rfl, fun U hU hW => ⟨rfl, hU, va_K.moved hW.alike hK, hE.call hS hFc hU hW⟩⟩ rfl rfl hl.1 rfl (lv_room (Nat.le_of_ble_eq_true rfl)) dX12_choose_22 ⟨(Nat.le_of_ble_eq_true rfl), (Nat.le_of_ble_eq_true rfl)⟩) hS (fun q _ h => hFc q h) hFc (fun r18 u t H locs ht hvm hw19 hB _ _ hS => ?_)
    obtain ⟨hT, hF1⟩ := hB
    rw [ht] at hT hF1
    have m20 := (hF1.fld hr_o0 skm_0 (k := 42) (by decide) (by decide)).trans m7
    have m21 := m8.kept (hF1.arr hg1 skm_39 (by decide))
    have hF := hF.more hF1 (by decide)
    try dsimp only at hw19
    obtain ⟨h23, hd24⟩ := hw19
    obtain rfl : (0 : Int32) = r18 := hd24.symm
    refine lv_if_eq (tgt := 30) hx hb dX12_choose_25 (by decide) (fun c25 => ?_) (fun c25 => absurd c25 (by decide))
    refine lv_iconst (v := 0) hx hb dX12_choose_30 (by decide) ?_
    refine lv_istore_n (lv' := [(2, .int 0), (0, .ref o0), (1, .int p0)]) hx hb dX12_choose_31 rfl hl (by decide) rfl (fun ls hl => ?_)
    have key177 : ∀ (n177 i26 : Nat), i26 + n177 = 60 → 0 ≤ i26 → ∀ (H : Heap) (locs : List Loc), gH (dC, dI) kA (SHm q (wP wZ wN wH wB wC wL wK wU wV) PI im PM PT lS lB lE lN) G H → gF (dC, dI) SKm G ([(0, 0), (30, 0), (31, 0), (39, 0), (47, 0), (51, 0), (52, 0)] : List (Nat × Nat)) s.heap H → va_S A s.heap H locs → ct H (q 38) 60 vH → el H o0 (dI 15 42) = some (.int sn) → ∀ ls : Array Slot, lv_has ls 6 [(2, .int (nI i26)), (0, .ref o0), (1, .int p0)] → W p l e (headSpec w_s_chooseH ({ frames := 6, cells := 0, slots := 0, locals := 134 })).room s m #[.ref o0, .int p0] below meth c H locs 0 0 (MQ below (va_Qi (fun (r : Int32) (u : (Nat → Int32)) => (zHb u sn.toInt)) (fun (vH1 : (Nat → Int32)) (t : State) => gH (dC, dI) kA (SHm q (wP wZ wN wH wB wC wL wK wU wV) PI im PM PT lS lB lE lN) G t.heap ∧ gF (dC, dI) SKm G ([(0, 0), (30, 0), (31, 0), (39, 0), (47, 0), (51, 0), (52, 0)] : List (Nat × Nat)) s.heap t.heap ∧ ct t.heap (q 38) 60 vH1) A) #[.ref o0, .int p0] s 0 0 A) (F0 m 32 ls []) := by
      intro n177
      induction n177 with
      | zero =>
        intro i26 hn177 hlo178  H locs hT hF hS m27 m28 ls hl
        obtain rfl : 60 = i26 := by omega
        refine lv_iload_n hx hb dX12_choose_32 rfl (lv_at hl 0 rfl) ?_
        refine lv_aload_n hx hb dX12_choose_33 rfl (lv_at hl 1 rfl) ?_
        refine tw_getM (v := .int sn) hx hb hts bF_X12 hown hK hT hr_o0 shm_0 rfl 42 (by decide) (ht_at hts 9 rfl) (fun _ h9 => h9) m28 dX12_choose_34 ?_
        refine lv_icmp_ge (tgt := 90) hx hb dX12_choose_37 (by decide) (fun c179 => ?_) (fun c179 => (by exfalso; have q9 : ((60 : Nat) : Int) < sn.toInt := ti_nle c179 rfl (nI_toInt (by omega)); omega))
        have t180 : sn.toInt ≤ ((60 : Nat) : Int) := ti_le c179 rfl (nI_toInt (by omega))
        refine lv_iconst (v := 0) hx hb dX12_choose_90 (by decide) ?_
        refine lv_istore_n (lv' := [(2, .int 0), (0, .ref o0), (1, .int p0)]) hx hb dX12_choose_91 rfl hl (by decide) rfl (fun ls hl => ?_)
        refine lv_iconst (v := 0) hx hb dX12_choose_92 (by decide) ?_
        refine lv_istore_n (lv' := [(3, .int 0), (2, .int 0), (0, .ref o0), (1, .int p0)]) hx hb dX12_choose_93 rfl hl (by decide) rfl (fun ls hl => ?_)
        have key223 : ∀ (n223 i181 : Nat), i181 + n223 = 60 → 0 ≤ i181 → ∀ (z182 : Int32), ∀ (V183 : Nat → Int32), ((zHb V183 sn.toInt)) → ∀ (H : Heap) (locs : List Loc), gH (dC, dI) kA (SHm q (wP wZ wN wH wB wC wL wK wU wV) PI im PM PT lS lB lE lN) G H → gF (dC, dI) SKm G ([(0, 0), (30, 0), (31, 0), (39, 0), (47, 0), (51, 0), (52, 0)] : List (Nat × Nat)) s.heap H → va_S A s.heap H locs → ct H (q 38) 60 V183 → el H o0 (dI 15 42) = some (.int sn) → ∀ ls : Array Slot, lv_has ls 6 [(3, .int (nI i181)), (2, .int z182), (0, .ref o0), (1, .int p0)] → W p l e (headSpec w_s_chooseH ({ frames := 6, cells := 0, slots := 0, locals := 134 })).room s m #[.ref o0, .int p0] below meth c H locs 0 0 (MQ below (va_Qi (fun (r : Int32) (u : (Nat → Int32)) => (zHb u sn.toInt)) (fun (vH1 : (Nat → Int32)) (t : State) => gH (dC, dI) kA (SHm q (wP wZ wN wH wB wC wL wK wU wV) PI im PM PT lS lB lE lN) G t.heap ∧ gF (dC, dI) SKm G ([(0, 0), (30, 0), (31, 0), (39, 0), (47, 0), (51, 0), (52, 0)] : List (Nat × Nat)) s.heap t.heap ∧ ct t.heap (q 38) 60 vH1) A) #[.ref o0, .int p0] s 0 0 A) (F0 m 94 ls []) := by
          intro n223
          induction n223 with
          | zero =>
            intro i181 hn223 hlo224 z182 V183 hj186 H locs hT hF hS m184 m185 ls hl
            obtain rfl : 60 = i181 := by omega
            refine lv_iload_n hx hb dX12_choose_94 rfl (lv_at hl 0 rfl) ?_
            refine lv_iload_n hx hb dX12_choose_95 rfl (lv_at hl 3 rfl) ?_
            refine lv_icmp_ge (tgt := 158) hx hb dX12_choose_96 (by decide) (fun c225 => ?_) (fun c225 => (by exfalso; have q9 : ((60 : Nat) : Int) < p0.toInt := ti_nle c225 rfl (nI_toInt (by omega)); omega))
            have t226 : p0.toInt ≤ ((60 : Nat) : Int) := ti_le c225 rfl (nI_toInt (by omega))
            refine lv_iload_n hx hb dX12_choose_158 rfl (lv_at hl 1 rfl) ?_
            exact W.iret (v := z182) hx hb hr (fun t ht hW => ⟨⟨z182, V183, rfl, (by exact hj186), by (try dsimp only); rw [ht]; exact ⟨hT, hF, m184⟩⟩, hS.F ht⟩) hS.2.2 dX12_choose_159
          | succ n223 ih223 =>
            intro i181 hn223 hlo224 z182 V183 hj186 H locs hT hF hS m184 m185 ls hl
            have hlt226 : i181 < 60 := by omega
            refine lv_iload_n hx hb dX12_choose_94 rfl (lv_at hl 0 rfl) ?_
            refine lv_iload_n hx hb dX12_choose_95 rfl (lv_at hl 3 rfl) ?_
            refine lv_icmp_ge (tgt := 158) hx hb dX12_choose_96 (by decide) (fun c227 => ?_) (fun c227 => ?_)
            · have t228 : p0.toInt ≤ ((i181 : Nat) : Int) := ti_le c227 rfl (nI_toInt (by omega))
              refine lv_iload_n hx hb dX12_choose_158 rfl (lv_at hl 1 rfl) ?_
              exact W.iret (v := z182) hx hb hr (fun t ht hW => ⟨⟨z182, V183, rfl, (by exact hj186), by (try dsimp only); rw [ht]; exact ⟨hT, hF, m184⟩⟩, hS.F ht⟩) hS.2.2 dX12_choose_159
            · have t229 : ((i181 : Nat) : Int) < p0.toInt := ti_nle c227 rfl (nI_toInt (by omega))
              refine lv_aload_n hx hb dX12_choose_99 rfl (lv_at hl 2 rfl) ?_
              have hFc := gA_free hG hA hS
              refine va_calli (va_runV (As := []) (rest := []) ⟨hx, hb, hml, hown, hts⟩ (s_nextOne l dC dI kA adK adV G H q wZ wN wH wB wC wL wK wU wV PI im PM PT lS lB lE lN o0 hT hr_o0 hgz hgn hgh hgb hgc hgi hgu) (cwV 0 hts (goodIn_app (goodIn_r _ [15, 16, 17, 5] rfl (by decide +kernel)) (goodIn_ca (goodIn_r _ [11, 10, 12, 13, 14] rfl (by decide +kernel)) (bs_in _ _))) rfl rfl rfl (by decide +kernel) ⟨(Nat.le_of_ble_eq_true rfl), (Nat.le_of_ble_eq_true rfl)⟩) ⟨fun a U g mk q => by obtain ⟨q0, q1, qK, qE⟩ := q; exact ⟨q0, q1, va_K.moved (u := U) (U := U.calling g mk a) (Vm.Alike.refl U.vm) qK, EVS.blind g mk a qE⟩, gH_rc hK hT hr_o0 shm_0 rfl, fun U hU hW => ⟨rfl, hU, va_K.moved hW.alike hK, hE.call hS hFc hU hW⟩⟩ rfl rfl hl.1 rfl (lv_room (Nat.le_of_ble_eq_true rfl)) dX12_choose_100 ⟨(Nat.le_of_ble_eq_true rfl), (Nat.le_of_ble_eq_true rfl)⟩) hS (fun q _ h => hFc q h) hFc (fun r230 u t H locs ht hvm hw231 hB _ _ hS => ?_)
              obtain ⟨hT, hF1⟩ := hB
              rw [ht] at hT hF1
              have m232 := m184.kept (hF1.arr hg1 skm_39 (by decide))
              have m233 := (hF1.fld hr_o0 skm_0 (k := 42) (by decide) (by decide)).trans m185
              have hF := hF.more hF1 (by decide)
              try dsimp only at hw231
              have h234 := hw231
              refine lv_istore (lv' := [(4, .int r230), (3, .int (nI i181)), (2, .int z182), (0, .ref o0), (1, .int p0)]) hx hb dX12_choose_103 hl (by decide) rfl (fun ls hl => ?_)
              refine lv_aload_n hx hb dX12_choose_105 rfl (lv_at hl 3 rfl) ?_
              have hFc := gA_free hG hA hS
              refine va_calli (va_runV (As := []) (rest := []) ⟨hx, hb, hml, hown, hts⟩ (s_bestFarm l dC dI kA adK adV G H q wZ wN wH wB wC wL wK wU wV PI im PM PT lS lB lE lN o0 hT hr_o0 hgz hgn hgh hgb hgc hgi hgu) (cwV 0 hts (goodIn_app (goodIn_r _ [38, 39, 40, 5] rfl (by decide +kernel)) (goodIn_ca (goodIn_r _ [18, 19, 20, 21, 22, 23, 24, 25, 26, 27, 28, 29, 30, 31, 2, 3, 4, 5, 32, 33, 34, 35, 36, 37] rfl (by decide +kernel)) (bs_in _ _))) rfl rfl rfl (by decide +kernel) ⟨(Nat.le_of_ble_eq_true rfl), (Nat.le_of_ble_eq_true rfl)⟩) ⟨fun a U g mk q => by obtain ⟨q0, q1, qK, qE⟩ := q; exact ⟨q0, q1, va_K.moved (u := U) (U := U.calling g mk a) (Vm.Alike.refl U.vm) qK, EVS.blind g mk a qE⟩, gH_rc hK hT hr_o0 shm_0 rfl, fun U hU hW => ⟨rfl, hU, va_K.moved hW.alike hK, hE.call hS hFc hU hW⟩⟩ rfl rfl hl.1 rfl (lv_room (Nat.le_of_ble_eq_true rfl)) dX12_choose_106 ⟨(Nat.le_of_ble_eq_true rfl), (Nat.le_of_ble_eq_true rfl)⟩) hS (fun q _ h => hFc q h) hFc (fun r235 u t H locs ht hvm hw236 hB _ _ hS => ?_)
              obtain ⟨hT, hF1⟩ := hB
              rw [ht] at hT hF1
              have m237 := m232.kept (hF1.arr hg1 skm_39 (by decide))
              have m238 := (hF1.fld hr_o0 skm_0 (k := 42) (by decide) (by decide)).trans m233
              have hF := hF.more hF1 (by decide)
              try dsimp only at hw236
              have h239 := hw236
              refine lv_istore (lv' := [(5, .int r235), (4, .int r230), (3, .int (nI i181)), (2, .int z182), (0, .ref o0), (1, .int p0)]) hx hb dX12_choose_109 hl (by decide) rfl (fun ls hl => ?_)
              refine lv_iload hx hb dX12_choose_111 (lv_at hl 1 rfl) ?_
              refine lv_if_lt (tgt := 121) hx hb dX12_choose_113 (by decide) (fun c240 => ?_) (fun c240 => ?_)
              · have t241 : r230.toInt < 0 := ti_lt c240 rfl (by decide)
                refine lv_iload_n hx hb dX12_choose_121 rfl (lv_at hl 3 rfl) ?_
                exact W.iret (v := z182) hx hb hr (fun t ht hW => ⟨⟨z182, V183, rfl, (by exact hj186), by (try dsimp only); rw [ht]; exact ⟨hT, hF, m237⟩⟩, hS.F ht⟩) hS.2.2 dX12_choose_122
              · have t242 : 0 ≤ r230.toInt := ti_nlt c240 rfl (by decide)
                refine lv_iload hx hb dX12_choose_116 (lv_at hl 0 rfl) ?_
                refine lv_if_ge (tgt := 123) hx hb dX12_choose_118 (by decide) (fun c243 => ?_) (fun c243 => ?_)
                · have t244 : 0 ≤ r235.toInt := ti_le c243 (by decide) rfl
                  refine lv_aload_n hx hb dX12_choose_123 rfl (lv_at hl 4 rfl) ?_
                  refine tw_get hx hb hts bF_X12 hown hK hT hr_o0 shm_0 rfl 51 (by decide) (ht_at hts 11 rfl) (fun _ h9 => h9) dX12_choose_124 (fun v9 m245 h9 => ?_)
                  obtain ⟨rfl, hg246⟩ := h9 _ rfl
                  refine lv_iload hx hb dX12_choose_127 (lv_at hl 1 rfl) ?_
                  refine lv_iconst (v := 0) hx hb dX12_choose_129 (by decide) ?_
                  refine tw_zast (i := r230) (x := 0) hx hb hK hT hG hS hg246 shm_52 rfl (vin_t (a := r230.toInt) rfl (by omega) (by omega)) (gi_z (rg_t (a := 0) (by decide) (by first | decide | omega) (by first | decide | omega)) (by decide) (by decide)) dX12_choose_130 (fun H locs hT oq m247 oi hS => ?_)
                  have hF := hF.ast hg246 skm_52 oq (by decide)
                  have m248 := m237.kept (oq _ (gne hg1 hg246 (by decide)))
                  have m249 := (el_kept (oq _ (gne hr_o0 hg246 (by decide)))).trans m238
                  refine lv_aload_n hx hb dX12_choose_131 rfl (lv_at hl 4 rfl) ?_
                  refine tw_get hx hb hts bF_X12 hown hK hT hr_o0 shm_0 rfl 38 (by decide) (ht_at hts 40 rfl) (fun _ h9 => h9) dX12_choose_132 (fun v9 m250 h9 => ?_)
                  obtain ⟨rfl, hg251⟩ := h9 _ rfl
                  refine lv_iload hx hb dX12_choose_135 (lv_at hl 1 rfl) ?_
                  refine lv_iload hx hb dX12_choose_137 (lv_at hl 0 rfl) ?_
                  refine tw_iast (i := r230) (x := r235) hx hb hK hT hG hS hg1 shm_39 rfl (vin_t (a := r230.toInt) rfl (by omega) (by omega)) (gi_of (show r235.toInt = r235.toInt from rfl) (by omega) (by omega)) dX12_choose_139 (fun H locs hT oq m252 oi hS => ?_)
                  have hF := hF.ast hg1 skm_39 oq (by decide)
                  have m253 := m248.put m252 oi
                  have m254 := (el_kept (oq _ (gne hr_o0 hg1 (by decide)))).trans m249
                  refine lv_aload_n hx hb dX12_choose_140 rfl (lv_at hl 4 rfl) ?_
                  refine tw_get hx hb hts bF_X12 hown hK hT hr_o0 shm_0 rfl 46 (by decide) (ht_at hts 19 rfl) (fun _ h9 => h9) dX12_choose_141 (fun v9 m255 h9 => ?_)
                  obtain ⟨rfl, hg256⟩ := h9 _ rfl
                  refine lv_iload hx hb dX12_choose_144 (lv_at hl 0 rfl) ?_
                  refine lv_iload hx hb dX12_choose_146 (lv_at hl 1 rfl) ?_
                  refine tw_iast (i := r235) (x := r230) hx hb hK hT hG hS hg256 shm_47 rfl (vin_t (a := r235.toInt) rfl (by omega) (by omega)) (gi_of (show r230.toInt = r230.toInt from rfl) (by omega) (by omega)) dX12_choose_148 (fun H locs hT oq m257 oi hS => ?_)
                  have hF := hF.ast hg256 skm_47 oq (by decide)
                  have m258 := m253.kept (oq _ (gne hg1 hg256 (by decide)))
                  have m259 := (el_kept (oq _ (gne hr_o0 hg256 (by decide)))).trans m254
                  have m260 := (el_kept (oq _ (gne hg1 hg256 (by decide)))).trans m252
                  obtain ⟨x261, ex261⟩ : ∃ y : Int32, y = z182 + 1 := ⟨_, rfl⟩
                  refine lv_iinc (v := x261) (lv' := [(2, .int x261), (5, .int r235), (4, .int r230), (3, .int (nI i181)), (0, .ref o0), (1, .int p0)]) hx hb dX12_choose_149 hl (k := 3) rfl (by first | (rw [ex261]; done) | (rw [ex261]; rfl)) (by decide) rfl (fun ls hl => ?_)
                  refine lv_iinc (v := nI (i181 + 1)) (lv' := [(3, .int (nI (i181 + 1))), (2, .int x261), (5, .int r235), (4, .int r230), (0, .ref o0), (1, .int p0)]) hx hb dX12_choose_152 hl (k := 3) rfl (nI_add i181 1) (by decide) rfl (fun ls hl => ?_)
                  refine lv_goto (tgt := 94) hx hb dX12_choose_155 (by decide) ?_
                  exact ih223 (i181 + 1) (by omega) (by omega) x261 (cu V183 r230.toNatClampNeg r235) (zHb_cu hj186 (by have := (show r235.toInt = r235.toInt from rfl); omega)) _ _ hT hF hS m258 m259 ls (lv_sub hl [0, 1, 4, 5] rfl)
                · have t262 : r235.toInt < 0 := ti_nle c243 (by decide) rfl
                  refine lv_iload_n hx hb dX12_choose_121 rfl (lv_at hl 3 rfl) ?_
                  exact W.iret (v := z182) hx hb hr (fun t ht hW => ⟨⟨z182, V183, rfl, (by exact hj186), by (try dsimp only); rw [ht]; exact ⟨hT, hF, m237⟩⟩, hS.F ht⟩) hS.2.2 dX12_choose_122
        exact key223 (60 - 0) 0 (by omega) (Nat.le_refl _) 0 vH hzb _ _ hT hF hS m27 m28 ls (lv_sub hl [0, 1, 2, 3] rfl)
      | succ n177 ih177 =>
        intro i26 hn177 hlo178  H locs hT hF hS m27 m28 ls hl
        have hlt262 : i26 < 60 := by omega
        refine lv_iload_n hx hb dX12_choose_32 rfl (lv_at hl 0 rfl) ?_
        refine lv_aload_n hx hb dX12_choose_33 rfl (lv_at hl 1 rfl) ?_
        refine tw_getM (v := .int sn) hx hb hts bF_X12 hown hK hT hr_o0 shm_0 rfl 42 (by decide) (ht_at hts 9 rfl) (fun _ h9 => h9) m28 dX12_choose_34 ?_
        refine lv_icmp_ge (tgt := 90) hx hb dX12_choose_37 (by decide) (fun c263 => ?_) (fun c263 => ?_)
        · have t264 : sn.toInt ≤ ((i26 : Nat) : Int) := ti_le c263 rfl (nI_toInt (by omega))
          refine lv_iconst (v := 0) hx hb dX12_choose_90 (by decide) ?_
          refine lv_istore_n (lv' := [(2, .int 0), (0, .ref o0), (1, .int p0)]) hx hb dX12_choose_91 rfl hl (by decide) rfl (fun ls hl => ?_)
          refine lv_iconst (v := 0) hx hb dX12_choose_92 (by decide) ?_
          refine lv_istore_n (lv' := [(3, .int 0), (2, .int 0), (0, .ref o0), (1, .int p0)]) hx hb dX12_choose_93 rfl hl (by decide) rfl (fun ls hl => ?_)
          have key307 : ∀ (n307 i265 : Nat), i265 + n307 = 60 → 0 ≤ i265 → ∀ (z266 : Int32), ∀ (V267 : Nat → Int32), ((zHb V267 sn.toInt)) → ∀ (H : Heap) (locs : List Loc), gH (dC, dI) kA (SHm q (wP wZ wN wH wB wC wL wK wU wV) PI im PM PT lS lB lE lN) G H → gF (dC, dI) SKm G ([(0, 0), (30, 0), (31, 0), (39, 0), (47, 0), (51, 0), (52, 0)] : List (Nat × Nat)) s.heap H → va_S A s.heap H locs → ct H (q 38) 60 V267 → el H o0 (dI 15 42) = some (.int sn) → ∀ ls : Array Slot, lv_has ls 6 [(3, .int (nI i265)), (2, .int z266), (0, .ref o0), (1, .int p0)] → W p l e (headSpec w_s_chooseH ({ frames := 6, cells := 0, slots := 0, locals := 134 })).room s m #[.ref o0, .int p0] below meth c H locs 0 0 (MQ below (va_Qi (fun (r : Int32) (u : (Nat → Int32)) => (zHb u sn.toInt)) (fun (vH1 : (Nat → Int32)) (t : State) => gH (dC, dI) kA (SHm q (wP wZ wN wH wB wC wL wK wU wV) PI im PM PT lS lB lE lN) G t.heap ∧ gF (dC, dI) SKm G ([(0, 0), (30, 0), (31, 0), (39, 0), (47, 0), (51, 0), (52, 0)] : List (Nat × Nat)) s.heap t.heap ∧ ct t.heap (q 38) 60 vH1) A) #[.ref o0, .int p0] s 0 0 A) (F0 m 94 ls []) := by
            intro n307
            induction n307 with
            | zero =>
              intro i265 hn307 hlo308 z266 V267 hj270 H locs hT hF hS m268 m269 ls hl
              obtain rfl : 60 = i265 := by omega
              refine lv_iload_n hx hb dX12_choose_94 rfl (lv_at hl 0 rfl) ?_
              refine lv_iload_n hx hb dX12_choose_95 rfl (lv_at hl 3 rfl) ?_
              refine lv_icmp_ge (tgt := 158) hx hb dX12_choose_96 (by decide) (fun c309 => ?_) (fun c309 => (by exfalso; have q9 : ((60 : Nat) : Int) < p0.toInt := ti_nle c309 rfl (nI_toInt (by omega)); omega))
              have t310 : p0.toInt ≤ ((60 : Nat) : Int) := ti_le c309 rfl (nI_toInt (by omega))
              refine lv_iload_n hx hb dX12_choose_158 rfl (lv_at hl 1 rfl) ?_
              exact W.iret (v := z266) hx hb hr (fun t ht hW => ⟨⟨z266, V267, rfl, (by exact hj270), by (try dsimp only); rw [ht]; exact ⟨hT, hF, m268⟩⟩, hS.F ht⟩) hS.2.2 dX12_choose_159
            | succ n307 ih307 =>
              intro i265 hn307 hlo308 z266 V267 hj270 H locs hT hF hS m268 m269 ls hl
              have hlt310 : i265 < 60 := by omega
              refine lv_iload_n hx hb dX12_choose_94 rfl (lv_at hl 0 rfl) ?_
              refine lv_iload_n hx hb dX12_choose_95 rfl (lv_at hl 3 rfl) ?_
              refine lv_icmp_ge (tgt := 158) hx hb dX12_choose_96 (by decide) (fun c311 => ?_) (fun c311 => ?_)
              · have t312 : p0.toInt ≤ ((i265 : Nat) : Int) := ti_le c311 rfl (nI_toInt (by omega))
                refine lv_iload_n hx hb dX12_choose_158 rfl (lv_at hl 1 rfl) ?_
                exact W.iret (v := z266) hx hb hr (fun t ht hW => ⟨⟨z266, V267, rfl, (by exact hj270), by (try dsimp only); rw [ht]; exact ⟨hT, hF, m268⟩⟩, hS.F ht⟩) hS.2.2 dX12_choose_159
              · have t313 : ((i265 : Nat) : Int) < p0.toInt := ti_nle c311 rfl (nI_toInt (by omega))
                refine lv_aload_n hx hb dX12_choose_99 rfl (lv_at hl 2 rfl) ?_
                have hFc := gA_free hG hA hS
                refine va_calli (va_runV (As := []) (rest := []) ⟨hx, hb, hml, hown, hts⟩ (s_nextOne l dC dI kA adK adV G H q wZ wN wH wB wC wL wK wU wV PI im PM PT lS lB lE lN o0 hT hr_o0 hgz hgn hgh hgb hgc hgi hgu) (cwV 0 hts (goodIn_app (goodIn_r _ [15, 16, 17, 5] rfl (by decide +kernel)) (goodIn_ca (goodIn_r _ [11, 10, 12, 13, 14] rfl (by decide +kernel)) (bs_in _ _))) rfl rfl rfl (by decide +kernel) ⟨(Nat.le_of_ble_eq_true rfl), (Nat.le_of_ble_eq_true rfl)⟩) ⟨fun a U g mk q => by obtain ⟨q0, q1, qK, qE⟩ := q; exact ⟨q0, q1, va_K.moved (u := U) (U := U.calling g mk a) (Vm.Alike.refl U.vm) qK, EVS.blind g mk a qE⟩, gH_rc hK hT hr_o0 shm_0 rfl, fun U hU hW => ⟨rfl, hU, va_K.moved hW.alike hK, hE.call hS hFc hU hW⟩⟩ rfl rfl hl.1 rfl (lv_room (Nat.le_of_ble_eq_true rfl)) dX12_choose_100 ⟨(Nat.le_of_ble_eq_true rfl), (Nat.le_of_ble_eq_true rfl)⟩) hS (fun q _ h => hFc q h) hFc (fun r314 u t H locs ht hvm hw315 hB _ _ hS => ?_)
                obtain ⟨hT, hF1⟩ := hB
                rw [ht] at hT hF1
                have m316 := m268.kept (hF1.arr hg1 skm_39 (by decide))
                have m317 := (hF1.fld hr_o0 skm_0 (k := 42) (by decide) (by decide)).trans m269
                have hF := hF.more hF1 (by decide)
                try dsimp only at hw315
                have h318 := hw315
                refine lv_istore (lv' := [(4, .int r314), (3, .int (nI i265)), (2, .int z266), (0, .ref o0), (1, .int p0)]) hx hb dX12_choose_103 hl (by decide) rfl (fun ls hl => ?_)
                refine lv_aload_n hx hb dX12_choose_105 rfl (lv_at hl 3 rfl) ?_
                have hFc := gA_free hG hA hS
                refine va_calli (va_runV (As := []) (rest := []) ⟨hx, hb, hml, hown, hts⟩ (s_bestFarm l dC dI kA adK adV G H q wZ wN wH wB wC wL wK wU wV PI im PM PT lS lB lE lN o0 hT hr_o0 hgz hgn hgh hgb hgc hgi hgu) (cwV 0 hts (goodIn_app (goodIn_r _ [38, 39, 40, 5] rfl (by decide +kernel)) (goodIn_ca (goodIn_r _ [18, 19, 20, 21, 22, 23, 24, 25, 26, 27, 28, 29, 30, 31, 2, 3, 4, 5, 32, 33, 34, 35, 36, 37] rfl (by decide +kernel)) (bs_in _ _))) rfl rfl rfl (by decide +kernel) ⟨(Nat.le_of_ble_eq_true rfl), (Nat.le_of_ble_eq_true rfl)⟩) ⟨fun a U g mk q => by obtain ⟨q0, q1, qK, qE⟩ := q; exact ⟨q0, q1, va_K.moved (u := U) (U := U.calling g mk a) (Vm.Alike.refl U.vm) qK, EVS.blind g mk a qE⟩, gH_rc hK hT hr_o0 shm_0 rfl, fun U hU hW => ⟨rfl, hU, va_K.moved hW.alike hK, hE.call hS hFc hU hW⟩⟩ rfl rfl hl.1 rfl (lv_room (Nat.le_of_ble_eq_true rfl)) dX12_choose_106 ⟨(Nat.le_of_ble_eq_true rfl), (Nat.le_of_ble_eq_true rfl)⟩) hS (fun q _ h => hFc q h) hFc (fun r319 u t H locs ht hvm hw320 hB _ _ hS => ?_)
                obtain ⟨hT, hF1⟩ := hB
                rw [ht] at hT hF1
                have m321 := m316.kept (hF1.arr hg1 skm_39 (by decide))
                have m322 := (hF1.fld hr_o0 skm_0 (k := 42) (by decide) (by decide)).trans m317
                have hF := hF.more hF1 (by decide)
                try dsimp only at hw320
                have h323 := hw320
                refine lv_istore (lv' := [(5, .int r319), (4, .int r314), (3, .int (nI i265)), (2, .int z266), (0, .ref o0), (1, .int p0)]) hx hb dX12_choose_109 hl (by decide) rfl (fun ls hl => ?_)
                refine lv_iload hx hb dX12_choose_111 (lv_at hl 1 rfl) ?_
                refine lv_if_lt (tgt := 121) hx hb dX12_choose_113 (by decide) (fun c324 => ?_) (fun c324 => ?_)
                · have t325 : r314.toInt < 0 := ti_lt c324 rfl (by decide)
                  refine lv_iload_n hx hb dX12_choose_121 rfl (lv_at hl 3 rfl) ?_
                  exact W.iret (v := z266) hx hb hr (fun t ht hW => ⟨⟨z266, V267, rfl, (by exact hj270), by (try dsimp only); rw [ht]; exact ⟨hT, hF, m321⟩⟩, hS.F ht⟩) hS.2.2 dX12_choose_122
                · have t326 : 0 ≤ r314.toInt := ti_nlt c324 rfl (by decide)
                  refine lv_iload hx hb dX12_choose_116 (lv_at hl 0 rfl) ?_
                  refine lv_if_ge (tgt := 123) hx hb dX12_choose_118 (by decide) (fun c327 => ?_) (fun c327 => ?_)
                  · have t328 : 0 ≤ r319.toInt := ti_le c327 (by decide) rfl
                    refine lv_aload_n hx hb dX12_choose_123 rfl (lv_at hl 4 rfl) ?_
                    refine tw_get hx hb hts bF_X12 hown hK hT hr_o0 shm_0 rfl 51 (by decide) (ht_at hts 11 rfl) (fun _ h9 => h9) dX12_choose_124 (fun v9 m329 h9 => ?_)
                    obtain ⟨rfl, hg330⟩ := h9 _ rfl
                    refine lv_iload hx hb dX12_choose_127 (lv_at hl 1 rfl) ?_
                    refine lv_iconst (v := 0) hx hb dX12_choose_129 (by decide) ?_
                    refine tw_zast (i := r314) (x := 0) hx hb hK hT hG hS hg330 shm_52 rfl (vin_t (a := r314.toInt) rfl (by omega) (by omega)) (gi_z (rg_t (a := 0) (by decide) (by first | decide | omega) (by first | decide | omega)) (by decide) (by decide)) dX12_choose_130 (fun H locs hT oq m331 oi hS => ?_)
                    have hF := hF.ast hg330 skm_52 oq (by decide)
                    have m332 := m321.kept (oq _ (gne hg1 hg330 (by decide)))
                    have m333 := (el_kept (oq _ (gne hr_o0 hg330 (by decide)))).trans m322
                    refine lv_aload_n hx hb dX12_choose_131 rfl (lv_at hl 4 rfl) ?_
                    refine tw_get hx hb hts bF_X12 hown hK hT hr_o0 shm_0 rfl 38 (by decide) (ht_at hts 40 rfl) (fun _ h9 => h9) dX12_choose_132 (fun v9 m334 h9 => ?_)
                    obtain ⟨rfl, hg335⟩ := h9 _ rfl
                    refine lv_iload hx hb dX12_choose_135 (lv_at hl 1 rfl) ?_
                    refine lv_iload hx hb dX12_choose_137 (lv_at hl 0 rfl) ?_
                    refine tw_iast (i := r314) (x := r319) hx hb hK hT hG hS hg1 shm_39 rfl (vin_t (a := r314.toInt) rfl (by omega) (by omega)) (gi_of (show r319.toInt = r319.toInt from rfl) (by omega) (by omega)) dX12_choose_139 (fun H locs hT oq m336 oi hS => ?_)
                    have hF := hF.ast hg1 skm_39 oq (by decide)
                    have m337 := m332.put m336 oi
                    have m338 := (el_kept (oq _ (gne hr_o0 hg1 (by decide)))).trans m333
                    refine lv_aload_n hx hb dX12_choose_140 rfl (lv_at hl 4 rfl) ?_
                    refine tw_get hx hb hts bF_X12 hown hK hT hr_o0 shm_0 rfl 46 (by decide) (ht_at hts 19 rfl) (fun _ h9 => h9) dX12_choose_141 (fun v9 m339 h9 => ?_)
                    obtain ⟨rfl, hg340⟩ := h9 _ rfl
                    refine lv_iload hx hb dX12_choose_144 (lv_at hl 0 rfl) ?_
                    refine lv_iload hx hb dX12_choose_146 (lv_at hl 1 rfl) ?_
                    refine tw_iast (i := r319) (x := r314) hx hb hK hT hG hS hg340 shm_47 rfl (vin_t (a := r319.toInt) rfl (by omega) (by omega)) (gi_of (show r314.toInt = r314.toInt from rfl) (by omega) (by omega)) dX12_choose_148 (fun H locs hT oq m341 oi hS => ?_)
                    have hF := hF.ast hg340 skm_47 oq (by decide)
                    have m342 := m337.kept (oq _ (gne hg1 hg340 (by decide)))
                    have m343 := (el_kept (oq _ (gne hr_o0 hg340 (by decide)))).trans m338
                    have m344 := (el_kept (oq _ (gne hg1 hg340 (by decide)))).trans m336
                    obtain ⟨x345, ex345⟩ : ∃ y : Int32, y = z266 + 1 := ⟨_, rfl⟩
                    refine lv_iinc (v := x345) (lv' := [(2, .int x345), (5, .int r319), (4, .int r314), (3, .int (nI i265)), (0, .ref o0), (1, .int p0)]) hx hb dX12_choose_149 hl (k := 3) rfl (by first | (rw [ex345]; done) | (rw [ex345]; rfl)) (by decide) rfl (fun ls hl => ?_)
                    refine lv_iinc (v := nI (i265 + 1)) (lv' := [(3, .int (nI (i265 + 1))), (2, .int x345), (5, .int r319), (4, .int r314), (0, .ref o0), (1, .int p0)]) hx hb dX12_choose_152 hl (k := 3) rfl (nI_add i265 1) (by decide) rfl (fun ls hl => ?_)
                    refine lv_goto (tgt := 94) hx hb dX12_choose_155 (by decide) ?_
                    exact ih307 (i265 + 1) (by omega) (by omega) x345 (cu V267 r314.toNatClampNeg r319) (zHb_cu hj270 (by have := (show r319.toInt = r319.toInt from rfl); omega)) _ _ hT hF hS m342 m343 ls (lv_sub hl [0, 1, 4, 5] rfl)
                  · have t346 : r319.toInt < 0 := ti_nle c327 (by decide) rfl
                    refine lv_iload_n hx hb dX12_choose_121 rfl (lv_at hl 3 rfl) ?_
                    exact W.iret (v := z266) hx hb hr (fun t ht hW => ⟨⟨z266, V267, rfl, (by exact hj270), by (try dsimp only); rw [ht]; exact ⟨hT, hF, m321⟩⟩, hS.F ht⟩) hS.2.2 dX12_choose_122
          exact key307 (60 - 0) 0 (by omega) (Nat.le_refl _) 0 vH hzb _ _ hT hF hS m27 m28 ls (lv_sub hl [0, 1, 2, 3] rfl)
        · have t347 : ((i26 : Nat) : Int) < sn.toInt := ti_nle c263 rfl (nI_toInt (by omega))
          refine lv_aload_n hx hb dX12_choose_40 rfl (lv_at hl 1 rfl) ?_
          refine tw_get hx hb hts bF_X12 hown hK hT hr_o0 shm_0 rfl 51 (by decide) (ht_at hts 11 rfl) (fun _ h9 => h9) dX12_choose_41 (fun v9 m348 h9 => ?_)
          obtain ⟨rfl, hg349⟩ := h9 _ rfl
          refine lv_iload_n hx hb dX12_choose_44 rfl (lv_at hl 0 rfl) ?_
          refine lv_aload_n hx hb dX12_choose_45 rfl (lv_at hl 1 rfl) ?_
          refine tw_get hx hb hts bF_X12 hown hK hT hr_o0 shm_0 rfl 38 (by decide) (ht_at hts 40 rfl) (fun _ h9 => h9) dX12_choose_46 (fun v9 m350 h9 => ?_)
          obtain ⟨rfl, hg351⟩ := h9 _ rfl
          refine lv_iload_n hx hb dX12_choose_49 rfl (lv_at hl 0 rfl) ?_
          refine tw_iald (i := (nI i26)) hx hb hK hT hg1 shm_39 rfl (vp_in_nI (by omega) (by decide)) dX12_choose_50 (fun v9 m352 h9 => ?_)
          obtain ⟨x353, rfl, gx353, kx353⟩ := h9
          have cx353 := m27.at m352 (by have q9 := tn_of (show (nI i26).toInt = ((i26 : Nat) : Int) from (nI_toInt (by omega))) (by omega); omega)
          refine lv_if_ge (tgt := 70) hx hb dX12_choose_51 (by decide) (fun c354 => ?_) (fun c354 => ?_)
          · have t355 : 0 ≤ x353.toInt := ti_le c354 (by decide) rfl
            refine lv_iconst (v := 0) hx hb dX12_choose_70 (by decide) ?_
            refine tw_zast (i := (nI i26)) (x := 0) hx hb hK hT hG hS hg349 shm_52 rfl (vp_in_nI (by omega) (by decide)) (gi_z (rg_t (a := 0) (by decide) (by first | decide | omega) (by first | decide | omega)) (by decide) (by decide)) dX12_choose_71 (fun H locs hT oq m356 oi hS => ?_)
            have hF := hF.ast hg349 skm_52 oq (by decide)
            have m357 := m27.kept (oq _ (gne hg1 hg349 (by decide)))
            have m358 := (el_kept (oq _ (gne hr_o0 hg349 (by decide)))).trans m28
            have m359 := (el_kept (oq _ (gne hg1 hg349 (by decide)))).trans m352
            refine lv_aload_n hx hb dX12_choose_72 rfl (lv_at hl 1 rfl) ?_
            refine tw_get hx hb hts bF_X12 hown hK hT hr_o0 shm_0 rfl 50 (by decide) (ht_at hts 12 rfl) (fun _ h9 => h9) dX12_choose_73 (fun v9 m360 h9 => ?_)
            obtain ⟨rfl, hg361⟩ := h9 _ rfl
            refine lv_iload_n hx hb dX12_choose_76 rfl (lv_at hl 0 rfl) ?_
            refine lv_aload_n hx hb dX12_choose_77 rfl (lv_at hl 1 rfl) ?_
            refine lv_iload_n hx hb dX12_choose_78 rfl (lv_at hl 0 rfl) ?_
            refine lv_iconst (v := 4) hx hb dX12_choose_79 (by decide) ?_
            have hFc := gA_free hG hA hS
            refine va_calll (va_runV (As := [.int (nI i26), .int 4]) (rest := [.int (nI i26), .ref (q 50)]) ⟨hx, hb, hml, hown, hts⟩ (s_sumOf l dC dI kA adK adV G H q wZ wN wH wB wC wL wK wU wV PI im PM PT lS lB lE lN o0 (nI i26) 4 hT hr_o0 (rg_t (a := ((i26 : Nat) : Int)) (nI_toInt (by omega)) (by omega) (by omega)) (by assumption) hgz hgn hgh hgb hgc hgi hgu) (cwV 2 hts (goodIn_app (goodIn_r _ [96, 97, 98, 5] rfl (by decide +kernel)) (goodIn_ca (goodIn_r _ [42, 43, 44, 45, 41, 22, 23, 24, 25, 26, 27, 28, 29, 30, 31, 2, 3, 4, 5, 32, 33, 46, 47, 48, 49, 50, 51, 52, 53, 54, 55, 56, 34, 57, 58, 59, 60, 61, 62, 63, 64, 65, 66, 67, 68, 69, 70, 71, 72, 73, 74, 75, 76, 77, 78, 79, 80, 81, 82, 83, 84, 85, 86, 87, 88, 89, 90, 91, 92, 93, 94, 95] rfl (by decide +kernel)) (bs_in _ _))) rfl rfl rfl (by decide +kernel) ⟨(Nat.le_of_ble_eq_true rfl), (Nat.le_of_ble_eq_true rfl)⟩) ⟨fun a U g mk q => by obtain ⟨q0, q1, qK, qE⟩ := q; exact ⟨q0, q1, va_K.moved (u := U) (U := U.calling g mk a) (Vm.Alike.refl U.vm) qK, EVS.blind g mk a qE⟩, gH_rc hK hT hr_o0 shm_0 rfl, fun U hU hW => ⟨rfl, hU, va_K.moved hW.alike hK, hE.call hS hFc hU hW⟩⟩ rfl rfl hl.1 rfl (lv_room (Nat.le_of_ble_eq_true rfl)) dX12_choose_80 ⟨(Nat.le_of_ble_eq_true rfl), (Nat.le_of_ble_eq_true rfl)⟩) hS (fun q _ h => hFc q h) hFc (fun r362 u t H locs ht hvm hw363 hB _ _ hS => ?_)
            obtain ⟨hT, hF1⟩ := hB
            rw [ht] at hT hF1
            have m364 := m357.kept (hF1.arr hg1 skm_39 (by decide))
            have m365 := (hF1.fld hr_o0 skm_0 (k := 42) (by decide) (by decide)).trans m358
            have m366 := (el_kept (hF1.arr hg1 skm_39 (by decide))).trans m359
            have hF := hF.more hF1 (by decide)
            try dsimp only at hw363
            refine tw_last (i := (nI i26))  hx hb hK hT hG hS hg361 shm_51 rfl (vp_in_nI (by omega) (by decide)) ⟨_, rfl⟩ dX12_choose_83 (fun H locs hT oq m367 oi hS => ?_)
            have hF := hF.ast hg361 skm_51 oq (by decide)
            have m368 := m364.kept (oq _ (gne hg1 hg361 (by decide)))
            have m369 := (el_kept (oq _ (gne hr_o0 hg361 (by decide)))).trans m365
            have m370 := (el_kept (oq _ (gne hg1 hg361 (by decide)))).trans m366
            refine lv_iinc (v := nI (i26 + 1)) (lv' := [(2, .int (nI (i26 + 1))), (0, .ref o0), (1, .int p0)]) hx hb dX12_choose_84 hl (k := 0) rfl (nI_add i26 1) (by decide) rfl (fun ls hl => ?_)
            refine lv_goto (tgt := 32) hx hb dX12_choose_87 (by decide) ?_
            exact ih177 (i26 + 1) (by omega) (by omega) _ _ hT hF hS m368 m369 ls (lv_sub hl [0, 1, 2] rfl)
          · have t371 : x353.toInt < 0 := ti_nle c354 (by decide) rfl
            refine lv_aload_n hx hb dX12_choose_54 rfl (lv_at hl 1 rfl) ?_
            refine lv_iload_n hx hb dX12_choose_55 rfl (lv_at hl 0 rfl) ?_
            refine lv_bipush (v := 6) hx hb dX12_choose_56 (by decide) ?_
            have hFc := gA_free hG hA hS
            refine va_calll (va_runV (As := [.int (nI i26), .int 6]) (rest := [.int (nI i26), .ref (q 51)]) ⟨hx, hb, hml, hown, hts⟩ (s_sumOf l dC dI kA adK adV G H q wZ wN wH wB wC wL wK wU wV PI im PM PT lS lB lE lN o0 (nI i26) 6 hT hr_o0 (rg_t (a := ((i26 : Nat) : Int)) (nI_toInt (by omega)) (by omega) (by omega)) (by assumption) hgz hgn hgh hgb hgc hgi hgu) (cwV 2 hts (goodIn_app (goodIn_r _ [96, 97, 98, 5] rfl (by decide +kernel)) (goodIn_ca (goodIn_r _ [42, 43, 44, 45, 41, 22, 23, 24, 25, 26, 27, 28, 29, 30, 31, 2, 3, 4, 5, 32, 33, 46, 47, 48, 49, 50, 51, 52, 53, 54, 55, 56, 34, 57, 58, 59, 60, 61, 62, 63, 64, 65, 66, 67, 68, 69, 70, 71, 72, 73, 74, 75, 76, 77, 78, 79, 80, 81, 82, 83, 84, 85, 86, 87, 88, 89, 90, 91, 92, 93, 94, 95] rfl (by decide +kernel)) (bs_in _ _))) rfl rfl rfl (by decide +kernel) ⟨(Nat.le_of_ble_eq_true rfl), (Nat.le_of_ble_eq_true rfl)⟩) ⟨fun a U g mk q => by obtain ⟨q0, q1, qK, qE⟩ := q; exact ⟨q0, q1, va_K.moved (u := U) (U := U.calling g mk a) (Vm.Alike.refl U.vm) qK, EVS.blind g mk a qE⟩, gH_rc hK hT hr_o0 shm_0 rfl, fun U hU hW => ⟨rfl, hU, va_K.moved hW.alike hK, hE.call hS hFc hU hW⟩⟩ rfl rfl hl.1 rfl (lv_room (Nat.le_of_ble_eq_true rfl)) dX12_choose_58 ⟨(Nat.le_of_ble_eq_true rfl), (Nat.le_of_ble_eq_true rfl)⟩) hS (fun q _ h => hFc q h) hFc (fun r372 u t H locs ht hvm hw373 hB _ _ hS => ?_)
            obtain ⟨hT, hF1⟩ := hB
            rw [ht] at hT hF1
            have m374 := m27.kept (hF1.arr hg1 skm_39 (by decide))
            have m375 := (hF1.fld hr_o0 skm_0 (k := 42) (by decide) (by decide)).trans m28
            have m376 := (el_kept (hF1.arr hg1 skm_39 (by decide))).trans m352
            have hF := hF.more hF1 (by decide)
            try dsimp only at hw373
            refine lv_lconst (v := 0) hx hb dX12_choose_61 (by decide) ?_
            refine W.lcmp hx hb dX12_choose_62 ?_
            refine lv_topi (fun x377 _ => ?_)
            refine lv_if_ne (tgt := 70) hx hb dX12_choose_63 (by decide) (fun c378 => ?_) (fun c378 => ?_)
            · have t379 : x377.toInt ≠ 0 := ti_ne c378 rfl (by decide)
              refine lv_iconst (v := 0) hx hb dX12_choose_70 (by decide) ?_
              refine tw_zast (i := (nI i26)) (x := 0) hx hb hK hT hG hS hg349 shm_52 rfl (vp_in_nI (by omega) (by decide)) (gi_z (rg_t (a := 0) (by decide) (by first | decide | omega) (by first | decide | omega)) (by decide) (by decide)) dX12_choose_71 (fun H locs hT oq m380 oi hS => ?_)
              have hF := hF.ast hg349 skm_52 oq (by decide)
              have m381 := m374.kept (oq _ (gne hg1 hg349 (by decide)))
              have m382 := (el_kept (oq _ (gne hr_o0 hg349 (by decide)))).trans m375
              have m383 := (el_kept (oq _ (gne hg1 hg349 (by decide)))).trans m376
              refine lv_aload_n hx hb dX12_choose_72 rfl (lv_at hl 1 rfl) ?_
              refine tw_get hx hb hts bF_X12 hown hK hT hr_o0 shm_0 rfl 50 (by decide) (ht_at hts 12 rfl) (fun _ h9 => h9) dX12_choose_73 (fun v9 m384 h9 => ?_)
              obtain ⟨rfl, hg385⟩ := h9 _ rfl
              refine lv_iload_n hx hb dX12_choose_76 rfl (lv_at hl 0 rfl) ?_
              refine lv_aload_n hx hb dX12_choose_77 rfl (lv_at hl 1 rfl) ?_
              refine lv_iload_n hx hb dX12_choose_78 rfl (lv_at hl 0 rfl) ?_
              refine lv_iconst (v := 4) hx hb dX12_choose_79 (by decide) ?_
              have hFc := gA_free hG hA hS
              refine va_calll (va_runV (As := [.int (nI i26), .int 4]) (rest := [.int (nI i26), .ref (q 50)]) ⟨hx, hb, hml, hown, hts⟩ (s_sumOf l dC dI kA adK adV G H q wZ wN wH wB wC wL wK wU wV PI im PM PT lS lB lE lN o0 (nI i26) 4 hT hr_o0 (rg_t (a := ((i26 : Nat) : Int)) (nI_toInt (by omega)) (by omega) (by omega)) (by assumption) hgz hgn hgh hgb hgc hgi hgu) (cwV 2 hts (goodIn_app (goodIn_r _ [96, 97, 98, 5] rfl (by decide +kernel)) (goodIn_ca (goodIn_r _ [42, 43, 44, 45, 41, 22, 23, 24, 25, 26, 27, 28, 29, 30, 31, 2, 3, 4, 5, 32, 33, 46, 47, 48, 49, 50, 51, 52, 53, 54, 55, 56, 34, 57, 58, 59, 60, 61, 62, 63, 64, 65, 66, 67, 68, 69, 70, 71, 72, 73, 74, 75, 76, 77, 78, 79, 80, 81, 82, 83, 84, 85, 86, 87, 88, 89, 90, 91, 92, 93, 94, 95] rfl (by decide +kernel)) (bs_in _ _))) rfl rfl rfl (by decide +kernel) ⟨(Nat.le_of_ble_eq_true rfl), (Nat.le_of_ble_eq_true rfl)⟩) ⟨fun a U g mk q => by obtain ⟨q0, q1, qK, qE⟩ := q; exact ⟨q0, q1, va_K.moved (u := U) (U := U.calling g mk a) (Vm.Alike.refl U.vm) qK, EVS.blind g mk a qE⟩, gH_rc hK hT hr_o0 shm_0 rfl, fun U hU hW => ⟨rfl, hU, va_K.moved hW.alike hK, hE.call hS hFc hU hW⟩⟩ rfl rfl hl.1 rfl (lv_room (Nat.le_of_ble_eq_true rfl)) dX12_choose_80 ⟨(Nat.le_of_ble_eq_true rfl), (Nat.le_of_ble_eq_true rfl)⟩) hS (fun q _ h => hFc q h) hFc (fun r386 u t H locs ht hvm hw387 hB _ _ hS => ?_)
              obtain ⟨hT, hF1⟩ := hB
              rw [ht] at hT hF1
              have m388 := m381.kept (hF1.arr hg1 skm_39 (by decide))
              have m389 := (hF1.fld hr_o0 skm_0 (k := 42) (by decide) (by decide)).trans m382
              have m390 := (el_kept (hF1.arr hg1 skm_39 (by decide))).trans m383
              have hF := hF.more hF1 (by decide)
              try dsimp only at hw387
              refine tw_last (i := (nI i26))  hx hb hK hT hG hS hg385 shm_51 rfl (vp_in_nI (by omega) (by decide)) ⟨_, rfl⟩ dX12_choose_83 (fun H locs hT oq m391 oi hS => ?_)
              have hF := hF.ast hg385 skm_51 oq (by decide)
              have m392 := m388.kept (oq _ (gne hg1 hg385 (by decide)))
              have m393 := (el_kept (oq _ (gne hr_o0 hg385 (by decide)))).trans m389
              have m394 := (el_kept (oq _ (gne hg1 hg385 (by decide)))).trans m390
              refine lv_iinc (v := nI (i26 + 1)) (lv' := [(2, .int (nI (i26 + 1))), (0, .ref o0), (1, .int p0)]) hx hb dX12_choose_84 hl (k := 0) rfl (nI_add i26 1) (by decide) rfl (fun ls hl => ?_)
              refine lv_goto (tgt := 32) hx hb dX12_choose_87 (by decide) ?_
              exact ih177 (i26 + 1) (by omega) (by omega) _ _ hT hF hS m392 m393 ls (lv_sub hl [0, 1, 2] rfl)
            · have t395 : x377.toInt = 0 := ti_eq c378 rfl (by decide)
              refine lv_iconst (v := 1) hx hb dX12_choose_66 (by decide) ?_
              refine lv_goto (tgt := 71) hx hb dX12_choose_67 (by decide) ?_
              refine tw_zast (i := (nI i26)) (x := 1) hx hb hK hT hG hS hg349 shm_52 rfl (vp_in_nI (by omega) (by decide)) (gi_z (rg_t (a := 1) (by decide) (by first | decide | omega) (by first | decide | omega)) (by decide) (by decide)) dX12_choose_71 (fun H locs hT oq m396 oi hS => ?_)
              have hF := hF.ast hg349 skm_52 oq (by decide)
              have m397 := m374.kept (oq _ (gne hg1 hg349 (by decide)))
              have m398 := (el_kept (oq _ (gne hr_o0 hg349 (by decide)))).trans m375
              have m399 := (el_kept (oq _ (gne hg1 hg349 (by decide)))).trans m376
              refine lv_aload_n hx hb dX12_choose_72 rfl (lv_at hl 1 rfl) ?_
              refine tw_get hx hb hts bF_X12 hown hK hT hr_o0 shm_0 rfl 50 (by decide) (ht_at hts 12 rfl) (fun _ h9 => h9) dX12_choose_73 (fun v9 m400 h9 => ?_)
              obtain ⟨rfl, hg401⟩ := h9 _ rfl
              refine lv_iload_n hx hb dX12_choose_76 rfl (lv_at hl 0 rfl) ?_
              refine lv_aload_n hx hb dX12_choose_77 rfl (lv_at hl 1 rfl) ?_
              refine lv_iload_n hx hb dX12_choose_78 rfl (lv_at hl 0 rfl) ?_
              refine lv_iconst (v := 4) hx hb dX12_choose_79 (by decide) ?_
              have hFc := gA_free hG hA hS
              refine va_calll (va_runV (As := [.int (nI i26), .int 4]) (rest := [.int (nI i26), .ref (q 50)]) ⟨hx, hb, hml, hown, hts⟩ (s_sumOf l dC dI kA adK adV G H q wZ wN wH wB wC wL wK wU wV PI im PM PT lS lB lE lN o0 (nI i26) 4 hT hr_o0 (rg_t (a := ((i26 : Nat) : Int)) (nI_toInt (by omega)) (by omega) (by omega)) (by assumption) hgz hgn hgh hgb hgc hgi hgu) (cwV 2 hts (goodIn_app (goodIn_r _ [96, 97, 98, 5] rfl (by decide +kernel)) (goodIn_ca (goodIn_r _ [42, 43, 44, 45, 41, 22, 23, 24, 25, 26, 27, 28, 29, 30, 31, 2, 3, 4, 5, 32, 33, 46, 47, 48, 49, 50, 51, 52, 53, 54, 55, 56, 34, 57, 58, 59, 60, 61, 62, 63, 64, 65, 66, 67, 68, 69, 70, 71, 72, 73, 74, 75, 76, 77, 78, 79, 80, 81, 82, 83, 84, 85, 86, 87, 88, 89, 90, 91, 92, 93, 94, 95] rfl (by decide +kernel)) (bs_in _ _))) rfl rfl rfl (by decide +kernel) ⟨(Nat.le_of_ble_eq_true rfl), (Nat.le_of_ble_eq_true rfl)⟩) ⟨fun a U g mk q => by obtain ⟨q0, q1, qK, qE⟩ := q; exact ⟨q0, q1, va_K.moved (u := U) (U := U.calling g mk a) (Vm.Alike.refl U.vm) qK, EVS.blind g mk a qE⟩, gH_rc hK hT hr_o0 shm_0 rfl, fun U hU hW => ⟨rfl, hU, va_K.moved hW.alike hK, hE.call hS hFc hU hW⟩⟩ rfl rfl hl.1 rfl (lv_room (Nat.le_of_ble_eq_true rfl)) dX12_choose_80 ⟨(Nat.le_of_ble_eq_true rfl), (Nat.le_of_ble_eq_true rfl)⟩) hS (fun q _ h => hFc q h) hFc (fun r402 u t H locs ht hvm hw403 hB _ _ hS => ?_)
              obtain ⟨hT, hF1⟩ := hB
              rw [ht] at hT hF1
              have m404 := m397.kept (hF1.arr hg1 skm_39 (by decide))
              have m405 := (hF1.fld hr_o0 skm_0 (k := 42) (by decide) (by decide)).trans m398
              have m406 := (el_kept (hF1.arr hg1 skm_39 (by decide))).trans m399
              have hF := hF.more hF1 (by decide)
              try dsimp only at hw403
              refine tw_last (i := (nI i26))  hx hb hK hT hG hS hg401 shm_51 rfl (vp_in_nI (by omega) (by decide)) ⟨_, rfl⟩ dX12_choose_83 (fun H locs hT oq m407 oi hS => ?_)
              have hF := hF.ast hg401 skm_51 oq (by decide)
              have m408 := m404.kept (oq _ (gne hg1 hg401 (by decide)))
              have m409 := (el_kept (oq _ (gne hr_o0 hg401 (by decide)))).trans m405
              have m410 := (el_kept (oq _ (gne hg1 hg401 (by decide)))).trans m406
              refine lv_iinc (v := nI (i26 + 1)) (lv' := [(2, .int (nI (i26 + 1))), (0, .ref o0), (1, .int p0)]) hx hb dX12_choose_84 hl (k := 0) rfl (nI_add i26 1) (by decide) rfl (fun ls hl => ?_)
              refine lv_goto (tgt := 32) hx hb dX12_choose_87 (by decide) ?_
              exact ih177 (i26 + 1) (by omega) (by omega) _ _ hT hF hS m408 m409 ls (lv_sub hl [0, 1, 2] rfl)
    exact key177 (60 - 0) 0 (by omega) (Nat.le_refl _) _ _ hT hF hS m21 m20 ls (lv_sub hl [0, 1, 2] rfl)
  · have t411 : r5.toInt = 0 := ti_eq c13 rfl (by decide)
    have t412 : (0 : Int32).toInt = 0 := by decide
    have t413 : (60 : Int32).toInt = 60 := by decide
    have t414 : p0.toInt < (0 : Int32).toInt ∨ (60 : Int32).toInt < p0.toInt := hi12 c13
    refine lv_iconst (v := 1) hx hb dX12_choose_16 (by decide) ?_
    refine lv_goto (tgt := 21) hx hb dX12_choose_17 (by decide) ?_
    refine lv_iconst (v := 1) hx hb dX12_choose_21 (by decide) ?_
    have hFc := gA_free hG hA hS
    refine va_calli (va_runV (As := [.int 1, .int 1]) (rest := []) ⟨hx, hb, hml, hown, hts⟩ (s_throwsIf l dC dI kA adK adV G H q wZ wN wH wB wC wL wK wU wV PI im PM PT lS lB lE lN o0 1 1 hT hr_o0 (rg_t (a := 1) (by decide) (by first | decide | omega) (by first | decide | omega)) hgz hgn hgh hgb hgc hgi hgu) (cwV 2 hts (goodIn_app (goodIn_r _ [7, 8, 9, 5] rfl (by decide +kernel)) (goodIn_ca (goodIn_r _ [6, 1] rfl (by decide +kernel)) (bs_in _ _))) rfl rfl rfl (by decide +kernel) ⟨(Nat.le_of_ble_eq_true rfl), (Nat.le_of_ble_eq_true rfl)⟩) ⟨fun a U g mk q => by obtain ⟨q0, q1, qK, qE⟩ := q; exact ⟨q0, q1, va_K.moved (u := U) (U := U.calling g mk a) (Vm.Alike.refl U.vm) qK, EVS.blind g mk a qE⟩, gH_rc hK hT hr_o0 shm_0 rfl, fun U hU hW => ⟨rfl, hU, va_K.moved hW.alike hK, hE.call hS hFc hU hW⟩⟩ rfl rfl hl.1 rfl (lv_room (Nat.le_of_ble_eq_true rfl)) dX12_choose_22 ⟨(Nat.le_of_ble_eq_true rfl), (Nat.le_of_ble_eq_true rfl)⟩) hS (fun q _ h => hFc q h) hFc (fun r415 u t H locs ht hvm hw416 hB _ _ hS => ?_)
    obtain ⟨hT, hF1⟩ := hB
    rw [ht] at hT hF1
    have m417 := (hF1.fld hr_o0 skm_0 (k := 42) (by decide) (by decide)).trans m7
    have m418 := m8.kept (hF1.arr hg1 skm_39 (by decide))
    have hF := hF.more hF1 (by decide)
    try dsimp only at hw416
    obtain ⟨h420, hd421⟩ := hw416
    obtain rfl : (1 : Int32) = r415 := hd421.symm
    refine lv_if_eq (tgt := 30) hx hb dX12_choose_25 (by decide) (fun c422 => absurd c422 (by decide)) (fun c422 => ?_)
    refine lv_iconst (v := 0) hx hb dX12_choose_28 (by decide) ?_
    exact W.iret (v := 0) hx hb hr (fun t ht hW => ⟨⟨0, vH, rfl, (by exact hzb), by (try dsimp only); rw [ht]; exact ⟨hT, hF, m418⟩⟩, hS.F ht⟩) hS.2.2 dX12_choose_29
def w_s_harvestZ : List Cond := .code yX12_harvest cX12_harvest 6 (some .int) :: (HAppend.hAppend (α := List Cond) (β := List Cond) (γ := List Cond) [.fieldLink RX12 194 "SeaLandModel" "thrown" "I", .code yX12_hour cX12_hour 1 (some .int), .fieldLink RX12 9 "SeaLandModel" "world" "[I", .methodLink RX12 228 yX12_hour, .instanceMethod yX12_hour, .selects RX12 yX12_hour yX12_hour, .initialized RX12, .fieldLink RX12 125 "SeaLandModel" "harvested" "I", .fieldLink RX12 495 "SeaLandModel" "settlers" "I", .fieldLink RX12 101 "SeaLandModel" "holds" "[I"] bs)
set_option maxHeartbeats 4000000 in
set_option maxRecDepth 100000 in
theorem s_harvestZ (l : Launch) (dC : Nat → ClassId) (dI : Nat → Nat → Nat) (kA : Nat → ClassId) (adK adV : Nat → Nat) (G : gT) (H0 : Heap) (q : Nat → Nat) (wZ wN : Nat → Int) (wH wB wC : Int) (wL wK : Nat → Prop) (wU wV : Nat → Nat) (PI : Nat → Int → Prop) (im : Int) (PM PT : Nat → Int → Prop) (lS lB lE : Nat → Nat → Int → Prop) (lN : Nat → Int) (o0 : Nat) (sn : Int32) (vH : Nat → Int32)  (hT : gH (dC, dI) kA (SHm q (wP wZ wN wH wB wC wL wK wU wV) PI im PM PT lS lB lE lN) G H0) (hr_o0 : G o0 = some 0) (hm_sn : el H0 o0 (dI 15 42) = some (.int sn)) (hq0 : 0 ≤ sn.toInt ∧ sn.toInt ≤ 60) (hall : ∀ p : Nat, ((p : Nat) : Int) < sn.toInt → (vH p).toInt < 0) (hc_vH : ct H0 (q 38) 60 vH) (hgz : ∀ i, 0 ≤ wZ i) (hgn : ∀ i, 6500000 ≤ wN i ∧ wN i ≤ 20200000) (hgh : 0 ≤ wH ∧ wH ≤ 40000) (hgb : 0 ≤ wB ∧ wB ≤ 3850000) (hgc : 0 ≤ wC ∧ wC ≤ 30) (hgi : 0 ≤ im ∧ im ≤ 1) (hgu : ∀ a t, G a = some (t + 1) → a = q t) : Met l yX12_harvest w_s_harvestZ ({ frames := 1, cells := 0, slots := 0, locals := 20 }) (va_Pc [.ref o0] (fun U => U.heap = H0 ∧ va_K (dC, dI) vwCl (tyl kA) U ∧ EVS adK adV (gA G H0.size) U U.heap)) (va_Qi (fun (r : Int32) (u : Unit) => (-1 ≤ r.toInt ∧ r.toInt ≤ 0)) (fun (_ : Unit) (t : State) => gH (dC, dI) kA (SHm q (wP wZ wN wH wB wC wL wK wU wV) PI im PM PT lS lB lE lN) G t.heap ∧ gF (dC, dI) SKm G ([(0, 0), (0, 49), (2, 0)] : List (Nat × Nat)) H0 t.heap) (gA G H0.size)) 0 0 (gA G H0.size) := by
  refine Met.ofW (cc := cX12_harvest) (maxL := 6) (ret := (some .int)) (by decide) rfl ?_
  intro p e s m args below meth c s₁ B hml hv
  obtain ⟨rfl, hH0, hK, hE⟩ := hv
  have hx := B.exec
  have hb := B.bytes
  have hr := B.returns
  have hts := atoms_spec (ws := w_s_harvestZ) B.pre
  have hown : s.vm.findClass RX12 = some m.cls := findClass_of_methodNamed B.named
  have hlocks := B.notSynchronized
  subst hH0
  generalize hAe : gA G s.heap.size = A at hE ⊢
  have hA : ∀ q : Nat, s.heap.size ≤ q → A q := fun q h => by rw [← hAe]; exact Or.inr h
  have hG := gA_of hAe
  have hS : va_S A s.heap s.heap [] := va_S.rf
  have hF : gF (dC, dI) SKm G ([(0, 0), (0, 49), (2, 0)] : List (Nat × Nat)) s.heap s.heap := gF.rf
  have hl := lv_entry ([.ref o0]) (n := 6) (Nat.le_of_ble_eq_true rfl)
  rw [lg_entry_eq]
  generalize (lg_sl ([.ref o0]) ++ List.replicate (6 - (lg_sl ([.ref o0])).length) Slot.unset).toArray = ls at hl ⊢
  have hl : lv_has ls 6 [(0, .ref o0)] := hl
  have hg1 : G (q 38) = some 39 := gx_of hT hr_o0 shm_0 (k := 38) (by decide) rfl
  refine lv_aload_n hx hb dX12_harvest_0 rfl (lv_at hl 0 rfl) ?_
  refine lv_iconst (v := 0) hx hb dX12_harvest_1 (by decide) ?_
  refine tw_put (v := .int 0) (ty := .int) hx hb hts bF_X12 tyX12 tyX12_ok nmX12 hown hK hT hG hS hr_o0 shm_0 rfl 0 (by decide) (ht_at hts 0 rfl) (fun _ h9 => h9) rfl (by decide +kernel) rfl rfl (gl_at rfl (gi_all _)) dX12_harvest_2 (fun H locs hT oq m2 oj hS => ?_)
  have hF := hF.put hr_o0 skm_0 oq oj (by decide)
  have m3 := (oj 42 (by decide) (by decide)).trans hm_sn
  have m4 := hc_vH.kept (oq _ (gne hg1 hr_o0 (by decide)))
  refine lv_aload_n hx hb dX12_harvest_5 rfl (lv_at hl 0 rfl) ?_
  have hFc := gA_free hG hA hS
  refine va_calli (va_runV (As := []) (rest := []) ⟨hx, hb, hml, hown, hts⟩ (s_hour l dC dI kA adK adV G H q wZ wN wH wB wC wL wK wU wV PI im PM PT lS lB lE lN o0 hT hr_o0 hgz hgn hgh hgb hgc hgi hgu) (cwV 0 hts (goodIn_app (goodIn_r _ [4, 5, 6, 7] rfl (by decide +kernel)) (goodIn_ca (goodIn_r _ [2, 3] rfl (by decide +kernel)) (bs_in _ _))) rfl rfl rfl (by decide +kernel) ⟨(Nat.le_of_ble_eq_true rfl), (Nat.le_of_ble_eq_true rfl)⟩) ⟨fun a U g mk q => by obtain ⟨q0, q1, qK, qE⟩ := q; exact ⟨q0, q1, va_K.moved (u := U) (U := U.calling g mk a) (Vm.Alike.refl U.vm) qK, EVS.blind g mk a qE⟩, gH_rc hK hT hr_o0 shm_0 rfl, fun U hU hW => ⟨rfl, hU, va_K.moved hW.alike hK, hE.call hS hFc hU hW⟩⟩ rfl rfl hl.1 rfl (lv_room (Nat.le_of_ble_eq_true rfl)) dX12_harvest_6 ⟨(Nat.le_of_ble_eq_true rfl), (Nat.le_of_ble_eq_true rfl)⟩) hS (fun q _ h => hFc q h) hFc (fun r5 u t H locs ht hvm hw6 hB _ _ hS => ?_)
  obtain ⟨hT, hF1⟩ := hB
  rw [ht] at hT hF1
  have m7 := (hF1.fld hr_o0 skm_0 (k := 42) (by decide) (by decide)).trans m3
  have m8 := m4.kept (hF1.arr hg1 skm_39 (by decide))
  have m9 := (hF1.fld hr_o0 skm_0 (k := 0) (by decide) (by decide)).trans m2
  have hF := hF.more hF1 (by decide)
  try dsimp only at hw6
  obtain ⟨h10, hf11⟩ := hw6
  refine lv_bipush (v := 24) hx hb dX12_harvest_9 (by decide) ?_
  refine lv_idiv hx hb dX12_harvest_11 (by decide) ?_
  refine lv_topi (fun x12 ex12 => ?_)
  have t13 : x12.toInt = r5.toInt / 24 := ti_div ex12 rfl (by decide) (by omega) (by omega)
  refine lv_sipush (v := 360) hx hb dX12_harvest_12 (by decide) ?_
  refine lv_idiv hx hb dX12_harvest_15 (by decide) ?_
  refine lv_topi (fun x14 ex14 => ?_)
  have t15 : x14.toInt = x12.toInt / 360 := ti_div ex14 rfl (by decide) (by omega) (by omega)
  refine lv_istore_n (lv' := [(1, .int x14), (0, .ref o0)]) hx hb dX12_harvest_16 rfl hl (by decide) rfl (fun ls hl => ?_)
  refine lv_aload_n hx hb dX12_harvest_17 rfl (lv_at hl 1 rfl) ?_
  refine tw_get hx hb hts bF_X12 hown hK hT hr_o0 shm_0 rfl 49 (by decide) (ht_at hts 7 rfl) (fun _ h9 => h9) dX12_harvest_18 (fun v9 m16 h9 => ?_)
  obtain ⟨x17, rfl, gx17, kx17⟩ := h9 _ rfl
  refine lv_iload_n hx hb dX12_harvest_21 rfl (lv_at hl 0 rfl) ?_
  refine lv_icmp_ne (tgt := 27) hx hb dX12_harvest_22 (by decide) (fun c18 => ?_) (fun c18 => ?_)
  · have t19 : x17.toInt ≠ x14.toInt := ti_ne c18 rfl rfl
    refine lv_aload_n hx hb dX12_harvest_27 rfl (lv_at hl 1 rfl) ?_
    refine lv_iload_n hx hb dX12_harvest_28 rfl (lv_at hl 0 rfl) ?_
    refine tw_put (v := .int x14) (ty := .int) hx hb hts bF_X12 tyX12 tyX12_ok nmX12 hown hK hT hG hS hr_o0 shm_0 rfl 49 (by decide) (ht_at hts 7 rfl) (fun _ h9 => h9) rfl (by decide +kernel) rfl rfl (gl_at rfl (gi_all _)) dX12_harvest_29 (fun H locs hT oq m20 oj hS => ?_)
    have hF := hF.put hr_o0 skm_0 oq oj (by decide)
    have m21 := (oj 42 (by decide) (by decide)).trans m7
    have m22 := m8.kept (oq _ (gne hg1 hr_o0 (by decide)))
    have m23 := (oj 0 (by decide) (by decide)).trans m9
    refine lv_iconst (v := 0) hx hb dX12_harvest_32 (by decide) ?_
    refine lv_istore_n (lv' := [(2, .int 0), (1, .int x14), (0, .ref o0)]) hx hb dX12_harvest_33 rfl hl (by decide) rfl (fun ls hl => ?_)
    refine lv_iconst (v := 0) hx hb dX12_harvest_34 (by decide) ?_
    refine lv_istore_n (lv' := [(3, .int 0), (2, .int 0), (1, .int x14), (0, .ref o0)]) hx hb dX12_harvest_35 rfl hl (by decide) rfl (fun ls hl => ?_)
    have key97 : ∀ (n97 i24 : Nat), i24 + n97 = 60 → 0 ≤ i24 → ∀ (H : Heap) (locs : List Loc), gH (dC, dI) kA (SHm q (wP wZ wN wH wB wC wL wK wU wV) PI im PM PT lS lB lE lN) G H → gF (dC, dI) SKm G ([(0, 0), (0, 49), (2, 0)] : List (Nat × Nat)) s.heap H → va_S A s.heap H locs → ct H (q 38) 60 vH → el H o0 (dI 15 42) = some (.int sn) → el H o0 (dI 15 0) = some (.int 0) → el H o0 (dI 15 49) = some (.int x14) → ∀ ls : Array Slot, lv_has ls 6 [(3, .int (nI i24)), (2, .int 0), (1, .int x14), (0, .ref o0)] → W p l e (headSpec w_s_harvestZ ({ frames := 1, cells := 0, slots := 0, locals := 20 })).room s m #[.ref o0] below meth c H locs 0 0 (MQ below (va_Qi (fun (r : Int32) (u : Unit) => (-1 ≤ r.toInt ∧ r.toInt ≤ 0)) (fun (_ : Unit) (t : State) => gH (dC, dI) kA (SHm q (wP wZ wN wH wB wC wL wK wU wV) PI im PM PT lS lB lE lN) G t.heap ∧ gF (dC, dI) SKm G ([(0, 0), (0, 49), (2, 0)] : List (Nat × Nat)) s.heap t.heap) A) #[.ref o0] s 0 0 A) (F0 m 36 ls []) := by
      intro n97
      induction n97 with
      | zero =>
        intro i24 hn97 hlo98  H locs hT hF hS m25 m26 m27 m28 ls hl
        obtain rfl : 60 = i24 := by omega
        refine lv_iload_n hx hb dX12_harvest_36 rfl (lv_at hl 0 rfl) ?_
        refine lv_aload_n hx hb dX12_harvest_37 rfl (lv_at hl 3 rfl) ?_
        refine tw_getM (v := .int sn) hx hb hts bF_X12 hown hK hT hr_o0 shm_0 rfl 42 (by decide) (ht_at hts 8 rfl) (fun _ h9 => h9) m26 dX12_harvest_38 ?_
        refine lv_icmp_ge (tgt := 102) hx hb dX12_harvest_41 (by decide) (fun c99 => ?_) (fun c99 => (by exfalso; have q9 : ((60 : Nat) : Int) < sn.toInt := ti_nle c99 rfl (nI_toInt (by omega)); omega))
        have t100 : sn.toInt ≤ ((60 : Nat) : Int) := ti_le c99 rfl (nI_toInt (by omega))
        refine lv_iconst (v := 0) hx hb dX12_harvest_102 (by decide) ?_
        refine lv_istore_n (lv' := [(3, .int 0), (2, .int 0), (1, .int x14), (0, .ref o0)]) hx hb dX12_harvest_103 rfl hl (by decide) rfl (fun ls hl => ?_)
        have key116 : ∀ (n116 i101 : Nat), i101 + n116 = 96 → 0 ≤ i101 → ∀ (H : Heap) (locs : List Loc), gH (dC, dI) kA (SHm q (wP wZ wN wH wB wC wL wK wU wV) PI im PM PT lS lB lE lN) G H → gF (dC, dI) SKm G ([(0, 0), (0, 49), (2, 0)] : List (Nat × Nat)) s.heap H → va_S A s.heap H locs → ct H (q 38) 60 vH → el H o0 (dI 15 42) = some (.int sn) → el H o0 (dI 15 0) = some (.int 0) → el H o0 (dI 15 49) = some (.int x14) → ∀ ls : Array Slot, lv_has ls 6 [(3, .int (nI i101)), (2, .int 0), (1, .int x14), (0, .ref o0)] → W p l e (headSpec w_s_harvestZ ({ frames := 1, cells := 0, slots := 0, locals := 20 })).room s m #[.ref o0] below meth c H locs 0 0 (MQ below (va_Qi (fun (r : Int32) (u : Unit) => (-1 ≤ r.toInt ∧ r.toInt ≤ 0)) (fun (_ : Unit) (t : State) => gH (dC, dI) kA (SHm q (wP wZ wN wH wB wC wL wK wU wV) PI im PM PT lS lB lE lN) G t.heap ∧ gF (dC, dI) SKm G ([(0, 0), (0, 49), (2, 0)] : List (Nat × Nat)) s.heap t.heap) A) #[.ref o0] s 0 0 A) (F0 m 104 ls []) := by
          intro n116
          induction n116 with
          | zero =>
            intro i101 hn116 hlo117  H locs hT hF hS m102 m103 m104 m105 ls hl
            obtain rfl : 96 = i101 := by omega
            refine lv_iload_n hx hb dX12_harvest_104 rfl (lv_at hl 0 rfl) ?_
            refine lv_bipush (v := 96) hx hb dX12_harvest_105 (by decide) ?_
            refine lv_icmp_ge (tgt := 127) hx hb dX12_harvest_107 (by decide) (fun c118 => ?_) (fun c118 => (by exfalso; have q9 : ((96 : Nat) : Int) < 96 := ti_nle c118 (by decide) (nI_toInt (by omega)); omega))
            have t119 : 96 ≤ ((96 : Nat) : Int) := ti_le c118 (by decide) (nI_toInt (by omega))
            refine lv_iconst (v := 0) hx hb dX12_harvest_127 (by decide) ?_
            refine lv_istore_n (lv' := [(3, .int 0), (2, .int 0), (1, .int x14), (0, .ref o0)]) hx hb dX12_harvest_128 rfl hl (by decide) rfl (fun ls hl => ?_)
            have key135 : ∀ (n135 i120 : Nat), i120 + n135 = 60 → 0 ≤ i120 → ∀ (H : Heap) (locs : List Loc), gH (dC, dI) kA (SHm q (wP wZ wN wH wB wC wL wK wU wV) PI im PM PT lS lB lE lN) G H → gF (dC, dI) SKm G ([(0, 0), (0, 49), (2, 0)] : List (Nat × Nat)) s.heap H → va_S A s.heap H locs → ct H (q 38) 60 vH → el H o0 (dI 15 42) = some (.int sn) → el H o0 (dI 15 0) = some (.int 0) → el H o0 (dI 15 49) = some (.int x14) → ∀ ls : Array Slot, lv_has ls 6 [(3, .int (nI i120)), (2, .int 0), (1, .int x14), (0, .ref o0)] → W p l e (headSpec w_s_harvestZ ({ frames := 1, cells := 0, slots := 0, locals := 20 })).room s m #[.ref o0] below meth c H locs 0 0 (MQ below (va_Qi (fun (r : Int32) (u : Unit) => (-1 ≤ r.toInt ∧ r.toInt ≤ 0)) (fun (_ : Unit) (t : State) => gH (dC, dI) kA (SHm q (wP wZ wN wH wB wC wL wK wU wV) PI im PM PT lS lB lE lN) G t.heap ∧ gF (dC, dI) SKm G ([(0, 0), (0, 49), (2, 0)] : List (Nat × Nat)) s.heap t.heap) A) #[.ref o0] s 0 0 A) (F0 m 129 ls []) := by
              intro n135
              induction n135 with
              | zero =>
                intro i120 hn135 hlo136  H locs hT hF hS m121 m122 m123 m124 ls hl
                obtain rfl : 60 = i120 := by omega
                refine lv_iload_n hx hb dX12_harvest_129 rfl (lv_at hl 0 rfl) ?_
                refine lv_aload_n hx hb dX12_harvest_130 rfl (lv_at hl 3 rfl) ?_
                refine tw_getM (v := .int sn) hx hb hts bF_X12 hown hK hT hr_o0 shm_0 rfl 42 (by decide) (ht_at hts 8 rfl) (fun _ h9 => h9) m122 dX12_harvest_131 ?_
                refine lv_icmp_ge (tgt := 266) hx hb dX12_harvest_134 (by decide) (fun c137 => ?_) (fun c137 => (by exfalso; have q9 : ((60 : Nat) : Int) < sn.toInt := ti_nle c137 rfl (nI_toInt (by omega)); omega))
                have t138 : sn.toInt ≤ ((60 : Nat) : Int) := ti_le c137 rfl (nI_toInt (by omega))
                refine lv_iload_n hx hb dX12_harvest_266 rfl (lv_at hl 1 rfl) ?_
                exact W.iret (v := 0) hx hb hr (fun t ht hW => ⟨⟨0, (), rfl, (by exact (rg_t (a := 0) (by decide) (by first | decide | omega) (by first | decide | omega))), by (try dsimp only); rw [ht]; exact ⟨hT, hF⟩⟩, hS.F ht⟩) hS.2.2 dX12_harvest_267
              | succ n135 ih135 =>
                intro i120 hn135 hlo136  H locs hT hF hS m121 m122 m123 m124 ls hl
                have hlt138 : i120 < 60 := by omega
                refine lv_iload_n hx hb dX12_harvest_129 rfl (lv_at hl 0 rfl) ?_
                refine lv_aload_n hx hb dX12_harvest_130 rfl (lv_at hl 3 rfl) ?_
                refine tw_getM (v := .int sn) hx hb hts bF_X12 hown hK hT hr_o0 shm_0 rfl 42 (by decide) (ht_at hts 8 rfl) (fun _ h9 => h9) m122 dX12_harvest_131 ?_
                refine lv_icmp_ge (tgt := 266) hx hb dX12_harvest_134 (by decide) (fun c139 => ?_) (fun c139 => ?_)
                · have t140 : sn.toInt ≤ ((i120 : Nat) : Int) := ti_le c139 rfl (nI_toInt (by omega))
                  refine lv_iload_n hx hb dX12_harvest_266 rfl (lv_at hl 1 rfl) ?_
                  exact W.iret (v := 0) hx hb hr (fun t ht hW => ⟨⟨0, (), rfl, (by exact (rg_t (a := 0) (by decide) (by first | decide | omega) (by first | decide | omega))), by (try dsimp only); rw [ht]; exact ⟨hT, hF⟩⟩, hS.F ht⟩) hS.2.2 dX12_harvest_267
                · have t141 : ((i120 : Nat) : Int) < sn.toInt := ti_nle c139 rfl (nI_toInt (by omega))
                  refine lv_aload_n hx hb dX12_harvest_137 rfl (lv_at hl 3 rfl) ?_
                  refine tw_get hx hb hts bF_X12 hown hK hT hr_o0 shm_0 rfl 38 (by decide) (ht_at hts 9 rfl) (fun _ h9 => h9) dX12_harvest_138 (fun v9 m142 h9 => ?_)
                  obtain ⟨rfl, hg143⟩ := h9 _ rfl
                  refine lv_iload_n hx hb dX12_harvest_141 rfl (lv_at hl 0 rfl) ?_
                  refine tw_iald (i := (nI i120)) hx hb hK hT hg1 shm_39 rfl (vp_in_nI (by omega) (by decide)) dX12_harvest_142 (fun v9 m144 h9 => ?_)
                  obtain ⟨x145, rfl, gx145, kx145⟩ := h9
                  have cx145 := m121.at m144 (by have q9 := tn_of (show (nI i120).toInt = ((i120 : Nat) : Int) from (nI_toInt (by omega))) (by omega); omega)
                  have t146 : x145.toInt < 0 := (by rw [cx145, tn_nI (by omega)]; exact hall i120 (by omega))
                  refine lv_if_ge (tgt := 149) hx hb dX12_harvest_143 (by decide) (fun c147 => (by exfalso; have q9 : 0 ≤ x145.toInt := ti_le c147 (by decide) rfl; omega)) (fun c147 => ?_)
                  have t148 : x145.toInt < 0 := ti_nle c147 (by decide) rfl
                  refine lv_goto (tgt := 260) hx hb dX12_harvest_146 (by decide) ?_
                  refine lv_iinc (v := nI (i120 + 1)) (lv' := [(3, .int (nI (i120 + 1))), (2, .int 0), (1, .int x14), (0, .ref o0)]) hx hb dX12_harvest_260 hl (k := 0) rfl (nI_add i120 1) (by decide) rfl (fun ls hl => ?_)
                  refine lv_goto (tgt := 129) hx hb dX12_harvest_263 (by decide) ?_
                  exact ih135 (i120 + 1) (by omega) (by omega) _ _ hT hF hS m121 m122 m123 m124 ls (lv_sub hl [0, 1, 2, 3] rfl)
            exact key135 (60 - 0) 0 (by omega) (Nat.le_refl _) _ _ hT hF hS m102 m103 m104 m105 ls (lv_sub hl [0, 1, 2, 3] rfl)
          | succ n116 ih116 =>
            intro i101 hn116 hlo117  H locs hT hF hS m102 m103 m104 m105 ls hl
            have hlt148 : i101 < 96 := by omega
            refine lv_iload_n hx hb dX12_harvest_104 rfl (lv_at hl 0 rfl) ?_
            refine lv_bipush (v := 96) hx hb dX12_harvest_105 (by decide) ?_
            refine lv_icmp_ge (tgt := 127) hx hb dX12_harvest_107 (by decide) (fun c149 => (by exfalso; have q9 : 96 ≤ ((i101 : Nat) : Int) := ti_le c149 (by decide) (nI_toInt (by omega)); omega)) (fun c149 => ?_)
            have t150 : ((i101 : Nat) : Int) < 96 := ti_nle c149 (by decide) (nI_toInt (by omega))
            refine lv_aload_n hx hb dX12_harvest_110 rfl (lv_at hl 3 rfl) ?_
            refine tw_get hx hb hts bF_X12 hown hK hT hr_o0 shm_0 rfl 1 (by decide) (ht_at hts 2 rfl) (fun _ h9 => h9) dX12_harvest_111 (fun v9 m151 h9 => ?_)
            obtain ⟨rfl, hg152⟩ := h9 _ rfl
            refine lv_sipush (v := 672) hx hb dX12_harvest_114 (by decide) ?_
            refine lv_iload_n hx hb dX12_harvest_117 rfl (lv_at hl 0 rfl) ?_
            refine lv_iadd hx hb dX12_harvest_118 ?_
            refine lv_topi (fun x153 ex153 => ?_)
            obtain rfl : nI (672 + i101) = x153 := (ex153.trans (nI_add 672 i101)).symm
            refine lv_iconst (v := 0) hx hb dX12_harvest_119 (by decide) ?_
            refine tw_iast (i := (nI (672 + i101))) (x := 0) hx hb hK hT hG hS hg152 shm_2 rfl (vp_in_nI (by omega) (by decide)) (gp_of (gi_all _) (w_fre (by have q9 := tn_of (show (nI (672 + i101)).toInt = ((672 + i101 : Nat) : Int) from (nI_toInt (by omega))) (show (0 : Int) ≤ ((672 + i101 : Nat) : Int) from by omega); omega)) (wX_o (by have q9 := tn_of (show (nI (672 + i101)).toInt = ((672 + i101 : Nat) : Int) from (nI_toInt (by omega))) (show (0 : Int) ≤ ((672 + i101 : Nat) : Int) from by omega); omega) (by omega))) dX12_harvest_120 (fun H locs hT oq m154 oi hS => ?_)
            have hF := hF.ast hg152 skm_2 oq (by decide)
            have m155 := m102.kept (oq _ (gne hg1 hg152 (by decide)))
            have m156 := (el_kept (oq _ (gne hr_o0 hg152 (by decide)))).trans m103
            have m157 := (el_kept (oq _ (gne hr_o0 hg152 (by decide)))).trans m104
            have m158 := (el_kept (oq _ (gne hr_o0 hg152 (by decide)))).trans m105
            refine lv_iinc (v := nI (i101 + 1)) (lv' := [(3, .int (nI (i101 + 1))), (2, .int 0), (1, .int x14), (0, .ref o0)]) hx hb dX12_harvest_121 hl (k := 0) rfl (nI_add i101 1) (by decide) rfl (fun ls hl => ?_)
            refine lv_goto (tgt := 104) hx hb dX12_harvest_124 (by decide) ?_
            exact ih116 (i101 + 1) (by omega) (by omega) _ _ hT hF hS m155 m156 m157 m158 ls (lv_sub hl [0, 1, 2, 3] rfl)
        exact key116 (96 - 0) 0 (by omega) (Nat.le_refl _) _ _ hT hF hS m25 m26 m27 m28 ls (lv_sub hl [0, 1, 2, 3] rfl)
      | succ n97 ih97 =>
        intro i24 hn97 hlo98  H locs hT hF hS m25 m26 m27 m28 ls hl
        have hlt158 : i24 < 60 := by omega
        refine lv_iload_n hx hb dX12_harvest_36 rfl (lv_at hl 0 rfl) ?_
        refine lv_aload_n hx hb dX12_harvest_37 rfl (lv_at hl 3 rfl) ?_
        refine tw_getM (v := .int sn) hx hb hts bF_X12 hown hK hT hr_o0 shm_0 rfl 42 (by decide) (ht_at hts 8 rfl) (fun _ h9 => h9) m26 dX12_harvest_38 ?_
        refine lv_icmp_ge (tgt := 102) hx hb dX12_harvest_41 (by decide) (fun c159 => ?_) (fun c159 => ?_)
        · have t160 : sn.toInt ≤ ((i24 : Nat) : Int) := ti_le c159 rfl (nI_toInt (by omega))
          refine lv_iconst (v := 0) hx hb dX12_harvest_102 (by decide) ?_
          refine lv_istore_n (lv' := [(3, .int 0), (2, .int 0), (1, .int x14), (0, .ref o0)]) hx hb dX12_harvest_103 rfl hl (by decide) rfl (fun ls hl => ?_)
          have key176 : ∀ (n176 i161 : Nat), i161 + n176 = 96 → 0 ≤ i161 → ∀ (H : Heap) (locs : List Loc), gH (dC, dI) kA (SHm q (wP wZ wN wH wB wC wL wK wU wV) PI im PM PT lS lB lE lN) G H → gF (dC, dI) SKm G ([(0, 0), (0, 49), (2, 0)] : List (Nat × Nat)) s.heap H → va_S A s.heap H locs → ct H (q 38) 60 vH → el H o0 (dI 15 42) = some (.int sn) → el H o0 (dI 15 0) = some (.int 0) → el H o0 (dI 15 49) = some (.int x14) → ∀ ls : Array Slot, lv_has ls 6 [(3, .int (nI i161)), (2, .int 0), (1, .int x14), (0, .ref o0)] → W p l e (headSpec w_s_harvestZ ({ frames := 1, cells := 0, slots := 0, locals := 20 })).room s m #[.ref o0] below meth c H locs 0 0 (MQ below (va_Qi (fun (r : Int32) (u : Unit) => (-1 ≤ r.toInt ∧ r.toInt ≤ 0)) (fun (_ : Unit) (t : State) => gH (dC, dI) kA (SHm q (wP wZ wN wH wB wC wL wK wU wV) PI im PM PT lS lB lE lN) G t.heap ∧ gF (dC, dI) SKm G ([(0, 0), (0, 49), (2, 0)] : List (Nat × Nat)) s.heap t.heap) A) #[.ref o0] s 0 0 A) (F0 m 104 ls []) := by
            intro n176
            induction n176 with
            | zero =>
              intro i161 hn176 hlo177  H locs hT hF hS m162 m163 m164 m165 ls hl
              obtain rfl : 96 = i161 := by omega
              refine lv_iload_n hx hb dX12_harvest_104 rfl (lv_at hl 0 rfl) ?_
              refine lv_bipush (v := 96) hx hb dX12_harvest_105 (by decide) ?_
              refine lv_icmp_ge (tgt := 127) hx hb dX12_harvest_107 (by decide) (fun c178 => ?_) (fun c178 => (by exfalso; have q9 : ((96 : Nat) : Int) < 96 := ti_nle c178 (by decide) (nI_toInt (by omega)); omega))
              have t179 : 96 ≤ ((96 : Nat) : Int) := ti_le c178 (by decide) (nI_toInt (by omega))
              refine lv_iconst (v := 0) hx hb dX12_harvest_127 (by decide) ?_
              refine lv_istore_n (lv' := [(3, .int 0), (2, .int 0), (1, .int x14), (0, .ref o0)]) hx hb dX12_harvest_128 rfl hl (by decide) rfl (fun ls hl => ?_)
              have key195 : ∀ (n195 i180 : Nat), i180 + n195 = 60 → 0 ≤ i180 → ∀ (H : Heap) (locs : List Loc), gH (dC, dI) kA (SHm q (wP wZ wN wH wB wC wL wK wU wV) PI im PM PT lS lB lE lN) G H → gF (dC, dI) SKm G ([(0, 0), (0, 49), (2, 0)] : List (Nat × Nat)) s.heap H → va_S A s.heap H locs → ct H (q 38) 60 vH → el H o0 (dI 15 42) = some (.int sn) → el H o0 (dI 15 0) = some (.int 0) → el H o0 (dI 15 49) = some (.int x14) → ∀ ls : Array Slot, lv_has ls 6 [(3, .int (nI i180)), (2, .int 0), (1, .int x14), (0, .ref o0)] → W p l e (headSpec w_s_harvestZ ({ frames := 1, cells := 0, slots := 0, locals := 20 })).room s m #[.ref o0] below meth c H locs 0 0 (MQ below (va_Qi (fun (r : Int32) (u : Unit) => (-1 ≤ r.toInt ∧ r.toInt ≤ 0)) (fun (_ : Unit) (t : State) => gH (dC, dI) kA (SHm q (wP wZ wN wH wB wC wL wK wU wV) PI im PM PT lS lB lE lN) G t.heap ∧ gF (dC, dI) SKm G ([(0, 0), (0, 49), (2, 0)] : List (Nat × Nat)) s.heap t.heap) A) #[.ref o0] s 0 0 A) (F0 m 129 ls []) := by
                intro n195
                induction n195 with
                | zero =>
                  intro i180 hn195 hlo196  H locs hT hF hS m181 m182 m183 m184 ls hl
                  obtain rfl : 60 = i180 := by omega
                  refine lv_iload_n hx hb dX12_harvest_129 rfl (lv_at hl 0 rfl) ?_
                  refine lv_aload_n hx hb dX12_harvest_130 rfl (lv_at hl 3 rfl) ?_
                  refine tw_getM (v := .int sn) hx hb hts bF_X12 hown hK hT hr_o0 shm_0 rfl 42 (by decide) (ht_at hts 8 rfl) (fun _ h9 => h9) m182 dX12_harvest_131 ?_
                  refine lv_icmp_ge (tgt := 266) hx hb dX12_harvest_134 (by decide) (fun c197 => ?_) (fun c197 => (by exfalso; have q9 : ((60 : Nat) : Int) < sn.toInt := ti_nle c197 rfl (nI_toInt (by omega)); omega))
                  have t198 : sn.toInt ≤ ((60 : Nat) : Int) := ti_le c197 rfl (nI_toInt (by omega))
                  refine lv_iload_n hx hb dX12_harvest_266 rfl (lv_at hl 1 rfl) ?_
                  exact W.iret (v := 0) hx hb hr (fun t ht hW => ⟨⟨0, (), rfl, (by exact (rg_t (a := 0) (by decide) (by first | decide | omega) (by first | decide | omega))), by (try dsimp only); rw [ht]; exact ⟨hT, hF⟩⟩, hS.F ht⟩) hS.2.2 dX12_harvest_267
                | succ n195 ih195 =>
                  intro i180 hn195 hlo196  H locs hT hF hS m181 m182 m183 m184 ls hl
                  have hlt198 : i180 < 60 := by omega
                  refine lv_iload_n hx hb dX12_harvest_129 rfl (lv_at hl 0 rfl) ?_
                  refine lv_aload_n hx hb dX12_harvest_130 rfl (lv_at hl 3 rfl) ?_
                  refine tw_getM (v := .int sn) hx hb hts bF_X12 hown hK hT hr_o0 shm_0 rfl 42 (by decide) (ht_at hts 8 rfl) (fun _ h9 => h9) m182 dX12_harvest_131 ?_
                  refine lv_icmp_ge (tgt := 266) hx hb dX12_harvest_134 (by decide) (fun c199 => ?_) (fun c199 => ?_)
                  · have t200 : sn.toInt ≤ ((i180 : Nat) : Int) := ti_le c199 rfl (nI_toInt (by omega))
                    refine lv_iload_n hx hb dX12_harvest_266 rfl (lv_at hl 1 rfl) ?_
                    exact W.iret (v := 0) hx hb hr (fun t ht hW => ⟨⟨0, (), rfl, (by exact (rg_t (a := 0) (by decide) (by first | decide | omega) (by first | decide | omega))), by (try dsimp only); rw [ht]; exact ⟨hT, hF⟩⟩, hS.F ht⟩) hS.2.2 dX12_harvest_267
                  · have t201 : ((i180 : Nat) : Int) < sn.toInt := ti_nle c199 rfl (nI_toInt (by omega))
                    refine lv_aload_n hx hb dX12_harvest_137 rfl (lv_at hl 3 rfl) ?_
                    refine tw_get hx hb hts bF_X12 hown hK hT hr_o0 shm_0 rfl 38 (by decide) (ht_at hts 9 rfl) (fun _ h9 => h9) dX12_harvest_138 (fun v9 m202 h9 => ?_)
                    obtain ⟨rfl, hg203⟩ := h9 _ rfl
                    refine lv_iload_n hx hb dX12_harvest_141 rfl (lv_at hl 0 rfl) ?_
                    refine tw_iald (i := (nI i180)) hx hb hK hT hg1 shm_39 rfl (vp_in_nI (by omega) (by decide)) dX12_harvest_142 (fun v9 m204 h9 => ?_)
                    obtain ⟨x205, rfl, gx205, kx205⟩ := h9
                    have cx205 := m181.at m204 (by have q9 := tn_of (show (nI i180).toInt = ((i180 : Nat) : Int) from (nI_toInt (by omega))) (by omega); omega)
                    have t206 : x205.toInt < 0 := (by rw [cx205, tn_nI (by omega)]; exact hall i180 (by omega))
                    refine lv_if_ge (tgt := 149) hx hb dX12_harvest_143 (by decide) (fun c207 => (by exfalso; have q9 : 0 ≤ x205.toInt := ti_le c207 (by decide) rfl; omega)) (fun c207 => ?_)
                    have t208 : x205.toInt < 0 := ti_nle c207 (by decide) rfl
                    refine lv_goto (tgt := 260) hx hb dX12_harvest_146 (by decide) ?_
                    refine lv_iinc (v := nI (i180 + 1)) (lv' := [(3, .int (nI (i180 + 1))), (2, .int 0), (1, .int x14), (0, .ref o0)]) hx hb dX12_harvest_260 hl (k := 0) rfl (nI_add i180 1) (by decide) rfl (fun ls hl => ?_)
                    refine lv_goto (tgt := 129) hx hb dX12_harvest_263 (by decide) ?_
                    exact ih195 (i180 + 1) (by omega) (by omega) _ _ hT hF hS m181 m182 m183 m184 ls (lv_sub hl [0, 1, 2, 3] rfl)
              exact key195 (60 - 0) 0 (by omega) (Nat.le_refl _) _ _ hT hF hS m162 m163 m164 m165 ls (lv_sub hl [0, 1, 2, 3] rfl)
            | succ n176 ih176 =>
              intro i161 hn176 hlo177  H locs hT hF hS m162 m163 m164 m165 ls hl
              have hlt208 : i161 < 96 := by omega
              refine lv_iload_n hx hb dX12_harvest_104 rfl (lv_at hl 0 rfl) ?_
              refine lv_bipush (v := 96) hx hb dX12_harvest_105 (by decide) ?_
              refine lv_icmp_ge (tgt := 127) hx hb dX12_harvest_107 (by decide) (fun c209 => (by exfalso; have q9 : 96 ≤ ((i161 : Nat) : Int) := ti_le c209 (by decide) (nI_toInt (by omega)); omega)) (fun c209 => ?_)
              have t210 : ((i161 : Nat) : Int) < 96 := ti_nle c209 (by decide) (nI_toInt (by omega))
              refine lv_aload_n hx hb dX12_harvest_110 rfl (lv_at hl 3 rfl) ?_
              refine tw_get hx hb hts bF_X12 hown hK hT hr_o0 shm_0 rfl 1 (by decide) (ht_at hts 2 rfl) (fun _ h9 => h9) dX12_harvest_111 (fun v9 m211 h9 => ?_)
              obtain ⟨rfl, hg212⟩ := h9 _ rfl
              refine lv_sipush (v := 672) hx hb dX12_harvest_114 (by decide) ?_
              refine lv_iload_n hx hb dX12_harvest_117 rfl (lv_at hl 0 rfl) ?_
              refine lv_iadd hx hb dX12_harvest_118 ?_
              refine lv_topi (fun x213 ex213 => ?_)
              obtain rfl : nI (672 + i161) = x213 := (ex213.trans (nI_add 672 i161)).symm
              refine lv_iconst (v := 0) hx hb dX12_harvest_119 (by decide) ?_
              refine tw_iast (i := (nI (672 + i161))) (x := 0) hx hb hK hT hG hS hg212 shm_2 rfl (vp_in_nI (by omega) (by decide)) (gp_of (gi_all _) (w_fre (by have q9 := tn_of (show (nI (672 + i161)).toInt = ((672 + i161 : Nat) : Int) from (nI_toInt (by omega))) (show (0 : Int) ≤ ((672 + i161 : Nat) : Int) from by omega); omega)) (wX_o (by have q9 := tn_of (show (nI (672 + i161)).toInt = ((672 + i161 : Nat) : Int) from (nI_toInt (by omega))) (show (0 : Int) ≤ ((672 + i161 : Nat) : Int) from by omega); omega) (by omega))) dX12_harvest_120 (fun H locs hT oq m214 oi hS => ?_)
              have hF := hF.ast hg212 skm_2 oq (by decide)
              have m215 := m162.kept (oq _ (gne hg1 hg212 (by decide)))
              have m216 := (el_kept (oq _ (gne hr_o0 hg212 (by decide)))).trans m163
              have m217 := (el_kept (oq _ (gne hr_o0 hg212 (by decide)))).trans m164
              have m218 := (el_kept (oq _ (gne hr_o0 hg212 (by decide)))).trans m165
              refine lv_iinc (v := nI (i161 + 1)) (lv' := [(3, .int (nI (i161 + 1))), (2, .int 0), (1, .int x14), (0, .ref o0)]) hx hb dX12_harvest_121 hl (k := 0) rfl (nI_add i161 1) (by decide) rfl (fun ls hl => ?_)
              refine lv_goto (tgt := 104) hx hb dX12_harvest_124 (by decide) ?_
              exact ih176 (i161 + 1) (by omega) (by omega) _ _ hT hF hS m215 m216 m217 m218 ls (lv_sub hl [0, 1, 2, 3] rfl)
          exact key176 (96 - 0) 0 (by omega) (Nat.le_refl _) _ _ hT hF hS m25 m26 m27 m28 ls (lv_sub hl [0, 1, 2, 3] rfl)
        · have t219 : ((i24 : Nat) : Int) < sn.toInt := ti_nle c159 rfl (nI_toInt (by omega))
          refine lv_aload_n hx hb dX12_harvest_44 rfl (lv_at hl 3 rfl) ?_
          refine tw_get hx hb hts bF_X12 hown hK hT hr_o0 shm_0 rfl 38 (by decide) (ht_at hts 9 rfl) (fun _ h9 => h9) dX12_harvest_45 (fun v9 m220 h9 => ?_)
          obtain ⟨rfl, hg221⟩ := h9 _ rfl
          refine lv_iload_n hx hb dX12_harvest_48 rfl (lv_at hl 0 rfl) ?_
          refine tw_iald (i := (nI i24)) hx hb hK hT hg1 shm_39 rfl (vp_in_nI (by omega) (by decide)) dX12_harvest_49 (fun v9 m222 h9 => ?_)
          obtain ⟨x223, rfl, gx223, kx223⟩ := h9
          have cx223 := m25.at m222 (by have q9 := tn_of (show (nI i24).toInt = ((i24 : Nat) : Int) from (nI_toInt (by omega))) (by omega); omega)
          have t224 : x223.toInt < 0 := (by rw [cx223, tn_nI (by omega)]; exact hall i24 (by omega))
          refine lv_if_ge (tgt := 56) hx hb dX12_harvest_50 (by decide) (fun c225 => (by exfalso; have q9 : 0 ≤ x223.toInt := ti_le c225 (by decide) rfl; omega)) (fun c225 => ?_)
          have t226 : x223.toInt < 0 := ti_nle c225 (by decide) rfl
          refine lv_goto (tgt := 96) hx hb dX12_harvest_53 (by decide) ?_
          refine lv_iinc (v := nI (i24 + 1)) (lv' := [(3, .int (nI (i24 + 1))), (2, .int 0), (1, .int x14), (0, .ref o0)]) hx hb dX12_harvest_96 hl (k := 0) rfl (nI_add i24 1) (by decide) rfl (fun ls hl => ?_)
          refine lv_goto (tgt := 36) hx hb dX12_harvest_99 (by decide) ?_
          exact ih97 (i24 + 1) (by omega) (by omega) _ _ hT hF hS m25 m26 m27 m28 ls (lv_sub hl [0, 1, 2, 3] rfl)
    exact key97 (60 - 0) 0 (by omega) (Nat.le_refl _) _ _ hT hF hS m22 m21 m23 m20 ls (lv_sub hl [0, 1, 2, 3] rfl)
  · have t227 : x17.toInt = x14.toInt := ti_eq c18 rfl rfl
    refine lv_iconst (v := (-1)) hx hb dX12_harvest_25 (by decide) ?_
    exact W.iret (v := (-1)) hx hb hr (fun t ht hW => ⟨⟨(-1), (), rfl, (by exact (rg_t (a := (-1)) (by decide) (by first | decide | omega) (by first | decide | omega))), by (try dsimp only); rw [ht]; exact ⟨hT, hF⟩⟩, hS.F ht⟩) hS.2.2 dX12_harvest_26
def w_s_voteZ : List Cond := .code yX12_vote cX12_vote 5 (some .int) :: (HAppend.hAppend (α := List Cond) (β := List Cond) (γ := List Cond) [.fieldLink RX12 194 "SeaLandModel" "thrown" "I", .code yX12_nobody cX12_nobody 2 (some .boolean), .fieldLink RX12 495 "SeaLandModel" "settlers" "I", .code yX12_in cX12_in 3 (some .boolean), .methodLink RX12 197 yX12_in, .static yX12_in, .initialized RX12, .methodLink RX12 486 yX12_nobody, .instanceMethod yX12_nobody, .selects RX12 yX12_nobody yX12_nobody, .code yX12_throwsIf cX12_throwsIf 3 (some .boolean), .methodLink RX12 224 yX12_throwsIf, .instanceMethod yX12_throwsIf, .selects RX12 yX12_throwsIf yX12_throwsIf, .fieldLink RX12 523 "SeaLandModel" "isVoting" "Z", .fieldLink RX12 101 "SeaLandModel" "holds" "[I"] bs)
set_option maxHeartbeats 4000000 in
set_option maxRecDepth 100000 in
theorem s_voteZ (l : Launch) (dC : Nat → ClassId) (dI : Nat → Nat → Nat) (kA : Nat → ClassId) (adK adV : Nat → Nat) (G : gT) (H0 : Heap) (q : Nat → Nat) (wZ wN : Nat → Int) (wH wB wC : Int) (wL wK : Nat → Prop) (wU wV : Nat → Nat) (PI : Nat → Int → Prop) (im : Int) (PM PT : Nat → Int → Prop) (lS lB lE : Nat → Nat → Int → Prop) (lN : Nat → Int) (o0 : Nat) (p0 : Int32) (p1 : Int32) (sn : Int32) (vH : Nat → Int32)  (hT : gH (dC, dI) kA (SHm q (wP wZ wN wH wB wC wL wK wU wV) PI im PM PT lS lB lE lN) G H0) (hr_o0 : G o0 = some 0) (hm_sn : el H0 o0 (dI 15 42) = some (.int sn)) (hq0 : 0 ≤ p1.toInt ∧ p1.toInt ≤ 1) (hq1 : 0 ≤ sn.toInt ∧ sn.toInt ≤ 60) (hall : ∀ p : Nat, ((p : Nat) : Int) < sn.toInt → (vH p).toInt < 0) (hc_vH : ct H0 (q 38) 60 vH) (hgz : ∀ i, 0 ≤ wZ i) (hgn : ∀ i, 6500000 ≤ wN i ∧ wN i ≤ 20200000) (hgh : 0 ≤ wH ∧ wH ≤ 40000) (hgb : 0 ≤ wB ∧ wB ≤ 3850000) (hgc : 0 ≤ wC ∧ wC ≤ 30) (hgi : 0 ≤ im ∧ im ≤ 1) (hgu : ∀ a t, G a = some (t + 1) → a = q t) : Met l yX12_vote w_s_voteZ ({ frames := 2, cells := 0, slots := 0, locals := 43 }) (va_Pc [.ref o0, .int p0, .int p1] (fun U => U.heap = H0 ∧ va_K (dC, dI) vwCl (tyl kA) U ∧ EVS adK adV (gA G H0.size) U U.heap)) (va_Qi (fun (r : Int32) (u : Unit) => (-1 ≤ r.toInt ∧ r.toInt ≤ 0)) (fun (_ : Unit) (t : State) => gH (dC, dI) kA (SHm q (wP wZ wN wH wB wC wL wK wU wV) PI im PM PT lS lB lE lN) G t.heap ∧ gF (dC, dI) SKm G ([(0, 0)] : List (Nat × Nat)) H0 t.heap) (gA G H0.size)) 0 0 (gA G H0.size) := by
  refine Met.ofW (cc := cX12_vote) (maxL := 5) (ret := (some .int)) (by decide) rfl ?_
  intro p e s m args below meth c s₁ B hml hv
  obtain ⟨rfl, hH0, hK, hE⟩ := hv
  have hx := B.exec
  have hb := B.bytes
  have hr := B.returns
  have hts := atoms_spec (ws := w_s_voteZ) B.pre
  have hown : s.vm.findClass RX12 = some m.cls := findClass_of_methodNamed B.named
  have hlocks := B.notSynchronized
  subst hH0
  generalize hAe : gA G s.heap.size = A at hE ⊢
  have hA : ∀ q : Nat, s.heap.size ≤ q → A q := fun q h => by rw [← hAe]; exact Or.inr h
  have hG := gA_of hAe
  have hS : va_S A s.heap s.heap [] := va_S.rf
  have hF : gF (dC, dI) SKm G ([(0, 0)] : List (Nat × Nat)) s.heap s.heap := gF.rf
  have hl := lv_entry ([.ref o0, .int p0, .int p1]) (n := 5) (Nat.le_of_ble_eq_true rfl)
  rw [lg_entry_eq]
  generalize (lg_sl ([.ref o0, .int p0, .int p1]) ++ List.replicate (5 - (lg_sl ([.ref o0, .int p0, .int p1])).length) Slot.unset).toArray = ls at hl ⊢
  have hl : lv_has ls 5 [(0, .ref o0), (1, .int p0), (2, .int p1)] := hl
  have hg1 : G (q 38) = some 39 := gx_of hT hr_o0 shm_0 (k := 38) (by decide) rfl
  refine lv_aload_n hx hb dX12_vote_0 rfl (lv_at hl 0 rfl) ?_
  refine lv_iconst (v := 0) hx hb dX12_vote_1 (by decide) ?_
  refine tw_put (v := .int 0) (ty := .int) hx hb hts bF_X12 tyX12 tyX12_ok nmX12 hown hK hT hG hS hr_o0 shm_0 rfl 0 (by decide) (ht_at hts 0 rfl) (fun _ h9 => h9) rfl (by decide +kernel) rfl rfl (gl_at rfl (gi_all _)) dX12_vote_2 (fun H locs hT oq m2 oj hS => ?_)
  have hF := hF.put hr_o0 skm_0 oq oj (by decide)
  have m4 := hc_vH.kept (oq _ (gne hg1 hr_o0 (by decide)))
  refine lv_aload_n hx hb dX12_vote_5 rfl (lv_at hl 0 rfl) ?_
  refine lv_aload_n hx hb dX12_vote_6 rfl (lv_at hl 0 rfl) ?_
  refine lv_iload_n hx hb dX12_vote_7 rfl (lv_at hl 1 rfl) ?_
  have hFc := gA_free hG hA hS
  refine va_calli (va_runV (As := [.int p0]) (rest := [.ref o0]) ⟨hx, hb, hml, hown, hts⟩ (s_nobody l dC dI kA adK adV G H q wZ wN wH wB wC wL wK wU wV PI im PM PT lS lB lE lN o0 p0 hT hr_o0 hgz hgn hgh hgb hgc hgi hgu) (cwV 1 hts (goodIn_app (goodIn_r _ [8, 9, 10, 7] rfl (by decide +kernel)) (goodIn_ca (goodIn_r _ [2, 3, 4, 5, 6, 7] rfl (by decide +kernel)) (bs_in _ _))) rfl rfl rfl (by decide +kernel) ⟨(Nat.le_of_ble_eq_true rfl), (Nat.le_of_ble_eq_true rfl)⟩) ⟨fun a U g mk q => by obtain ⟨q0, q1, qK, qE⟩ := q; exact ⟨q0, q1, va_K.moved (u := U) (U := U.calling g mk a) (Vm.Alike.refl U.vm) qK, EVS.blind g mk a qE⟩, gH_rc hK hT hr_o0 shm_0 rfl, fun U hU hW => ⟨rfl, hU, va_K.moved hW.alike hK, hE.call hS hFc hU hW⟩⟩ rfl rfl hl.1 rfl (lv_room (Nat.le_of_ble_eq_true rfl)) dX12_vote_8 ⟨(Nat.le_of_ble_eq_true rfl), (Nat.le_of_ble_eq_true rfl)⟩) hS (fun q _ h => hFc q h) hFc (fun r5 u t H locs ht hvm hw6 hB _ _ hS => ?_)
  obtain ⟨hT, hF1⟩ := hB
  rw [ht] at hT hF1
  have m8 := m4.kept (hF1.arr hg1 skm_39 (by decide))
  have hF := hF.more hF1 (by decide)
  try dsimp only at hw6
  obtain ⟨h10, hi11⟩ := hw6
  refine lv_iconst (v := 1) hx hb dX12_vote_11 (by decide) ?_
  have hFc := gA_free hG hA hS
  refine va_calli (va_runV (As := [.int r5, .int 1]) (rest := []) ⟨hx, hb, hml, hown, hts⟩ (s_throwsIf l dC dI kA adK adV G H q wZ wN wH wB wC wL wK wU wV PI im PM PT lS lB lE lN o0 r5 1 hT hr_o0 (by have q8 := ti_all r5; omega) hgz hgn hgh hgb hgc hgi hgu) (cwV 2 hts (goodIn_app (goodIn_r _ [12, 13, 14, 7] rfl (by decide +kernel)) (goodIn_ca (goodIn_r _ [11, 1] rfl (by decide +kernel)) (bs_in _ _))) rfl rfl rfl (by decide +kernel) ⟨(Nat.le_of_ble_eq_true rfl), (Nat.le_of_ble_eq_true rfl)⟩) ⟨fun a U g mk q => by obtain ⟨q0, q1, qK, qE⟩ := q; exact ⟨q0, q1, va_K.moved (u := U) (U := U.calling g mk a) (Vm.Alike.refl U.vm) qK, EVS.blind g mk a qE⟩, gH_rc hK hT hr_o0 shm_0 rfl, fun U hU hW => ⟨rfl, hU, va_K.moved hW.alike hK, hE.call hS hFc hU hW⟩⟩ rfl rfl hl.1 rfl (lv_room (Nat.le_of_ble_eq_true rfl)) dX12_vote_12 ⟨(Nat.le_of_ble_eq_true rfl), (Nat.le_of_ble_eq_true rfl)⟩) hS (fun q _ h => hFc q h) hFc (fun r12 u t H locs ht hvm hw13 hB _ _ hS => ?_)
  obtain ⟨hT, hF1⟩ := hB
  rw [ht] at hT hF1
  have m15 := m8.kept (hF1.arr hg1 skm_39 (by decide))
  have hF := hF.more hF1 (by decide)
  try dsimp only at hw13
  obtain ⟨h17, hd18⟩ := hw13
  obtain rfl : r5 = r12 := hd18.symm
  refine lv_if_ne (tgt := 56) hx hb dX12_vote_15 (by decide) (fun c19 => ?_) (fun c19 => ?_)
  · have t20 : r5.toInt ≠ 0 := ti_ne c19 rfl (by decide)
    refine lv_aload_n hx hb dX12_vote_56 rfl (lv_at hl 0 rfl) ?_
    refine tw_get hx hb hts bF_X12 hown hK hT hr_o0 shm_0 rfl 0 (by decide) (ht_at hts 0 rfl) (fun _ h9 => h9) dX12_vote_57 (fun v9 m21 h9 => ?_)
    obtain ⟨x22, rfl, gx22, kx22⟩ := h9 _ rfl
    refine lv_if_eq (tgt := 67) hx hb dX12_vote_60 (by decide) (fun c23 => ?_) (fun c23 => ?_)
    · have t24 : x22.toInt = 0 := ti_eq c23 rfl (by decide)
      refine lv_iconst (v := (-1)) hx hb dX12_vote_67 (by decide) ?_
      exact W.iret (v := (-1)) hx hb hr (fun t ht hW => ⟨⟨(-1), (), rfl, (by exact (rg_t (a := (-1)) (by decide) (by first | decide | omega) (by first | decide | omega))), by (try dsimp only); rw [ht]; exact ⟨hT, hF⟩⟩, hS.F ht⟩) hS.2.2 dX12_vote_68
    · have t25 : x22.toInt ≠ 0 := ti_ne c23 rfl (by decide)
      refine lv_iconst (v := 0) hx hb dX12_vote_63 (by decide) ?_
      refine lv_goto (tgt := 68) hx hb dX12_vote_64 (by decide) ?_
      exact W.iret (v := 0) hx hb hr (fun t ht hW => ⟨⟨0, (), rfl, (by exact (rg_t (a := 0) (by decide) (by first | decide | omega) (by first | decide | omega))), by (try dsimp only); rw [ht]; exact ⟨hT, hF⟩⟩, hS.F ht⟩) hS.2.2 dX12_vote_68
  · have t26 : r5.toInt = 0 := ti_eq c19 rfl (by decide)
    have t27 : 0 ≤ p0.toInt ∧ p0.toInt ≤ 59 := hi11 c19
    refine lv_aload_n hx hb dX12_vote_18 rfl (lv_at hl 0 rfl) ?_
    refine lv_aload_n hx hb dX12_vote_19 rfl (lv_at hl 0 rfl) ?_
    refine tw_get hx hb hts bF_X12 hown hK hT hr_o0 shm_0 rfl 52 (by decide) (ht_at hts 14 rfl) (fun _ h9 => h9) dX12_vote_20 (fun v9 m28 h9 => ?_)
    obtain ⟨x29, rfl, gx29, kx29⟩ := h9 _ rfl
    refine lv_if_ne (tgt := 30) hx hb dX12_vote_23 (by decide) (fun c30 => ?_) (fun c30 => ?_)
    · have t31 : x29.toInt ≠ 0 := ti_ne c30 rfl (by decide)
      refine lv_iconst (v := 0) hx hb dX12_vote_30 (by decide) ?_
      refine lv_iconst (v := 2) hx hb dX12_vote_31 (by decide) ?_
      have hFc := gA_free hG hA hS
      refine va_calli (va_runV (As := [.int 0, .int 2]) (rest := []) ⟨hx, hb, hml, hown, hts⟩ (s_throwsIf l dC dI kA adK adV G H q wZ wN wH wB wC wL wK wU wV PI im PM PT lS lB lE lN o0 0 2 hT hr_o0 (rg_t (a := 0) (by decide) (by first | decide | omega) (by first | decide | omega)) hgz hgn hgh hgb hgc hgi hgu) (cwV 2 hts (goodIn_app (goodIn_r _ [12, 13, 14, 7] rfl (by decide +kernel)) (goodIn_ca (goodIn_r _ [11, 1] rfl (by decide +kernel)) (bs_in _ _))) rfl rfl rfl (by decide +kernel) ⟨(Nat.le_of_ble_eq_true rfl), (Nat.le_of_ble_eq_true rfl)⟩) ⟨fun a U g mk q => by obtain ⟨q0, q1, qK, qE⟩ := q; exact ⟨q0, q1, va_K.moved (u := U) (U := U.calling g mk a) (Vm.Alike.refl U.vm) qK, EVS.blind g mk a qE⟩, gH_rc hK hT hr_o0 shm_0 rfl, fun U hU hW => ⟨rfl, hU, va_K.moved hW.alike hK, hE.call hS hFc hU hW⟩⟩ rfl rfl hl.1 rfl (lv_room (Nat.le_of_ble_eq_true rfl)) dX12_vote_32 ⟨(Nat.le_of_ble_eq_true rfl), (Nat.le_of_ble_eq_true rfl)⟩) hS (fun q _ h => hFc q h) hFc (fun r32 u t H locs ht hvm hw33 hB _ _ hS => ?_)
      obtain ⟨hT, hF1⟩ := hB
      rw [ht] at hT hF1
      have m35 := m15.kept (hF1.arr hg1 skm_39 (by decide))
      have hF := hF.more hF1 (by decide)
      try dsimp only at hw33
      obtain ⟨h37, hd38⟩ := hw33
      obtain rfl : (0 : Int32) = r32 := hd38.symm
      refine lv_if_ne (tgt := 56) hx hb dX12_vote_35 (by decide) (fun c39 => absurd c39 (by decide)) (fun c39 => ?_)
      refine lv_aload_n hx hb dX12_vote_38 rfl (lv_at hl 0 rfl) ?_
      refine tw_get hx hb hts bF_X12 hown hK hT hr_o0 shm_0 rfl 38 (by decide) (ht_at hts 15 rfl) (fun _ h9 => h9) dX12_vote_39 (fun v9 m40 h9 => ?_)
      obtain ⟨rfl, hg41⟩ := h9 _ rfl
      refine lv_iload_n hx hb dX12_vote_42 rfl (lv_at hl 1 rfl) ?_
      refine tw_iald (i := p0) hx hb hK hT hg1 shm_39 rfl (vin_t (a := p0.toInt) rfl (by omega) (by omega)) dX12_vote_43 (fun v9 m42 h9 => ?_)
      obtain ⟨x43, rfl, gx43, kx43⟩ := h9
      have cx43 := m35.at m42 (by have q9 := tn_of (show p0.toInt = p0.toInt from rfl) (by omega); omega)
      have t44 : x43.toInt < 0 := (by rw [cx43]; exact hall p0.toNatClampNeg (by have := tn_of (show p0.toInt = p0.toInt from rfl) (by omega); omega))
      refine lv_if_lt (tgt := 56) hx hb dX12_vote_44 (by decide) (fun c45 => ?_) (fun c45 => (by exfalso; have q9 : 0 ≤ x43.toInt := ti_nlt c45 rfl (by decide); omega))
      have t46 : x43.toInt < 0 := ti_lt c45 rfl (by decide)
      refine lv_aload_n hx hb dX12_vote_56 rfl (lv_at hl 0 rfl) ?_
      refine tw_get hx hb hts bF_X12 hown hK hT hr_o0 shm_0 rfl 0 (by decide) (ht_at hts 0 rfl) (fun _ h9 => h9) dX12_vote_57 (fun v9 m47 h9 => ?_)
      obtain ⟨x48, rfl, gx48, kx48⟩ := h9 _ rfl
      refine lv_if_eq (tgt := 67) hx hb dX12_vote_60 (by decide) (fun c49 => ?_) (fun c49 => ?_)
      · have t50 : x48.toInt = 0 := ti_eq c49 rfl (by decide)
        refine lv_iconst (v := (-1)) hx hb dX12_vote_67 (by decide) ?_
        exact W.iret (v := (-1)) hx hb hr (fun t ht hW => ⟨⟨(-1), (), rfl, (by exact (rg_t (a := (-1)) (by decide) (by first | decide | omega) (by first | decide | omega))), by (try dsimp only); rw [ht]; exact ⟨hT, hF⟩⟩, hS.F ht⟩) hS.2.2 dX12_vote_68
      · have t51 : x48.toInt ≠ 0 := ti_ne c49 rfl (by decide)
        refine lv_iconst (v := 0) hx hb dX12_vote_63 (by decide) ?_
        refine lv_goto (tgt := 68) hx hb dX12_vote_64 (by decide) ?_
        exact W.iret (v := 0) hx hb hr (fun t ht hW => ⟨⟨0, (), rfl, (by exact (rg_t (a := 0) (by decide) (by first | decide | omega) (by first | decide | omega))), by (try dsimp only); rw [ht]; exact ⟨hT, hF⟩⟩, hS.F ht⟩) hS.2.2 dX12_vote_68
    · have t52 : x29.toInt = 0 := ti_eq c30 rfl (by decide)
      refine lv_iconst (v := 1) hx hb dX12_vote_26 (by decide) ?_
      refine lv_goto (tgt := 31) hx hb dX12_vote_27 (by decide) ?_
      refine lv_iconst (v := 2) hx hb dX12_vote_31 (by decide) ?_
      have hFc := gA_free hG hA hS
      refine va_calli (va_runV (As := [.int 1, .int 2]) (rest := []) ⟨hx, hb, hml, hown, hts⟩ (s_throwsIf l dC dI kA adK adV G H q wZ wN wH wB wC wL wK wU wV PI im PM PT lS lB lE lN o0 1 2 hT hr_o0 (rg_t (a := 1) (by decide) (by first | decide | omega) (by first | decide | omega)) hgz hgn hgh hgb hgc hgi hgu) (cwV 2 hts (goodIn_app (goodIn_r _ [12, 13, 14, 7] rfl (by decide +kernel)) (goodIn_ca (goodIn_r _ [11, 1] rfl (by decide +kernel)) (bs_in _ _))) rfl rfl rfl (by decide +kernel) ⟨(Nat.le_of_ble_eq_true rfl), (Nat.le_of_ble_eq_true rfl)⟩) ⟨fun a U g mk q => by obtain ⟨q0, q1, qK, qE⟩ := q; exact ⟨q0, q1, va_K.moved (u := U) (U := U.calling g mk a) (Vm.Alike.refl U.vm) qK, EVS.blind g mk a qE⟩, gH_rc hK hT hr_o0 shm_0 rfl, fun U hU hW => ⟨rfl, hU, va_K.moved hW.alike hK, hE.call hS hFc hU hW⟩⟩ rfl rfl hl.1 rfl (lv_room (Nat.le_of_ble_eq_true rfl)) dX12_vote_32 ⟨(Nat.le_of_ble_eq_true rfl), (Nat.le_of_ble_eq_true rfl)⟩) hS (fun q _ h => hFc q h) hFc (fun r53 u t H locs ht hvm hw54 hB _ _ hS => ?_)
      obtain ⟨hT, hF1⟩ := hB
      rw [ht] at hT hF1
      have hF := hF.more hF1 (by decide)
      try dsimp only at hw54
      obtain ⟨h58, hd59⟩ := hw54
      obtain rfl : (1 : Int32) = r53 := hd59.symm
      refine lv_if_ne (tgt := 56) hx hb dX12_vote_35 (by decide) (fun c60 => ?_) (fun c60 => absurd c60 (by decide))
      refine lv_aload_n hx hb dX12_vote_56 rfl (lv_at hl 0 rfl) ?_
      refine tw_get hx hb hts bF_X12 hown hK hT hr_o0 shm_0 rfl 0 (by decide) (ht_at hts 0 rfl) (fun _ h9 => h9) dX12_vote_57 (fun v9 m61 h9 => ?_)
      obtain ⟨x62, rfl, gx62, kx62⟩ := h9 _ rfl
      refine lv_if_eq (tgt := 67) hx hb dX12_vote_60 (by decide) (fun c63 => ?_) (fun c63 => ?_)
      · have t64 : x62.toInt = 0 := ti_eq c63 rfl (by decide)
        refine lv_iconst (v := (-1)) hx hb dX12_vote_67 (by decide) ?_
        exact W.iret (v := (-1)) hx hb hr (fun t ht hW => ⟨⟨(-1), (), rfl, (by exact (rg_t (a := (-1)) (by decide) (by first | decide | omega) (by first | decide | omega))), by (try dsimp only); rw [ht]; exact ⟨hT, hF⟩⟩, hS.F ht⟩) hS.2.2 dX12_vote_68
      · have t65 : x62.toInt ≠ 0 := ti_ne c63 rfl (by decide)
        refine lv_iconst (v := 0) hx hb dX12_vote_63 (by decide) ?_
        refine lv_goto (tgt := 68) hx hb dX12_vote_64 (by decide) ?_
        exact W.iret (v := 0) hx hb hr (fun t ht hW => ⟨⟨0, (), rfl, (by exact (rg_t (a := 0) (by decide) (by first | decide | omega) (by first | decide | omega))), by (try dsimp only); rw [ht]; exact ⟨hT, hF⟩⟩, hS.F ht⟩) hS.2.2 dX12_vote_68
def w_s_closeZ : List Cond := .code yX12_close cX12_close 1 (some .boolean) :: (HAppend.hAppend (α := List Cond) (β := List Cond) (γ := List Cond) [.fieldLink RX12 194 "SeaLandModel" "thrown" "I", .fieldLink RX12 523 "SeaLandModel" "isVoting" "Z", .code yX12_throwsIf cX12_throwsIf 3 (some .boolean), .methodLink RX12 224 yX12_throwsIf, .instanceMethod yX12_throwsIf, .selects RX12 yX12_throwsIf yX12_throwsIf, .initialized RX12, .fieldLink RX12 526 "SeaLandModel" "yes" "J", .constantLong RX12 484 100, .code yX12_lastOf cX12_lastOf 5 (some .int), .fieldLink RX12 42 "SeaLandModel" "lines" "[I", .fieldLink RX12 45 "SeaLandModel" "sort" "[I", .fieldLink RX12 48 "SeaLandModel" "told" "[I", .methodLink RX12 492 yX12_lastOf, .instanceMethod yX12_lastOf, .selects RX12 yX12_lastOf yX12_lastOf, .fieldLink RX12 530 "SeaLandModel" "said" "J"] bs)
set_option maxHeartbeats 4000000 in
set_option maxRecDepth 100000 in
theorem s_closeZ (l : Launch) (dC : Nat → ClassId) (dI : Nat → Nat → Nat) (kA : Nat → ClassId) (adK adV : Nat → Nat) (G : gT) (H0 : Heap) (q : Nat → Nat) (wZ wN : Nat → Int) (wH wB wC : Int) (wL wK : Nat → Prop) (wU wV : Nat → Nat) (PI : Nat → Int → Prop) (im : Int) (PM PT : Nat → Int → Prop) (lS lB lE : Nat → Nat → Int → Prop) (lN : Nat → Int) (o0 : Nat) (yv : Int64) (dv9 : Int64) (vo : Int32)  (hT : gH (dC, dI) kA (SHm q (wP wZ wN wH wB wC wL wK wU wV) PI im PM PT lS lB lE lN) G H0) (hr_o0 : G o0 = some 0) (hm_yv : el H0 o0 (dI 15 53) = some (.long yv)) (hm_dv9 : el H0 o0 (dI 15 54) = some (.long dv9)) (hm_vo : el H0 o0 (dI 15 52) = some (.int vo)) (hq0 : 0 ≤ vo.toInt ∧ vo.toInt ≤ 1) (hyv : yv.toInt = 0) (hdv : dv9.toInt = 0) (hgz : ∀ i, 0 ≤ wZ i) (hgn : ∀ i, 6500000 ≤ wN i ∧ wN i ≤ 20200000) (hgh : 0 ≤ wH ∧ wH ≤ 40000) (hgb : 0 ≤ wB ∧ wB ≤ 3850000) (hgc : 0 ≤ wC ∧ wC ≤ 30) (hgi : 0 ≤ im ∧ im ≤ 1) (hgu : ∀ a t, G a = some (t + 1) → a = q t) : Met l yX12_close w_s_closeZ ({ frames := 1, cells := 0, slots := 0, locals := 24 }) (va_Pc [.ref o0] (fun U => U.heap = H0 ∧ va_K (dC, dI) vwCl (tyl kA) U ∧ EVS adK adV (gA G H0.size) U U.heap)) (va_Qi (fun (r : Int32) (u : Int32) => (0 ≤ r.toInt ∧ r.toInt ≤ 0) ∧ (u.toInt = 0)) (fun (v1 : Int32) (t : State) => gH (dC, dI) kA (SHm q (wP wZ wN wH wB wC wL wK wU wV) PI im PM PT lS lB lE lN) G t.heap ∧ gF (dC, dI) SKm G ([(0, 0), (0, 52)] : List (Nat × Nat)) H0 t.heap ∧ el t.heap o0 (dI 15 52) = some (.int v1)) (gA G H0.size)) 0 0 (gA G H0.size) := by
  refine Met.ofW (cc := cX12_close) (maxL := 1) (ret := (some .boolean)) (by decide) rfl ?_
  intro p e s m args below meth c s₁ B hml hv
  obtain ⟨rfl, hH0, hK, hE⟩ := hv
  have hx := B.exec
  have hb := B.bytes
  have hr := B.returns
  have hts := atoms_spec (ws := w_s_closeZ) B.pre
  have hown : s.vm.findClass RX12 = some m.cls := findClass_of_methodNamed B.named
  have hlocks := B.notSynchronized
  subst hH0
  generalize hAe : gA G s.heap.size = A at hE ⊢
  have hA : ∀ q : Nat, s.heap.size ≤ q → A q := fun q h => by rw [← hAe]; exact Or.inr h
  have hG := gA_of hAe
  have hS : va_S A s.heap s.heap [] := va_S.rf
  have hF : gF (dC, dI) SKm G ([(0, 0), (0, 52)] : List (Nat × Nat)) s.heap s.heap := gF.rf
  have hl := lv_entry ([.ref o0]) (n := 1) (Nat.le_of_ble_eq_true rfl)
  rw [lg_entry_eq]
  generalize (lg_sl ([.ref o0]) ++ List.replicate (1 - (lg_sl ([.ref o0])).length) Slot.unset).toArray = ls at hl ⊢
  have hl : lv_has ls 1 [(0, .ref o0)] := hl
  refine lv_aload_n hx hb dX12_close_0 rfl (lv_at hl 0 rfl) ?_
  refine lv_iconst (v := 0) hx hb dX12_close_1 (by decide) ?_
  refine tw_put (v := .int 0) (ty := .int) hx hb hts bF_X12 tyX12 tyX12_ok nmX12 hown hK hT hG hS hr_o0 shm_0 rfl 0 (by decide) (ht_at hts 0 rfl) (fun _ h9 => h9) rfl (by decide +kernel) rfl rfl (gl_at rfl (gi_all _)) dX12_close_2 (fun H locs hT oq m1 oj hS => ?_)
  have hF := hF.put hr_o0 skm_0 oq oj (by decide)
  have m2 := (oj 53 (by decide) (by decide)).trans hm_yv
  have m3 := (oj 54 (by decide) (by decide)).trans hm_dv9
  have m4 := (oj 52 (by decide) (by decide)).trans hm_vo
  refine lv_aload_n hx hb dX12_close_5 rfl (lv_at hl 0 rfl) ?_
  refine lv_aload_n hx hb dX12_close_6 rfl (lv_at hl 0 rfl) ?_
  refine tw_getM (v := .int vo) hx hb hts bF_X12 hown hK hT hr_o0 shm_0 rfl 52 (by decide) (ht_at hts 1 rfl) (fun _ h9 => h9) m4 dX12_close_7 ?_
  refine lv_if_ne (tgt := 17) hx hb dX12_close_10 (by decide) (fun c5 => ?_) (fun c5 => ?_)
  · have t6 : vo.toInt ≠ 0 := ti_ne c5 rfl (by decide)
    refine lv_iconst (v := 0) hx hb dX12_close_17 (by decide) ?_
    refine lv_iconst (v := 1) hx hb dX12_close_18 (by decide) ?_
    have hFc := gA_free hG hA hS
    refine va_calli (va_runV (As := [.int 0, .int 1]) (rest := []) ⟨hx, hb, hml, hown, hts⟩ (s_throwsIf l dC dI kA adK adV G H q wZ wN wH wB wC wL wK wU wV PI im PM PT lS lB lE lN o0 0 1 hT hr_o0 (rg_t (a := 0) (by decide) (by first | decide | omega) (by first | decide | omega)) hgz hgn hgh hgb hgc hgi hgu) (cwV 2 hts (goodIn_app (goodIn_r _ [4, 5, 6, 7] rfl (by decide +kernel)) (goodIn_ca (goodIn_r _ [3, 1] rfl (by decide +kernel)) (bs_in _ _))) rfl rfl rfl (by decide +kernel) ⟨(Nat.le_of_ble_eq_true rfl), (Nat.le_of_ble_eq_true rfl)⟩) ⟨fun a U g mk q => by obtain ⟨q0, q1, qK, qE⟩ := q; exact ⟨q0, q1, va_K.moved (u := U) (U := U.calling g mk a) (Vm.Alike.refl U.vm) qK, EVS.blind g mk a qE⟩, gH_rc hK hT hr_o0 shm_0 rfl, fun U hU hW => ⟨rfl, hU, va_K.moved hW.alike hK, hE.call hS hFc hU hW⟩⟩ rfl rfl hl.1 rfl (lv_room (Nat.le_of_ble_eq_true rfl)) dX12_close_19 ⟨(Nat.le_of_ble_eq_true rfl), (Nat.le_of_ble_eq_true rfl)⟩) hS (fun q _ h => hFc q h) hFc (fun r7 u t H locs ht hvm hw8 hB _ _ hS => ?_)
    obtain ⟨hT, hF1⟩ := hB
    rw [ht] at hT hF1
    have m9 := (hF1.fld hr_o0 skm_0 (k := 53) (by decide) (by decide)).trans m2
    have m10 := (hF1.fld hr_o0 skm_0 (k := 54) (by decide) (by decide)).trans m3
    have hF := hF.more hF1 (by decide)
    try dsimp only at hw8
    obtain ⟨h13, hd14⟩ := hw8
    obtain rfl : (0 : Int32) = r7 := hd14.symm
    refine lv_if_eq (tgt := 27) hx hb dX12_close_22 (by decide) (fun c15 => ?_) (fun c15 => absurd c15 (by decide))
    refine lv_aload_n hx hb dX12_close_27 rfl (lv_at hl 0 rfl) ?_
    refine lv_iconst (v := 0) hx hb dX12_close_28 (by decide) ?_
    refine tw_put (v := .int 0) (ty := .boolean) hx hb hts bF_X12 tyX12 tyX12_ok nmX12 hown hK hT hG hS hr_o0 shm_0 rfl 52 (by decide) (ht_at hts 1 rfl) (fun _ h9 => h9) rfl (by decide +kernel) rfl rfl (gl_at rfl (gi_of (show (0 : Int32).toInt = 0 from (by decide)) (by first | decide | omega) (by first | decide | omega))) dX12_close_29 (fun H locs hT oq m16 oj hS => ?_)
    have hF := hF.put hr_o0 skm_0 oq oj (by decide)
    have m17 := (oj 53 (by decide) (by decide)).trans m9
    have m18 := (oj 54 (by decide) (by decide)).trans m10
    refine lv_aload_n hx hb dX12_close_32 rfl (lv_at hl 0 rfl) ?_
    refine tw_getM (v := .long yv) hx hb hts bF_X12 hown hK hT hr_o0 shm_0 rfl 53 (by decide) (ht_at hts 7 rfl) (fun _ h9 => h9) m17 dX12_close_33 ?_
    refine lv_ldc2 (v := 100) hx hb hown (ht_at hts 8 rfl) dX12_close_36 ?_
    refine lv_lmul hx hb dX12_close_39 ?_
    refine lv_topl (fun y19 ey19 => ?_)
    have t20 : y19.toInt = yv.toInt * 100 ∧ -(0 * 100) ≤ y19.toInt ∧ y19.toInt ≤ 0 * 100 := tl_m ey19 rfl (by decide) (A := 0) (B := 100) (by omega) (by omega) (by omega) (by omega) (by decide)
    refine lv_aload_n hx hb dX12_close_40 rfl (lv_at hl 0 rfl) ?_
    refine lv_bipush (v := 8) hx hb dX12_close_41 (by decide) ?_
    refine lv_bipush (v := 50) hx hb dX12_close_43 (by decide) ?_
    have hFc := gA_free hG hA hS
    refine va_calli (va_runV (As := [.int 8, .int 50]) (rest := [.long y19]) ⟨hx, hb, hml, hown, hts⟩ (s_lastOf l dC dI kA adK adV G H q wZ wN wH wB wC wL wK wU wV PI im PM PT lS lB lE lN o0 8 50 hT hr_o0 hgz hgn hgh hgb hgc hgi hgu) (cwV 2 hts (goodIn_app (goodIn_r _ [14, 15, 16, 7] rfl (by decide +kernel)) (goodIn_ca (goodIn_r _ [10, 11, 12, 13] rfl (by decide +kernel)) (bs_in _ _))) rfl rfl rfl (by decide +kernel) ⟨(Nat.le_of_ble_eq_true rfl), (Nat.le_of_ble_eq_true rfl)⟩) ⟨fun a U g mk q => by obtain ⟨q0, q1, qK, qE⟩ := q; exact ⟨q0, q1, va_K.moved (u := U) (U := U.calling g mk a) (Vm.Alike.refl U.vm) qK, EVS.blind g mk a qE⟩, gH_rc hK hT hr_o0 shm_0 rfl, fun U hU hW => ⟨rfl, hU, va_K.moved hW.alike hK, hE.call hS hFc hU hW⟩⟩ rfl rfl hl.1 rfl (lv_room (Nat.le_of_ble_eq_true rfl)) dX12_close_45 ⟨(Nat.le_of_ble_eq_true rfl), (Nat.le_of_ble_eq_true rfl)⟩) hS (fun q _ h => hFc q h) hFc (fun r21 u t H locs ht hvm hw22 hB _ _ hS => ?_)
    obtain ⟨hT, hF1⟩ := hB
    rw [ht] at hT hF1
    have m24 := (hF1.fld hr_o0 skm_0 (k := 54) (by decide) (by decide)).trans m18
    have m25 := (hF1.fld hr_o0 skm_0 (k := 52) (by decide) (by decide)).trans m16
    have hF := hF.more hF1 (by decide)
    try dsimp only at hw22
    refine lv_i2l (v := r21.toInt64) hx hb dX12_close_48 rfl ?_
    refine lv_aload_n hx hb dX12_close_49 rfl (lv_at hl 0 rfl) ?_
    refine tw_getM (v := .long dv9) hx hb hts bF_X12 hown hK hT hr_o0 shm_0 rfl 54 (by decide) (ht_at hts 16 rfl) (fun _ h9 => h9) m24 dX12_close_50 ?_
    refine lv_lmul hx hb dX12_close_53 ?_
    refine lv_topl (fun y26 ey26 => ?_)
    have t27 : y26.toInt = r21.toInt * dv9.toInt ∧ -(2147483648 * 0) ≤ y26.toInt ∧ y26.toInt ≤ 2147483648 * 0 := tl_m ey26 ((Int32.toInt_toInt64 _).trans rfl) rfl (A := 2147483648) (B := 0) (by omega) (by omega) (by omega) (by omega) (by decide)
    refine W.lcmp hx hb dX12_close_54 ?_
    refine lv_topi (fun x28 ex28 => ?_)
    have t29 : (y19.toInt < y26.toInt ∧ x28.toInt = -1) ∨ (y19.toInt = y26.toInt ∧ x28.toInt = 0) ∨ (y26.toInt < y19.toInt ∧ x28.toInt = 1) := tl_c ex28 rfl rfl
    refine lv_if_gt (tgt := 60) hx hb dX12_close_55 (by decide) (fun c30 => ?_) (fun c30 => ?_)
    · have t31 : 0 < x28.toInt := ti_lt c30 (by decide) rfl
      exfalso; omega
    · have t32 : x28.toInt ≤ 0 := ti_nlt c30 (by decide) rfl
      refine lv_iconst (v := 0) hx hb dX12_close_58 (by decide) ?_
      exact W.zret (v := 0) hx hb hr (by decide) (fun t ht hW => ⟨⟨0, (0 : Int32), rfl, (by exact ⟨(rg_t (a := 0) (by decide) (by first | decide | omega) (by first | decide | omega)), (by have : (0 : Int32).toInt = 0 := (by decide); omega)⟩), by (try dsimp only); rw [ht]; exact ⟨hT, hF, m25⟩⟩, hS.F ht⟩) hS.2.2 dX12_close_59
  · have t33 : vo.toInt = 0 := ti_eq c5 rfl (by decide)
    refine lv_iconst (v := 1) hx hb dX12_close_13 (by decide) ?_
    refine lv_goto (tgt := 18) hx hb dX12_close_14 (by decide) ?_
    refine lv_iconst (v := 1) hx hb dX12_close_18 (by decide) ?_
    have hFc := gA_free hG hA hS
    refine va_calli (va_runV (As := [.int 1, .int 1]) (rest := []) ⟨hx, hb, hml, hown, hts⟩ (s_throwsIf l dC dI kA adK adV G H q wZ wN wH wB wC wL wK wU wV PI im PM PT lS lB lE lN o0 1 1 hT hr_o0 (rg_t (a := 1) (by decide) (by first | decide | omega) (by first | decide | omega)) hgz hgn hgh hgb hgc hgi hgu) (cwV 2 hts (goodIn_app (goodIn_r _ [4, 5, 6, 7] rfl (by decide +kernel)) (goodIn_ca (goodIn_r _ [3, 1] rfl (by decide +kernel)) (bs_in _ _))) rfl rfl rfl (by decide +kernel) ⟨(Nat.le_of_ble_eq_true rfl), (Nat.le_of_ble_eq_true rfl)⟩) ⟨fun a U g mk q => by obtain ⟨q0, q1, qK, qE⟩ := q; exact ⟨q0, q1, va_K.moved (u := U) (U := U.calling g mk a) (Vm.Alike.refl U.vm) qK, EVS.blind g mk a qE⟩, gH_rc hK hT hr_o0 shm_0 rfl, fun U hU hW => ⟨rfl, hU, va_K.moved hW.alike hK, hE.call hS hFc hU hW⟩⟩ rfl rfl hl.1 rfl (lv_room (Nat.le_of_ble_eq_true rfl)) dX12_close_19 ⟨(Nat.le_of_ble_eq_true rfl), (Nat.le_of_ble_eq_true rfl)⟩) hS (fun q _ h => hFc q h) hFc (fun r34 u t H locs ht hvm hw35 hB _ _ hS => ?_)
    obtain ⟨hT, hF1⟩ := hB
    rw [ht] at hT hF1
    have m38 := (hF1.fld hr_o0 skm_0 (k := 52) (by decide) (by decide)).trans m4
    have hF := hF.more hF1 (by decide)
    try dsimp only at hw35
    obtain ⟨h40, hd41⟩ := hw35
    obtain rfl : (1 : Int32) = r34 := hd41.symm
    refine lv_if_eq (tgt := 27) hx hb dX12_close_22 (by decide) (fun c42 => absurd c42 (by decide)) (fun c42 => ?_)
    refine lv_iconst (v := 0) hx hb dX12_close_25 (by decide) ?_
    exact W.zret (v := 0) hx hb hr (by decide) (fun t ht hW => ⟨⟨0, vo, rfl, (by exact ⟨(rg_t (a := 0) (by decide) (by first | decide | omega) (by first | decide | omega)), (by omega)⟩), by (try dsimp only); rw [ht]; exact ⟨hT, hF, m38⟩⟩, hS.F ht⟩) hS.2.2 dX12_close_26
def w_s_settlerZ : List Cond := .code yX12_settler cX12_settler 9 (some .int) :: (HAppend.hAppend (α := List Cond) (β := List Cond) (γ := List Cond) [.fieldLink RX12 194 "SeaLandModel" "thrown" "I", .code yX12_in cX12_in 3 (some .boolean), .methodLink RX12 197 yX12_in, .static yX12_in, .initialized RX12, .code yX12_throwsIf cX12_throwsIf 3 (some .boolean), .methodLink RX12 224 yX12_throwsIf, .instanceMethod yX12_throwsIf, .selects RX12 yX12_throwsIf yX12_throwsIf, .constant RX12 241 100000, .constant RX12 501 999999, .fieldLink RX12 495 "SeaLandModel" "settlers" "I", .fieldLink RX12 79 "SeaLandModel" "age" "[I", .fieldLink RX12 82 "SeaLandModel" "sons" "[I", .fieldLink RX12 85 "SeaLandModel" "coin" "[I", .fieldLink RX12 88 "SeaLandModel" "cattle" "[I", .fieldLink RX12 91 "SeaLandModel" "isKin" "[Z", .fieldLink RX12 95 "SeaLandModel" "isBoard" "[Z", .fieldLink RX12 98 "SeaLandModel" "drawn" "[I", .fieldLink RX12 101 "SeaLandModel" "holds" "[I"] bs)
set_option maxHeartbeats 4000000 in
set_option maxRecDepth 100000 in
theorem s_settlerZ (l : Launch) (dC : Nat → ClassId) (dI : Nat → Nat → Nat) (kA : Nat → ClassId) (adK adV : Nat → Nat) (G : gT) (H0 : Heap) (q : Nat → Nat) (wZ wN : Nat → Int) (wH wB wC : Int) (wL wK : Nat → Prop) (wU wV : Nat → Nat) (PI : Nat → Int → Prop) (im : Int) (PM PT : Nat → Int → Prop) (lS lB lE : Nat → Nat → Int → Prop) (lN : Nat → Int) (o0 : Nat) (p0 : Int32) (p1 : Int32) (p2 : Int32) (p3 : Int32) (p4 : Int32) (p5 : Int32) (p6 : Int32) (sn : Int32) (vA : Nat → Int32) (vD : Nat → Int32) (vC : Nat → Int32) (vU : Nat → Int32) (vI : Nat → Int32) (vM : Nat → Int32) (vH : Nat → Int32)  (hT : gH (dC, dI) kA (SHm q (wP wZ wN wH wB wC wL wK wU wV) PI im PM PT lS lB lE lN) G H0) (hr_o0 : G o0 = some 0) (hm_sn : el H0 o0 (dI 15 42) = some (.int sn)) (hq0 : 0 ≤ p4.toInt ∧ p4.toInt ≤ 1) (hq1 : 0 ≤ p5.toInt ∧ p5.toInt ≤ 1) (hq2 : 0 ≤ sn.toInt ∧ sn.toInt ≤ 60) (hc_vA : ct H0 (q 31) 60 vA) (hc_vD : ct H0 (q 32) 60 vD) (hc_vC : ct H0 (q 33) 60 vC) (hc_vU : ct H0 (q 34) 60 vU) (hc_vI : ct H0 (q 35) 60 vI) (hc_vM : ct H0 (q 36) 60 vM) (hc_vH : ct H0 (q 38) 60 vH) (hgz : ∀ i, 0 ≤ wZ i) (hgn : ∀ i, 6500000 ≤ wN i ∧ wN i ≤ 20200000) (hgh : 0 ≤ wH ∧ wH ≤ 40000) (hgb : 0 ≤ wB ∧ wB ≤ 3850000) (hgc : 0 ≤ wC ∧ wC ≤ 30) (hgi : 0 ≤ im ∧ im ≤ 1) (hgu : ∀ a t, G a = some (t + 1) → a = q t) : Met l yX12_settler w_s_settlerZ ({ frames := 1, cells := 0, slots := 0, locals := 22 }) (va_Pc [.ref o0, .int p0, .int p1, .int p2, .int p3, .int p4, .int p5, .int p6] (fun U => U.heap = H0 ∧ va_K (dC, dI) vwCl (tyl kA) U ∧ EVS adK adV (gA G H0.size) U U.heap)) (va_Qi (fun (r : Int32) (u : Int32 × (Nat → Int32) × (Nat → Int32) × (Nat → Int32) × (Nat → Int32) × (Nat → Int32) × (Nat → Int32) × (Nat → Int32)) => match u with | (n1, vA1, vD1, vC1, vU1, vI1, vM1, vH1) => (0 ≤ r.toInt ∧ r.toInt ≤ 59) ∧ (((((0 ≤ p0.toInt ∧ p0.toInt ≤ 99) ∧ (0 ≤ p1.toInt ∧ p1.toInt ≤ 20) ∧ (0 ≤ p2.toInt ∧ p2.toInt ≤ 100000) ∧ (0 ≤ p3.toInt ∧ p3.toInt ≤ 100) ∧ (0 ≤ p6.toInt ∧ p6.toInt ≤ 999999)) ∧ sn.toInt ≤ 59) ∧ n1.toInt = sn.toInt + 1 ∧ vA1 = cu vA sn.toNatClampNeg p0 ∧ vD1 = cu vD sn.toNatClampNeg p1 ∧ vC1 = cu vC sn.toNatClampNeg p2 ∧ vU1 = cu vU sn.toNatClampNeg p3 ∧ vI1 = cu vI sn.toNatClampNeg p4 ∧ vM1 = cu vM sn.toNatClampNeg p5 ∧ vH1 = cu vH sn.toNatClampNeg (-1)) ∨ (¬ (((0 ≤ p0.toInt ∧ p0.toInt ≤ 99) ∧ (0 ≤ p1.toInt ∧ p1.toInt ≤ 20) ∧ (0 ≤ p2.toInt ∧ p2.toInt ≤ 100000) ∧ (0 ≤ p3.toInt ∧ p3.toInt ≤ 100) ∧ (0 ≤ p6.toInt ∧ p6.toInt ≤ 999999)) ∧ sn.toInt ≤ 59) ∧ n1.toInt = sn.toInt ∧ vA1 = vA ∧ vD1 = vD ∧ vC1 = vC ∧ vU1 = vU ∧ vI1 = vI ∧ vM1 = vM ∧ vH1 = vH))) (fun (u : Int32 × (Nat → Int32) × (Nat → Int32) × (Nat → Int32) × (Nat → Int32) × (Nat → Int32) × (Nat → Int32) × (Nat → Int32)) (t : State) => match u with | (n1, vA1, vD1, vC1, vU1, vI1, vM1, vH1) => gH (dC, dI) kA (SHm q (wP wZ wN wH wB wC wL wK wU wV) PI im PM PT lS lB lE lN) G t.heap ∧ gF (dC, dI) SKm G ([(0, 0), (0, 42), (32, 0), (33, 0), (34, 0), (35, 0), (36, 0), (37, 0), (38, 0), (39, 0)] : List (Nat × Nat)) H0 t.heap ∧ el t.heap o0 (dI 15 42) = some (.int n1) ∧ ct t.heap (q 31) 60 vA1 ∧ ct t.heap (q 32) 60 vD1 ∧ ct t.heap (q 33) 60 vC1 ∧ ct t.heap (q 34) 60 vU1 ∧ ct t.heap (q 35) 60 vI1 ∧ ct t.heap (q 36) 60 vM1 ∧ ct t.heap (q 38) 60 vH1) (gA G H0.size)) 0 0 (gA G H0.size) := by
  refine Met.ofW (cc := cX12_settler) (maxL := 9) (ret := (some .int)) (by decide) rfl ?_
  intro p e s m args below meth c s₁ B hml hv
  obtain ⟨rfl, hH0, hK, hE⟩ := hv
  have hx := B.exec
  have hb := B.bytes
  have hr := B.returns
  have hts := atoms_spec (ws := w_s_settlerZ) B.pre
  have hown : s.vm.findClass RX12 = some m.cls := findClass_of_methodNamed B.named
  have hlocks := B.notSynchronized
  subst hH0
  generalize hAe : gA G s.heap.size = A at hE ⊢
  have hA : ∀ q : Nat, s.heap.size ≤ q → A q := fun q h => by rw [← hAe]; exact Or.inr h
  have hG := gA_of hAe
  have hS : va_S A s.heap s.heap [] := va_S.rf
  have hF : gF (dC, dI) SKm G ([(0, 0), (0, 42), (32, 0), (33, 0), (34, 0), (35, 0), (36, 0), (37, 0), (38, 0), (39, 0)] : List (Nat × Nat)) s.heap s.heap := gF.rf
  have hl := lv_entry ([.ref o0, .int p0, .int p1, .int p2, .int p3, .int p4, .int p5, .int p6]) (n := 9) (Nat.le_of_ble_eq_true rfl)
  rw [lg_entry_eq]
  generalize (lg_sl ([.ref o0, .int p0, .int p1, .int p2, .int p3, .int p4, .int p5, .int p6]) ++ List.replicate (9 - (lg_sl ([.ref o0, .int p0, .int p1, .int p2, .int p3, .int p4, .int p5, .int p6])).length) Slot.unset).toArray = ls at hl ⊢
  have hl : lv_has ls 9 [(0, .ref o0), (1, .int p0), (2, .int p1), (3, .int p2), (4, .int p3), (5, .int p4), (6, .int p5), (7, .int p6)] := hl
  have hg1 : G (q 31) = some 32 := gx_of hT hr_o0 shm_0 (k := 31) (by decide) rfl
  have hg2 : G (q 32) = some 33 := gx_of hT hr_o0 shm_0 (k := 32) (by decide) rfl
  have hg3 : G (q 33) = some 34 := gx_of hT hr_o0 shm_0 (k := 33) (by decide) rfl
  have hg4 : G (q 34) = some 35 := gx_of hT hr_o0 shm_0 (k := 34) (by decide) rfl
  have hg5 : G (q 35) = some 36 := gx_of hT hr_o0 shm_0 (k := 35) (by decide) rfl
  have hg6 : G (q 36) = some 37 := gx_of hT hr_o0 shm_0 (k := 36) (by decide) rfl
  have hg7 : G (q 38) = some 39 := gx_of hT hr_o0 shm_0 (k := 38) (by decide) rfl
  refine lv_aload_n hx hb dX12_settler_0 rfl (lv_at hl 0 rfl) ?_
  refine lv_iconst (v := 0) hx hb dX12_settler_1 (by decide) ?_
  refine tw_put (v := .int 0) (ty := .int) hx hb hts bF_X12 tyX12 tyX12_ok nmX12 hown hK hT hG hS hr_o0 shm_0 rfl 0 (by decide) (ht_at hts 0 rfl) (fun _ h9 => h9) rfl (by decide +kernel) rfl rfl (gl_at rfl (gi_all _)) dX12_settler_2 (fun H locs hT oq m8 oj hS => ?_)
  have hF := hF.put hr_o0 skm_0 oq oj (by decide)
  have m9 := (oj 42 (by decide) (by decide)).trans hm_sn
  have m10 := hc_vA.kept (oq _ (gne hg1 hr_o0 (by decide)))
  have m11 := hc_vD.kept (oq _ (gne hg2 hr_o0 (by decide)))
  have m12 := hc_vC.kept (oq _ (gne hg3 hr_o0 (by decide)))
  have m13 := hc_vU.kept (oq _ (gne hg4 hr_o0 (by decide)))
  have m14 := hc_vI.kept (oq _ (gne hg5 hr_o0 (by decide)))
  have m15 := hc_vM.kept (oq _ (gne hg6 hr_o0 (by decide)))
  have m16 := hc_vH.kept (oq _ (gne hg7 hr_o0 (by decide)))
  refine lv_aload_n hx hb dX12_settler_5 rfl (lv_at hl 0 rfl) ?_
  refine lv_iload_n hx hb dX12_settler_6 rfl (lv_at hl 1 rfl) ?_
  refine lv_iconst (v := 0) hx hb dX12_settler_7 (by decide) ?_
  refine lv_bipush (v := 99) hx hb dX12_settler_8 (by decide) ?_
  have hFc := gA_free hG hA hS
  refine va_calli (va_runS (As := [.int p0, .int 0, .int 99]) (rest := [.ref o0]) ⟨hx, hb, hml, hown, hts⟩ (s_in l dC dI kA adK adV G H q wZ wN wH wB wC wL wK wU wV PI im PM PT lS lB lE lN p0 0 99 hT hgz hgn hgh hgb hgc hgi hgu) (va_cwS 3 hts (goodIn_app (goodIn_r _ [3, 4, 5] rfl (by decide +kernel)) (goodIn_ca (goodIn_r _ [2] rfl (by decide +kernel)) (bs_in _ _))) rfl rfl rfl (by decide +kernel) ⟨(Nat.le_of_ble_eq_true rfl), (Nat.le_of_ble_eq_true rfl)⟩) ⟨fun a U g mk q => by obtain ⟨q0, q1, qK, qE⟩ := q; exact ⟨q0, q1, va_K.moved (u := U) (U := U.calling g mk a) (Vm.Alike.refl U.vm) qK, EVS.blind g mk a qE⟩, fun U hU hW => ⟨rfl, hU, va_K.moved hW.alike hK, hE.call hS hFc hU hW⟩⟩ rfl rfl hl.1 rfl (lv_room (Nat.le_of_ble_eq_true rfl)) dX12_settler_10 ⟨(Nat.le_of_ble_eq_true rfl), (Nat.le_of_ble_eq_true rfl)⟩) hS (fun q _ h => hFc q h) hFc (fun r17 u t H locs ht hvm hw18 hB _ _ hS => ?_)
  obtain ⟨hT, hF1⟩ := hB
  rw [ht] at hT hF1
  have m19 := (hF1.fld hr_o0 skm_0 (k := 42) (by decide) (by decide)).trans m9
  have m20 := m10.kept (hF1.arr hg1 skm_32 (by decide))
  have m21 := m11.kept (hF1.arr hg2 skm_33 (by decide))
  have m22 := m12.kept (hF1.arr hg3 skm_34 (by decide))
  have m23 := m13.kept (hF1.arr hg4 skm_35 (by decide))
  have m24 := m14.kept (hF1.arr hg5 skm_36 (by decide))
  have m25 := m15.kept (hF1.arr hg6 skm_37 (by decide))
  have m26 := m16.kept (hF1.arr hg7 skm_39 (by decide))
  have hF := hF.more hF1 (by decide)
  try dsimp only at hw18
  obtain ⟨h28, hi29, hi30⟩ := hw18
  refine lv_if_eq (tgt := 59) hx hb dX12_settler_13 (by decide) (fun c31 => ?_) (fun c31 => ?_)
  · have t32 : r17.toInt = 0 := ti_eq c31 rfl (by decide)
    have t33 : (0 : Int32).toInt = 0 := by decide
    have t34 : (99 : Int32).toInt = 99 := by decide
    have t35 : p0.toInt < (0 : Int32).toInt ∨ (99 : Int32).toInt < p0.toInt := hi30 c31
    refine lv_iconst (v := 1) hx hb dX12_settler_59 (by decide) ?_
    refine lv_goto (tgt := 64) hx hb dX12_settler_60 (by decide) ?_
    refine lv_iconst (v := 1) hx hb dX12_settler_64 (by decide) ?_
    have hFc := gA_free hG hA hS
    refine va_calli (va_runV (As := [.int 1, .int 1]) (rest := []) ⟨hx, hb, hml, hown, hts⟩ (s_throwsIf l dC dI kA adK adV G H q wZ wN wH wB wC wL wK wU wV PI im PM PT lS lB lE lN o0 1 1 hT hr_o0 (rg_t (a := 1) (by decide) (by first | decide | omega) (by first | decide | omega)) hgz hgn hgh hgb hgc hgi hgu) (cwV 2 hts (goodIn_app (goodIn_r _ [7, 8, 9, 5] rfl (by decide +kernel)) (goodIn_ca (goodIn_r _ [6, 1] rfl (by decide +kernel)) (bs_in _ _))) rfl rfl rfl (by decide +kernel) ⟨(Nat.le_of_ble_eq_true rfl), (Nat.le_of_ble_eq_true rfl)⟩) ⟨fun a U g mk q => by obtain ⟨q0, q1, qK, qE⟩ := q; exact ⟨q0, q1, va_K.moved (u := U) (U := U.calling g mk a) (Vm.Alike.refl U.vm) qK, EVS.blind g mk a qE⟩, gH_rc hK hT hr_o0 shm_0 rfl, fun U hU hW => ⟨rfl, hU, va_K.moved hW.alike hK, hE.call hS hFc hU hW⟩⟩ rfl rfl hl.1 rfl (lv_room (Nat.le_of_ble_eq_true rfl)) dX12_settler_65 ⟨(Nat.le_of_ble_eq_true rfl), (Nat.le_of_ble_eq_true rfl)⟩) hS (fun q _ h => hFc q h) hFc (fun r36 u t H locs ht hvm hw37 hB _ _ hS => ?_)
    obtain ⟨hT, hF1⟩ := hB
    rw [ht] at hT hF1
    have m38 := (hF1.fld hr_o0 skm_0 (k := 42) (by decide) (by decide)).trans m19
    have m39 := m20.kept (hF1.arr hg1 skm_32 (by decide))
    have m40 := m21.kept (hF1.arr hg2 skm_33 (by decide))
    have m41 := m22.kept (hF1.arr hg3 skm_34 (by decide))
    have m42 := m23.kept (hF1.arr hg4 skm_35 (by decide))
    have m43 := m24.kept (hF1.arr hg5 skm_36 (by decide))
    have m44 := m25.kept (hF1.arr hg6 skm_37 (by decide))
    have m45 := m26.kept (hF1.arr hg7 skm_39 (by decide))
    have hF := hF.more hF1 (by decide)
    try dsimp only at hw37
    obtain ⟨h47, hd48⟩ := hw37
    obtain rfl : (1 : Int32) = r36 := hd48.symm
    refine lv_if_ne (tgt := 93) hx hb dX12_settler_68 (by decide) (fun c49 => ?_) (fun c49 => absurd c49 (by decide))
    refine lv_iconst (v := 0) hx hb dX12_settler_93 (by decide) ?_
    exact W.iret (v := 0) hx hb hr (fun t ht hW => ⟨⟨0, (sn, vA, vD, vC, vU, vI, vM, vH), rfl, (by exact ⟨(rg_t (a := 0) (by decide) (by first | decide | omega) (by first | decide | omega)), (Or.inr ⟨by omega, by omega, rfl, rfl, rfl, rfl, rfl, rfl, rfl⟩)⟩), by (try dsimp only); rw [ht]; exact ⟨hT, hF, m38, m39, m40, m41, m42, m43, m44, m45⟩⟩, hS.F ht⟩) hS.2.2 dX12_settler_94
  · have t50 : r17.toInt ≠ 0 := ti_ne c31 rfl (by decide)
    have t51 : (0 : Int32).toInt = 0 := by decide
    have t52 : (99 : Int32).toInt = 99 := by decide
    have t53 : (0 : Int32).toInt ≤ p0.toInt ∧ p0.toInt ≤ (99 : Int32).toInt := hi29 ((bit_of ⟨by omega, by omega⟩).resolve_left c31)
    refine lv_iload_n hx hb dX12_settler_16 rfl (lv_at hl 2 rfl) ?_
    refine lv_iconst (v := 0) hx hb dX12_settler_17 (by decide) ?_
    refine lv_bipush (v := 20) hx hb dX12_settler_18 (by decide) ?_
    have hFc := gA_free hG hA hS
    refine va_calli (va_runS (As := [.int p1, .int 0, .int 20]) (rest := [.ref o0]) ⟨hx, hb, hml, hown, hts⟩ (s_in l dC dI kA adK adV G H q wZ wN wH wB wC wL wK wU wV PI im PM PT lS lB lE lN p1 0 20 hT hgz hgn hgh hgb hgc hgi hgu) (va_cwS 3 hts (goodIn_app (goodIn_r _ [3, 4, 5] rfl (by decide +kernel)) (goodIn_ca (goodIn_r _ [2] rfl (by decide +kernel)) (bs_in _ _))) rfl rfl rfl (by decide +kernel) ⟨(Nat.le_of_ble_eq_true rfl), (Nat.le_of_ble_eq_true rfl)⟩) ⟨fun a U g mk q => by obtain ⟨q0, q1, qK, qE⟩ := q; exact ⟨q0, q1, va_K.moved (u := U) (U := U.calling g mk a) (Vm.Alike.refl U.vm) qK, EVS.blind g mk a qE⟩, fun U hU hW => ⟨rfl, hU, va_K.moved hW.alike hK, hE.call hS hFc hU hW⟩⟩ rfl rfl hl.1 rfl (lv_room (Nat.le_of_ble_eq_true rfl)) dX12_settler_20 ⟨(Nat.le_of_ble_eq_true rfl), (Nat.le_of_ble_eq_true rfl)⟩) hS (fun q _ h => hFc q h) hFc (fun r54 u t H locs ht hvm hw55 hB _ _ hS => ?_)
    obtain ⟨hT, hF1⟩ := hB
    rw [ht] at hT hF1
    have m56 := (hF1.fld hr_o0 skm_0 (k := 42) (by decide) (by decide)).trans m19
    have m57 := m20.kept (hF1.arr hg1 skm_32 (by decide))
    have m58 := m21.kept (hF1.arr hg2 skm_33 (by decide))
    have m59 := m22.kept (hF1.arr hg3 skm_34 (by decide))
    have m60 := m23.kept (hF1.arr hg4 skm_35 (by decide))
    have m61 := m24.kept (hF1.arr hg5 skm_36 (by decide))
    have m62 := m25.kept (hF1.arr hg6 skm_37 (by decide))
    have m63 := m26.kept (hF1.arr hg7 skm_39 (by decide))
    have hF := hF.more hF1 (by decide)
    try dsimp only at hw55
    obtain ⟨h65, hi66, hi67⟩ := hw55
    refine lv_if_eq (tgt := 59) hx hb dX12_settler_23 (by decide) (fun c68 => ?_) (fun c68 => ?_)
    · have t69 : r54.toInt = 0 := ti_eq c68 rfl (by decide)
      have t70 : (0 : Int32).toInt = 0 := by decide
      have t71 : (20 : Int32).toInt = 20 := by decide
      have t72 : p1.toInt < (0 : Int32).toInt ∨ (20 : Int32).toInt < p1.toInt := hi67 c68
      refine lv_iconst (v := 1) hx hb dX12_settler_59 (by decide) ?_
      refine lv_goto (tgt := 64) hx hb dX12_settler_60 (by decide) ?_
      refine lv_iconst (v := 1) hx hb dX12_settler_64 (by decide) ?_
      have hFc := gA_free hG hA hS
      refine va_calli (va_runV (As := [.int 1, .int 1]) (rest := []) ⟨hx, hb, hml, hown, hts⟩ (s_throwsIf l dC dI kA adK adV G H q wZ wN wH wB wC wL wK wU wV PI im PM PT lS lB lE lN o0 1 1 hT hr_o0 (rg_t (a := 1) (by decide) (by first | decide | omega) (by first | decide | omega)) hgz hgn hgh hgb hgc hgi hgu) (cwV 2 hts (goodIn_app (goodIn_r _ [7, 8, 9, 5] rfl (by decide +kernel)) (goodIn_ca (goodIn_r _ [6, 1] rfl (by decide +kernel)) (bs_in _ _))) rfl rfl rfl (by decide +kernel) ⟨(Nat.le_of_ble_eq_true rfl), (Nat.le_of_ble_eq_true rfl)⟩) ⟨fun a U g mk q => by obtain ⟨q0, q1, qK, qE⟩ := q; exact ⟨q0, q1, va_K.moved (u := U) (U := U.calling g mk a) (Vm.Alike.refl U.vm) qK, EVS.blind g mk a qE⟩, gH_rc hK hT hr_o0 shm_0 rfl, fun U hU hW => ⟨rfl, hU, va_K.moved hW.alike hK, hE.call hS hFc hU hW⟩⟩ rfl rfl hl.1 rfl (lv_room (Nat.le_of_ble_eq_true rfl)) dX12_settler_65 ⟨(Nat.le_of_ble_eq_true rfl), (Nat.le_of_ble_eq_true rfl)⟩) hS (fun q _ h => hFc q h) hFc (fun r73 u t H locs ht hvm hw74 hB _ _ hS => ?_)
      obtain ⟨hT, hF1⟩ := hB
      rw [ht] at hT hF1
      have m75 := (hF1.fld hr_o0 skm_0 (k := 42) (by decide) (by decide)).trans m56
      have m76 := m57.kept (hF1.arr hg1 skm_32 (by decide))
      have m77 := m58.kept (hF1.arr hg2 skm_33 (by decide))
      have m78 := m59.kept (hF1.arr hg3 skm_34 (by decide))
      have m79 := m60.kept (hF1.arr hg4 skm_35 (by decide))
      have m80 := m61.kept (hF1.arr hg5 skm_36 (by decide))
      have m81 := m62.kept (hF1.arr hg6 skm_37 (by decide))
      have m82 := m63.kept (hF1.arr hg7 skm_39 (by decide))
      have hF := hF.more hF1 (by decide)
      try dsimp only at hw74
      obtain ⟨h84, hd85⟩ := hw74
      obtain rfl : (1 : Int32) = r73 := hd85.symm
      refine lv_if_ne (tgt := 93) hx hb dX12_settler_68 (by decide) (fun c86 => ?_) (fun c86 => absurd c86 (by decide))
      refine lv_iconst (v := 0) hx hb dX12_settler_93 (by decide) ?_
      exact W.iret (v := 0) hx hb hr (fun t ht hW => ⟨⟨0, (sn, vA, vD, vC, vU, vI, vM, vH), rfl, (by exact ⟨(rg_t (a := 0) (by decide) (by first | decide | omega) (by first | decide | omega)), (Or.inr ⟨by omega, by omega, rfl, rfl, rfl, rfl, rfl, rfl, rfl⟩)⟩), by (try dsimp only); rw [ht]; exact ⟨hT, hF, m75, m76, m77, m78, m79, m80, m81, m82⟩⟩, hS.F ht⟩) hS.2.2 dX12_settler_94
    · have t87 : r54.toInt ≠ 0 := ti_ne c68 rfl (by decide)
      have t88 : (0 : Int32).toInt = 0 := by decide
      have t89 : (20 : Int32).toInt = 20 := by decide
      have t90 : (0 : Int32).toInt ≤ p1.toInt ∧ p1.toInt ≤ (20 : Int32).toInt := hi66 ((bit_of ⟨by omega, by omega⟩).resolve_left c68)
      refine lv_iload_n hx hb dX12_settler_26 rfl (lv_at hl 3 rfl) ?_
      refine lv_iconst (v := 0) hx hb dX12_settler_27 (by decide) ?_
      refine lv_ldc (v := 100000) hx hb hown (ht_at hts 9 rfl) dX12_settler_28 ?_
      have hFc := gA_free hG hA hS
      refine va_calli (va_runS (As := [.int p2, .int 0, .int 100000]) (rest := [.ref o0]) ⟨hx, hb, hml, hown, hts⟩ (s_in l dC dI kA adK adV G H q wZ wN wH wB wC wL wK wU wV PI im PM PT lS lB lE lN p2 0 100000 hT hgz hgn hgh hgb hgc hgi hgu) (va_cwS 3 hts (goodIn_app (goodIn_r _ [3, 4, 5] rfl (by decide +kernel)) (goodIn_ca (goodIn_r _ [2] rfl (by decide +kernel)) (bs_in _ _))) rfl rfl rfl (by decide +kernel) ⟨(Nat.le_of_ble_eq_true rfl), (Nat.le_of_ble_eq_true rfl)⟩) ⟨fun a U g mk q => by obtain ⟨q0, q1, qK, qE⟩ := q; exact ⟨q0, q1, va_K.moved (u := U) (U := U.calling g mk a) (Vm.Alike.refl U.vm) qK, EVS.blind g mk a qE⟩, fun U hU hW => ⟨rfl, hU, va_K.moved hW.alike hK, hE.call hS hFc hU hW⟩⟩ rfl rfl hl.1 rfl (lv_room (Nat.le_of_ble_eq_true rfl)) dX12_settler_30 ⟨(Nat.le_of_ble_eq_true rfl), (Nat.le_of_ble_eq_true rfl)⟩) hS (fun q _ h => hFc q h) hFc (fun r91 u t H locs ht hvm hw92 hB _ _ hS => ?_)
      obtain ⟨hT, hF1⟩ := hB
      rw [ht] at hT hF1
      have m93 := (hF1.fld hr_o0 skm_0 (k := 42) (by decide) (by decide)).trans m56
      have m94 := m57.kept (hF1.arr hg1 skm_32 (by decide))
      have m95 := m58.kept (hF1.arr hg2 skm_33 (by decide))
      have m96 := m59.kept (hF1.arr hg3 skm_34 (by decide))
      have m97 := m60.kept (hF1.arr hg4 skm_35 (by decide))
      have m98 := m61.kept (hF1.arr hg5 skm_36 (by decide))
      have m99 := m62.kept (hF1.arr hg6 skm_37 (by decide))
      have m100 := m63.kept (hF1.arr hg7 skm_39 (by decide))
      have hF := hF.more hF1 (by decide)
      try dsimp only at hw92
      obtain ⟨h102, hi103, hi104⟩ := hw92
      refine lv_if_eq (tgt := 59) hx hb dX12_settler_33 (by decide) (fun c105 => ?_) (fun c105 => ?_)
      · have t106 : r91.toInt = 0 := ti_eq c105 rfl (by decide)
        have t107 : (0 : Int32).toInt = 0 := by decide
        have t108 : (100000 : Int32).toInt = 100000 := by decide
        have t109 : p2.toInt < (0 : Int32).toInt ∨ (100000 : Int32).toInt < p2.toInt := hi104 c105
        refine lv_iconst (v := 1) hx hb dX12_settler_59 (by decide) ?_
        refine lv_goto (tgt := 64) hx hb dX12_settler_60 (by decide) ?_
        refine lv_iconst (v := 1) hx hb dX12_settler_64 (by decide) ?_
        have hFc := gA_free hG hA hS
        refine va_calli (va_runV (As := [.int 1, .int 1]) (rest := []) ⟨hx, hb, hml, hown, hts⟩ (s_throwsIf l dC dI kA adK adV G H q wZ wN wH wB wC wL wK wU wV PI im PM PT lS lB lE lN o0 1 1 hT hr_o0 (rg_t (a := 1) (by decide) (by first | decide | omega) (by first | decide | omega)) hgz hgn hgh hgb hgc hgi hgu) (cwV 2 hts (goodIn_app (goodIn_r _ [7, 8, 9, 5] rfl (by decide +kernel)) (goodIn_ca (goodIn_r _ [6, 1] rfl (by decide +kernel)) (bs_in _ _))) rfl rfl rfl (by decide +kernel) ⟨(Nat.le_of_ble_eq_true rfl), (Nat.le_of_ble_eq_true rfl)⟩) ⟨fun a U g mk q => by obtain ⟨q0, q1, qK, qE⟩ := q; exact ⟨q0, q1, va_K.moved (u := U) (U := U.calling g mk a) (Vm.Alike.refl U.vm) qK, EVS.blind g mk a qE⟩, gH_rc hK hT hr_o0 shm_0 rfl, fun U hU hW => ⟨rfl, hU, va_K.moved hW.alike hK, hE.call hS hFc hU hW⟩⟩ rfl rfl hl.1 rfl (lv_room (Nat.le_of_ble_eq_true rfl)) dX12_settler_65 ⟨(Nat.le_of_ble_eq_true rfl), (Nat.le_of_ble_eq_true rfl)⟩) hS (fun q _ h => hFc q h) hFc (fun r110 u t H locs ht hvm hw111 hB _ _ hS => ?_)
        obtain ⟨hT, hF1⟩ := hB
        rw [ht] at hT hF1
        have m112 := (hF1.fld hr_o0 skm_0 (k := 42) (by decide) (by decide)).trans m93
        have m113 := m94.kept (hF1.arr hg1 skm_32 (by decide))
        have m114 := m95.kept (hF1.arr hg2 skm_33 (by decide))
        have m115 := m96.kept (hF1.arr hg3 skm_34 (by decide))
        have m116 := m97.kept (hF1.arr hg4 skm_35 (by decide))
        have m117 := m98.kept (hF1.arr hg5 skm_36 (by decide))
        have m118 := m99.kept (hF1.arr hg6 skm_37 (by decide))
        have m119 := m100.kept (hF1.arr hg7 skm_39 (by decide))
        have hF := hF.more hF1 (by decide)
        try dsimp only at hw111
        obtain ⟨h121, hd122⟩ := hw111
        obtain rfl : (1 : Int32) = r110 := hd122.symm
        refine lv_if_ne (tgt := 93) hx hb dX12_settler_68 (by decide) (fun c123 => ?_) (fun c123 => absurd c123 (by decide))
        refine lv_iconst (v := 0) hx hb dX12_settler_93 (by decide) ?_
        exact W.iret (v := 0) hx hb hr (fun t ht hW => ⟨⟨0, (sn, vA, vD, vC, vU, vI, vM, vH), rfl, (by exact ⟨(rg_t (a := 0) (by decide) (by first | decide | omega) (by first | decide | omega)), (Or.inr ⟨by omega, by omega, rfl, rfl, rfl, rfl, rfl, rfl, rfl⟩)⟩), by (try dsimp only); rw [ht]; exact ⟨hT, hF, m112, m113, m114, m115, m116, m117, m118, m119⟩⟩, hS.F ht⟩) hS.2.2 dX12_settler_94
      · have t124 : r91.toInt ≠ 0 := ti_ne c105 rfl (by decide)
        have t125 : (0 : Int32).toInt = 0 := by decide
        have t126 : (100000 : Int32).toInt = 100000 := by decide
        have t127 : (0 : Int32).toInt ≤ p2.toInt ∧ p2.toInt ≤ (100000 : Int32).toInt := hi103 ((bit_of ⟨by omega, by omega⟩).resolve_left c105)
        refine lv_iload hx hb dX12_settler_36 (lv_at hl 4 rfl) ?_
        refine lv_iconst (v := 0) hx hb dX12_settler_38 (by decide) ?_
        refine lv_bipush (v := 100) hx hb dX12_settler_39 (by decide) ?_
        have hFc := gA_free hG hA hS
        refine va_calli (va_runS (As := [.int p3, .int 0, .int 100]) (rest := [.ref o0]) ⟨hx, hb, hml, hown, hts⟩ (s_in l dC dI kA adK adV G H q wZ wN wH wB wC wL wK wU wV PI im PM PT lS lB lE lN p3 0 100 hT hgz hgn hgh hgb hgc hgi hgu) (va_cwS 3 hts (goodIn_app (goodIn_r _ [3, 4, 5] rfl (by decide +kernel)) (goodIn_ca (goodIn_r _ [2] rfl (by decide +kernel)) (bs_in _ _))) rfl rfl rfl (by decide +kernel) ⟨(Nat.le_of_ble_eq_true rfl), (Nat.le_of_ble_eq_true rfl)⟩) ⟨fun a U g mk q => by obtain ⟨q0, q1, qK, qE⟩ := q; exact ⟨q0, q1, va_K.moved (u := U) (U := U.calling g mk a) (Vm.Alike.refl U.vm) qK, EVS.blind g mk a qE⟩, fun U hU hW => ⟨rfl, hU, va_K.moved hW.alike hK, hE.call hS hFc hU hW⟩⟩ rfl rfl hl.1 rfl (lv_room (Nat.le_of_ble_eq_true rfl)) dX12_settler_41 ⟨(Nat.le_of_ble_eq_true rfl), (Nat.le_of_ble_eq_true rfl)⟩) hS (fun q _ h => hFc q h) hFc (fun r128 u t H locs ht hvm hw129 hB _ _ hS => ?_)
        obtain ⟨hT, hF1⟩ := hB
        rw [ht] at hT hF1
        have m130 := (hF1.fld hr_o0 skm_0 (k := 42) (by decide) (by decide)).trans m93
        have m131 := m94.kept (hF1.arr hg1 skm_32 (by decide))
        have m132 := m95.kept (hF1.arr hg2 skm_33 (by decide))
        have m133 := m96.kept (hF1.arr hg3 skm_34 (by decide))
        have m134 := m97.kept (hF1.arr hg4 skm_35 (by decide))
        have m135 := m98.kept (hF1.arr hg5 skm_36 (by decide))
        have m136 := m99.kept (hF1.arr hg6 skm_37 (by decide))
        have m137 := m100.kept (hF1.arr hg7 skm_39 (by decide))
        have hF := hF.more hF1 (by decide)
        try dsimp only at hw129
        obtain ⟨h139, hi140, hi141⟩ := hw129
        refine lv_if_eq (tgt := 59) hx hb dX12_settler_44 (by decide) (fun c142 => ?_) (fun c142 => ?_)
        · have t143 : r128.toInt = 0 := ti_eq c142 rfl (by decide)
          have t144 : (0 : Int32).toInt = 0 := by decide
          have t145 : (100 : Int32).toInt = 100 := by decide
          have t146 : p3.toInt < (0 : Int32).toInt ∨ (100 : Int32).toInt < p3.toInt := hi141 c142
          refine lv_iconst (v := 1) hx hb dX12_settler_59 (by decide) ?_
          refine lv_goto (tgt := 64) hx hb dX12_settler_60 (by decide) ?_
          refine lv_iconst (v := 1) hx hb dX12_settler_64 (by decide) ?_
          have hFc := gA_free hG hA hS
          refine va_calli (va_runV (As := [.int 1, .int 1]) (rest := []) ⟨hx, hb, hml, hown, hts⟩ (s_throwsIf l dC dI kA adK adV G H q wZ wN wH wB wC wL wK wU wV PI im PM PT lS lB lE lN o0 1 1 hT hr_o0 (rg_t (a := 1) (by decide) (by first | decide | omega) (by first | decide | omega)) hgz hgn hgh hgb hgc hgi hgu) (cwV 2 hts (goodIn_app (goodIn_r _ [7, 8, 9, 5] rfl (by decide +kernel)) (goodIn_ca (goodIn_r _ [6, 1] rfl (by decide +kernel)) (bs_in _ _))) rfl rfl rfl (by decide +kernel) ⟨(Nat.le_of_ble_eq_true rfl), (Nat.le_of_ble_eq_true rfl)⟩) ⟨fun a U g mk q => by obtain ⟨q0, q1, qK, qE⟩ := q; exact ⟨q0, q1, va_K.moved (u := U) (U := U.calling g mk a) (Vm.Alike.refl U.vm) qK, EVS.blind g mk a qE⟩, gH_rc hK hT hr_o0 shm_0 rfl, fun U hU hW => ⟨rfl, hU, va_K.moved hW.alike hK, hE.call hS hFc hU hW⟩⟩ rfl rfl hl.1 rfl (lv_room (Nat.le_of_ble_eq_true rfl)) dX12_settler_65 ⟨(Nat.le_of_ble_eq_true rfl), (Nat.le_of_ble_eq_true rfl)⟩) hS (fun q _ h => hFc q h) hFc (fun r147 u t H locs ht hvm hw148 hB _ _ hS => ?_)
          obtain ⟨hT, hF1⟩ := hB
          rw [ht] at hT hF1
          have m149 := (hF1.fld hr_o0 skm_0 (k := 42) (by decide) (by decide)).trans m130
          have m150 := m131.kept (hF1.arr hg1 skm_32 (by decide))
          have m151 := m132.kept (hF1.arr hg2 skm_33 (by decide))
          have m152 := m133.kept (hF1.arr hg3 skm_34 (by decide))
          have m153 := m134.kept (hF1.arr hg4 skm_35 (by decide))
          have m154 := m135.kept (hF1.arr hg5 skm_36 (by decide))
          have m155 := m136.kept (hF1.arr hg6 skm_37 (by decide))
          have m156 := m137.kept (hF1.arr hg7 skm_39 (by decide))
          have hF := hF.more hF1 (by decide)
          try dsimp only at hw148
          obtain ⟨h158, hd159⟩ := hw148
          obtain rfl : (1 : Int32) = r147 := hd159.symm
          refine lv_if_ne (tgt := 93) hx hb dX12_settler_68 (by decide) (fun c160 => ?_) (fun c160 => absurd c160 (by decide))
          refine lv_iconst (v := 0) hx hb dX12_settler_93 (by decide) ?_
          exact W.iret (v := 0) hx hb hr (fun t ht hW => ⟨⟨0, (sn, vA, vD, vC, vU, vI, vM, vH), rfl, (by exact ⟨(rg_t (a := 0) (by decide) (by first | decide | omega) (by first | decide | omega)), (Or.inr ⟨by omega, by omega, rfl, rfl, rfl, rfl, rfl, rfl, rfl⟩)⟩), by (try dsimp only); rw [ht]; exact ⟨hT, hF, m149, m150, m151, m152, m153, m154, m155, m156⟩⟩, hS.F ht⟩) hS.2.2 dX12_settler_94
        · have t161 : r128.toInt ≠ 0 := ti_ne c142 rfl (by decide)
          have t162 : (0 : Int32).toInt = 0 := by decide
          have t163 : (100 : Int32).toInt = 100 := by decide
          have t164 : (0 : Int32).toInt ≤ p3.toInt ∧ p3.toInt ≤ (100 : Int32).toInt := hi140 ((bit_of ⟨by omega, by omega⟩).resolve_left c142)
          refine lv_iload hx hb dX12_settler_47 (lv_at hl 7 rfl) ?_
          refine lv_iconst (v := 0) hx hb dX12_settler_49 (by decide) ?_
          refine lv_ldcw (v := 999999) hx hb hown (ht_at hts 10 rfl) dX12_settler_50 ?_
          have hFc := gA_free hG hA hS
          refine va_calli (va_runS (As := [.int p6, .int 0, .int 999999]) (rest := [.ref o0]) ⟨hx, hb, hml, hown, hts⟩ (s_in l dC dI kA adK adV G H q wZ wN wH wB wC wL wK wU wV PI im PM PT lS lB lE lN p6 0 999999 hT hgz hgn hgh hgb hgc hgi hgu) (va_cwS 3 hts (goodIn_app (goodIn_r _ [3, 4, 5] rfl (by decide +kernel)) (goodIn_ca (goodIn_r _ [2] rfl (by decide +kernel)) (bs_in _ _))) rfl rfl rfl (by decide +kernel) ⟨(Nat.le_of_ble_eq_true rfl), (Nat.le_of_ble_eq_true rfl)⟩) ⟨fun a U g mk q => by obtain ⟨q0, q1, qK, qE⟩ := q; exact ⟨q0, q1, va_K.moved (u := U) (U := U.calling g mk a) (Vm.Alike.refl U.vm) qK, EVS.blind g mk a qE⟩, fun U hU hW => ⟨rfl, hU, va_K.moved hW.alike hK, hE.call hS hFc hU hW⟩⟩ rfl rfl hl.1 rfl (lv_room (Nat.le_of_ble_eq_true rfl)) dX12_settler_53 ⟨(Nat.le_of_ble_eq_true rfl), (Nat.le_of_ble_eq_true rfl)⟩) hS (fun q _ h => hFc q h) hFc (fun r165 u t H locs ht hvm hw166 hB _ _ hS => ?_)
          obtain ⟨hT, hF1⟩ := hB
          rw [ht] at hT hF1
          have m167 := (hF1.fld hr_o0 skm_0 (k := 42) (by decide) (by decide)).trans m130
          have m168 := m131.kept (hF1.arr hg1 skm_32 (by decide))
          have m169 := m132.kept (hF1.arr hg2 skm_33 (by decide))
          have m170 := m133.kept (hF1.arr hg3 skm_34 (by decide))
          have m171 := m134.kept (hF1.arr hg4 skm_35 (by decide))
          have m172 := m135.kept (hF1.arr hg5 skm_36 (by decide))
          have m173 := m136.kept (hF1.arr hg6 skm_37 (by decide))
          have m174 := m137.kept (hF1.arr hg7 skm_39 (by decide))
          have hF := hF.more hF1 (by decide)
          try dsimp only at hw166
          obtain ⟨h176, hi177, hi178⟩ := hw166
          refine lv_if_ne (tgt := 63) hx hb dX12_settler_56 (by decide) (fun c179 => ?_) (fun c179 => ?_)
          · have t180 : r165.toInt ≠ 0 := ti_ne c179 rfl (by decide)
            have t181 : (0 : Int32).toInt = 0 := by decide
            have t182 : (999999 : Int32).toInt = 999999 := by decide
            have t183 : (0 : Int32).toInt ≤ p6.toInt ∧ p6.toInt ≤ (999999 : Int32).toInt := hi177 ((bit_of ⟨by omega, by omega⟩).resolve_left c179)
            refine lv_iconst (v := 0) hx hb dX12_settler_63 (by decide) ?_
            refine lv_iconst (v := 1) hx hb dX12_settler_64 (by decide) ?_
            have hFc := gA_free hG hA hS
            refine va_calli (va_runV (As := [.int 0, .int 1]) (rest := []) ⟨hx, hb, hml, hown, hts⟩ (s_throwsIf l dC dI kA adK adV G H q wZ wN wH wB wC wL wK wU wV PI im PM PT lS lB lE lN o0 0 1 hT hr_o0 (rg_t (a := 0) (by decide) (by first | decide | omega) (by first | decide | omega)) hgz hgn hgh hgb hgc hgi hgu) (cwV 2 hts (goodIn_app (goodIn_r _ [7, 8, 9, 5] rfl (by decide +kernel)) (goodIn_ca (goodIn_r _ [6, 1] rfl (by decide +kernel)) (bs_in _ _))) rfl rfl rfl (by decide +kernel) ⟨(Nat.le_of_ble_eq_true rfl), (Nat.le_of_ble_eq_true rfl)⟩) ⟨fun a U g mk q => by obtain ⟨q0, q1, qK, qE⟩ := q; exact ⟨q0, q1, va_K.moved (u := U) (U := U.calling g mk a) (Vm.Alike.refl U.vm) qK, EVS.blind g mk a qE⟩, gH_rc hK hT hr_o0 shm_0 rfl, fun U hU hW => ⟨rfl, hU, va_K.moved hW.alike hK, hE.call hS hFc hU hW⟩⟩ rfl rfl hl.1 rfl (lv_room (Nat.le_of_ble_eq_true rfl)) dX12_settler_65 ⟨(Nat.le_of_ble_eq_true rfl), (Nat.le_of_ble_eq_true rfl)⟩) hS (fun q _ h => hFc q h) hFc (fun r184 u t H locs ht hvm hw185 hB _ _ hS => ?_)
            obtain ⟨hT, hF1⟩ := hB
            rw [ht] at hT hF1
            have m186 := (hF1.fld hr_o0 skm_0 (k := 42) (by decide) (by decide)).trans m167
            have m187 := m168.kept (hF1.arr hg1 skm_32 (by decide))
            have m188 := m169.kept (hF1.arr hg2 skm_33 (by decide))
            have m189 := m170.kept (hF1.arr hg3 skm_34 (by decide))
            have m190 := m171.kept (hF1.arr hg4 skm_35 (by decide))
            have m191 := m172.kept (hF1.arr hg5 skm_36 (by decide))
            have m192 := m173.kept (hF1.arr hg6 skm_37 (by decide))
            have m193 := m174.kept (hF1.arr hg7 skm_39 (by decide))
            have hF := hF.more hF1 (by decide)
            try dsimp only at hw185
            obtain ⟨h195, hd196⟩ := hw185
            obtain rfl : (0 : Int32) = r184 := hd196.symm
            refine lv_if_ne (tgt := 93) hx hb dX12_settler_68 (by decide) (fun c197 => absurd c197 (by decide)) (fun c197 => ?_)
            refine lv_aload_n hx hb dX12_settler_71 rfl (lv_at hl 0 rfl) ?_
            refine lv_aload_n hx hb dX12_settler_72 rfl (lv_at hl 0 rfl) ?_
            refine tw_getM (v := .int sn) hx hb hts bF_X12 hown hK hT hr_o0 shm_0 rfl 42 (by decide) (ht_at hts 11 rfl) (fun _ h9 => h9) m186 dX12_settler_73 ?_
            refine lv_bipush (v := 60) hx hb dX12_settler_76 (by decide) ?_
            refine lv_icmp_ne (tgt := 85) hx hb dX12_settler_78 (by decide) (fun c198 => ?_) (fun c198 => ?_)
            · have t199 : sn.toInt ≠ 60 := ti_ne c198 rfl (by decide)
              refine lv_iconst (v := 0) hx hb dX12_settler_85 (by decide) ?_
              refine lv_iconst (v := 2) hx hb dX12_settler_86 (by decide) ?_
              have hFc := gA_free hG hA hS
              refine va_calli (va_runV (As := [.int 0, .int 2]) (rest := []) ⟨hx, hb, hml, hown, hts⟩ (s_throwsIf l dC dI kA adK adV G H q wZ wN wH wB wC wL wK wU wV PI im PM PT lS lB lE lN o0 0 2 hT hr_o0 (rg_t (a := 0) (by decide) (by first | decide | omega) (by first | decide | omega)) hgz hgn hgh hgb hgc hgi hgu) (cwV 2 hts (goodIn_app (goodIn_r _ [7, 8, 9, 5] rfl (by decide +kernel)) (goodIn_ca (goodIn_r _ [6, 1] rfl (by decide +kernel)) (bs_in _ _))) rfl rfl rfl (by decide +kernel) ⟨(Nat.le_of_ble_eq_true rfl), (Nat.le_of_ble_eq_true rfl)⟩) ⟨fun a U g mk q => by obtain ⟨q0, q1, qK, qE⟩ := q; exact ⟨q0, q1, va_K.moved (u := U) (U := U.calling g mk a) (Vm.Alike.refl U.vm) qK, EVS.blind g mk a qE⟩, gH_rc hK hT hr_o0 shm_0 rfl, fun U hU hW => ⟨rfl, hU, va_K.moved hW.alike hK, hE.call hS hFc hU hW⟩⟩ rfl rfl hl.1 rfl (lv_room (Nat.le_of_ble_eq_true rfl)) dX12_settler_87 ⟨(Nat.le_of_ble_eq_true rfl), (Nat.le_of_ble_eq_true rfl)⟩) hS (fun q _ h => hFc q h) hFc (fun r200 u t H locs ht hvm hw201 hB _ _ hS => ?_)
              obtain ⟨hT, hF1⟩ := hB
              rw [ht] at hT hF1
              have m202 := (hF1.fld hr_o0 skm_0 (k := 42) (by decide) (by decide)).trans m186
              have m203 := m187.kept (hF1.arr hg1 skm_32 (by decide))
              have m204 := m188.kept (hF1.arr hg2 skm_33 (by decide))
              have m205 := m189.kept (hF1.arr hg3 skm_34 (by decide))
              have m206 := m190.kept (hF1.arr hg4 skm_35 (by decide))
              have m207 := m191.kept (hF1.arr hg5 skm_36 (by decide))
              have m208 := m192.kept (hF1.arr hg6 skm_37 (by decide))
              have m209 := m193.kept (hF1.arr hg7 skm_39 (by decide))
              have hF := hF.more hF1 (by decide)
              try dsimp only at hw201
              obtain ⟨h210, hd211⟩ := hw201
              obtain rfl : (0 : Int32) = r200 := hd211.symm
              refine lv_if_eq (tgt := 95) hx hb dX12_settler_90 (by decide) (fun c212 => ?_) (fun c212 => absurd c212 (by decide))
              refine lv_aload_n hx hb dX12_settler_95 rfl (lv_at hl 0 rfl) ?_
              refine tw_getM (v := .int sn) hx hb hts bF_X12 hown hK hT hr_o0 shm_0 rfl 42 (by decide) (ht_at hts 11 rfl) (fun _ h9 => h9) m202 dX12_settler_96 ?_
              refine lv_istore (lv' := [(8, .int sn), (0, .ref o0), (1, .int p0), (2, .int p1), (3, .int p2), (4, .int p3), (5, .int p4), (6, .int p5), (7, .int p6)]) hx hb dX12_settler_99 hl (by decide) rfl (fun ls hl => ?_)
              refine lv_aload_n hx hb dX12_settler_101 rfl (lv_at hl 1 rfl) ?_
              refine lv_dup hx hb dX12_settler_102 rfl ?_
              refine tw_getM (v := .int sn) hx hb hts bF_X12 hown hK hT hr_o0 shm_0 rfl 42 (by decide) (ht_at hts 11 rfl) (fun _ h9 => h9) m202 dX12_settler_103 ?_
              refine lv_iconst (v := 1) hx hb dX12_settler_106 (by decide) ?_
              refine lv_iadd hx hb dX12_settler_107 ?_
              refine lv_topi (fun x213 ex213 => ?_)
              have t214 : x213.toInt = sn.toInt + 1 := ti_add ex213 rfl (by decide) (by omega) (by omega)
              refine tw_put (v := .int x213) (ty := .int) hx hb hts bF_X12 tyX12 tyX12_ok nmX12 hown hK hT hG hS hr_o0 shm_0 rfl 42 (by decide) (ht_at hts 11 rfl) (fun _ h9 => h9) rfl (by decide +kernel) rfl rfl (gl_at rfl (gi_of (show x213.toInt = x213.toInt from rfl) (by omega) (by omega))) dX12_settler_108 (fun H locs hT oq m215 oj hS => ?_)
              have hF := hF.put hr_o0 skm_0 oq oj (by decide)
              have m216 := m203.kept (oq _ (gne hg1 hr_o0 (by decide)))
              have m217 := m204.kept (oq _ (gne hg2 hr_o0 (by decide)))
              have m218 := m205.kept (oq _ (gne hg3 hr_o0 (by decide)))
              have m219 := m206.kept (oq _ (gne hg4 hr_o0 (by decide)))
              have m220 := m207.kept (oq _ (gne hg5 hr_o0 (by decide)))
              have m221 := m208.kept (oq _ (gne hg6 hr_o0 (by decide)))
              have m222 := m209.kept (oq _ (gne hg7 hr_o0 (by decide)))
              refine lv_aload_n hx hb dX12_settler_111 rfl (lv_at hl 1 rfl) ?_
              refine tw_get hx hb hts bF_X12 hown hK hT hr_o0 shm_0 rfl 31 (by decide) (ht_at hts 12 rfl) (fun _ h9 => h9) dX12_settler_112 (fun v9 m223 h9 => ?_)
              obtain ⟨rfl, hg224⟩ := h9 _ rfl
              refine lv_iload hx hb dX12_settler_115 (lv_at hl 0 rfl) ?_
              refine lv_iload_n hx hb dX12_settler_117 rfl (lv_at hl 2 rfl) ?_
              refine tw_iast (i := sn) (x := p0) hx hb hK hT hG hS hg1 shm_32 rfl (vin_t (a := sn.toInt) rfl (by omega) (by omega)) (gi_all _) dX12_settler_118 (fun H locs hT oq m225 oi hS => ?_)
              have hF := hF.ast hg1 skm_32 oq (by decide)
              have m226 := m216.put m225 oi
              have m227 := m217.kept (oq _ (gne hg2 hg1 (by decide)))
              have m228 := m218.kept (oq _ (gne hg3 hg1 (by decide)))
              have m229 := m219.kept (oq _ (gne hg4 hg1 (by decide)))
              have m230 := m220.kept (oq _ (gne hg5 hg1 (by decide)))
              have m231 := m221.kept (oq _ (gne hg6 hg1 (by decide)))
              have m232 := m222.kept (oq _ (gne hg7 hg1 (by decide)))
              have m233 := (el_kept (oq _ (gne hr_o0 hg1 (by decide)))).trans m215
              refine lv_aload_n hx hb dX12_settler_119 rfl (lv_at hl 1 rfl) ?_
              refine tw_get hx hb hts bF_X12 hown hK hT hr_o0 shm_0 rfl 32 (by decide) (ht_at hts 13 rfl) (fun _ h9 => h9) dX12_settler_120 (fun v9 m234 h9 => ?_)
              obtain ⟨rfl, hg235⟩ := h9 _ rfl
              refine lv_iload hx hb dX12_settler_123 (lv_at hl 0 rfl) ?_
              refine lv_iload_n hx hb dX12_settler_125 rfl (lv_at hl 3 rfl) ?_
              refine tw_iast (i := sn) (x := p1) hx hb hK hT hG hS hg2 shm_33 rfl (vin_t (a := sn.toInt) rfl (by omega) (by omega)) (gi_all _) dX12_settler_126 (fun H locs hT oq m236 oi hS => ?_)
              have hF := hF.ast hg2 skm_33 oq (by decide)
              have m237 := m226.kept (oq _ (gne hg1 hg2 (by decide)))
              have m238 := m227.put m236 oi
              have m239 := m228.kept (oq _ (gne hg3 hg2 (by decide)))
              have m240 := m229.kept (oq _ (gne hg4 hg2 (by decide)))
              have m241 := m230.kept (oq _ (gne hg5 hg2 (by decide)))
              have m242 := m231.kept (oq _ (gne hg6 hg2 (by decide)))
              have m243 := m232.kept (oq _ (gne hg7 hg2 (by decide)))
              have m244 := (el_kept (oq _ (gne hr_o0 hg2 (by decide)))).trans m233
              refine lv_aload_n hx hb dX12_settler_127 rfl (lv_at hl 1 rfl) ?_
              refine tw_get hx hb hts bF_X12 hown hK hT hr_o0 shm_0 rfl 33 (by decide) (ht_at hts 14 rfl) (fun _ h9 => h9) dX12_settler_128 (fun v9 m246 h9 => ?_)
              obtain ⟨rfl, hg247⟩ := h9 _ rfl
              refine lv_iload hx hb dX12_settler_131 (lv_at hl 0 rfl) ?_
              refine lv_iload_n hx hb dX12_settler_133 rfl (lv_at hl 4 rfl) ?_
              refine tw_iast (i := sn) (x := p2) hx hb hK hT hG hS hg3 shm_34 rfl (vin_t (a := sn.toInt) rfl (by omega) (by omega)) (gi_all _) dX12_settler_134 (fun H locs hT oq m248 oi hS => ?_)
              have hF := hF.ast hg3 skm_34 oq (by decide)
              have m249 := m237.kept (oq _ (gne hg1 hg3 (by decide)))
              have m250 := m238.kept (oq _ (gne hg2 hg3 (by decide)))
              have m251 := m239.put m248 oi
              have m252 := m240.kept (oq _ (gne hg4 hg3 (by decide)))
              have m253 := m241.kept (oq _ (gne hg5 hg3 (by decide)))
              have m254 := m242.kept (oq _ (gne hg6 hg3 (by decide)))
              have m255 := m243.kept (oq _ (gne hg7 hg3 (by decide)))
              have m256 := (el_kept (oq _ (gne hr_o0 hg3 (by decide)))).trans m244
              refine lv_aload_n hx hb dX12_settler_135 rfl (lv_at hl 1 rfl) ?_
              refine tw_get hx hb hts bF_X12 hown hK hT hr_o0 shm_0 rfl 34 (by decide) (ht_at hts 15 rfl) (fun _ h9 => h9) dX12_settler_136 (fun v9 m259 h9 => ?_)
              obtain ⟨rfl, hg260⟩ := h9 _ rfl
              refine lv_iload hx hb dX12_settler_139 (lv_at hl 0 rfl) ?_
              refine lv_iload hx hb dX12_settler_141 (lv_at hl 5 rfl) ?_
              refine tw_iast (i := sn) (x := p3) hx hb hK hT hG hS hg4 shm_35 rfl (vin_t (a := sn.toInt) rfl (by omega) (by omega)) (gi_all _) dX12_settler_143 (fun H locs hT oq m261 oi hS => ?_)
              have hF := hF.ast hg4 skm_35 oq (by decide)
              have m262 := m249.kept (oq _ (gne hg1 hg4 (by decide)))
              have m263 := m250.kept (oq _ (gne hg2 hg4 (by decide)))
              have m264 := m251.kept (oq _ (gne hg3 hg4 (by decide)))
              have m265 := m252.put m261 oi
              have m266 := m253.kept (oq _ (gne hg5 hg4 (by decide)))
              have m267 := m254.kept (oq _ (gne hg6 hg4 (by decide)))
              have m268 := m255.kept (oq _ (gne hg7 hg4 (by decide)))
              have m269 := (el_kept (oq _ (gne hr_o0 hg4 (by decide)))).trans m256
              refine lv_aload_n hx hb dX12_settler_144 rfl (lv_at hl 1 rfl) ?_
              refine tw_get hx hb hts bF_X12 hown hK hT hr_o0 shm_0 rfl 35 (by decide) (ht_at hts 16 rfl) (fun _ h9 => h9) dX12_settler_145 (fun v9 m273 h9 => ?_)
              obtain ⟨rfl, hg274⟩ := h9 _ rfl
              refine lv_iload hx hb dX12_settler_148 (lv_at hl 0 rfl) ?_
              refine lv_iload hx hb dX12_settler_150 (lv_at hl 6 rfl) ?_
              refine tw_zast (i := sn) (x := p4) hx hb hK hT hG hS hg5 shm_36 rfl (vin_t (a := sn.toInt) rfl (by omega) (by omega)) (gi_z (by have q8 := ti_all p4; omega) (by decide) (by decide)) dX12_settler_152 (fun H locs hT oq m275 oi hS => ?_)
              have hF := hF.ast hg5 skm_36 oq (by decide)
              have m276 := m262.kept (oq _ (gne hg1 hg5 (by decide)))
              have m277 := m263.kept (oq _ (gne hg2 hg5 (by decide)))
              have m278 := m264.kept (oq _ (gne hg3 hg5 (by decide)))
              have m279 := m265.kept (oq _ (gne hg4 hg5 (by decide)))
              have m280 := m266.put (by rw [nar_b (by have q8 := ti_all p4; omega)] at m275; exact m275) oi
              have m281 := m267.kept (oq _ (gne hg6 hg5 (by decide)))
              have m282 := m268.kept (oq _ (gne hg7 hg5 (by decide)))
              have m283 := (el_kept (oq _ (gne hr_o0 hg5 (by decide)))).trans m269
              refine lv_aload_n hx hb dX12_settler_153 rfl (lv_at hl 1 rfl) ?_
              refine tw_get hx hb hts bF_X12 hown hK hT hr_o0 shm_0 rfl 36 (by decide) (ht_at hts 17 rfl) (fun _ h9 => h9) dX12_settler_154 (fun v9 m288 h9 => ?_)
              obtain ⟨rfl, hg289⟩ := h9 _ rfl
              refine lv_iload hx hb dX12_settler_157 (lv_at hl 0 rfl) ?_
              refine lv_iload hx hb dX12_settler_159 (lv_at hl 7 rfl) ?_
              refine tw_zast (i := sn) (x := p5) hx hb hK hT hG hS hg6 shm_37 rfl (vin_t (a := sn.toInt) rfl (by omega) (by omega)) (gi_z (by have q8 := ti_all p5; omega) (by decide) (by decide)) dX12_settler_161 (fun H locs hT oq m290 oi hS => ?_)
              have hF := hF.ast hg6 skm_37 oq (by decide)
              have m291 := m276.kept (oq _ (gne hg1 hg6 (by decide)))
              have m292 := m277.kept (oq _ (gne hg2 hg6 (by decide)))
              have m293 := m278.kept (oq _ (gne hg3 hg6 (by decide)))
              have m294 := m279.kept (oq _ (gne hg4 hg6 (by decide)))
              have m295 := m280.kept (oq _ (gne hg5 hg6 (by decide)))
              have m296 := m281.put (by rw [nar_b (by have q8 := ti_all p5; omega)] at m290; exact m290) oi
              have m297 := m282.kept (oq _ (gne hg7 hg6 (by decide)))
              have m298 := (el_kept (oq _ (gne hr_o0 hg6 (by decide)))).trans m283
              refine lv_aload_n hx hb dX12_settler_162 rfl (lv_at hl 1 rfl) ?_
              refine tw_get hx hb hts bF_X12 hown hK hT hr_o0 shm_0 rfl 37 (by decide) (ht_at hts 18 rfl) (fun _ h9 => h9) dX12_settler_163 (fun v9 m303 h9 => ?_)
              obtain ⟨rfl, hg304⟩ := h9 _ rfl
              refine lv_iload hx hb dX12_settler_166 (lv_at hl 0 rfl) ?_
              refine lv_iload hx hb dX12_settler_168 (lv_at hl 8 rfl) ?_
              refine tw_iast (i := sn) (x := p6) hx hb hK hT hG hS hg304 shm_38 rfl (vin_t (a := sn.toInt) rfl (by omega) (by omega)) (gi_all _) dX12_settler_170 (fun H locs hT oq m305 oi hS => ?_)
              have hF := hF.ast hg304 skm_38 oq (by decide)
              have m306 := m291.kept (oq _ (gne hg1 hg304 (by decide)))
              have m307 := m292.kept (oq _ (gne hg2 hg304 (by decide)))
              have m308 := m293.kept (oq _ (gne hg3 hg304 (by decide)))
              have m309 := m294.kept (oq _ (gne hg4 hg304 (by decide)))
              have m310 := m295.kept (oq _ (gne hg5 hg304 (by decide)))
              have m311 := m296.kept (oq _ (gne hg6 hg304 (by decide)))
              have m312 := m297.kept (oq _ (gne hg7 hg304 (by decide)))
              have m313 := (el_kept (oq _ (gne hr_o0 hg304 (by decide)))).trans m298
              refine lv_aload_n hx hb dX12_settler_171 rfl (lv_at hl 1 rfl) ?_
              refine tw_get hx hb hts bF_X12 hown hK hT hr_o0 shm_0 rfl 38 (by decide) (ht_at hts 19 rfl) (fun _ h9 => h9) dX12_settler_172 (fun v9 m318 h9 => ?_)
              obtain ⟨rfl, hg319⟩ := h9 _ rfl
              refine lv_iload hx hb dX12_settler_175 (lv_at hl 0 rfl) ?_
              refine lv_iconst (v := (-1)) hx hb dX12_settler_177 (by decide) ?_
              refine tw_iast (i := sn) (x := (-1)) hx hb hK hT hG hS hg7 shm_39 rfl (vin_t (a := sn.toInt) rfl (by omega) (by omega)) (gi_of (show (-1 : Int32).toInt = (-1) from (by decide)) (by first | decide | omega) (by first | decide | omega)) dX12_settler_178 (fun H locs hT oq m320 oi hS => ?_)
              have hF := hF.ast hg7 skm_39 oq (by decide)
              have m321 := m306.kept (oq _ (gne hg1 hg7 (by decide)))
              have m322 := m307.kept (oq _ (gne hg2 hg7 (by decide)))
              have m323 := m308.kept (oq _ (gne hg3 hg7 (by decide)))
              have m324 := m309.kept (oq _ (gne hg4 hg7 (by decide)))
              have m325 := m310.kept (oq _ (gne hg5 hg7 (by decide)))
              have m326 := m311.kept (oq _ (gne hg6 hg7 (by decide)))
              have m327 := m312.put m320 oi
              have m328 := (el_kept (oq _ (gne hr_o0 hg7 (by decide)))).trans m313
              refine lv_iload hx hb dX12_settler_179 (lv_at hl 0 rfl) ?_
              exact W.iret (v := sn) hx hb hr (fun t ht hW => ⟨⟨sn, (x213, (cu vA sn.toNatClampNeg p0), (cu vD sn.toNatClampNeg p1), (cu vC sn.toNatClampNeg p2), (cu vU sn.toNatClampNeg p3), (cu vI sn.toNatClampNeg p4), (cu vM sn.toNatClampNeg p5), (cu vH sn.toNatClampNeg (-1 : Int32))), rfl, (by exact ⟨(by have q8 := ti_all sn; omega), (Or.inl ⟨by omega, by have := (show x213.toInt = x213.toInt from rfl); omega, rfl, rfl, rfl, rfl, rfl, rfl, rfl⟩)⟩), by (try dsimp only); rw [ht]; exact ⟨hT, hF, m328, m321, m322, m323, m324, m325, m326, m327⟩⟩, hS.F ht⟩) hS.2.2 dX12_settler_181
            · have t334 : sn.toInt = 60 := ti_eq c198 rfl (by decide)
              refine lv_iconst (v := 1) hx hb dX12_settler_81 (by decide) ?_
              refine lv_goto (tgt := 86) hx hb dX12_settler_82 (by decide) ?_
              refine lv_iconst (v := 2) hx hb dX12_settler_86 (by decide) ?_
              have hFc := gA_free hG hA hS
              refine va_calli (va_runV (As := [.int 1, .int 2]) (rest := []) ⟨hx, hb, hml, hown, hts⟩ (s_throwsIf l dC dI kA adK adV G H q wZ wN wH wB wC wL wK wU wV PI im PM PT lS lB lE lN o0 1 2 hT hr_o0 (rg_t (a := 1) (by decide) (by first | decide | omega) (by first | decide | omega)) hgz hgn hgh hgb hgc hgi hgu) (cwV 2 hts (goodIn_app (goodIn_r _ [7, 8, 9, 5] rfl (by decide +kernel)) (goodIn_ca (goodIn_r _ [6, 1] rfl (by decide +kernel)) (bs_in _ _))) rfl rfl rfl (by decide +kernel) ⟨(Nat.le_of_ble_eq_true rfl), (Nat.le_of_ble_eq_true rfl)⟩) ⟨fun a U g mk q => by obtain ⟨q0, q1, qK, qE⟩ := q; exact ⟨q0, q1, va_K.moved (u := U) (U := U.calling g mk a) (Vm.Alike.refl U.vm) qK, EVS.blind g mk a qE⟩, gH_rc hK hT hr_o0 shm_0 rfl, fun U hU hW => ⟨rfl, hU, va_K.moved hW.alike hK, hE.call hS hFc hU hW⟩⟩ rfl rfl hl.1 rfl (lv_room (Nat.le_of_ble_eq_true rfl)) dX12_settler_87 ⟨(Nat.le_of_ble_eq_true rfl), (Nat.le_of_ble_eq_true rfl)⟩) hS (fun q _ h => hFc q h) hFc (fun r335 u t H locs ht hvm hw336 hB _ _ hS => ?_)
              obtain ⟨hT, hF1⟩ := hB
              rw [ht] at hT hF1
              have m337 := (hF1.fld hr_o0 skm_0 (k := 42) (by decide) (by decide)).trans m186
              have m338 := m187.kept (hF1.arr hg1 skm_32 (by decide))
              have m339 := m188.kept (hF1.arr hg2 skm_33 (by decide))
              have m340 := m189.kept (hF1.arr hg3 skm_34 (by decide))
              have m341 := m190.kept (hF1.arr hg4 skm_35 (by decide))
              have m342 := m191.kept (hF1.arr hg5 skm_36 (by decide))
              have m343 := m192.kept (hF1.arr hg6 skm_37 (by decide))
              have m344 := m193.kept (hF1.arr hg7 skm_39 (by decide))
              have hF := hF.more hF1 (by decide)
              try dsimp only at hw336
              obtain ⟨h345, hd346⟩ := hw336
              obtain rfl : (1 : Int32) = r335 := hd346.symm
              refine lv_if_eq (tgt := 95) hx hb dX12_settler_90 (by decide) (fun c347 => absurd c347 (by decide)) (fun c347 => ?_)
              refine lv_iconst (v := 0) hx hb dX12_settler_93 (by decide) ?_
              exact W.iret (v := 0) hx hb hr (fun t ht hW => ⟨⟨0, (sn, vA, vD, vC, vU, vI, vM, vH), rfl, (by exact ⟨(rg_t (a := 0) (by decide) (by first | decide | omega) (by first | decide | omega)), (Or.inr ⟨by omega, by omega, rfl, rfl, rfl, rfl, rfl, rfl, rfl⟩)⟩), by (try dsimp only); rw [ht]; exact ⟨hT, hF, m337, m338, m339, m340, m341, m342, m343, m344⟩⟩, hS.F ht⟩) hS.2.2 dX12_settler_94
          · have t348 : r165.toInt = 0 := ti_eq c179 rfl (by decide)
            have t349 : (0 : Int32).toInt = 0 := by decide
            have t350 : (999999 : Int32).toInt = 999999 := by decide
            have t351 : p6.toInt < (0 : Int32).toInt ∨ (999999 : Int32).toInt < p6.toInt := hi178 c179
            refine lv_iconst (v := 1) hx hb dX12_settler_59 (by decide) ?_
            refine lv_goto (tgt := 64) hx hb dX12_settler_60 (by decide) ?_
            refine lv_iconst (v := 1) hx hb dX12_settler_64 (by decide) ?_
            have hFc := gA_free hG hA hS
            refine va_calli (va_runV (As := [.int 1, .int 1]) (rest := []) ⟨hx, hb, hml, hown, hts⟩ (s_throwsIf l dC dI kA adK adV G H q wZ wN wH wB wC wL wK wU wV PI im PM PT lS lB lE lN o0 1 1 hT hr_o0 (rg_t (a := 1) (by decide) (by first | decide | omega) (by first | decide | omega)) hgz hgn hgh hgb hgc hgi hgu) (cwV 2 hts (goodIn_app (goodIn_r _ [7, 8, 9, 5] rfl (by decide +kernel)) (goodIn_ca (goodIn_r _ [6, 1] rfl (by decide +kernel)) (bs_in _ _))) rfl rfl rfl (by decide +kernel) ⟨(Nat.le_of_ble_eq_true rfl), (Nat.le_of_ble_eq_true rfl)⟩) ⟨fun a U g mk q => by obtain ⟨q0, q1, qK, qE⟩ := q; exact ⟨q0, q1, va_K.moved (u := U) (U := U.calling g mk a) (Vm.Alike.refl U.vm) qK, EVS.blind g mk a qE⟩, gH_rc hK hT hr_o0 shm_0 rfl, fun U hU hW => ⟨rfl, hU, va_K.moved hW.alike hK, hE.call hS hFc hU hW⟩⟩ rfl rfl hl.1 rfl (lv_room (Nat.le_of_ble_eq_true rfl)) dX12_settler_65 ⟨(Nat.le_of_ble_eq_true rfl), (Nat.le_of_ble_eq_true rfl)⟩) hS (fun q _ h => hFc q h) hFc (fun r352 u t H locs ht hvm hw353 hB _ _ hS => ?_)
            obtain ⟨hT, hF1⟩ := hB
            rw [ht] at hT hF1
            have m354 := (hF1.fld hr_o0 skm_0 (k := 42) (by decide) (by decide)).trans m167
            have m355 := m168.kept (hF1.arr hg1 skm_32 (by decide))
            have m356 := m169.kept (hF1.arr hg2 skm_33 (by decide))
            have m357 := m170.kept (hF1.arr hg3 skm_34 (by decide))
            have m358 := m171.kept (hF1.arr hg4 skm_35 (by decide))
            have m359 := m172.kept (hF1.arr hg5 skm_36 (by decide))
            have m360 := m173.kept (hF1.arr hg6 skm_37 (by decide))
            have m361 := m174.kept (hF1.arr hg7 skm_39 (by decide))
            have hF := hF.more hF1 (by decide)
            try dsimp only at hw353
            obtain ⟨h363, hd364⟩ := hw353
            obtain rfl : (1 : Int32) = r352 := hd364.symm
            refine lv_if_ne (tgt := 93) hx hb dX12_settler_68 (by decide) (fun c365 => ?_) (fun c365 => absurd c365 (by decide))
            refine lv_iconst (v := 0) hx hb dX12_settler_93 (by decide) ?_
            exact W.iret (v := 0) hx hb hr (fun t ht hW => ⟨⟨0, (sn, vA, vD, vC, vU, vI, vM, vH), rfl, (by exact ⟨(rg_t (a := 0) (by decide) (by first | decide | omega) (by first | decide | omega)), (Or.inr ⟨by omega, by omega, rfl, rfl, rfl, rfl, rfl, rfl, rfl⟩)⟩), by (try dsimp only); rw [ht]; exact ⟨hT, hF, m354, m355, m356, m357, m358, m359, m360, m361⟩⟩, hS.F ht⟩) hS.2.2 dX12_settler_94
