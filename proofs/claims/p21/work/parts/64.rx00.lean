def w_s_hoursE : List Cond := .code yX12_hours cX12_hours 3 (some .int) :: (HAppend.hAppend (α := List Cond) (β := List Cond) (γ := List Cond) [.fieldLink RX12 194 "SeaLandModel" "thrown" "I", .code yX12_in cX12_in 3 (some .boolean), .methodLink RX12 197 yX12_in, .static yX12_in, .initialized RX12, .code yX12_throwsIf cX12_throwsIf 3 (some .boolean), .methodLink RX12 224 yX12_throwsIf, .instanceMethod yX12_throwsIf, .selects RX12 yX12_throwsIf yX12_throwsIf, .code yX12_hour cX12_hour 1 (some .int), .fieldLink RX12 9 "SeaLandModel" "world" "[I", .methodLink RX12 228 yX12_hour, .instanceMethod yX12_hour, .selects RX12 yX12_hour yX12_hour, .constant RX12 242 40000, .code yX12_anHour cX12_anHour 6 none, .code yX12_outside cX12_outside 4 (some .int), .methodLink RX12 247 yX12_outside, .instanceMethod yX12_outside, .selects RX12 yX12_outside yX12_outside, .code yX12_rain cX12_rain 3 (some .int), .code yX12_telling cX12_telling 6 (some .int), .methodLink RX12 243 yX12_telling, .instanceMethod yX12_telling, .selects RX12 yX12_telling yX12_telling, .methodLink RX12 253 yX12_rain, .instanceMethod yX12_rain, .selects RX12 yX12_rain yX12_rain, .code yX12_wind cX12_wind 7 (some .int), .methodLink RX12 211 Lib.Math.max.name, .static Lib.Math.max.name, .initialized "java/lang/Math", .code Lib.Math.max.name Lib.Math.max.code 2 (some .int), .methodLink RX12 250 yX12_wind, .instanceMethod yX12_wind, .selects RX12 yX12_wind yX12_wind, .code yX12_of cX12_of 3 (some .int), .code yX12_at cX12_at 2 (some .int), .methodLink RX12 214 yX12_at, .static yX12_at, .methodLink RX12 217 yX12_of, .instanceMethod yX12_of, .selects RX12 yX12_of yX12_of, .code yX12_sluices cX12_sluices 6 none, .code yX12_level cX12_level 2 (some .int), .code yX12_isLand cX12_isLand 2 (some .boolean), .methodLink RX12 235 yX12_isLand, .instanceMethod yX12_isLand, .selects RX12 yX12_isLand yX12_isLand, .methodLink RX12 285 yX12_level, .instanceMethod yX12_level, .selects RX12 yX12_level yX12_level, .methodLink RX12 207 Lib.Math.min.name, .static Lib.Math.min.name, .code Lib.Math.min.name Lib.Math.min.code 2 (some .int), .code yX12_leaves cX12_leaves 4 (some .int), .methodLink RX12 291 yX12_leaves, .instanceMethod yX12_leaves, .selects RX12 yX12_leaves yX12_leaves, .code yX12_brings cX12_brings 3 none, .methodLink RX12 294 yX12_brings, .instanceMethod yX12_brings, .selects RX12 yX12_brings yX12_brings, .methodLink RX12 307 yX12_sluices, .instanceMethod yX12_sluices, .selects RX12 yX12_sluices yX12_sluices, .code yX12_ditches cX12_ditches 5 none, .fieldLink RX12 16 "SeaLandModel" "moves" "[I", .fieldLink RX12 22 "SeaLandModel" "movesSalt" "[I", .fieldLink RX12 19 "SeaLandModel" "movesTo" "[I", .code yX12_hasDitch cX12_hasDitch 2 (some .boolean), .methodLink RX12 298 yX12_hasDitch, .instanceMethod yX12_hasDitch, .selects RX12 yX12_hasDitch yX12_hasDitch, .code yX12_beside cX12_beside 2 (some .int), .methodLink RX12 301 yX12_beside, .static yX12_beside, .methodLink RX12 310 yX12_ditches, .instanceMethod yX12_ditches, .selects RX12 yX12_ditches yX12_ditches, .code yX12_lifts cX12_lifts 7 none, .methodLink RX12 313 yX12_lifts, .instanceMethod yX12_lifts, .selects RX12 yX12_lifts yX12_lifts, .code yX12_dayEnds cX12_dayEnds 3 none, .methodLink RX12 316 yX12_dayEnds, .instanceMethod yX12_dayEnds, .selects RX12 yX12_dayEnds yX12_dayEnds, .code yX12_writesRow cX12_writesRow 2 none, .fieldLink RX12 238 "SeaLandModel" "rows" "I", .fieldLink RX12 25 "SeaLandModel" "rowTold" "[I", .fieldLink RX12 28 "SeaLandModel" "rowTrue" "[I", .methodLink RX12 319 yX12_writesRow, .instanceMethod yX12_writesRow, .selects RX12 yX12_writesRow yX12_writesRow, .code yX12_isDike cX12_isDike 2 (some .boolean), .methodLink RX12 272 yX12_isDike, .instanceMethod yX12_isDike, .selects RX12 yX12_isDike yX12_isDike, .code yX12_dikes cX12_dikes 6 none, .code yX12_seepOf cX12_seepOf 8 (some .int), .methodLink RX12 288 yX12_seepOf, .instanceMethod yX12_seepOf, .selects RX12 yX12_seepOf yX12_seepOf, .code yX12_crest cX12_crest 4 (some .int), .methodLink RX12 282 yX12_crest, .instanceMethod yX12_crest, .selects RX12 yX12_crest yX12_crest, .methodLink RX12 304 yX12_dikes, .instanceMethod yX12_dikes, .selects RX12 yX12_dikes yX12_dikes, .methodLink RX12 322 yX12_anHour, .instanceMethod yX12_anHour, .selects RX12 yX12_anHour yX12_anHour] bs)
set_option maxHeartbeats 4000000 in
set_option maxRecDepth 100000 in
theorem s_hoursE (l : Launch) (dC : Nat → ClassId) (dI : Nat → Nat → Nat) (kA : Nat → ClassId) (adK adV : Nat → Nat) (G : gT) (H0 : Heap) (q : Nat → Nat) (wZ wN : Nat → Int) (wH wB wC : Int) (wL wK : Nat → Prop) (wU wV : Nat → Nat) (PI : Nat → Int → Prop) (im : Int) (PM PT : Nat → Int → Prop) (lS lB lE : Nat → Nat → Int → Prop) (lN : Nat → Int) (o0 : Nat) (p0 : Int32)  (hT : gH (dC, dI) kA (SHm q (wP wZ0 wN wH wB wC wL wK wU wV) PI im PM PT lS lB lE lN) G H0) (hr_o0 : G o0 = some 0) (hgw : wG wC wL wK wU wV) (hn_ : ∀ i, 6500000 ≤ wN i ∧ wN i ≤ 6500000 + 340 * wH) (hb_ : wB ≤ 96 * wH) (hgz : ∀ i, 0 ≤ wZ i) (hgn : ∀ i, 6500000 ≤ wN i ∧ wN i ≤ 20200000) (hgh : 0 ≤ wH ∧ wH ≤ 40000) (hgb : 0 ≤ wB ∧ wB ≤ 3850000) (hgc : 0 ≤ wC ∧ wC ≤ 30) (hgi : 0 ≤ im ∧ im ≤ 1) (hgu : ∀ a t, G a = some (t + 1) → a = q t) : Met l yX12_hours w_s_hoursE ({ frames := 5, cells := 0, slots := 0, locals := 120 }) (va_Pc [.ref o0, .int p0] (fun U => U.heap = H0 ∧ va_K (dC, dI) vwCl (tyl kA) U ∧ EVS adK adV (gA G H0.size) U U.heap)) (va_Qi (fun (r : Int32) (u : Int32 × Int × (Nat → Int) × Int × (Nat → Int → Prop) × (Nat → Int → Prop)) => match u with | (t1, wH1, wN1, wB1, PM1, PT1) => (0 ≤ r.toInt ∧ r.toInt ≤ 40000) ∧ (0 ≤ wH1 ∧ wH1 ≤ 40000) ∧ (∀ i, 6500000 ≤ wN1 i ∧ wN1 i ≤ 6500000 + 340 * wH1) ∧ (0 ≤ wB1 ∧ wB1 ≤ 96 * wH1) ∧ (((0 ≤ p0.toInt ∧ p0.toInt ≤ 240) ∧ t1.toInt = 0 ∧ r.toInt = wH1 ∧ ((wH1 = wH + p0.toInt ∧ wH + p0.toInt ≤ 40000) ∨ (wH1 = 40000 ∧ 40000 ≤ wH + p0.toInt))) ∨ (¬ (0 ≤ p0.toInt ∧ p0.toInt ≤ 240) ∧ t1.toInt = 1 ∧ wH1 = wH))) (fun (u : Int32 × Int × (Nat → Int) × Int × (Nat → Int → Prop) × (Nat → Int → Prop)) (t : State) => match u with | (t1, wH1, wN1, wB1, PM1, PT1) => gH (dC, dI) kA (SHm q (wP wZ0 wN1 wH1 wB1 wC wL wK wU wV) PI im PM1 PT1 lS lB lE lN) G t.heap ∧ gF (dC, dI) SKm G ([(0, 0), (0, 9), (2, 0), (5, 0), (6, 0), (7, 0), (8, 0), (9, 0)] : List (Nat × Nat)) H0 t.heap ∧ el t.heap o0 (dI 15 0) = some (.int t1)) (gA G H0.size)) 0 0 (gA G H0.size) := by
  refine Met.ofW (cc := cX12_hours) (maxL := 3) (ret := (some .int)) (by decide) rfl ?_
  intro p e s m args below meth c s₁ B hml hv
  obtain ⟨rfl, hH0, hK, hE⟩ := hv
  have hx := B.exec
  have hb := B.bytes
  have hr := B.returns
  have hts := atoms_spec (ws := w_s_hoursE) B.pre
  have hown : s.vm.findClass RX12 = some m.cls := findClass_of_methodNamed B.named
  have hlocks := B.notSynchronized
  subst hH0
  generalize hAe : gA G s.heap.size = A at hE ⊢
  have hA : ∀ q : Nat, s.heap.size ≤ q → A q := fun q h => by rw [← hAe]; exact Or.inr h
  have hG := gA_of hAe
  have hS : va_S A s.heap s.heap [] := va_S.rf
  have hF : gF (dC, dI) SKm G ([(0, 0), (0, 9), (2, 0), (5, 0), (6, 0), (7, 0), (8, 0), (9, 0)] : List (Nat × Nat)) s.heap s.heap := gF.rf
  have hl := lv_entry ([.ref o0, .int p0]) (n := 3) (Nat.le_of_ble_eq_true rfl)
  rw [lg_entry_eq]
  generalize (lg_sl ([.ref o0, .int p0]) ++ List.replicate (3 - (lg_sl ([.ref o0, .int p0])).length) Slot.unset).toArray = ls at hl ⊢
  have hl : lv_has ls 3 [(0, .ref o0), (1, .int p0)] := hl
  refine lv_aload_n hx hb dX12_hours_0 rfl (lv_at hl 0 rfl) ?_
  refine lv_iconst (v := 0) hx hb dX12_hours_1 (by decide) ?_
  refine tw_put (v := .int 0) (ty := .int) hx hb hts bF_X12 tyX12 tyX12_ok nmX12 hown hK hT hG hS hr_o0 shm_0 rfl 0 (by decide) (ht_at hts 0 rfl) (fun _ h9 => h9) rfl (by decide +kernel) rfl rfl (gl_at rfl (gi_all _)) dX12_hours_2 (fun H locs hT oq m1 oj hS => ?_)
  have hF := hF.put hr_o0 skm_0 oq oj (by decide)
  refine lv_aload_n hx hb dX12_hours_5 rfl (lv_at hl 0 rfl) ?_
  refine lv_iload_n hx hb dX12_hours_6 rfl (lv_at hl 1 rfl) ?_
  refine lv_iconst (v := 0) hx hb dX12_hours_7 (by decide) ?_
  refine lv_sipush (v := 240) hx hb dX12_hours_8 (by decide) ?_
  have hFc := gA_free hG hA hS
  refine va_calli (va_runS (As := [.int p0, .int 0, .int 240]) (rest := [.ref o0]) ⟨hx, hb, hml, hown, hts⟩ (s_in l dC dI kA adK adV G H q wZ0 wN wH wB wC wL wK wU wV PI im PM PT lS lB lE lN p0 0 240 hT (fun _ => Int.le_refl 0) hgn hgh hgb hgc hgi hgu) (va_cwS 3 hts (goodIn_app (goodIn_r _ [3, 4, 5] rfl (by decide +kernel)) (goodIn_ca (goodIn_r _ [2] rfl (by decide +kernel)) (bs_in _ _))) rfl rfl rfl (by decide +kernel) ⟨(Nat.le_of_ble_eq_true rfl), (Nat.le_of_ble_eq_true rfl)⟩) ⟨fun a U g mk q => by obtain ⟨q0, q1, qK, qE⟩ := q; exact ⟨q0, q1, va_K.moved (u := U) (U := U.calling g mk a) (Vm.Alike.refl U.vm) qK, EVS.blind g mk a qE⟩, fun U hU hW => ⟨rfl, hU, va_K.moved hW.alike hK, hE.call hS hFc hU hW⟩⟩ rfl rfl hl.1 rfl (lv_room (Nat.le_of_ble_eq_true rfl)) dX12_hours_11 ⟨(Nat.le_of_ble_eq_true rfl), (Nat.le_of_ble_eq_true rfl)⟩) hS (fun q _ h => hFc q h) hFc (fun r2 u t H locs ht hvm hw3 hB _ _ hS => ?_)
  obtain ⟨hT, hF1⟩ := hB
  rw [ht] at hT hF1
  have m4 := (hF1.fld hr_o0 skm_0 (k := 0) (by decide) (by decide)).trans m1
  have hF := hF.more hF1 (by decide)
  try dsimp only at hw3
  obtain ⟨h5, hi6, hi7⟩ := hw3
  refine lv_if_ne (tgt := 21) hx hb dX12_hours_14 (by decide) (fun c8 => ?_) (fun c8 => ?_)
  · have t9 : r2.toInt ≠ 0 := ti_ne c8 rfl (by decide)
    have t10 : (0 : Int32).toInt = 0 := by decide
    have t11 : (240 : Int32).toInt = 240 := by decide
    have t12 : (0 : Int32).toInt ≤ p0.toInt ∧ p0.toInt ≤ (240 : Int32).toInt := hi6 ((bit_of ⟨by omega, by omega⟩).resolve_left c8)
    refine lv_iconst (v := 0) hx hb dX12_hours_21 (by decide) ?_
    refine lv_iconst (v := 1) hx hb dX12_hours_22 (by decide) ?_
    have hFc := gA_free hG hA hS
    refine va_calli (va_runV (As := [.int 0, .int 1]) (rest := []) ⟨hx, hb, hml, hown, hts⟩ (s_throwsIfP l dC dI kA adK adV G H q wZ0 wN wH wB wC wL wK wU wV PI im PM PT lS lB lE lN o0 0 1 0 hT hr_o0 m4 (rg_t (a := 0) (by decide) (by first | decide | omega) (by first | decide | omega)) (fun _ => Int.le_refl 0) hgn hgh hgb hgc hgi hgu) (cwV 2 hts (goodIn_app (goodIn_r _ [7, 8, 9, 5] rfl (by decide +kernel)) (goodIn_ca (goodIn_r _ [6, 1] rfl (by decide +kernel)) (bs_in _ _))) rfl rfl rfl (by decide +kernel) ⟨(Nat.le_of_ble_eq_true rfl), (Nat.le_of_ble_eq_true rfl)⟩) ⟨fun a U g mk q => by obtain ⟨q0, q1, qK, qE⟩ := q; exact ⟨q0, q1, va_K.moved (u := U) (U := U.calling g mk a) (Vm.Alike.refl U.vm) qK, EVS.blind g mk a qE⟩, gH_rc hK hT hr_o0 shm_0 rfl, fun U hU hW => ⟨rfl, hU, va_K.moved hW.alike hK, hE.call hS hFc hU hW⟩⟩ rfl rfl hl.1 rfl (lv_room (Nat.le_of_ble_eq_true rfl)) dX12_hours_23 ⟨(Nat.le_of_ble_eq_true rfl), (Nat.le_of_ble_eq_true rfl)⟩) hS (fun q _ h => hFc q h) hFc (fun r13 u t H locs ht hvm hw14 hB _ _ hS => ?_)
    obtain ⟨u15, rfl⟩ : ∃ z, z = u := ⟨_, rfl⟩
    obtain ⟨hT, hF1, m16⟩ := hB
    rw [ht] at hT hF1 m16
    have hF := hF.more hF1 (by decide)
    try dsimp only at hw14
    obtain ⟨h18, hf19, hd20⟩ := hw14
    have t21 : (0 : Int32).toInt = 0 := by decide
    have t22 : (1 : Int32).toInt = 1 := by decide
    have t23 : (0 : Int32).toInt = 0 := by decide
    obtain rfl : (0 : Int32) = r13 := hd20.symm
    refine lv_if_eq (tgt := 31) hx hb dX12_hours_26 (by decide) (fun c24 => ?_) (fun c24 => absurd c24 (by decide))
    refine lv_iconst (v := 0) hx hb dX12_hours_31 (by decide) ?_
    refine lv_istore_n (lv' := [(2, .int 0), (0, .ref o0), (1, .int p0)]) hx hb dX12_hours_32 rfl hl (by decide) rfl (fun ls hl => ?_)
    have key66 : ∀ (n66 i25 : Nat), i25 + n66 = 240 → 0 ≤ i25 → ∀ (gwN26 : Nat → Int), ∀ (gwH27 : Int), ∀ (gwB28 : Int), ∀ (gPM29 : Nat → Int → Prop), ∀ (gPT30 : Nat → Int → Prop), ((∀ i, 6500000 ≤ gwN26 i ∧ gwN26 i ≤ 6500000 + 340 * gwH27) ∧ (0 ≤ gwH27 ∧ gwH27 ≤ 40000) ∧ (0 ≤ gwB28 ∧ gwB28 ≤ 96 * gwH27) ∧ (gwH27 = wH + ((i25 : Nat) : Int) ∧ ((i25 : Nat) : Int) ≤ p0.toInt)) → ∀ (H : Heap) (locs : List Loc), gH (dC, dI) kA (SHm q (wP wZ0 gwN26 gwH27 gwB28 wC wL wK wU wV) PI im gPM29 gPT30 lS lB lE lN) G H → gF (dC, dI) SKm G ([(0, 0), (0, 9), (2, 0), (5, 0), (6, 0), (7, 0), (8, 0), (9, 0)] : List (Nat × Nat)) s.heap H → va_S A s.heap H locs → el H o0 (dI 15 0) = some (.int u15) → ∀ ls : Array Slot, lv_has ls 3 [(2, .int (nI i25)), (0, .ref o0), (1, .int p0)] → W p l e (headSpec w_s_hoursE ({ frames := 5, cells := 0, slots := 0, locals := 120 })).room s m #[.ref o0, .int p0] below meth c H locs 0 0 (MQ below (va_Qi (fun (r : Int32) (u : Int32 × Int × (Nat → Int) × Int × (Nat → Int → Prop) × (Nat → Int → Prop)) => match u with | (t1, wH1, wN1, wB1, PM1, PT1) => (0 ≤ r.toInt ∧ r.toInt ≤ 40000) ∧ (0 ≤ wH1 ∧ wH1 ≤ 40000) ∧ (∀ i, 6500000 ≤ wN1 i ∧ wN1 i ≤ 6500000 + 340 * wH1) ∧ (0 ≤ wB1 ∧ wB1 ≤ 96 * wH1) ∧ (((0 ≤ p0.toInt ∧ p0.toInt ≤ 240) ∧ t1.toInt = 0 ∧ r.toInt = wH1 ∧ ((wH1 = wH + p0.toInt ∧ wH + p0.toInt ≤ 40000) ∨ (wH1 = 40000 ∧ 40000 ≤ wH + p0.toInt))) ∨ (¬ (0 ≤ p0.toInt ∧ p0.toInt ≤ 240) ∧ t1.toInt = 1 ∧ wH1 = wH))) (fun (u : Int32 × Int × (Nat → Int) × Int × (Nat → Int → Prop) × (Nat → Int → Prop)) (t : State) => match u with | (t1, wH1, wN1, wB1, PM1, PT1) => gH (dC, dI) kA (SHm q (wP wZ0 wN1 wH1 wB1 wC wL wK wU wV) PI im PM1 PT1 lS lB lE lN) G t.heap ∧ gF (dC, dI) SKm G ([(0, 0), (0, 9), (2, 0), (5, 0), (6, 0), (7, 0), (8, 0), (9, 0)] : List (Nat × Nat)) s.heap t.heap ∧ el t.heap o0 (dI 15 0) = some (.int t1)) A) #[.ref o0, .int p0] s 0 0 A) (F0 m 33 ls []) := by
      intro n66
      induction n66 with
      | zero =>
        intro i25 hn66 hlo67 gwN26 gwH27 gwB28 gPM29 gPT30 ⟨hg32, hg33, hg34, hj35⟩ H locs hT hF hS m31 ls hl
        obtain rfl : 240 = i25 := by omega
        have t68 : ∀ i, 6500000 ≤ gwN26 i ∧ gwN26 i ≤ 20200000 := fun i => by have q8 := hg32 i; omega
        refine lv_iload_n hx hb dX12_hours_33 rfl (lv_at hl 0 rfl) ?_
        refine lv_iload_n hx hb dX12_hours_34 rfl (lv_at hl 2 rfl) ?_
        refine lv_icmp_ge (tgt := 57) hx hb dX12_hours_35 (by decide) (fun c69 => ?_) (fun c69 => (by exfalso; have q9 : ((240 : Nat) : Int) < p0.toInt := ti_nle c69 rfl (nI_toInt (by omega)); omega))
        have t70 : p0.toInt ≤ ((240 : Nat) : Int) := ti_le c69 rfl (nI_toInt (by omega))
        refine lv_aload_n hx hb dX12_hours_57 rfl (lv_at hl 1 rfl) ?_
        have hFc := gA_free hG hA hS
        refine va_calli (va_runV (As := []) (rest := []) ⟨hx, hb, hml, hown, hts⟩ (s_hour l dC dI kA adK adV G H q wZ0 gwN26 gwH27 gwB28 wC wL wK wU wV PI im gPM29 gPT30 lS lB lE lN o0 hT hr_o0 (fun _ => Int.le_refl 0) t68 hg33 (by omega) (by omega) (by omega) hgu) (cwV 0 hts (goodIn_app (goodIn_r _ [12, 13, 14, 5] rfl (by decide +kernel)) (goodIn_ca (goodIn_r _ [10, 11] rfl (by decide +kernel)) (bs_in _ _))) rfl rfl rfl (by decide +kernel) ⟨(Nat.le_of_ble_eq_true rfl), (Nat.le_of_ble_eq_true rfl)⟩) ⟨fun a U g mk q => by obtain ⟨q0, q1, qK, qE⟩ := q; exact ⟨q0, q1, va_K.moved (u := U) (U := U.calling g mk a) (Vm.Alike.refl U.vm) qK, EVS.blind g mk a qE⟩, gH_rc hK hT hr_o0 shm_0 rfl, fun U hU hW => ⟨rfl, hU, va_K.moved hW.alike hK, hE.call hS hFc hU hW⟩⟩ rfl rfl hl.1 rfl (lv_room (Nat.le_of_ble_eq_true rfl)) dX12_hours_58 ⟨(Nat.le_of_ble_eq_true rfl), (Nat.le_of_ble_eq_true rfl)⟩) hS (fun q _ h => hFc q h) hFc (fun r71 u t H locs ht hvm hw72 hB _ _ hS => ?_)
        obtain ⟨hT, hF1⟩ := hB
        rw [ht] at hT hF1
        have m73 := (hF1.fld hr_o0 skm_0 (k := 0) (by decide) (by decide)).trans m31
        have hF := hF.more hF1 (by decide)
        try dsimp only at hw72
        obtain ⟨h74, hf75⟩ := hw72
        exact W.iret (v := r71) hx hb hr (fun t ht hW => ⟨⟨r71, (u15, gwH27, gwN26, gwB28, gPM29, gPT30), rfl, (by exact ⟨(by have q8 := ti_all r71; omega), (by omega), hg32, (by omega), (by have q0 : (0 : Int32).toInt = 0 := (by decide); have q1 : (1 : Int32).toInt = 1 := (by decide); omega)⟩), by (try dsimp only); rw [ht]; exact ⟨hT, hF, m73⟩⟩, hS.F ht⟩) hS.2.2 dX12_hours_61
      | succ n66 ih66 =>
        intro i25 hn66 hlo67 gwN26 gwH27 gwB28 gPM29 gPT30 ⟨hg32, hg33, hg34, hj35⟩ H locs hT hF hS m31 ls hl
        have hlt75 : i25 < 240 := by omega
        have t76 : ∀ i, 6500000 ≤ gwN26 i ∧ gwN26 i ≤ 20200000 := fun i => by have q8 := hg32 i; omega
        refine lv_iload_n hx hb dX12_hours_33 rfl (lv_at hl 0 rfl) ?_
        refine lv_iload_n hx hb dX12_hours_34 rfl (lv_at hl 2 rfl) ?_
        refine lv_icmp_ge (tgt := 57) hx hb dX12_hours_35 (by decide) (fun c77 => ?_) (fun c77 => ?_)
        · have t78 : p0.toInt ≤ ((i25 : Nat) : Int) := ti_le c77 rfl (nI_toInt (by omega))
          refine lv_aload_n hx hb dX12_hours_57 rfl (lv_at hl 1 rfl) ?_
          have hFc := gA_free hG hA hS
          refine va_calli (va_runV (As := []) (rest := []) ⟨hx, hb, hml, hown, hts⟩ (s_hour l dC dI kA adK adV G H q wZ0 gwN26 gwH27 gwB28 wC wL wK wU wV PI im gPM29 gPT30 lS lB lE lN o0 hT hr_o0 (fun _ => Int.le_refl 0) t76 hg33 (by omega) (by omega) (by omega) hgu) (cwV 0 hts (goodIn_app (goodIn_r _ [12, 13, 14, 5] rfl (by decide +kernel)) (goodIn_ca (goodIn_r _ [10, 11] rfl (by decide +kernel)) (bs_in _ _))) rfl rfl rfl (by decide +kernel) ⟨(Nat.le_of_ble_eq_true rfl), (Nat.le_of_ble_eq_true rfl)⟩) ⟨fun a U g mk q => by obtain ⟨q0, q1, qK, qE⟩ := q; exact ⟨q0, q1, va_K.moved (u := U) (U := U.calling g mk a) (Vm.Alike.refl U.vm) qK, EVS.blind g mk a qE⟩, gH_rc hK hT hr_o0 shm_0 rfl, fun U hU hW => ⟨rfl, hU, va_K.moved hW.alike hK, hE.call hS hFc hU hW⟩⟩ rfl rfl hl.1 rfl (lv_room (Nat.le_of_ble_eq_true rfl)) dX12_hours_58 ⟨(Nat.le_of_ble_eq_true rfl), (Nat.le_of_ble_eq_true rfl)⟩) hS (fun q _ h => hFc q h) hFc (fun r79 u t H locs ht hvm hw80 hB _ _ hS => ?_)
          obtain ⟨hT, hF1⟩ := hB
          rw [ht] at hT hF1
          have m81 := (hF1.fld hr_o0 skm_0 (k := 0) (by decide) (by decide)).trans m31
          have hF := hF.more hF1 (by decide)
          try dsimp only at hw80
          obtain ⟨h82, hf83⟩ := hw80
          exact W.iret (v := r79) hx hb hr (fun t ht hW => ⟨⟨r79, (u15, gwH27, gwN26, gwB28, gPM29, gPT30), rfl, (by exact ⟨(by have q8 := ti_all r79; omega), (by omega), hg32, (by omega), (by have q0 : (0 : Int32).toInt = 0 := (by decide); have q1 : (1 : Int32).toInt = 1 := (by decide); omega)⟩), by (try dsimp only); rw [ht]; exact ⟨hT, hF, m81⟩⟩, hS.F ht⟩) hS.2.2 dX12_hours_61
        · have t84 : ((i25 : Nat) : Int) < p0.toInt := ti_nle c77 rfl (nI_toInt (by omega))
          refine lv_aload_n hx hb dX12_hours_38 rfl (lv_at hl 1 rfl) ?_
          have hFc := gA_free hG hA hS
          refine va_calli (va_runV (As := []) (rest := []) ⟨hx, hb, hml, hown, hts⟩ (s_hour l dC dI kA adK adV G H q wZ0 gwN26 gwH27 gwB28 wC wL wK wU wV PI im gPM29 gPT30 lS lB lE lN o0 hT hr_o0 (fun _ => Int.le_refl 0) t76 hg33 (by omega) (by omega) (by omega) hgu) (cwV 0 hts (goodIn_app (goodIn_r _ [12, 13, 14, 5] rfl (by decide +kernel)) (goodIn_ca (goodIn_r _ [10, 11] rfl (by decide +kernel)) (bs_in _ _))) rfl rfl rfl (by decide +kernel) ⟨(Nat.le_of_ble_eq_true rfl), (Nat.le_of_ble_eq_true rfl)⟩) ⟨fun a U g mk q => by obtain ⟨q0, q1, qK, qE⟩ := q; exact ⟨q0, q1, va_K.moved (u := U) (U := U.calling g mk a) (Vm.Alike.refl U.vm) qK, EVS.blind g mk a qE⟩, gH_rc hK hT hr_o0 shm_0 rfl, fun U hU hW => ⟨rfl, hU, va_K.moved hW.alike hK, hE.call hS hFc hU hW⟩⟩ rfl rfl hl.1 rfl (lv_room (Nat.le_of_ble_eq_true rfl)) dX12_hours_39 ⟨(Nat.le_of_ble_eq_true rfl), (Nat.le_of_ble_eq_true rfl)⟩) hS (fun q _ h => hFc q h) hFc (fun r85 u t H locs ht hvm hw86 hB _ _ hS => ?_)
          obtain ⟨hT, hF1⟩ := hB
          rw [ht] at hT hF1
          have m87 := (hF1.fld hr_o0 skm_0 (k := 0) (by decide) (by decide)).trans m31
          have hF := hF.more hF1 (by decide)
          try dsimp only at hw86
          obtain ⟨h88, hf89⟩ := hw86
          refine lv_ldc (v := 40000) hx hb hown (ht_at hts 14 rfl) dX12_hours_42 ?_
          refine lv_icmp_ge (tgt := 57) hx hb dX12_hours_44 (by decide) (fun c90 => ?_) (fun c90 => ?_)
          · have t91 : 40000 ≤ r85.toInt := ti_le c90 (by decide) rfl
            refine lv_aload_n hx hb dX12_hours_57 rfl (lv_at hl 1 rfl) ?_
            have hFc := gA_free hG hA hS
            refine va_calli (va_runV (As := []) (rest := []) ⟨hx, hb, hml, hown, hts⟩ (s_hour l dC dI kA adK adV G H q wZ0 gwN26 gwH27 gwB28 wC wL wK wU wV PI im gPM29 gPT30 lS lB lE lN o0 hT hr_o0 (fun _ => Int.le_refl 0) t76 hg33 (by omega) (by omega) (by omega) hgu) (cwV 0 hts (goodIn_app (goodIn_r _ [12, 13, 14, 5] rfl (by decide +kernel)) (goodIn_ca (goodIn_r _ [10, 11] rfl (by decide +kernel)) (bs_in _ _))) rfl rfl rfl (by decide +kernel) ⟨(Nat.le_of_ble_eq_true rfl), (Nat.le_of_ble_eq_true rfl)⟩) ⟨fun a U g mk q => by obtain ⟨q0, q1, qK, qE⟩ := q; exact ⟨q0, q1, va_K.moved (u := U) (U := U.calling g mk a) (Vm.Alike.refl U.vm) qK, EVS.blind g mk a qE⟩, gH_rc hK hT hr_o0 shm_0 rfl, fun U hU hW => ⟨rfl, hU, va_K.moved hW.alike hK, hE.call hS hFc hU hW⟩⟩ rfl rfl hl.1 rfl (lv_room (Nat.le_of_ble_eq_true rfl)) dX12_hours_58 ⟨(Nat.le_of_ble_eq_true rfl), (Nat.le_of_ble_eq_true rfl)⟩) hS (fun q _ h => hFc q h) hFc (fun r92 u t H locs ht hvm hw93 hB _ _ hS => ?_)
            obtain ⟨hT, hF1⟩ := hB
            rw [ht] at hT hF1
            have m94 := (hF1.fld hr_o0 skm_0 (k := 0) (by decide) (by decide)).trans m87
            have hF := hF.more hF1 (by decide)
            try dsimp only at hw93
            obtain ⟨h95, hf96⟩ := hw93
            exact W.iret (v := r92) hx hb hr (fun t ht hW => ⟨⟨r92, (u15, gwH27, gwN26, gwB28, gPM29, gPT30), rfl, (by exact ⟨(by have q8 := ti_all r92; omega), (by omega), hg32, (by omega), (by have q0 : (0 : Int32).toInt = 0 := (by decide); have q1 : (1 : Int32).toInt = 1 := (by decide); omega)⟩), by (try dsimp only); rw [ht]; exact ⟨hT, hF, m94⟩⟩, hS.F ht⟩) hS.2.2 dX12_hours_61
          · have t97 : r85.toInt < 40000 := ti_nle c90 (by decide) rfl
            refine lv_aload_n hx hb dX12_hours_47 rfl (lv_at hl 1 rfl) ?_
            have hFc := gA_free hG hA hS
            refine va_callv (va_runV (As := []) (rest := []) ⟨hx, hb, hml, hown, hts⟩ (s_anHour l dC dI kA adK adV G H q wZ0 gwN26 gwH27 gwB28 wC wL wK wU wV PI im gPM29 gPT30 lS lB lE lN o0 hT hr_o0 (by assumption) hg32 (by omega) (by omega) (fun _ => Int.le_refl 0) t76 hg33 (by omega) (by omega) (by omega) hgu) (cwV 0 hts (goodIn_app (goodIn_r _ [112, 113, 114, 5] rfl (by decide +kernel)) (goodIn_ca (goodIn_r _ [16, 11, 10, 12, 13, 14, 5, 17, 2, 3, 4, 18, 19, 20, 21, 22, 23, 24, 25, 26, 27, 28, 29, 30, 31, 32, 33, 34, 35, 36, 37, 38, 39, 40, 41, 42, 43, 44, 45, 46, 47, 48, 49, 50, 51, 52, 53, 54, 55, 56, 57, 58, 59, 60, 61, 62, 63, 64, 65, 66, 67, 68, 69, 70, 71, 72, 73, 74, 75, 76, 77, 78, 79, 80, 81, 82, 83, 84, 85, 86, 87, 88, 89, 90, 91, 92, 93, 94, 95, 96, 97, 98, 99, 100, 101, 102, 103, 104, 105, 106, 107, 108, 109, 110, 111] rfl (by decide +kernel)) (bs_in _ _))) rfl rfl rfl (by decide +kernel) ⟨(Nat.le_of_ble_eq_true rfl), (Nat.le_of_ble_eq_true rfl)⟩) ⟨fun a U g mk q => by obtain ⟨q0, q1, qK, qE⟩ := q; exact ⟨q0, q1, va_K.moved (u := U) (U := U.calling g mk a) (Vm.Alike.refl U.vm) qK, EVS.blind g mk a qE⟩, gH_rc hK hT hr_o0 shm_0 rfl, fun U hU hW => ⟨rfl, hU, va_K.moved hW.alike hK, hE.call hS hFc hU hW⟩⟩ rfl rfl hl.1 rfl (lv_room (Nat.le_of_ble_eq_true rfl)) dX12_hours_48 ⟨(Nat.le_of_ble_eq_true rfl), (Nat.le_of_ble_eq_true rfl)⟩) hS (fun q _ h => hFc q h) hFc (fun u t H locs ht hvm hw99 hB _ _ hS => ?_)
            obtain ⟨u100, u101, u102, u103⟩ := u
            obtain ⟨hT, hF1⟩ := hB
            rw [ht] at hT hF1
            have m104 := (hF1.fld hr_o0 skm_0 (k := 0) (by decide) (by decide)).trans m87
            have hF := hF.more hF1 (by decide)
            try dsimp only at hw99
            obtain ⟨hf105, hf106⟩ := hw99
            refine lv_iinc (v := nI (i25 + 1)) (lv' := [(2, .int (nI (i25 + 1))), (0, .ref o0), (1, .int p0)]) hx hb dX12_hours_51 hl (k := 0) rfl (nI_add i25 1) (by decide) rfl (fun ls hl => ?_)
            refine lv_goto (tgt := 33) hx hb dX12_hours_54 (by decide) ?_
            exact ih66 (i25 + 1) (by omega) (by omega) u100 (gwH27 + 1) u101 u102 u103 ⟨hf105, (by omega), (by omega), (by omega)⟩ _ _ hT hF hS m104 ls (lv_sub hl [0, 1, 2] rfl)
    exact key66 (240 - 0) 0 (by omega) (Nat.le_refl _) wN wH wB PM PT ⟨hn_, (by omega), (by omega), (by omega)⟩ _ _ hT hF hS m16 ls (lv_sub hl [0, 1, 2] rfl)
  · have t107 : r2.toInt = 0 := ti_eq c8 rfl (by decide)
    have t108 : (0 : Int32).toInt = 0 := by decide
    have t109 : (240 : Int32).toInt = 240 := by decide
    have t110 : p0.toInt < (0 : Int32).toInt ∨ (240 : Int32).toInt < p0.toInt := hi7 c8
    refine lv_iconst (v := 1) hx hb dX12_hours_17 (by decide) ?_
    refine lv_goto (tgt := 22) hx hb dX12_hours_18 (by decide) ?_
    refine lv_iconst (v := 1) hx hb dX12_hours_22 (by decide) ?_
    have hFc := gA_free hG hA hS
    refine va_calli (va_runV (As := [.int 1, .int 1]) (rest := []) ⟨hx, hb, hml, hown, hts⟩ (s_throwsIfP l dC dI kA adK adV G H q wZ0 wN wH wB wC wL wK wU wV PI im PM PT lS lB lE lN o0 1 1 0 hT hr_o0 m4 (rg_t (a := 1) (by decide) (by first | decide | omega) (by first | decide | omega)) (fun _ => Int.le_refl 0) hgn hgh hgb hgc hgi hgu) (cwV 2 hts (goodIn_app (goodIn_r _ [7, 8, 9, 5] rfl (by decide +kernel)) (goodIn_ca (goodIn_r _ [6, 1] rfl (by decide +kernel)) (bs_in _ _))) rfl rfl rfl (by decide +kernel) ⟨(Nat.le_of_ble_eq_true rfl), (Nat.le_of_ble_eq_true rfl)⟩) ⟨fun a U g mk q => by obtain ⟨q0, q1, qK, qE⟩ := q; exact ⟨q0, q1, va_K.moved (u := U) (U := U.calling g mk a) (Vm.Alike.refl U.vm) qK, EVS.blind g mk a qE⟩, gH_rc hK hT hr_o0 shm_0 rfl, fun U hU hW => ⟨rfl, hU, va_K.moved hW.alike hK, hE.call hS hFc hU hW⟩⟩ rfl rfl hl.1 rfl (lv_room (Nat.le_of_ble_eq_true rfl)) dX12_hours_23 ⟨(Nat.le_of_ble_eq_true rfl), (Nat.le_of_ble_eq_true rfl)⟩) hS (fun q _ h => hFc q h) hFc (fun r111 u t H locs ht hvm hw112 hB _ _ hS => ?_)
    obtain ⟨u113, rfl⟩ : ∃ z, z = u := ⟨_, rfl⟩
    obtain ⟨hT, hF1, m114⟩ := hB
    rw [ht] at hT hF1 m114
    have hF := hF.more hF1 (by decide)
    try dsimp only at hw112
    obtain ⟨h116, hf117, hd118⟩ := hw112
    have t119 : (1 : Int32).toInt = 1 := by decide
    have t120 : (1 : Int32).toInt = 1 := by decide
    have t121 : (0 : Int32).toInt = 0 := by decide
    obtain rfl : (1 : Int32) = r111 := hd118.symm
    refine lv_if_eq (tgt := 31) hx hb dX12_hours_26 (by decide) (fun c122 => absurd c122 (by decide)) (fun c122 => ?_)
    refine lv_iconst (v := 0) hx hb dX12_hours_29 (by decide) ?_
    exact W.iret (v := 0) hx hb hr (fun t ht hW => ⟨⟨0, (u113, wH, wN, wB, PM, PT), rfl, (by exact ⟨(rg_t (a := 0) (by decide) (by first | decide | omega) (by first | decide | omega)), (by omega), hn_, (by omega), (by have q0 : (0 : Int32).toInt = 0 := (by decide); have q1 : (1 : Int32).toInt = 1 := (by decide); omega)⟩), by (try dsimp only); rw [ht]; exact ⟨hT, hF, m114⟩⟩, hS.F ht⟩) hS.2.2 dX12_hours_30
def w_s_keepE : List Cond := .code yX12_keep cX12_keep 2 (some .boolean) :: (HAppend.hAppend (α := List Cond) (β := List Cond) (γ := List Cond) [.fieldLink RX12 194 "SeaLandModel" "thrown" "I", .code yX12_hour cX12_hour 1 (some .int), .fieldLink RX12 9 "SeaLandModel" "world" "[I", .methodLink RX12 228 yX12_hour, .instanceMethod yX12_hour, .selects RX12 yX12_hour yX12_hour, .initialized RX12, .fieldLink RX12 325 "SeaLandModel" "hasImage" "Z", .fieldLink RX12 13 "SeaLandModel" "image" "[I"] bs)
set_option maxHeartbeats 4000000 in
set_option maxRecDepth 100000 in
theorem s_keepE (l : Launch) (dC : Nat → ClassId) (dI : Nat → Nat → Nat) (kA : Nat → ClassId) (adK adV : Nat → Nat) (G : gT) (H0 : Heap) (q : Nat → Nat) (wZ wN : Nat → Int) (wH wB wC : Int) (wL wK : Nat → Prop) (wU wV : Nat → Nat) (PI : Nat → Int → Prop) (im : Int) (PM PT : Nat → Int → Prop) (lS lB lE : Nat → Nat → Int → Prop) (lN : Nat → Int) (o0 : Nat) (him : Int32)  (hT : gH (dC, dI) kA (SHm q (wP wZ0 wN wH wB wC wL wK wU wV) PI im PM PT lS lB lE lN) G H0) (hr_o0 : G o0 = some 0) (hm_him : el H0 o0 (dI 15 3) = some (.int him)) (hq0 : 0 ≤ him.toInt ∧ him.toInt ≤ 1) (hgz : ∀ i, 0 ≤ wZ i) (hgn : ∀ i, 6500000 ≤ wN i ∧ wN i ≤ 20200000) (hgh : 0 ≤ wH ∧ wH ≤ 40000) (hgb : 0 ≤ wB ∧ wB ≤ 3850000) (hgc : 0 ≤ wC ∧ wC ≤ 30) (hgi : 0 ≤ im ∧ im ≤ 1) (hgu : ∀ a t, G a = some (t + 1) → a = q t) : Met l yX12_keep w_s_keepE ({ frames := 1, cells := 0, slots := 0, locals := 20 }) (va_Pc [.ref o0] (fun U => U.heap = H0 ∧ va_K (dC, dI) vwCl (tyl kA) U ∧ EVS adK adV (gA G H0.size) U U.heap)) (va_Qi (fun (r : Int32) (u : Int32 × (Nat → Int → Prop)) => match u with | (h1, PI1) => (0 ≤ r.toInt ∧ r.toInt ≤ 1) ∧ ((wH = 0 ∧ r.toInt = 0 ∧ h1.toInt = him.toInt ∧ PI1 = PI) ∨ (wH ≠ 0 ∧ r.toInt = 1 ∧ h1.toInt = 1 ∧ PI1 = (wP wZ0 wN wH wB wC wL wK wU wV)))) (fun (u : Int32 × (Nat → Int → Prop)) (t : State) => match u with | (h1, PI1) => gH (dC, dI) kA (SHm q (wP wZ0 wN wH wB wC wL wK wU wV) PI1 im PM PT lS lB lE lN) G t.heap ∧ gF (dC, dI) SKm G ([(0, 0), (0, 3), (3, 0)] : List (Nat × Nat)) H0 t.heap ∧ el t.heap o0 (dI 15 3) = some (.int h1)) (gA G H0.size)) 0 0 (gA G H0.size) := by
  refine Met.ofW (cc := cX12_keep) (maxL := 2) (ret := (some .boolean)) (by decide) rfl ?_
  intro p e s m args below meth c s₁ B hml hv
  obtain ⟨rfl, hH0, hK, hE⟩ := hv
  have hx := B.exec
  have hb := B.bytes
  have hr := B.returns
  have hts := atoms_spec (ws := w_s_keepE) B.pre
  have hown : s.vm.findClass RX12 = some m.cls := findClass_of_methodNamed B.named
  have hlocks := B.notSynchronized
  subst hH0
  generalize hAe : gA G s.heap.size = A at hE ⊢
  have hA : ∀ q : Nat, s.heap.size ≤ q → A q := fun q h => by rw [← hAe]; exact Or.inr h
  have hG := gA_of hAe
  have hS : va_S A s.heap s.heap [] := va_S.rf
  have hF : gF (dC, dI) SKm G ([(0, 0), (0, 3), (3, 0)] : List (Nat × Nat)) s.heap s.heap := gF.rf
  have hl := lv_entry ([.ref o0]) (n := 2) (Nat.le_of_ble_eq_true rfl)
  rw [lg_entry_eq]
  generalize (lg_sl ([.ref o0]) ++ List.replicate (2 - (lg_sl ([.ref o0])).length) Slot.unset).toArray = ls at hl ⊢
  have hl : lv_has ls 2 [(0, .ref o0)] := hl
  refine lv_aload_n hx hb dX12_keep_0 rfl (lv_at hl 0 rfl) ?_
  refine lv_iconst (v := 0) hx hb dX12_keep_1 (by decide) ?_
  refine tw_put (v := .int 0) (ty := .int) hx hb hts bF_X12 tyX12 tyX12_ok nmX12 hown hK hT hG hS hr_o0 shm_0 rfl 0 (by decide) (ht_at hts 0 rfl) (fun _ h9 => h9) rfl (by decide +kernel) rfl rfl (gl_at rfl (gi_all _)) dX12_keep_2 (fun H locs hT oq m1 oj hS => ?_)
  have hF := hF.put hr_o0 skm_0 oq oj (by decide)
  have m2 := (oj 3 (by decide) (by decide)).trans hm_him
  refine lv_aload_n hx hb dX12_keep_5 rfl (lv_at hl 0 rfl) ?_
  have hFc := gA_free hG hA hS
  refine va_calli (va_runV (As := []) (rest := []) ⟨hx, hb, hml, hown, hts⟩ (s_hour l dC dI kA adK adV G H q wZ0 wN wH wB wC wL wK wU wV PI im PM PT lS lB lE lN o0 hT hr_o0 (fun _ => Int.le_refl 0) hgn hgh hgb hgc hgi hgu) (cwV 0 hts (goodIn_app (goodIn_r _ [4, 5, 6, 7] rfl (by decide +kernel)) (goodIn_ca (goodIn_r _ [2, 3] rfl (by decide +kernel)) (bs_in _ _))) rfl rfl rfl (by decide +kernel) ⟨(Nat.le_of_ble_eq_true rfl), (Nat.le_of_ble_eq_true rfl)⟩) ⟨fun a U g mk q => by obtain ⟨q0, q1, qK, qE⟩ := q; exact ⟨q0, q1, va_K.moved (u := U) (U := U.calling g mk a) (Vm.Alike.refl U.vm) qK, EVS.blind g mk a qE⟩, gH_rc hK hT hr_o0 shm_0 rfl, fun U hU hW => ⟨rfl, hU, va_K.moved hW.alike hK, hE.call hS hFc hU hW⟩⟩ rfl rfl hl.1 rfl (lv_room (Nat.le_of_ble_eq_true rfl)) dX12_keep_6 ⟨(Nat.le_of_ble_eq_true rfl), (Nat.le_of_ble_eq_true rfl)⟩) hS (fun q _ h => hFc q h) hFc (fun r3 u t H locs ht hvm hw4 hB _ _ hS => ?_)
  obtain ⟨hT, hF1⟩ := hB
  rw [ht] at hT hF1
  have m5 := (hF1.fld hr_o0 skm_0 (k := 3) (by decide) (by decide)).trans m2
  have m6 := (hF1.fld hr_o0 skm_0 (k := 0) (by decide) (by decide)).trans m1
  have hF := hF.more hF1 (by decide)
  try dsimp only at hw4
  obtain ⟨h7, hf8⟩ := hw4
  refine lv_if_ne (tgt := 14) hx hb dX12_keep_9 (by decide) (fun c9 => ?_) (fun c9 => ?_)
  · have t10 : r3.toInt ≠ 0 := ti_ne c9 rfl (by decide)
    refine lv_iconst (v := 0) hx hb dX12_keep_14 (by decide) ?_
    refine lv_istore_n (lv' := [(1, .int 0), (0, .ref o0)]) hx hb dX12_keep_15 rfl hl (by decide) rfl (fun ls hl => ?_)
    have key27 : ∀ (n27 i11 : Nat), i11 + n27 = 1749 → 0 ≤ i11 → ∀ (H : Heap) (locs : List Loc), gH (dC, dI) kA (SHm q (wP wZ0 wN wH wB wC wL wK wU wV) (pcP (wP wZ0 wN wH wB wC wL wK wU wV) PI i11) im PM PT lS lB lE lN) G H → gF (dC, dI) SKm G ([(0, 0), (0, 3), (3, 0)] : List (Nat × Nat)) s.heap H → va_S A s.heap H locs → el H o0 (dI 15 3) = some (.int him) → el H o0 (dI 15 0) = some (.int 0) → ∀ ls : Array Slot, lv_has ls 2 [(1, .int (nI i11)), (0, .ref o0)] → W p l e (headSpec w_s_keepE ({ frames := 1, cells := 0, slots := 0, locals := 20 })).room s m #[.ref o0] below meth c H locs 0 0 (MQ below (va_Qi (fun (r : Int32) (u : Int32 × (Nat → Int → Prop)) => match u with | (h1, PI1) => (0 ≤ r.toInt ∧ r.toInt ≤ 1) ∧ ((wH = 0 ∧ r.toInt = 0 ∧ h1.toInt = him.toInt ∧ PI1 = PI) ∨ (wH ≠ 0 ∧ r.toInt = 1 ∧ h1.toInt = 1 ∧ PI1 = (wP wZ0 wN wH wB wC wL wK wU wV)))) (fun (u : Int32 × (Nat → Int → Prop)) (t : State) => match u with | (h1, PI1) => gH (dC, dI) kA (SHm q (wP wZ0 wN wH wB wC wL wK wU wV) PI1 im PM PT lS lB lE lN) G t.heap ∧ gF (dC, dI) SKm G ([(0, 0), (0, 3), (3, 0)] : List (Nat × Nat)) s.heap t.heap ∧ el t.heap o0 (dI 15 3) = some (.int h1)) A) #[.ref o0] s 0 0 A) (F0 m 16 ls []) := by
      intro n27
      induction n27 with
      | zero =>
        intro i11 hn27 hlo28  H locs hT hF hS m12 m13 ls hl
        obtain rfl : 1749 = i11 := by omega
        refine lv_iload_n hx hb dX12_keep_16 rfl (lv_at hl 0 rfl) ?_
        refine lv_sipush (v := 1749) hx hb dX12_keep_17 (by decide) ?_
        refine lv_icmp_ge (tgt := 41) hx hb dX12_keep_20 (by decide) (fun c29 => ?_) (fun c29 => (by exfalso; have q9 : ((1749 : Nat) : Int) < 1749 := ti_nle c29 (by decide) (nI_toInt (by omega)); omega))
        have t30 : 1749 ≤ ((1749 : Nat) : Int) := ti_le c29 (by decide) (nI_toInt (by omega))
        have hT : gH (dC, dI) kA (SHm q (wP wZ0 wN wH wB wC wL wK wU wV) (wP wZ0 wN wH wB wC wL wK wU wV) im PM PT lS lB lE lN) G H := SHm_mono hT (fun _ _ _ z => z) (fun _ hi _ p => pc_all hi p) (fun _ _ z => z) (fun _ _ z => z) (fun _ _ _ _ z => z) (fun _ _ _ _ z => z) (fun _ _ _ _ z => z) (fun _ => Int.le_refl _)
        refine lv_aload_n hx hb dX12_keep_41 rfl (lv_at hl 1 rfl) ?_
        refine lv_iconst (v := 1) hx hb dX12_keep_42 (by decide) ?_
        refine tw_put (v := .int 1) (ty := .boolean) hx hb hts bF_X12 tyX12 tyX12_ok nmX12 hown hK hT hG hS hr_o0 shm_0 rfl 3 (by decide) (ht_at hts 7 rfl) (fun _ h9 => h9) rfl (by decide +kernel) rfl rfl (gl_at rfl (gi_of (show (1 : Int32).toInt = 1 from (by decide)) (by first | decide | omega) (by first | decide | omega))) dX12_keep_43 (fun H locs hT oq m31 oj hS => ?_)
        have hF := hF.put hr_o0 skm_0 oq oj (by decide)
        refine lv_iconst (v := 1) hx hb dX12_keep_46 (by decide) ?_
        exact W.zret (v := 1) hx hb hr (by decide) (fun t ht hW => ⟨⟨1, ((1 : Int32), (wP wZ0 wN wH wB wC wL wK wU wV)), rfl, (by exact ⟨(rg_t (a := 1) (by decide) (by first | decide | omega) (by first | decide | omega)), (Or.inr ⟨by omega, by decide, by decide, rfl⟩)⟩), by (try dsimp only); rw [ht]; exact ⟨hT, hF, m31⟩⟩, hS.F ht⟩) hS.2.2 dX12_keep_47
      | succ n27 ih27 =>
        intro i11 hn27 hlo28  H locs hT hF hS m12 m13 ls hl
        have hlt32 : i11 < 1749 := by omega
        refine lv_iload_n hx hb dX12_keep_16 rfl (lv_at hl 0 rfl) ?_
        refine lv_sipush (v := 1749) hx hb dX12_keep_17 (by decide) ?_
        refine lv_icmp_ge (tgt := 41) hx hb dX12_keep_20 (by decide) (fun c33 => (by exfalso; have q9 : 1749 ≤ ((i11 : Nat) : Int) := ti_le c33 (by decide) (nI_toInt (by omega)); omega)) (fun c33 => ?_)
        have t34 : ((i11 : Nat) : Int) < 1749 := ti_nle c33 (by decide) (nI_toInt (by omega))
        refine lv_aload_n hx hb dX12_keep_23 rfl (lv_at hl 1 rfl) ?_
        refine tw_get hx hb hts bF_X12 hown hK hT hr_o0 shm_0 rfl 2 (by decide) (ht_at hts 8 rfl) (fun _ h9 => h9) dX12_keep_24 (fun v9 m35 h9 => ?_)
        obtain ⟨rfl, hg36⟩ := h9 _ rfl
        refine lv_iload_n hx hb dX12_keep_27 rfl (lv_at hl 0 rfl) ?_
        refine lv_aload_n hx hb dX12_keep_28 rfl (lv_at hl 1 rfl) ?_
        refine tw_get hx hb hts bF_X12 hown hK hT hr_o0 shm_0 rfl 1 (by decide) (ht_at hts 2 rfl) (fun _ h9 => h9) dX12_keep_29 (fun v9 m37 h9 => ?_)
        obtain ⟨rfl, hg38⟩ := h9 _ rfl
        refine lv_iload_n hx hb dX12_keep_32 rfl (lv_at hl 0 rfl) ?_
        refine tw_iald (i := (nI i11)) hx hb hK hT hg38 shm_2 rfl (vp_in_nI (by omega) (by decide)) dX12_keep_33 (fun v9 m39 h9 => ?_)
        obtain ⟨x40, rfl, gx40, kx40⟩ := (gp_any h9)
        have t41 : (nI i11).toNatClampNeg = i11 := tn_nI (by omega)
        refine tw_iast2 (Sg1 := (SHm q (wP wZ0 wN wH wB wC wL wK wU wV) (pcP (wP wZ0 wN wH wB wC wL wK wU wV) PI (i11 + 1)) im PM PT lS lB lE lN)) (i := (nI i11)) (x := x40) hx hb hK hT hG hS hg36 shm_3 rfl shm_3 shm_o3 (fun b9 h9 => hgu b9 2 h9) (vp_in_nI (by omega) (by decide)) (⟨_, rfl, by rw [show (nI i11).toNatClampNeg = i11 from tn_nI (by omega)]; exact pc_at (by have q8 := wq_l hT hg38 (by have q9 := tn_of (show (nI i11).toInt = ((i11 : Nat) : Int) from (nI_toInt (by omega))) (by omega); omega) m39; rw [show (nI i11).toNatClampNeg = i11 from tn_nI (by omega)] at q8; exact q8)⟩) (fun k9 hk9 hne9 v9 hv9 he9 => by obtain ⟨x9, rfl, p9⟩ := he9; exact ⟨x9, rfl, pc_st (by omega) p9⟩) dX12_keep_34 (fun H locs hT oq m42 oi hS => ?_)
        have hF := hF.ast hg36 skm_3 oq (by decide)
        have m43 := (el_kept (oq _ (gne hr_o0 hg36 (by decide)))).trans m12
        have m44 := (el_kept (oq _ (gne hr_o0 hg36 (by decide)))).trans m13
        refine lv_iinc (v := nI (i11 + 1)) (lv' := [(1, .int (nI (i11 + 1))), (0, .ref o0)]) hx hb dX12_keep_35 hl (k := 0) rfl (nI_add i11 1) (by decide) rfl (fun ls hl => ?_)
        refine lv_goto (tgt := 16) hx hb dX12_keep_38 (by decide) ?_
        exact ih27 (i11 + 1) (by omega) (by omega) _ _ hT hF hS m43 m44 ls (lv_sub hl [0, 1] rfl)
    have hT : gH (dC, dI) kA (SHm q (wP wZ0 wN wH wB wC wL wK wU wV) (pcP (wP wZ0 wN wH wB wC wL wK wU wV) PI 0) im PM PT lS lB lE lN) G H := SHm_mono hT (fun _ _ _ z => z) (fun _ _ _ p => pc_0 p) (fun _ _ z => z) (fun _ _ z => z) (fun _ _ _ _ z => z) (fun _ _ _ _ z => z) (fun _ _ _ _ z => z) (fun _ => Int.le_refl _)
    exact key27 (1749 - 0) 0 (by omega) (Nat.le_refl _) _ _ hT hF hS m5 m6 ls (lv_sub hl [0, 1] rfl)
  · have t46 : r3.toInt = 0 := ti_eq c9 rfl (by decide)
    refine lv_iconst (v := 0) hx hb dX12_keep_12 (by decide) ?_
    exact W.zret (v := 0) hx hb hr (by decide) (fun t ht hW => ⟨⟨0, (him, PI), rfl, (by exact ⟨(rg_t (a := 0) (by decide) (by first | decide | omega) (by first | decide | omega)), (Or.inl ⟨by omega, by decide, by omega, rfl⟩)⟩), by (try dsimp only); rw [ht]; exact ⟨hT, hF, m5⟩⟩, hS.F ht⟩) hS.2.2 dX12_keep_13
def w_s_backE : List Cond := .code yX12_back cX12_back 2 (some .boolean) :: (HAppend.hAppend (α := List Cond) (β := List Cond) (γ := List Cond) [.fieldLink RX12 194 "SeaLandModel" "thrown" "I", .fieldLink RX12 325 "SeaLandModel" "hasImage" "Z", .fieldLink RX12 13 "SeaLandModel" "image" "[I", .code yX12_hour cX12_hour 1 (some .int), .fieldLink RX12 9 "SeaLandModel" "world" "[I", .methodLink RX12 228 yX12_hour, .instanceMethod yX12_hour, .selects RX12 yX12_hour yX12_hour, .initialized RX12, .fieldLink RX12 238 "SeaLandModel" "rows" "I"] bs)
set_option maxHeartbeats 4000000 in
set_option maxRecDepth 100000 in
theorem s_backE (l : Launch) (dC : Nat → ClassId) (dI : Nat → Nat → Nat) (kA : Nat → ClassId) (adK adV : Nat → Nat) (G : gT) (H0 : Heap) (q : Nat → Nat) (wZ wN : Nat → Int) (wH wB wC : Int) (wL wK : Nat → Prop) (wU wV : Nat → Nat) (PI : Nat → Int → Prop) (im : Int) (PM PT : Nat → Int → Prop) (lS lB lE : Nat → Nat → Int → Prop) (lN : Nat → Int) (o0 : Nat) (him : Int32) (vN : Nat → Int) (vH vB vC : Int) (vL vK : Nat → Prop) (vU vV : Nat → Nat) (hT : gH (dC, dI) kA (SHm q (wP wZ0 wN wH wB wC wL wK wU wV) (wP wZ0 vN vH vB vC vL vK vU vV) im PM PT lS lB lE lN) G H0) (hr_o0 : G o0 = some 0) (hm_him : el H0 o0 (dI 15 3) = some (.int him)) (hq0 : 0 ≤ him.toInt ∧ him.toInt ≤ 1) (hgz : ∀ i, 0 ≤ wZ i) (hgn : ∀ i, 6500000 ≤ wN i ∧ wN i ≤ 20200000) (hgh : 0 ≤ wH ∧ wH ≤ 40000) (hgb : 0 ≤ wB ∧ wB ≤ 3850000) (hgc : 0 ≤ wC ∧ wC ≤ 30) (hgi : 0 ≤ im ∧ im ≤ 1) (hgu : ∀ a t, G a = some (t + 1) → a = q t) : Met l yX12_back w_s_backE ({ frames := 1, cells := 0, slots := 0, locals := 20 }) (va_Pc [.ref o0] (fun U => U.heap = H0 ∧ va_K (dC, dI) vwCl (tyl kA) U ∧ EVS adK adV (gA G H0.size) U U.heap)) (va_Qi (fun (r : Int32) (u : (Nat → Int) × Int × Int × Int × (Nat → Prop) × (Nat → Prop) × (Nat → Nat) × (Nat → Nat)) => match u with | (wN1, wH1, wB1, wC1, wL1, wK1, wU1, wV1) => (0 ≤ r.toInt ∧ r.toInt ≤ 1) ∧ (((him.toInt = 0 ∨ wH < vH) ∧ r.toInt = 0 ∧ wN1 = wN ∧ wH1 = wH ∧ wB1 = wB ∧ wC1 = wC ∧ wL1 = wL ∧ wK1 = wK ∧ wU1 = wU ∧ wV1 = wV) ∨ (him.toInt = 1 ∧ vH ≤ wH ∧ r.toInt = 1 ∧ wN1 = vN ∧ wH1 = vH ∧ wB1 = vB ∧ wC1 = vC ∧ wL1 = vL ∧ wK1 = vK ∧ wU1 = vU ∧ wV1 = vV))) (fun (u : (Nat → Int) × Int × Int × Int × (Nat → Prop) × (Nat → Prop) × (Nat → Nat) × (Nat → Nat)) (t : State) => match u with | (wN1, wH1, wB1, wC1, wL1, wK1, wU1, wV1) => gH (dC, dI) kA (SHm q (wP wZ0 wN1 wH1 wB1 wC1 wL1 wK1 wU1 wV1) (wP wZ0 vN vH vB vC vL vK vU vV) im PM PT lS lB lE lN) G t.heap ∧ gF (dC, dI) SKm G ([(0, 0), (0, 9), (2, 0)] : List (Nat × Nat)) H0 t.heap) (gA G H0.size)) 0 0 (gA G H0.size) := by
  refine Met.ofW (cc := cX12_back) (maxL := 2) (ret := (some .boolean)) (by decide) rfl ?_
  intro p e s m args below meth c s₁ B hml hv
  obtain ⟨rfl, hH0, hK, hE⟩ := hv
  have hx := B.exec
  have hb := B.bytes
  have hr := B.returns
  have hts := atoms_spec (ws := w_s_backE) B.pre
  have hown : s.vm.findClass RX12 = some m.cls := findClass_of_methodNamed B.named
  have hlocks := B.notSynchronized
  subst hH0
  generalize hAe : gA G s.heap.size = A at hE ⊢
  have hA : ∀ q : Nat, s.heap.size ≤ q → A q := fun q h => by rw [← hAe]; exact Or.inr h
  have hG := gA_of hAe
  have hS : va_S A s.heap s.heap [] := va_S.rf
  have hF : gF (dC, dI) SKm G ([(0, 0), (0, 9), (2, 0)] : List (Nat × Nat)) s.heap s.heap := gF.rf
  have hl := lv_entry ([.ref o0]) (n := 2) (Nat.le_of_ble_eq_true rfl)
  rw [lg_entry_eq]
  generalize (lg_sl ([.ref o0]) ++ List.replicate (2 - (lg_sl ([.ref o0])).length) Slot.unset).toArray = ls at hl ⊢
  have hl : lv_has ls 2 [(0, .ref o0)] := hl
  refine lv_aload_n hx hb dX12_back_0 rfl (lv_at hl 0 rfl) ?_
  refine lv_iconst (v := 0) hx hb dX12_back_1 (by decide) ?_
  refine tw_put (v := .int 0) (ty := .int) hx hb hts bF_X12 tyX12 tyX12_ok nmX12 hown hK hT hG hS hr_o0 shm_0 rfl 0 (by decide) (ht_at hts 0 rfl) (fun _ h9 => h9) rfl (by decide +kernel) rfl rfl (gl_at rfl (gi_all _)) dX12_back_2 (fun H locs hT oq m1 oj hS => ?_)
  have hF := hF.put hr_o0 skm_0 oq oj (by decide)
  have m2 := (oj 3 (by decide) (by decide)).trans hm_him
  refine lv_aload_n hx hb dX12_back_5 rfl (lv_at hl 0 rfl) ?_
  refine tw_getM (v := .int him) hx hb hts bF_X12 hown hK hT hr_o0 shm_0 rfl 3 (by decide) (ht_at hts 1 rfl) (fun _ h9 => h9) m2 dX12_back_6 ?_
  refine lv_if_eq (tgt := 27) hx hb dX12_back_9 (by decide) (fun c3 => ?_) (fun c3 => ?_)
  · have t4 : him.toInt = 0 := ti_eq c3 rfl (by decide)
    refine lv_iconst (v := 0) hx hb dX12_back_27 (by decide) ?_
    exact W.zret (v := 0) hx hb hr (by decide) (fun t ht hW => ⟨⟨0, (wN, wH, wB, wC, wL, wK, wU, wV), rfl, (by exact ⟨(rg_t (a := 0) (by decide) (by first | decide | omega) (by first | decide | omega)), (Or.inl ⟨by omega, by decide, rfl, rfl, rfl, rfl, rfl, rfl, rfl, rfl⟩)⟩), by (try dsimp only); rw [ht]; exact ⟨hT, hF⟩⟩, hS.F ht⟩) hS.2.2 dX12_back_28
  · have t5 : him.toInt ≠ 0 := ti_ne c3 rfl (by decide)
    refine lv_aload_n hx hb dX12_back_12 rfl (lv_at hl 0 rfl) ?_
    refine tw_get hx hb hts bF_X12 hown hK hT hr_o0 shm_0 rfl 2 (by decide) (ht_at hts 2 rfl) (fun _ h9 => h9) dX12_back_13 (fun v9 m6 h9 => ?_)
    obtain ⟨rfl, hg7⟩ := h9 _ rfl
    refine lv_sipush (v := 1429) hx hb dX12_back_16 (by decide) ?_
    refine tw_iald (i := 1429) hx hb hK hT hg7 shm_3 rfl (by unfold vp_in; decide) dX12_back_19 (fun v9 m8 h9 => ?_)
    obtain ⟨x9, rfl, gx9, kx9⟩ := (gp_any h9)
    have q7 := gq_at hT hg7 shm_3 (by decide) m8
    have q6 := w_hou (z := wZ0) (n := vN) (h := vH) (b := vB) (c := vC) (i := (1429 : Int32).toNatClampNeg) (by decide)
    have t10 : vH ≤ x9.toInt ∧ x9.toInt ≤ vH := ⟨by rw [← q6.1]; exact q7.1, by rw [← q6.2]; exact q7.2.1⟩
    refine lv_aload_n hx hb dX12_back_20 rfl (lv_at hl 0 rfl) ?_
    have hFc := gA_free hG hA hS
    refine va_calli (va_runV (As := []) (rest := [.int x9]) ⟨hx, hb, hml, hown, hts⟩ (s_hour l dC dI kA adK adV G H q wZ0 wN wH wB wC wL wK wU wV (wP wZ0 vN vH vB vC vL vK vU vV) im PM PT lS lB lE lN o0 hT hr_o0 (fun _ => Int.le_refl 0) hgn hgh hgb hgc hgi hgu) (cwV 0 hts (goodIn_app (goodIn_r _ [6, 7, 8, 9] rfl (by decide +kernel)) (goodIn_ca (goodIn_r _ [4, 5] rfl (by decide +kernel)) (bs_in _ _))) rfl rfl rfl (by decide +kernel) ⟨(Nat.le_of_ble_eq_true rfl), (Nat.le_of_ble_eq_true rfl)⟩) ⟨fun a U g mk q => by obtain ⟨q0, q1, qK, qE⟩ := q; exact ⟨q0, q1, va_K.moved (u := U) (U := U.calling g mk a) (Vm.Alike.refl U.vm) qK, EVS.blind g mk a qE⟩, gH_rc hK hT hr_o0 shm_0 rfl, fun U hU hW => ⟨rfl, hU, va_K.moved hW.alike hK, hE.call hS hFc hU hW⟩⟩ rfl rfl hl.1 rfl (lv_room (Nat.le_of_ble_eq_true rfl)) dX12_back_21 ⟨(Nat.le_of_ble_eq_true rfl), (Nat.le_of_ble_eq_true rfl)⟩) hS (fun q _ h => hFc q h) hFc (fun r11 u t H locs ht hvm hw12 hB _ _ hS => ?_)
    obtain ⟨hT, hF1⟩ := hB
    rw [ht] at hT hF1
    have m13 := (hF1.fld hr_o0 skm_0 (k := 3) (by decide) (by decide)).trans m2
    have m14 := (hF1.fld hr_o0 skm_0 (k := 0) (by decide) (by decide)).trans m1
    have m15 := (el_kept (hF1.arr hg7 skm_3 (by decide))).trans m8
    have hF := hF.more hF1 (by decide)
    try dsimp only at hw12
    obtain ⟨h16, hf17⟩ := hw12
    refine lv_icmp_le (tgt := 29) hx hb dX12_back_24 (by decide) (fun c18 => ?_) (fun c18 => ?_)
    · have t19 : x9.toInt ≤ r11.toInt := ti_le c18 rfl rfl
      refine lv_iconst (v := 0) hx hb dX12_back_29 (by decide) ?_
      refine lv_istore_n (lv' := [(1, .int 0), (0, .ref o0)]) hx hb dX12_back_30 rfl hl (by decide) rfl (fun ls hl => ?_)
      have key38 : ∀ (n38 i20 : Nat), i20 + n38 = 1749 → 0 ≤ i20 → ∀ (H : Heap) (locs : List Loc), gH (dC, dI) kA (SHm q (pcP (wP wZ0 vN vH vB vC vL vK vU vV) (wP wZ0 wN wH wB wC wL wK wU wV) i20) (wP wZ0 vN vH vB vC vL vK vU vV) im PM PT lS lB lE lN) G H → gF (dC, dI) SKm G ([(0, 0), (0, 9), (2, 0)] : List (Nat × Nat)) s.heap H → va_S A s.heap H locs → el H o0 (dI 15 3) = some (.int him) → el H o0 (dI 15 0) = some (.int 0) → el H (q 2) (1429 : Int32).toNatClampNeg = some (.int x9) → ∀ ls : Array Slot, lv_has ls 2 [(1, .int (nI i20)), (0, .ref o0)] → W p l e (headSpec w_s_backE ({ frames := 1, cells := 0, slots := 0, locals := 20 })).room s m #[.ref o0] below meth c H locs 0 0 (MQ below (va_Qi (fun (r : Int32) (u : (Nat → Int) × Int × Int × Int × (Nat → Prop) × (Nat → Prop) × (Nat → Nat) × (Nat → Nat)) => match u with | (wN1, wH1, wB1, wC1, wL1, wK1, wU1, wV1) => (0 ≤ r.toInt ∧ r.toInt ≤ 1) ∧ (((him.toInt = 0 ∨ wH < vH) ∧ r.toInt = 0 ∧ wN1 = wN ∧ wH1 = wH ∧ wB1 = wB ∧ wC1 = wC ∧ wL1 = wL ∧ wK1 = wK ∧ wU1 = wU ∧ wV1 = wV) ∨ (him.toInt = 1 ∧ vH ≤ wH ∧ r.toInt = 1 ∧ wN1 = vN ∧ wH1 = vH ∧ wB1 = vB ∧ wC1 = vC ∧ wL1 = vL ∧ wK1 = vK ∧ wU1 = vU ∧ wV1 = vV))) (fun (u : (Nat → Int) × Int × Int × Int × (Nat → Prop) × (Nat → Prop) × (Nat → Nat) × (Nat → Nat)) (t : State) => match u with | (wN1, wH1, wB1, wC1, wL1, wK1, wU1, wV1) => gH (dC, dI) kA (SHm q (wP wZ0 wN1 wH1 wB1 wC1 wL1 wK1 wU1 wV1) (wP wZ0 vN vH vB vC vL vK vU vV) im PM PT lS lB lE lN) G t.heap ∧ gF (dC, dI) SKm G ([(0, 0), (0, 9), (2, 0)] : List (Nat × Nat)) s.heap t.heap) A) #[.ref o0] s 0 0 A) (F0 m 31 ls []) := by
        intro n38
        induction n38 with
        | zero =>
          intro i20 hn38 hlo39  H locs hT hF hS m21 m22 m23 ls hl
          obtain rfl : 1749 = i20 := by omega
          refine lv_iload_n hx hb dX12_back_31 rfl (lv_at hl 0 rfl) ?_
          refine lv_sipush (v := 1749) hx hb dX12_back_32 (by decide) ?_
          refine lv_icmp_ge (tgt := 56) hx hb dX12_back_35 (by decide) (fun c40 => ?_) (fun c40 => (by exfalso; have q9 : ((1749 : Nat) : Int) < 1749 := ti_nle c40 (by decide) (nI_toInt (by omega)); omega))
          have t41 : 1749 ≤ ((1749 : Nat) : Int) := ti_le c40 (by decide) (nI_toInt (by omega))
          have hT : gH (dC, dI) kA (SHm q (wP wZ0 vN vH vB vC vL vK vU vV) (wP wZ0 vN vH vB vC vL vK vU vV) im PM PT lS lB lE lN) G H := SHm_w hT (fun _ hi _ p => pc_all hi p)
          refine lv_aload_n hx hb dX12_back_56 rfl (lv_at hl 1 rfl) ?_
          refine lv_iconst (v := 0) hx hb dX12_back_57 (by decide) ?_
          refine tw_put (v := .int 0) (ty := .int) hx hb hts bF_X12 tyX12 tyX12_ok nmX12 hown hK hT hG hS hr_o0 shm_0 rfl 9 (by decide) (ht_at hts 9 rfl) (fun _ h9 => h9) rfl (by decide +kernel) rfl rfl (gl_at rfl (gi_of (show (0 : Int32).toInt = 0 from (by decide)) (by first | decide | omega) (by first | decide | omega))) dX12_back_58 (fun H locs hT oq m42 oj hS => ?_)
          have hF := hF.put hr_o0 skm_0 oq oj (by decide)
          refine lv_iconst (v := 1) hx hb dX12_back_61 (by decide) ?_
          exact W.zret (v := 1) hx hb hr (by decide) (fun t ht hW => ⟨⟨1, (vN, vH, vB, vC, vL, vK, vU, vV), rfl, (by exact ⟨(rg_t (a := 1) (by decide) (by first | decide | omega) (by first | decide | omega)), (Or.inr ⟨by omega, by omega, by decide, rfl, rfl, rfl, rfl, rfl, rfl, rfl, rfl⟩)⟩), by (try dsimp only); rw [ht]; exact ⟨hT, hF⟩⟩, hS.F ht⟩) hS.2.2 dX12_back_62
        | succ n38 ih38 =>
          intro i20 hn38 hlo39  H locs hT hF hS m21 m22 m23 ls hl
          have hlt45 : i20 < 1749 := by omega
          refine lv_iload_n hx hb dX12_back_31 rfl (lv_at hl 0 rfl) ?_
          refine lv_sipush (v := 1749) hx hb dX12_back_32 (by decide) ?_
          refine lv_icmp_ge (tgt := 56) hx hb dX12_back_35 (by decide) (fun c46 => (by exfalso; have q9 : 1749 ≤ ((i20 : Nat) : Int) := ti_le c46 (by decide) (nI_toInt (by omega)); omega)) (fun c46 => ?_)
          have t47 : ((i20 : Nat) : Int) < 1749 := ti_nle c46 (by decide) (nI_toInt (by omega))
          refine lv_aload_n hx hb dX12_back_38 rfl (lv_at hl 1 rfl) ?_
          refine tw_get hx hb hts bF_X12 hown hK hT hr_o0 shm_0 rfl 1 (by decide) (ht_at hts 4 rfl) (fun _ h9 => h9) dX12_back_39 (fun v9 m48 h9 => ?_)
          obtain ⟨rfl, hg49⟩ := h9 _ rfl
          refine lv_iload_n hx hb dX12_back_42 rfl (lv_at hl 0 rfl) ?_
          refine lv_aload_n hx hb dX12_back_43 rfl (lv_at hl 1 rfl) ?_
          refine tw_get hx hb hts bF_X12 hown hK hT hr_o0 shm_0 rfl 2 (by decide) (ht_at hts 2 rfl) (fun _ h9 => h9) dX12_back_44 (fun v9 m50 h9 => ?_)
          obtain ⟨rfl, hg51⟩ := h9 _ rfl
          refine lv_iload_n hx hb dX12_back_47 rfl (lv_at hl 0 rfl) ?_
          refine tw_iald (i := (nI i20)) hx hb hK hT hg7 shm_3 rfl (vp_in_nI (by omega) (by decide)) dX12_back_48 (fun v9 m52 h9 => ?_)
          obtain ⟨x53, rfl, gx53, kx53⟩ := (gp_any h9)
          have t54 : (nI i20).toNatClampNeg = i20 := tn_nI (by omega)
          refine tw_iast2 (Sg1 := (SHm q (pcP (wP wZ0 vN vH vB vC vL vK vU vV) (wP wZ0 wN wH wB wC wL wK wU wV) (i20 + 1)) (wP wZ0 vN vH vB vC vL vK vU vV) im PM PT lS lB lE lN)) (i := (nI i20)) (x := x53) hx hb hK hT hG hS hg49 shm_2 rfl shm_2 shm_o2 (fun b9 h9 => hgu b9 1 h9) (vp_in_nI (by omega) (by decide)) (⟨_, rfl, by rw [show (nI i20).toNatClampNeg = i20 from tn_nI (by omega)]; exact pc_at (by have q8 := gq_at hT hg7 shm_3 (by have q9 := tn_of (show (nI i20).toInt = ((i20 : Nat) : Int) from (nI_toInt (by omega))) (by omega); omega) m52; rw [show (nI i20).toNatClampNeg = i20 from tn_nI (by omega)] at q8; exact q8)⟩) (fun k9 hk9 hne9 v9 hv9 he9 => by obtain ⟨x9, rfl, p9⟩ := he9; exact ⟨x9, rfl, pc_st (by omega) p9⟩) dX12_back_49 (fun H locs hT oq m55 oi hS => ?_)
          have hF := hF.ast hg49 skm_2 oq (by decide)
          have m56 := (el_kept (oq _ (gne hr_o0 hg49 (by decide)))).trans m21
          have m57 := (el_kept (oq _ (gne hr_o0 hg49 (by decide)))).trans m22
          have m58 := (el_kept (oq _ (gne hg7 hg49 (by decide)))).trans m23
          refine lv_iinc (v := nI (i20 + 1)) (lv' := [(1, .int (nI (i20 + 1))), (0, .ref o0)]) hx hb dX12_back_50 hl (k := 0) rfl (nI_add i20 1) (by decide) rfl (fun ls hl => ?_)
          refine lv_goto (tgt := 31) hx hb dX12_back_53 (by decide) ?_
          exact ih38 (i20 + 1) (by omega) (by omega) _ _ hT hF hS m56 m57 m58 ls (lv_sub hl [0, 1] rfl)
      have hT : gH (dC, dI) kA (SHm q (pcP (wP wZ0 vN vH vB vC vL vK vU vV) (wP wZ0 wN wH wB wC wL wK wU wV) 0) (wP wZ0 vN vH vB vC vL vK vU vV) im PM PT lS lB lE lN) G H := SHm_w hT (fun _ _ _ p => pc_0 p)
      exact key38 (1749 - 0) 0 (by omega) (Nat.le_refl _) _ _ hT hF hS m13 m14 m15 ls (lv_sub hl [0, 1] rfl)
    · have t60 : r11.toInt < x9.toInt := ti_nle c18 rfl rfl
      refine lv_iconst (v := 0) hx hb dX12_back_27 (by decide) ?_
      exact W.zret (v := 0) hx hb hr (by decide) (fun t ht hW => ⟨⟨0, (wN, wH, wB, wC, wL, wK, wU, wV), rfl, (by exact ⟨(rg_t (a := 0) (by decide) (by first | decide | omega) (by first | decide | omega)), (Or.inl ⟨by omega, by decide, rfl, rfl, rfl, rfl, rfl, rfl, rfl, rfl⟩)⟩), by (try dsimp only); rw [ht]; exact ⟨hT, hF⟩⟩, hS.F ht⟩) hS.2.2 dX12_back_28
def w_s_isInE : List Cond := .code yX12_isIn cX12_isIn 5 (some .boolean) :: (HAppend.hAppend (α := List Cond) (β := List Cond) (γ := List Cond) [.methodLink RX12 207 Lib.Math.min.name, .static Lib.Math.min.name, .initialized "java/lang/Math", .code Lib.Math.min.name Lib.Math.min.code 2 (some .int), .methodLink RX12 211 Lib.Math.max.name, .static Lib.Math.max.name, .code Lib.Math.max.name Lib.Math.max.code 2 (some .int), .code yX12_in cX12_in 3 (some .boolean), .methodLink RX12 197 yX12_in, .static yX12_in, .initialized RX12] bs)
set_option maxHeartbeats 4000000 in
set_option maxRecDepth 100000 in
theorem s_isInE (l : Launch) (dC : Nat → ClassId) (dI : Nat → Nat → Nat) (kA : Nat → ClassId) (adK adV : Nat → Nat) (G : gT) (H0 : Heap) (q : Nat → Nat) (wZ wN : Nat → Int) (wH wB wC : Int) (wL wK : Nat → Prop) (wU wV : Nat → Nat) (PI : Nat → Int → Prop) (im : Int) (PM PT : Nat → Int → Prop) (lS lB lE : Nat → Nat → Int → Prop) (lN : Nat → Int) (sq : Int32) (a1 : Int32) (a2 : Int32)  (hT : gH (dC, dI) kA (SHm q (wP wZ wN wH wB wC wL wK wU wV) PI im PM PT lS lB lE lN) G H0) (hq0 : 0 ≤ sq.toInt ∧ sq.toInt ≤ 95) (hq1 : 0 ≤ a1.toInt ∧ a1.toInt ≤ 95) (hq2 : 0 ≤ a2.toInt ∧ a2.toInt ≤ 95) (hgz : ∀ i, 0 ≤ wZ i) (hgn : ∀ i, 6500000 ≤ wN i ∧ wN i ≤ 20200000) (hgh : 0 ≤ wH ∧ wH ≤ 40000) (hgb : 0 ≤ wB ∧ wB ≤ 3850000) (hgc : 0 ≤ wC ∧ wC ≤ 30) (hgi : 0 ≤ im ∧ im ≤ 1) (hgu : ∀ a t, G a = some (t + 1) → a = q t) : Met l yX12_isIn w_s_isInE ({ frames := 1, cells := 0, slots := 0, locals := 40 }) (va_Pc [.int sq, .int a1, .int a2] (fun U => U.heap = H0 ∧ va_K (dC, dI) vwCl (tyl kA) U ∧ EVS adK adV (gA G H0.size) U U.heap)) (va_Qi (fun (r : Int32) (u : Unit) => (0 ≤ r.toInt ∧ r.toInt ≤ 1) ∧ ((r.toInt = 1 ∧ (((a1.toInt % 12 ≤ sq.toInt % 12 ∨ a2.toInt % 12 ≤ sq.toInt % 12) ∧ (sq.toInt % 12 ≤ a1.toInt % 12 ∨ sq.toInt % 12 ≤ a2.toInt % 12)) ∧ ((a1.toInt / 12 ≤ sq.toInt / 12 ∨ a2.toInt / 12 ≤ sq.toInt / 12) ∧ (sq.toInt / 12 ≤ a1.toInt / 12 ∨ sq.toInt / 12 ≤ a2.toInt / 12)))) ∨ (r.toInt = 0 ∧ ¬ (((a1.toInt % 12 ≤ sq.toInt % 12 ∨ a2.toInt % 12 ≤ sq.toInt % 12) ∧ (sq.toInt % 12 ≤ a1.toInt % 12 ∨ sq.toInt % 12 ≤ a2.toInt % 12)) ∧ ((a1.toInt / 12 ≤ sq.toInt / 12 ∨ a2.toInt / 12 ≤ sq.toInt / 12) ∧ (sq.toInt / 12 ≤ a1.toInt / 12 ∨ sq.toInt / 12 ≤ a2.toInt / 12)))))) (fun (_ : Unit) (t : State) => gH (dC, dI) kA (SHm q (wP wZ wN wH wB wC wL wK wU wV) PI im PM PT lS lB lE lN) G t.heap ∧ gF (dC, dI) SKm G ([] : List (Nat × Nat)) H0 t.heap) (gA G H0.size)) 0 0 (gA G H0.size) := by
  refine Met.ofW (cc := cX12_isIn) (maxL := 5) (ret := (some .boolean)) (by decide) rfl ?_
  intro p e s m args below meth c s₁ B hml hv
  obtain ⟨rfl, hH0, hK, hE⟩ := hv
  have hx := B.exec
  have hb := B.bytes
  have hr := B.returns
  have hts := atoms_spec (ws := w_s_isInE) B.pre
  have hown : s.vm.findClass RX12 = some m.cls := findClass_of_methodNamed B.named
  have hlocks := B.notSynchronized
  subst hH0
  generalize hAe : gA G s.heap.size = A at hE ⊢
  have hA : ∀ q : Nat, s.heap.size ≤ q → A q := fun q h => by rw [← hAe]; exact Or.inr h
  have hG := gA_of hAe
  have hS : va_S A s.heap s.heap [] := va_S.rf
  have hF : gF (dC, dI) SKm G ([] : List (Nat × Nat)) s.heap s.heap := gF.rf
  have hl := lv_entry ([.int sq, .int a1, .int a2]) (n := 5) (Nat.le_of_ble_eq_true rfl)
  rw [lg_entry_eq]
  generalize (lg_sl ([.int sq, .int a1, .int a2]) ++ List.replicate (5 - (lg_sl ([.int sq, .int a1, .int a2])).length) Slot.unset).toArray = ls at hl ⊢
  have hl : lv_has ls 5 [(0, .int sq), (1, .int a1), (2, .int a2)] := hl
  refine lv_iload_n hx hb dX12_isIn_0 rfl (lv_at hl 0 rfl) ?_
  refine lv_bipush (v := 12) hx hb dX12_isIn_1 (by decide) ?_
  refine lv_irem hx hb dX12_isIn_3 (by decide) ?_
  refine lv_topi (fun x1 ex1 => ?_)
  have t2 : x1.toInt = sq.toInt % 12 := ti_rem ex1 rfl (by decide) (by omega) (by omega)
  refine lv_istore_n (lv' := [(3, .int x1), (0, .int sq), (1, .int a1), (2, .int a2)]) hx hb dX12_isIn_4 rfl hl (by decide) rfl (fun ls hl => ?_)
  refine lv_iload_n hx hb dX12_isIn_5 rfl (lv_at hl 1 rfl) ?_
  refine lv_bipush (v := 12) hx hb dX12_isIn_6 (by decide) ?_
  refine lv_idiv hx hb dX12_isIn_8 (by decide) ?_
  refine lv_topi (fun x3 ex3 => ?_)
  have t4 : x3.toInt = sq.toInt / 12 := ti_div ex3 rfl (by decide) (by omega) (by omega)
  refine lv_istore (lv' := [(4, .int x3), (3, .int x1), (0, .int sq), (1, .int a1), (2, .int a2)]) hx hb dX12_isIn_9 hl (by decide) rfl (fun ls hl => ?_)
  refine lv_iload_n hx hb dX12_isIn_11 rfl (lv_at hl 1 rfl) ?_
  refine lv_iload_n hx hb dX12_isIn_12 rfl (lv_at hl 3 rfl) ?_
  refine lv_bipush (v := 12) hx hb dX12_isIn_13 (by decide) ?_
  refine lv_irem hx hb dX12_isIn_15 (by decide) ?_
  refine lv_topi (fun x5 ex5 => ?_)
  have t6 : x5.toInt = a1.toInt % 12 := ti_rem ex5 rfl (by decide) (by omega) (by omega)
  refine lv_iload_n hx hb dX12_isIn_16 rfl (lv_at hl 4 rfl) ?_
  refine lv_bipush (v := 12) hx hb dX12_isIn_17 (by decide) ?_
  refine lv_irem hx hb dX12_isIn_19 (by decide) ?_
  refine lv_topi (fun x7 ex7 => ?_)
  have t8 : x7.toInt = a2.toInt % 12 := ti_rem ex7 rfl (by decide) (by omega) (by omega)
  refine va_mmin hx hb (hml.trans hl.1.symm) hown (ht_at hts 0 rfl) (ht_at hts 1 rfl) (ht_at hts 2 rfl) (ht_at hts 3 rfl) (Nat.le_of_ble_eq_true rfl) (Nat.le_of_ble_eq_true rfl) (Nat.le_of_ble_eq_true rfl) (Nat.le_of_ble_eq_true rfl) dX12_isIn_20 ?_
  refine lv_topi (fun x9 ex9 => ?_)
  have t10 : x9.toInt ≤ x5.toInt ∧ x9.toInt ≤ x7.toInt ∧ (x9.toInt = x5.toInt ∨ x9.toInt = x7.toInt) := mn_f ex9 rfl rfl
  refine lv_iload_n hx hb dX12_isIn_23 rfl (lv_at hl 3 rfl) ?_
  refine lv_bipush (v := 12) hx hb dX12_isIn_24 (by decide) ?_
  refine lv_irem hx hb dX12_isIn_26 (by decide) ?_
  refine lv_topi (fun x11 ex11 => ?_)
  have t12 : x11.toInt = a1.toInt % 12 := ti_rem ex11 rfl (by decide) (by omega) (by omega)
  refine lv_iload_n hx hb dX12_isIn_27 rfl (lv_at hl 4 rfl) ?_
  refine lv_bipush (v := 12) hx hb dX12_isIn_28 (by decide) ?_
  refine lv_irem hx hb dX12_isIn_30 (by decide) ?_
  refine lv_topi (fun x13 ex13 => ?_)
  have t14 : x13.toInt = a2.toInt % 12 := ti_rem ex13 rfl (by decide) (by omega) (by omega)
  refine va_mmax hx hb (hml.trans hl.1.symm) hown (ht_at hts 4 rfl) (ht_at hts 5 rfl) (ht_at hts 2 rfl) (ht_at hts 6 rfl) (Nat.le_of_ble_eq_true rfl) (Nat.le_of_ble_eq_true rfl) (Nat.le_of_ble_eq_true rfl) (Nat.le_of_ble_eq_true rfl) dX12_isIn_31 ?_
  refine lv_topi (fun x15 ex15 => ?_)
  have t16 : x11.toInt ≤ x15.toInt ∧ x13.toInt ≤ x15.toInt ∧ (x15.toInt = x11.toInt ∨ x15.toInt = x13.toInt) := mx_f ex15 rfl rfl
  have hFc := gA_free hG hA hS
  refine va_calli (va_runS (As := [.int x1, .int x9, .int x15]) (rest := []) ⟨hx, hb, hml, hown, hts⟩ (s_in l dC dI kA adK adV G s.heap q wZ wN wH wB wC wL wK wU wV PI im PM PT lS lB lE lN x1 x9 x15 hT hgz hgn hgh hgb hgc hgi hgu) (va_cwS 3 hts (goodIn_app (goodIn_r _ [9, 10, 11] rfl (by decide +kernel)) (goodIn_ca (goodIn_r _ [8] rfl (by decide +kernel)) (bs_in _ _))) rfl rfl rfl (by decide +kernel) ⟨(Nat.le_of_ble_eq_true rfl), (Nat.le_of_ble_eq_true rfl)⟩) ⟨fun a U g mk q => by obtain ⟨q0, q1, qK, qE⟩ := q; exact ⟨q0, q1, va_K.moved (u := U) (U := U.calling g mk a) (Vm.Alike.refl U.vm) qK, EVS.blind g mk a qE⟩, fun U hU hW => ⟨rfl, hU, va_K.moved hW.alike hK, hE.call hS hFc hU hW⟩⟩ rfl rfl hl.1 rfl (lv_room (Nat.le_of_ble_eq_true rfl)) dX12_isIn_34 ⟨(Nat.le_of_ble_eq_true rfl), (Nat.le_of_ble_eq_true rfl)⟩) hS (fun q _ h => hFc q h) hFc (fun r17 u t H locs ht hvm hw18 hB _ _ hS => ?_)
  obtain ⟨hT, hF1⟩ := hB
  rw [ht] at hT hF1
  have hF := hF.more hF1 (by decide)
  try dsimp only at hw18
  obtain ⟨h19, hi20, hi21⟩ := hw18
  refine lv_if_eq (tgt := 74) hx hb dX12_isIn_37 (by decide) (fun c22 => ?_) (fun c22 => ?_)
  · have t23 : r17.toInt = 0 := ti_eq c22 rfl (by decide)
    have t24 : x1.toInt < x9.toInt ∨ x15.toInt < x1.toInt := hi21 c22
    refine lv_iconst (v := 0) hx hb dX12_isIn_74 (by decide) ?_
    exact W.zret (v := 0) hx hb hr (by decide) (fun t ht hW => ⟨⟨0, (), rfl, (by exact ⟨(rg_t (a := 0) (by decide) (by first | decide | omega) (by first | decide | omega)), (by have : (0 : Int32).toInt = 0 := (by decide); omega)⟩), by (try dsimp only); rw [ht]; exact ⟨hT, hF⟩⟩, hS.F ht⟩) hS.2.2 dX12_isIn_75
  · have t25 : r17.toInt ≠ 0 := ti_ne c22 rfl (by decide)
    have t26 : x9.toInt ≤ x1.toInt ∧ x1.toInt ≤ x15.toInt := hi20 ((bit_of ⟨by omega, by omega⟩).resolve_left c22)
    refine lv_iload hx hb dX12_isIn_40 (lv_at hl 0 rfl) ?_
    refine lv_iload_n hx hb dX12_isIn_42 rfl (lv_at hl 3 rfl) ?_
    refine lv_bipush (v := 12) hx hb dX12_isIn_43 (by decide) ?_
    refine lv_idiv hx hb dX12_isIn_45 (by decide) ?_
    refine lv_topi (fun x27 ex27 => ?_)
    have t28 : x27.toInt = a1.toInt / 12 := ti_div ex27 rfl (by decide) (by omega) (by omega)
    refine lv_iload_n hx hb dX12_isIn_46 rfl (lv_at hl 4 rfl) ?_
    refine lv_bipush (v := 12) hx hb dX12_isIn_47 (by decide) ?_
    refine lv_idiv hx hb dX12_isIn_49 (by decide) ?_
    refine lv_topi (fun x29 ex29 => ?_)
    have t30 : x29.toInt = a2.toInt / 12 := ti_div ex29 rfl (by decide) (by omega) (by omega)
    refine va_mmin hx hb (hml.trans hl.1.symm) hown (ht_at hts 0 rfl) (ht_at hts 1 rfl) (ht_at hts 2 rfl) (ht_at hts 3 rfl) (Nat.le_of_ble_eq_true rfl) (Nat.le_of_ble_eq_true rfl) (Nat.le_of_ble_eq_true rfl) (Nat.le_of_ble_eq_true rfl) dX12_isIn_50 ?_
    refine lv_topi (fun x31 ex31 => ?_)
    have t32 : x31.toInt ≤ x27.toInt ∧ x31.toInt ≤ x29.toInt ∧ (x31.toInt = x27.toInt ∨ x31.toInt = x29.toInt) := mn_f ex31 rfl rfl
    refine lv_iload_n hx hb dX12_isIn_53 rfl (lv_at hl 3 rfl) ?_
    refine lv_bipush (v := 12) hx hb dX12_isIn_54 (by decide) ?_
    refine lv_idiv hx hb dX12_isIn_56 (by decide) ?_
    refine lv_topi (fun x33 ex33 => ?_)
    have t34 : x33.toInt = a1.toInt / 12 := ti_div ex33 rfl (by decide) (by omega) (by omega)
    refine lv_iload_n hx hb dX12_isIn_57 rfl (lv_at hl 4 rfl) ?_
    refine lv_bipush (v := 12) hx hb dX12_isIn_58 (by decide) ?_
    refine lv_idiv hx hb dX12_isIn_60 (by decide) ?_
    refine lv_topi (fun x35 ex35 => ?_)
    have t36 : x35.toInt = a2.toInt / 12 := ti_div ex35 rfl (by decide) (by omega) (by omega)
    refine va_mmax hx hb (hml.trans hl.1.symm) hown (ht_at hts 4 rfl) (ht_at hts 5 rfl) (ht_at hts 2 rfl) (ht_at hts 6 rfl) (Nat.le_of_ble_eq_true rfl) (Nat.le_of_ble_eq_true rfl) (Nat.le_of_ble_eq_true rfl) (Nat.le_of_ble_eq_true rfl) dX12_isIn_61 ?_
    refine lv_topi (fun x37 ex37 => ?_)
    have t38 : x33.toInt ≤ x37.toInt ∧ x35.toInt ≤ x37.toInt ∧ (x37.toInt = x33.toInt ∨ x37.toInt = x35.toInt) := mx_f ex37 rfl rfl
    have hFc := gA_free hG hA hS
    refine va_calli (va_runS (As := [.int x3, .int x31, .int x37]) (rest := []) ⟨hx, hb, hml, hown, hts⟩ (s_in l dC dI kA adK adV G H q wZ wN wH wB wC wL wK wU wV PI im PM PT lS lB lE lN x3 x31 x37 hT hgz hgn hgh hgb hgc hgi hgu) (va_cwS 3 hts (goodIn_app (goodIn_r _ [9, 10, 11] rfl (by decide +kernel)) (goodIn_ca (goodIn_r _ [8] rfl (by decide +kernel)) (bs_in _ _))) rfl rfl rfl (by decide +kernel) ⟨(Nat.le_of_ble_eq_true rfl), (Nat.le_of_ble_eq_true rfl)⟩) ⟨fun a U g mk q => by obtain ⟨q0, q1, qK, qE⟩ := q; exact ⟨q0, q1, va_K.moved (u := U) (U := U.calling g mk a) (Vm.Alike.refl U.vm) qK, EVS.blind g mk a qE⟩, fun U hU hW => ⟨rfl, hU, va_K.moved hW.alike hK, hE.call hS hFc hU hW⟩⟩ rfl rfl hl.1 rfl (lv_room (Nat.le_of_ble_eq_true rfl)) dX12_isIn_64 ⟨(Nat.le_of_ble_eq_true rfl), (Nat.le_of_ble_eq_true rfl)⟩) hS (fun q _ h => hFc q h) hFc (fun r39 u t H locs ht hvm hw40 hB _ _ hS => ?_)
    obtain ⟨hT, hF1⟩ := hB
    rw [ht] at hT hF1
    have hF := hF.more hF1 (by decide)
    try dsimp only at hw40
    obtain ⟨h41, hi42, hi43⟩ := hw40
    refine lv_if_eq (tgt := 74) hx hb dX12_isIn_67 (by decide) (fun c44 => ?_) (fun c44 => ?_)
    · have t45 : r39.toInt = 0 := ti_eq c44 rfl (by decide)
      have t46 : x3.toInt < x31.toInt ∨ x37.toInt < x3.toInt := hi43 c44
      refine lv_iconst (v := 0) hx hb dX12_isIn_74 (by decide) ?_
      exact W.zret (v := 0) hx hb hr (by decide) (fun t ht hW => ⟨⟨0, (), rfl, (by exact ⟨(rg_t (a := 0) (by decide) (by first | decide | omega) (by first | decide | omega)), (by have : (0 : Int32).toInt = 0 := (by decide); omega)⟩), by (try dsimp only); rw [ht]; exact ⟨hT, hF⟩⟩, hS.F ht⟩) hS.2.2 dX12_isIn_75
    · have t47 : r39.toInt ≠ 0 := ti_ne c44 rfl (by decide)
      have t48 : x31.toInt ≤ x3.toInt ∧ x3.toInt ≤ x37.toInt := hi42 ((bit_of ⟨by omega, by omega⟩).resolve_left c44)
      refine lv_iconst (v := 1) hx hb dX12_isIn_70 (by decide) ?_
      refine lv_goto (tgt := 75) hx hb dX12_isIn_71 (by decide) ?_
      exact W.zret (v := 1) hx hb hr (by decide) (fun t ht hW => ⟨⟨1, (), rfl, (by exact ⟨(rg_t (a := 1) (by decide) (by first | decide | omega) (by first | decide | omega)), (by have : (1 : Int32).toInt = 1 := (by decide); omega)⟩), by (try dsimp only); rw [ht]; exact ⟨hT, hF⟩⟩, hS.F ht⟩) hS.2.2 dX12_isIn_75
def w_s_noSquareE : List Cond := .code yX12_noSquare cX12_noSquare 1 (some .boolean) :: (HAppend.hAppend (α := List Cond) (β := List Cond) (γ := List Cond) [.code yX12_in cX12_in 3 (some .boolean), .methodLink RX12 197 yX12_in, .static yX12_in, .initialized RX12] bs)
