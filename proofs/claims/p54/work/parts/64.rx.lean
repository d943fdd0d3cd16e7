def w_s_hoursE : List Cond := .code yX12_hours cX12_hours 3 (some .int) :: (HAppend.hAppend (α := List Cond) (β := List Cond) (γ := List Cond) [.fieldLink RX12 194 "SeaLandModel" "thrown" "I", .code yX12_in cX12_in 3 (some .boolean), .methodLink RX12 197 yX12_in, .static yX12_in, .initialized RX12, .code yX12_throwsIf cX12_throwsIf 3 (some .boolean), .methodLink RX12 224 yX12_throwsIf, .instanceMethod yX12_throwsIf, .selects RX12 yX12_throwsIf yX12_throwsIf, .code yX12_hour cX12_hour 1 (some .int), .fieldLink RX12 9 "SeaLandModel" "world" "[I", .methodLink RX12 228 yX12_hour, .instanceMethod yX12_hour, .selects RX12 yX12_hour yX12_hour, .constant RX12 242 40000, .code yX12_anHour cX12_anHour 6 none, .code yX12_outside cX12_outside 4 (some .int), .methodLink RX12 247 yX12_outside, .instanceMethod yX12_outside, .selects RX12 yX12_outside yX12_outside, .code yX12_rain cX12_rain 3 (some .int), .code yX12_telling cX12_telling 6 (some .int), .methodLink RX12 243 yX12_telling, .instanceMethod yX12_telling, .selects RX12 yX12_telling yX12_telling, .methodLink RX12 253 yX12_rain, .instanceMethod yX12_rain, .selects RX12 yX12_rain yX12_rain, .code yX12_wind cX12_wind 7 (some .int), .methodLink RX12 211 Lib.Math.max.name, .static Lib.Math.max.name, .initialized "java/lang/Math", .code Lib.Math.max.name Lib.Math.max.code 2 (some .int), .methodLink RX12 250 yX12_wind, .instanceMethod yX12_wind, .selects RX12 yX12_wind yX12_wind, .code yX12_of cX12_of 3 (some .int), .code yX12_at cX12_at 2 (some .int), .methodLink RX12 214 yX12_at, .static yX12_at, .methodLink RX12 217 yX12_of, .instanceMethod yX12_of, .selects RX12 yX12_of yX12_of, .code yX12_sluices cX12_sluices 6 none, .code yX12_level cX12_level 2 (some .int), .code yX12_isLand cX12_isLand 2 (some .boolean), .methodLink RX12 235 yX12_isLand, .instanceMethod yX12_isLand, .selects RX12 yX12_isLand yX12_isLand, .methodLink RX12 285 yX12_level, .instanceMethod yX12_level, .selects RX12 yX12_level yX12_level, .methodLink RX12 207 Lib.Math.min.name, .static Lib.Math.min.name, .code Lib.Math.min.name Lib.Math.min.code 2 (some .int), .code yX12_leaves cX12_leaves 4 (some .int), .methodLink RX12 291 yX12_leaves, .instanceMethod yX12_leaves, .selects RX12 yX12_leaves yX12_leaves, .code yX12_brings cX12_brings 3 none, .methodLink RX12 294 yX12_brings, .instanceMethod yX12_brings, .selects RX12 yX12_brings yX12_brings, .methodLink RX12 307 yX12_sluices, .instanceMethod yX12_sluices, .selects RX12 yX12_sluices yX12_sluices, .code yX12_ditches cX12_ditches 5 none, .fieldLink RX12 16 "SeaLandModel" "moves" "[I", .fieldLink RX12 22 "SeaLandModel" "movesSalt" "[I", .fieldLink RX12 19 "SeaLandModel" "movesTo" "[I", .code yX12_hasDitch cX12_hasDitch 2 (some .boolean), .methodLink RX12 298 yX12_hasDitch, .instanceMethod yX12_hasDitch, .selects RX12 yX12_hasDitch yX12_hasDitch, .code yX12_beside cX12_beside 2 (some .int), .methodLink RX12 301 yX12_beside, .static yX12_beside, .methodLink RX12 310 yX12_ditches, .instanceMethod yX12_ditches, .selects RX12 yX12_ditches yX12_ditches, .code yX12_lifts cX12_lifts 7 none, .methodLink RX12 313 yX12_lifts, .instanceMethod yX12_lifts, .selects RX12 yX12_lifts yX12_lifts, .code yX12_dayEnds cX12_dayEnds 3 none, .methodLink RX12 316 yX12_dayEnds, .instanceMethod yX12_dayEnds, .selects RX12 yX12_dayEnds yX12_dayEnds, .code yX12_writesRow cX12_writesRow 2 none, .fieldLink RX12 238 "SeaLandModel" "rows" "I", .fieldLink RX12 25 "SeaLandModel" "rowTold" "[I", .fieldLink RX12 28 "SeaLandModel" "rowTrue" "[I", .methodLink RX12 319 yX12_writesRow, .instanceMethod yX12_writesRow, .selects RX12 yX12_writesRow yX12_writesRow, .code yX12_isDike cX12_isDike 2 (some .boolean), .methodLink RX12 272 yX12_isDike, .instanceMethod yX12_isDike, .selects RX12 yX12_isDike yX12_isDike, .code yX12_dikes cX12_dikes 6 none, .code yX12_seepOf cX12_seepOf 8 (some .int), .methodLink RX12 288 yX12_seepOf, .instanceMethod yX12_seepOf, .selects RX12 yX12_seepOf yX12_seepOf, .code yX12_crest cX12_crest 4 (some .int), .methodLink RX12 282 yX12_crest, .instanceMethod yX12_crest, .selects RX12 yX12_crest yX12_crest, .methodLink RX12 304 yX12_dikes, .instanceMethod yX12_dikes, .selects RX12 yX12_dikes yX12_dikes, .methodLink RX12 322 yX12_anHour, .instanceMethod yX12_anHour, .selects RX12 yX12_anHour yX12_anHour] bs)
set_option maxHeartbeats 4000000 in
set_option maxRecDepth 100000 in
theorem s_hoursE (l : Launch) (dC : Nat → ClassId) (dI : Nat → Nat → Nat) (kA : Nat → ClassId) (adK adV : Nat → Nat) (G : gT) (H0 : Heap) (q : Nat → Nat) (wZ wN : Nat → Int) (wH wB wC : Int) (wL wK : Nat → Prop) (wU wV : Nat → Nat) (PI : Nat → Int → Prop) (im : Int) (PM PT : Nat → Int → Prop) (lS lB lE : Nat → Nat → Int → Prop) (lN : Nat → Int) (o0 : Nat) (p0 : Int32)  (hT : gH (dC, dI) kA (SHm q (wP wZ0 wN wH wB wC wL wK wU wV) PI im PM PT lS lB lE lN) G H0) (hr_o0 : G o0 = some 0) (hgw : wG wC wL wK wU wV) (hn_ : ∀ i, 6500000 ≤ wN i ∧ wN i ≤ 6500000 + 340 * wH) (hb_ : wB ≤ 96 * wH) (hgz : ∀ i, 0 ≤ wZ i) (hgn : ∀ i, 6500000 ≤ wN i ∧ wN i ≤ 20200000) (hgh : 0 ≤ wH ∧ wH ≤ 40000) (hgb : 0 ≤ wB ∧ wB ≤ 3850000) (hgc : 0 ≤ wC ∧ wC ≤ 30) (hgi : 0 ≤ im ∧ im ≤ 1) (hgu : ∀ a t, G a = some (t + 1) → a = q t) : Met l yX12_hours w_s_hoursE ({ frames := 5, cells := 0, slots := 0, locals := 120 }) (va_Pc [.ref o0, .int p0] (fun U => U.heap = H0 ∧ va_K (dC, dI) vwCl (tyl kA) U ∧ EVS adK adV (gA G H0.size) U U.heap)) (va_Qi (fun (r : Int32) (u : Int32 × Int × (Nat → Int) × Int × (Nat → Int → Prop) × (Nat → Int → Prop)) => match u with | (t1, wH1, wN1, wB1, PM1, PT1) => (0 ≤ r.toInt ∧ r.toInt ≤ 40000) ∧ (0 ≤ wH1 ∧ wH1 ≤ 40000) ∧ (∀ i, 6500000 ≤ wN1 i ∧ wN1 i ≤ 6500000 + 340 * wH1) ∧ (0 ≤ wB1 ∧ wB1 ≤ 96 * wH1) ∧ (((0 ≤ p0.toInt ∧ p0.toInt ≤ 240) ∧ t1.toInt = 0 ∧ r.toInt = wH1 ∧ ((wH1 = wH + p0.toInt ∧ wH + p0.toInt ≤ 40000) ∨ (wH1 = 40000 ∧ 40000 ≤ wH + p0.toInt))) ∨ (¬ (0 ≤ p0.toInt ∧ p0.toInt ≤ 240) ∧ t1.toInt = 1 ∧ wH1 = wH))) (fun (u : Int32 × Int × (Nat → Int) × Int × (Nat → Int → Prop) × (Nat → Int → Prop)) (t : State) => match u with | (t1, wH1, wN1, wB1, PM1, PT1) => gH (dC, dI) kA (SHm q (wP wZ0 wN1 wH1 wB1 wC wL wK wU wV) PI im PM1 PT1 lS lB lE lN) G t.heap ∧ gF (dC, dI) SKm G ([(0, 0), (0, 9), (2, 0), (5, 0), (6, 0), (7, 0), (8, 0), (9, 0)] : List (Nat × Nat)) H0 t.heap ∧ el t.heap o0 (dI 15 0) = some (.int t1)) (gA G H0.size)) 0 0 (gA G H0.size) := by
  refine Met.ofW (cc := cX12_hours) (maxL := 3) (ret := (some .int)) (by decide) rfl ?_
  intro p e s m args below meth c s₁ B hml hv
  obtain ⟨rfl, hH0, hK, hE⟩ := hv
  have hx := B.exec
  have hb := B.bytes
  have hr := B.returns
  have hts := atoms_spec (ws := w_s_hoursE) B.pre
  have hown : s.vm.findClass RX12 = some m.cls := findClass_of_methodNamed B.named
  have hlocks := B.notSynchronized
  subst hH0
  generalize hAe : gA G s.heap.size = A at hE ⊢
  have hA : ∀ q : Nat, s.heap.size ≤ q → A q := fun q h => by rw [← hAe]; exact Or.inr h
  have hG := gA_of hAe
  have hS : va_S A s.heap s.heap [] := va_S.rf
  have hF : gF (dC, dI) SKm G ([(0, 0), (0, 9), (2, 0), (5, 0), (6, 0), (7, 0), (8, 0), (9, 0)] : List (Nat × Nat)) s.heap s.heap := gF.rf
  have hl := lv_entry ([.ref o0, .int p0]) (n := 3) (Nat.le_of_ble_eq_true rfl)
  rw [lg_entry_eq]
  generalize (lg_sl ([.ref o0, .int p0]) ++ List.replicate (3 - (lg_sl ([.ref o0, .int p0])).length) Slot.unset).toArray = ls at hl ⊢
  have hl : lv_has ls 3 [(0, .ref o0), (1, .int p0)] := hl
  refine lv_aload_n hx hb dX12_hours_0 rfl (lv_at hl 0 rfl) ?_
  refine lv_iconst (v := 0) hx hb dX12_hours_1 (by decide) ?_
  refine tw_put (v := .int 0) (ty := .int) hx hb hts bF_X12 tyX12 tyX12_ok nmX12 hown hK hT hG hS hr_o0 shm_0 rfl 0 (by decide) (ht_at hts 0 rfl) (fun _ h9 => h9) rfl (by decide +kernel) rfl rfl (gl_at rfl (gi_all _)) dX12_hours_2 (fun H locs hT oq m1 oj hS => ?_)
  have hF := hF.put hr_o0 skm_0 oq oj (by decide)
  refine lv_aload_n hx hb dX12_hours_5 rfl (lv_at hl 0 rfl) ?_
  refine lv_iload_n hx hb dX12_hours_6 rfl (lv_at hl 1 rfl) ?_
  refine lv_iconst (v := 0) hx hb dX12_hours_7 (by decide) ?_
  refine lv_sipush (v := 240) hx hb dX12_hours_8 (by decide) ?_
  have hFc := gA_free hG hA hS
  refine va_calli (va_runS (As := [.int p0, .int 0, .int 240]) (rest := [.ref o0]) ⟨hx, hb, hml, hown, hts⟩ (s_in l dC dI kA adK adV G H q wZ0 wN wH wB wC wL wK wU wV PI im PM PT lS lB lE lN p0 0 240 hT (fun _ => Int.le_refl 0) hgn hgh hgb hgc hgi hgu) (va_cwS 3 hts (goodIn_app (goodIn_r _ [3, 4, 5] rfl (by decide +kernel)) (goodIn_ca (goodIn_r _ [2] rfl (by decide +kernel)) (bs_in _ _))) rfl rfl rfl (by decide +kernel) ⟨(Nat.le_of_ble_eq_true rfl), (Nat.le_of_ble_eq_true rfl)⟩) ⟨fun a U g mk q => by obtain ⟨q0, q1, qK, qE⟩ := q; exact ⟨q0, q1, va_K.moved (u := U) (U := U.calling g mk a) (Vm.Alike.refl U.vm) qK, EVS.blind g mk a qE⟩, fun U hU hW => ⟨rfl, hU, va_K.moved hW.alike hK, hE.call hS hFc hU hW⟩⟩ rfl rfl hl.1 rfl (lv_room (Nat.le_of_ble_eq_true rfl)) dX12_hours_11 ⟨(Nat.le_of_ble_eq_true rfl), (Nat.le_of_ble_eq_true rfl)⟩) hS (fun q _ h => hFc q h) hFc (fun r2 u t H locs ht hvm hw3 hB _ _ hS => ?_)
  obtain ⟨hT, hF1⟩ := hB
  rw [ht] at hT hF1
  have m4 := (hF1.fld hr_o0 skm_0 (k := 0) (by decide) (by decide)).trans m1
  have hF := hF.more hF1 (by decide)
  try dsimp only at hw3
  obtain ⟨h5, hi6, hi7⟩ := hw3
  refine lv_if_ne (tgt := 21) hx hb dX12_hours_14 (by decide) (fun c8 => ?_) (fun c8 => ?_)
  · have t9 : r2.toInt ≠ 0 := ti_ne c8 rfl (by decide)
    have t10 : (0 : Int32).toInt = 0 := by decide
    have t11 : (240 : Int32).toInt = 240 := by decide
    have t12 : (0 : Int32).toInt ≤ p0.toInt ∧ p0.toInt ≤ (240 : Int32).toInt := hi6 ((bit_of ⟨by omega, by omega⟩).resolve_left c8)
    refine lv_iconst (v := 0) hx hb dX12_hours_21 (by decide) ?_
    refine lv_iconst (v := 1) hx hb dX12_hours_22 (by decide) ?_
    have hFc := gA_free hG hA hS
    refine va_calli (va_runV (As := [.int 0, .int 1]) (rest := []) ⟨hx, hb, hml, hown, hts⟩ (s_throwsIfP l dC dI kA adK adV G H q wZ0 wN wH wB wC wL wK wU wV PI im PM PT lS lB lE lN o0 0 1 0 hT hr_o0 m4 (rg_t (a := 0) (by decide) (by first | decide | omega) (by first | decide | omega)) (fun _ => Int.le_refl 0) hgn hgh hgb hgc hgi hgu) (cwV 2 hts (goodIn_app (goodIn_r _ [7, 8, 9, 5] rfl (by decide +kernel)) (goodIn_ca (goodIn_r _ [6, 1] rfl (by decide +kernel)) (bs_in _ _))) rfl rfl rfl (by decide +kernel) ⟨(Nat.le_of_ble_eq_true rfl), (Nat.le_of_ble_eq_true rfl)⟩) ⟨fun a U g mk q => by obtain ⟨q0, q1, qK, qE⟩ := q; exact ⟨q0, q1, va_K.moved (u := U) (U := U.calling g mk a) (Vm.Alike.refl U.vm) qK, EVS.blind g mk a qE⟩, gH_rc hK hT hr_o0 shm_0 rfl, fun U hU hW => ⟨rfl, hU, va_K.moved hW.alike hK, hE.call hS hFc hU hW⟩⟩ rfl rfl hl.1 rfl (lv_room (Nat.le_of_ble_eq_true rfl)) dX12_hours_23 ⟨(Nat.le_of_ble_eq_true rfl), (Nat.le_of_ble_eq_true rfl)⟩) hS (fun q _ h => hFc q h) hFc (fun r13 u t H locs ht hvm hw14 hB _ _ hS => ?_)
    obtain ⟨u15, rfl⟩ : ∃ z, z = u := ⟨_, rfl⟩
    obtain ⟨hT, hF1, m16⟩ := hB
    rw [ht] at hT hF1 m16
    have hF := hF.more hF1 (by decide)
    try dsimp only at hw14
    obtain ⟨h18, hf19, hd20⟩ := hw14
    have t21 : (0 : Int32).toInt = 0 := by decide
    have t22 : (1 : Int32).toInt = 1 := by decide
    have t23 : (0 : Int32).toInt = 0 := by decide
    obtain rfl : (0 : Int32) = r13 := hd20.symm
    refine lv_if_eq (tgt := 31) hx hb dX12_hours_26 (by decide) (fun c24 => ?_) (fun c24 => absurd c24 (by decide))
    refine lv_iconst (v := 0) hx hb dX12_hours_31 (by decide) ?_
    refine lv_istore_n (lv' := [(2, .int 0), (0, .ref o0), (1, .int p0)]) hx hb dX12_hours_32 rfl hl (by decide) rfl (fun ls hl => ?_)
    have key66 : ∀ (n66 i25 : Nat), i25 + n66 = 240 → 0 ≤ i25 → ∀ (gwN26 : Nat → Int), ∀ (gwH27 : Int), ∀ (gwB28 : Int), ∀ (gPM29 : Nat → Int → Prop), ∀ (gPT30 : Nat → Int → Prop), ((∀ i, 6500000 ≤ gwN26 i ∧ gwN26 i ≤ 6500000 + 340 * gwH27) ∧ (0 ≤ gwH27 ∧ gwH27 ≤ 40000) ∧ (0 ≤ gwB28 ∧ gwB28 ≤ 96 * gwH27) ∧ (gwH27 = wH + ((i25 : Nat) : Int) ∧ ((i25 : Nat) : Int) ≤ p0.toInt)) → ∀ (H : Heap) (locs : List Loc), gH (dC, dI) kA (SHm q (wP wZ0 gwN26 gwH27 gwB28 wC wL wK wU wV) PI im gPM29 gPT30 lS lB lE lN) G H → gF (dC, dI) SKm G ([(0, 0), (0, 9), (2, 0), (5, 0), (6, 0), (7, 0), (8, 0), (9, 0)] : List (Nat × Nat)) s.heap H → va_S A s.heap H locs → el H o0 (dI 15 0) = some (.int u15) → ∀ ls : Array Slot, lv_has ls 3 [(2, .int (nI i25)), (0, .ref o0), (1, .int p0)] → W p l e (headSpec w_s_hoursE ({ frames := 5, cells := 0, slots := 0, locals := 120 })).room s m #[.ref o0, .int p0] below meth c H locs 0 0 (MQ below (va_Qi (fun (r : Int32) (u : Int32 × Int × (Nat → Int) × Int × (Nat → Int → Prop) × (Nat → Int → Prop)) => match u with | (t1, wH1, wN1, wB1, PM1, PT1) => (0 ≤ r.toInt ∧ r.toInt ≤ 40000) ∧ (0 ≤ wH1 ∧ wH1 ≤ 40000) ∧ (∀ i, 6500000 ≤ wN1 i ∧ wN1 i ≤ 6500000 + 340 * wH1) ∧ (0 ≤ wB1 ∧ wB1 ≤ 96 * wH1) ∧ (((0 ≤ p0.toInt ∧ p0.toInt ≤ 240) ∧ t1.toInt = 0 ∧ r.toInt = wH1 ∧ ((wH1 = wH + p0.toInt ∧ wH + p0.toInt ≤ 40000) ∨ (wH1 = 40000 ∧ 40000 ≤ wH + p0.toInt))) ∨ (¬ (0 ≤ p0.toInt ∧ p0.toInt ≤ 240) ∧ t1.toInt = 1 ∧ wH1 = wH))) (fun (u : Int32 × Int × (Nat → Int) × Int × (Nat → Int → Prop) × (Nat → Int → Prop)) (t : State) => match u with | (t1, wH1, wN1, wB1, PM1, PT1) => gH (dC, dI) kA (SHm q (wP wZ0 wN1 wH1 wB1 wC wL wK wU wV) PI im PM1 PT1 lS lB lE lN) G t.heap ∧ gF (dC, dI) SKm G ([(0, 0), (0, 9), (2, 0), (5, 0), (6, 0), (7, 0), (8, 0), (9, 0)] : List (Nat × Nat)) s.heap t.heap ∧ el t.heap o0 (dI 15 0) = some (.int t1)) A) #[.ref o0, .int p0] s 0 0 A) (F0 m 33 ls []) := by
      intro n66
      induction n66 with
      | zero =>
        intro i25 hn66 hlo67 gwN26 gwH27 gwB28 gPM29 gPT30 ⟨hg32, hg33, hg34, hj35⟩ H locs hT hF hS m31 ls hl
        obtain rfl : 240 = i25 := by omega
        have t68 : ∀ i, 6500000 ≤ gwN26 i ∧ gwN26 i ≤ 20200000 := fun i => by have q8 := hg32 i; omega
        refine lv_iload_n hx hb dX12_hours_33 rfl (lv_at hl 0 rfl) ?_
        refine lv_iload_n hx hb dX12_hours_34 rfl (lv_at hl 2 rfl) ?_
        refine lv_icmp_ge (tgt := 57) hx hb dX12_hours_35 (by decide) (fun c69 => ?_) (fun c69 => (by exfalso; have q9 : ((240 : Nat) : Int) < p0.toInt := ti_nle c69 rfl (nI_toInt (by omega)); omega))
        have t70 : p0.toInt ≤ ((240 : Nat) : Int) := ti_le c69 rfl (nI_toInt (by omega))
        refine lv_aload_n hx hb dX12_hours_57 rfl (lv_at hl 1 rfl) ?_
        have hFc := gA_free hG hA hS
        refine va_calli (va_runV (As := []) (rest := []) ⟨hx, hb, hml, hown, hts⟩ (s_hour l dC dI kA adK adV G H q wZ0 gwN26 gwH27 gwB28 wC wL wK wU wV PI im gPM29 gPT30 lS lB lE lN o0 hT hr_o0 (fun _ => Int.le_refl 0) t68 hg33 (by omega) (by omega) (by omega) hgu) (cwV 0 hts (goodIn_app (goodIn_r _ [12, 13, 14, 5] rfl (by decide +kernel)) (goodIn_ca (goodIn_r _ [10, 11] rfl (by decide +kernel)) (bs_in _ _))) rfl rfl rfl (by decide +kernel) ⟨(Nat.le_of_ble_eq_true rfl), (Nat.le_of_ble_eq_true rfl)⟩) ⟨fun a U g mk q => by obtain ⟨q0, q1, qK, qE⟩ := q; exact ⟨q0, q1, va_K.moved (u := U) (U := U.calling g mk a) (Vm.Alike.refl U.vm) qK, EVS.blind g mk a qE⟩, gH_rc hK hT hr_o0 shm_0 rfl, fun U hU hW => ⟨rfl, hU, va_K.moved hW.alike hK, hE.call hS hFc hU hW⟩⟩ rfl rfl hl.1 rfl (lv_room (Nat.le_of_ble_eq_true rfl)) dX12_hours_58 ⟨(Nat.le_of_ble_eq_true rfl), (Nat.le_of_ble_eq_true rfl)⟩) hS (fun q _ h => hFc q h) hFc (fun r71 u t H locs ht hvm hw72 hB _ _ hS => ?_)
        obtain ⟨hT, hF1⟩ := hB
        rw [ht] at hT hF1
        have m73 := (hF1.fld hr_o0 skm_0 (k := 0) (by decide) (by decide)).trans m31
        have hF := hF.more hF1 (by decide)
        try dsimp only at hw72
        obtain ⟨h74, hf75⟩ := hw72
        exact W.iret (v := r71) hx hb hr (fun t ht hW => ⟨⟨r71, (u15, gwH27, gwN26, gwB28, gPM29, gPT30), rfl, (by exact ⟨(by have q8 := ti_all r71; omega), (by omega), hg32, (by omega), (by have q0 : (0 : Int32).toInt = 0 := (by decide); have q1 : (1 : Int32).toInt = 1 := (by decide); omega)⟩), by (try dsimp only); rw [ht]; exact ⟨hT, hF, m73⟩⟩, hS.F ht⟩) hS.2.2 dX12_hours_61
      | succ n66 ih66 =>
        intro i25 hn66 hlo67 gwN26 gwH27 gwB28 gPM29 gPT30 ⟨hg32, hg33, hg34, hj35⟩ H locs hT hF hS m31 ls hl
        have hlt75 : i25 < 240 := by omega
        have t76 : ∀ i, 6500000 ≤ gwN26 i ∧ gwN26 i ≤ 20200000 := fun i => by have q8 := hg32 i; omega
        refine lv_iload_n hx hb dX12_hours_33 rfl (lv_at hl 0 rfl) ?_
        refine lv_iload_n hx hb dX12_hours_34 rfl (lv_at hl 2 rfl) ?_
        refine lv_icmp_ge (tgt := 57) hx hb dX12_hours_35 (by decide) (fun c77 => ?_) (fun c77 => ?_)
        · have t78 : p0.toInt ≤ ((i25 : Nat) : Int) := ti_le c77 rfl (nI_toInt (by omega))
          refine lv_aload_n hx hb dX12_hours_57 rfl (lv_at hl 1 rfl) ?_
          have hFc := gA_free hG hA hS
          refine va_calli (va_runV (As := []) (rest := []) ⟨hx, hb, hml, hown, hts⟩ (s_hour l dC dI kA adK adV G H q wZ0 gwN26 gwH27 gwB28 wC wL wK wU wV PI im gPM29 gPT30 lS lB lE lN o0 hT hr_o0 (fun _ => Int.le_refl 0) t76 hg33 (by omega) (by omega) (by omega) hgu) (cwV 0 hts (goodIn_app (goodIn_r _ [12, 13, 14, 5] rfl (by decide +kernel)) (goodIn_ca (goodIn_r _ [10, 11] rfl (by decide +kernel)) (bs_in _ _))) rfl rfl rfl (by decide +kernel) ⟨(Nat.le_of_ble_eq_true rfl), (Nat.le_of_ble_eq_true rfl)⟩) ⟨fun a U g mk q => by obtain ⟨q0, q1, qK, qE⟩ := q; exact ⟨q0, q1, va_K.moved (u := U) (U := U.calling g mk a) (Vm.Alike.refl U.vm) qK, EVS.blind g mk a qE⟩, gH_rc hK hT hr_o0 shm_0 rfl, fun U hU hW => ⟨rfl, hU, va_K.moved hW.alike hK, hE.call hS hFc hU hW⟩⟩ rfl rfl hl.1 rfl (lv_room (Nat.le_of_ble_eq_true rfl)) dX12_hours_58 ⟨(Nat.le_of_ble_eq_true rfl), (Nat.le_of_ble_eq_true rfl)⟩) hS (fun q _ h => hFc q h) hFc (fun r79 u t H locs ht hvm hw80 hB _ _ hS => ?_)
          obtain ⟨hT, hF1⟩ := hB
          rw [ht] at hT hF1
          have m81 := (hF1.fld hr_o0 skm_0 (k := 0) (by decide) (by decide)).trans m31
          have hF := hF.more hF1 (by decide)
          try dsimp only at hw80
          obtain ⟨h82, hf83⟩ := hw80
          exact W.iret (v := r79) hx hb hr (fun t ht hW => ⟨⟨r79, (u15, gwH27, gwN26, gwB28, gPM29, gPT30), rfl, (by exact ⟨(by have q8 := ti_all r79; omega), (by omega), hg32, (by omega), (by have q0 : (0 : Int32).toInt = 0 := (by decide); have q1 : (1 : Int32).toInt = 1 := (by decide); omega)⟩), by (try dsimp only); rw [ht]; exact ⟨hT, hF, m81⟩⟩, hS.F ht⟩) hS.2.2 dX12_hours_61
        · have t84 : ((i25 : Nat) : Int) < p0.toInt := ti_nle c77 rfl (nI_toInt (by omega))
          refine lv_aload_n hx hb dX12_hours_38 rfl (lv_at hl 1 rfl) ?_
          have hFc := gA_free hG hA hS
          refine va_calli (va_runV (As := []) (rest := []) ⟨hx, hb, hml, hown, hts⟩ (s_hour l dC dI kA adK adV G H q wZ0 gwN26 gwH27 gwB28 wC wL wK wU wV PI im gPM29 gPT30 lS lB lE lN o0 hT hr_o0 (fun _ => Int.le_refl 0) t76 hg33 (by omega) (by omega) (by omega) hgu) (cwV 0 hts (goodIn_app (goodIn_r _ [12, 13, 14, 5] rfl (by decide +kernel)) (goodIn_ca (goodIn_r _ [10, 11] rfl (by decide +kernel)) (bs_in _ _))) rfl rfl rfl (by decide +kernel) ⟨(Nat.le_of_ble_eq_true rfl), (Nat.le_of_ble_eq_true rfl)⟩) ⟨fun a U g mk q => by obtain ⟨q0, q1, qK, qE⟩ := q; exact ⟨q0, q1, va_K.moved (u := U) (U := U.calling g mk a) (Vm.Alike.refl U.vm) qK, EVS.blind g mk a qE⟩, gH_rc hK hT hr_o0 shm_0 rfl, fun U hU hW => ⟨rfl, hU, va_K.moved hW.alike hK, hE.call hS hFc hU hW⟩⟩ rfl rfl hl.1 rfl (lv_room (Nat.le_of_ble_eq_true rfl)) dX12_hours_39 ⟨(Nat.le_of_ble_eq_true rfl), (Nat.le_of_ble_eq_true rfl)⟩) hS (fun q _ h => hFc q h) hFc (fun r85 u t H locs ht hvm hw86 hB _ _ hS => ?_)
          obtain ⟨hT, hF1⟩ := hB
          rw [ht] at hT hF1
          have m87 := (hF1.fld hr_o0 skm_0 (k := 0) (by decide) (by decide)).trans m31
          have hF := hF.more hF1 (by decide)
          try dsimp only at hw86
          obtain ⟨h88, hf89⟩ := hw86
          refine lv_ldc (v := 40000) hx hb hown (ht_at hts 14 rfl) dX12_hours_42 ?_
          refine lv_icmp_ge (tgt := 57) hx hb dX12_hours_44 (by decide) (fun c90 => ?_) (fun c90 => ?_)
          · have t91 : 40000 ≤ r85.toInt := ti_le c90 (by decide) rfl
            refine lv_aload_n hx hb dX12_hours_57 rfl (lv_at hl 1 rfl) ?_
            have hFc := gA_free hG hA hS
            refine va_calli (va_runV (As := []) (rest := []) ⟨hx, hb, hml, hown, hts⟩ (s_hour l dC dI kA adK adV G H q wZ0 gwN26 gwH27 gwB28 wC wL wK wU wV PI im gPM29 gPT30 lS lB lE lN o0 hT hr_o0 (fun _ => Int.le_refl 0) t76 hg33 (by omega) (by omega) (by omega) hgu) (cwV 0 hts (goodIn_app (goodIn_r _ [12, 13, 14, 5] rfl (by decide +kernel)) (goodIn_ca (goodIn_r _ [10, 11] rfl (by decide +kernel)) (bs_in _ _))) rfl rfl rfl (by decide +kernel) ⟨(Nat.le_of_ble_eq_true rfl), (Nat.le_of_ble_eq_true rfl)⟩) ⟨fun a U g mk q => by obtain ⟨q0, q1, qK, qE⟩ := q; exact ⟨q0, q1, va_K.moved (u := U) (U := U.calling g mk a) (Vm.Alike.refl U.vm) qK, EVS.blind g mk a qE⟩, gH_rc hK hT hr_o0 shm_0 rfl, fun U hU hW => ⟨rfl, hU, va_K.moved hW.alike hK, hE.call hS hFc hU hW⟩⟩ rfl rfl hl.1 rfl (lv_room (Nat.le_of_ble_eq_true rfl)) dX12_hours_58 ⟨(Nat.le_of_ble_eq_true rfl), (Nat.le_of_ble_eq_true rfl)⟩) hS (fun q _ h => hFc q h) hFc (fun r92 u t H locs ht hvm hw93 hB _ _ hS => ?_)
            obtain ⟨hT, hF1⟩ := hB
            rw [ht] at hT hF1
            have m94 := (hF1.fld hr_o0 skm_0 (k := 0) (by decide) (by decide)).trans m87
            have hF := hF.more hF1 (by decide)
            try dsimp only at hw93
            obtain ⟨h95, hf96⟩ := hw93
            exact W.iret (v := r92) hx hb hr (fun t ht hW => ⟨⟨r92, (u15, gwH27, gwN26, gwB28, gPM29, gPT30), rfl, (by exact ⟨(by have q8 := ti_all r92; omega), (by omega), hg32, (by omega), (by have q0 : (0 : Int32).toInt = 0 := (by decide); have q1 : (1 : Int32).toInt = 1 := (by decide); omega)⟩), by (try dsimp only); rw [ht]; exact ⟨hT, hF, m94⟩⟩, hS.F ht⟩) hS.2.2 dX12_hours_61
          · have t97 : r85.toInt < 40000 := ti_nle c90 (by decide) rfl
            refine lv_aload_n hx hb dX12_hours_47 rfl (lv_at hl 1 rfl) ?_
            have hFc := gA_free hG hA hS
            refine va_callv (va_runV (As := []) (rest := []) ⟨hx, hb, hml, hown, hts⟩ (s_anHour l dC dI kA adK adV G H q wZ0 gwN26 gwH27 gwB28 wC wL wK wU wV PI im gPM29 gPT30 lS lB lE lN o0 hT hr_o0 (by assumption) hg32 (by omega) (by omega) (fun _ => Int.le_refl 0) t76 hg33 (by omega) (by omega) (by omega) hgu) (cwV 0 hts (goodIn_app (goodIn_r _ [112, 113, 114, 5] rfl (by decide +kernel)) (goodIn_ca (goodIn_r _ [16, 11, 10, 12, 13, 14, 5, 17, 2, 3, 4, 18, 19, 20, 21, 22, 23, 24, 25, 26, 27, 28, 29, 30, 31, 32, 33, 34, 35, 36, 37, 38, 39, 40, 41, 42, 43, 44, 45, 46, 47, 48, 49, 50, 51, 52, 53, 54, 55, 56, 57, 58, 59, 60, 61, 62, 63, 64, 65, 66, 67, 68, 69, 70, 71, 72, 73, 74, 75, 76, 77, 78, 79, 80, 81, 82, 83, 84, 85, 86, 87, 88, 89, 90, 91, 92, 93, 94, 95, 96, 97, 98, 99, 100, 101, 102, 103, 104, 105, 106, 107, 108, 109, 110, 111] rfl (by decide +kernel)) (bs_in _ _))) rfl rfl rfl (by decide +kernel) ⟨(Nat.le_of_ble_eq_true rfl), (Nat.le_of_ble_eq_true rfl)⟩) ⟨fun a U g mk q => by obtain ⟨q0, q1, qK, qE⟩ := q; exact ⟨q0, q1, va_K.moved (u := U) (U := U.calling g mk a) (Vm.Alike.refl U.vm) qK, EVS.blind g mk a qE⟩, gH_rc hK hT hr_o0 shm_0 rfl, fun U hU hW => ⟨rfl, hU, va_K.moved hW.alike hK, hE.call hS hFc hU hW⟩⟩ rfl rfl hl.1 rfl (lv_room (Nat.le_of_ble_eq_true rfl)) dX12_hours_48 ⟨(Nat.le_of_ble_eq_true rfl), (Nat.le_of_ble_eq_true rfl)⟩) hS (fun q _ h => hFc q h) hFc (fun u t H locs ht hvm hw99 hB _ _ hS => ?_)
            obtain ⟨u100, u101, u102, u103⟩ := u
            obtain ⟨hT, hF1⟩ := hB
            rw [ht] at hT hF1
            have m104 := (hF1.fld hr_o0 skm_0 (k := 0) (by decide) (by decide)).trans m87
            have hF := hF.more hF1 (by decide)
            try dsimp only at hw99
            obtain ⟨hf105, hf106⟩ := hw99
            refine lv_iinc (v := nI (i25 + 1)) (lv' := [(2, .int (nI (i25 + 1))), (0, .ref o0), (1, .int p0)]) hx hb dX12_hours_51 hl (k := 0) rfl (nI_add i25 1) (by decide) rfl (fun ls hl => ?_)
            refine lv_goto (tgt := 33) hx hb dX12_hours_54 (by decide) ?_
            exact ih66 (i25 + 1) (by omega) (by omega) u100 (gwH27 + 1) u101 u102 u103 ⟨hf105, (by omega), (by omega), (by omega)⟩ _ _ hT hF hS m104 ls (lv_sub hl [0, 1, 2] rfl)
    exact key66 (240 - 0) 0 (by omega) (Nat.le_refl _) wN wH wB PM PT ⟨hn_, (by omega), (by omega), (by omega)⟩ _ _ hT hF hS m16 ls (lv_sub hl [0, 1, 2] rfl)
  · have t107 : r2.toInt = 0 := ti_eq c8 rfl (by decide)
    have t108 : (0 : Int32).toInt = 0 := by decide
    have t109 : (240 : Int32).toInt = 240 := by decide
    have t110 : p0.toInt < (0 : Int32).toInt ∨ (240 : Int32).toInt < p0.toInt := hi7 c8
    refine lv_iconst (v := 1) hx hb dX12_hours_17 (by decide) ?_
    refine lv_goto (tgt := 22) hx hb dX12_hours_18 (by decide) ?_
    refine lv_iconst (v := 1) hx hb dX12_hours_22 (by decide) ?_
    have hFc := gA_free hG hA hS
    refine va_calli (va_runV (As := [.int 1, .int 1]) (rest := []) ⟨hx, hb, hml, hown, hts⟩ (s_throwsIfP l dC dI kA adK adV G H q wZ0 wN wH wB wC wL wK wU wV PI im PM PT lS lB lE lN o0 1 1 0 hT hr_o0 m4 (rg_t (a := 1) (by decide) (by first | decide | omega) (by first | decide | omega)) (fun _ => Int.le_refl 0) hgn hgh hgb hgc hgi hgu) (cwV 2 hts (goodIn_app (goodIn_r _ [7, 8, 9, 5] rfl (by decide +kernel)) (goodIn_ca (goodIn_r _ [6, 1] rfl (by decide +kernel)) (bs_in _ _))) rfl rfl rfl (by decide +kernel) ⟨(Nat.le_of_ble_eq_true rfl), (Nat.le_of_ble_eq_true rfl)⟩) ⟨fun a U g mk q => by obtain ⟨q0, q1, qK, qE⟩ := q; exact ⟨q0, q1, va_K.moved (u := U) (U := U.calling g mk a) (Vm.Alike.refl U.vm) qK, EVS.blind g mk a qE⟩, gH_rc hK hT hr_o0 shm_0 rfl, fun U hU hW => ⟨rfl, hU, va_K.moved hW.alike hK, hE.call hS hFc hU hW⟩⟩ rfl rfl hl.1 rfl (lv_room (Nat.le_of_ble_eq_true rfl)) dX12_hours_23 ⟨(Nat.le_of_ble_eq_true rfl), (Nat.le_of_ble_eq_true rfl)⟩) hS (fun q _ h => hFc q h) hFc (fun r111 u t H locs ht hvm hw112 hB _ _ hS => ?_)
    obtain ⟨u113, rfl⟩ : ∃ z, z = u := ⟨_, rfl⟩
    obtain ⟨hT, hF1, m114⟩ := hB
    rw [ht] at hT hF1 m114
    have hF := hF.more hF1 (by decide)
    try dsimp only at hw112
    obtain ⟨h116, hf117, hd118⟩ := hw112
    have t119 : (1 : Int32).toInt = 1 := by decide
    have t120 : (1 : Int32).toInt = 1 := by decide
    have t121 : (0 : Int32).toInt = 0 := by decide
    obtain rfl : (1 : Int32) = r111 := hd118.symm
    refine lv_if_eq (tgt := 31) hx hb dX12_hours_26 (by decide) (fun c122 => absurd c122 (by decide)) (fun c122 => ?_)
    refine lv_iconst (v := 0) hx hb dX12_hours_29 (by decide) ?_
    exact W.iret (v := 0) hx hb hr (fun t ht hW => ⟨⟨0, (u113, wH, wN, wB, PM, PT), rfl, (by exact ⟨(rg_t (a := 0) (by decide) (by first | decide | omega) (by first | decide | omega)), (by omega), hn_, (by omega), (by have q0 : (0 : Int32).toInt = 0 := (by decide); have q1 : (1 : Int32).toInt = 1 := (by decide); omega)⟩), by (try dsimp only); rw [ht]; exact ⟨hT, hF, m114⟩⟩, hS.F ht⟩) hS.2.2 dX12_hours_30
def w_s_keepE : List Cond := .code yX12_keep cX12_keep 2 (some .boolean) :: (HAppend.hAppend (α := List Cond) (β := List Cond) (γ := List Cond) [.fieldLink RX12 194 "SeaLandModel" "thrown" "I", .code yX12_hour cX12_hour 1 (some .int), .fieldLink RX12 9 "SeaLandModel" "world" "[I", .methodLink RX12 228 yX12_hour, .instanceMethod yX12_hour, .selects RX12 yX12_hour yX12_hour, .initialized RX12, .fieldLink RX12 325 "SeaLandModel" "hasImage" "Z", .fieldLink RX12 13 "SeaLandModel" "image" "[I"] bs)
set_option maxHeartbeats 4000000 in
set_option maxRecDepth 100000 in
theorem s_keepE (l : Launch) (dC : Nat → ClassId) (dI : Nat → Nat → Nat) (kA : Nat → ClassId) (adK adV : Nat → Nat) (G : gT) (H0 : Heap) (q : Nat → Nat) (wZ wN : Nat → Int) (wH wB wC : Int) (wL wK : Nat → Prop) (wU wV : Nat → Nat) (PI : Nat → Int → Prop) (im : Int) (PM PT : Nat → Int → Prop) (lS lB lE : Nat → Nat → Int → Prop) (lN : Nat → Int) (o0 : Nat) (him : Int32)  (hT : gH (dC, dI) kA (SHm q (wP wZ0 wN wH wB wC wL wK wU wV) PI im PM PT lS lB lE lN) G H0) (hr_o0 : G o0 = some 0) (hm_him : el H0 o0 (dI 15 3) = some (.int him)) (hq0 : 0 ≤ him.toInt ∧ him.toInt ≤ 1) (hgz : ∀ i, 0 ≤ wZ i) (hgn : ∀ i, 6500000 ≤ wN i ∧ wN i ≤ 20200000) (hgh : 0 ≤ wH ∧ wH ≤ 40000) (hgb : 0 ≤ wB ∧ wB ≤ 3850000) (hgc : 0 ≤ wC ∧ wC ≤ 30) (hgi : 0 ≤ im ∧ im ≤ 1) (hgu : ∀ a t, G a = some (t + 1) → a = q t) : Met l yX12_keep w_s_keepE ({ frames := 1, cells := 0, slots := 0, locals := 20 }) (va_Pc [.ref o0] (fun U => U.heap = H0 ∧ va_K (dC, dI) vwCl (tyl kA) U ∧ EVS adK adV (gA G H0.size) U U.heap)) (va_Qi (fun (r : Int32) (u : Int32 × (Nat → Int → Prop)) => match u with | (h1, PI1) => (0 ≤ r.toInt ∧ r.toInt ≤ 1) ∧ ((wH = 0 ∧ r.toInt = 0 ∧ h1.toInt = him.toInt ∧ PI1 = PI) ∨ (wH ≠ 0 ∧ r.toInt = 1 ∧ h1.toInt = 1 ∧ PI1 = (wP wZ0 wN wH wB wC wL wK wU wV)))) (fun (u : Int32 × (Nat → Int → Prop)) (t : State) => match u with | (h1, PI1) => gH (dC, dI) kA (SHm q (wP wZ0 wN wH wB wC wL wK wU wV) PI1 im PM PT lS lB lE lN) G t.heap ∧ gF (dC, dI) SKm G ([(0, 0), (0, 3), (3, 0)] : List (Nat × Nat)) H0 t.heap ∧ el t.heap o0 (dI 15 3) = some (.int h1)) (gA G H0.size)) 0 0 (gA G H0.size) := by
  refine Met.ofW (cc := cX12_keep) (maxL := 2) (ret := (some .boolean)) (by decide) rfl ?_
  intro p e s m args below meth c s₁ B hml hv
  obtain ⟨rfl, hH0, hK, hE⟩ := hv
  have hx := B.exec
  have hb := B.bytes
  have hr := B.returns
  have hts := atoms_spec (ws := w_s_keepE) B.pre
  have hown : s.vm.findClass RX12 = some m.cls := findClass_of_methodNamed B.named
  have hlocks := B.notSynchronized
  subst hH0
  generalize hAe : gA G s.heap.size = A at hE ⊢
  have hA : ∀ q : Nat, s.heap.size ≤ q → A q := fun q h => by rw [← hAe]; exact Or.inr h
  have hG := gA_of hAe
  have hS : va_S A s.heap s.heap [] := va_S.rf
  have hF : gF (dC, dI) SKm G ([(0, 0), (0, 3), (3, 0)] : List (Nat × Nat)) s.heap s.heap := gF.rf
  have hl := lv_entry ([.ref o0]) (n := 2) (Nat.le_of_ble_eq_true rfl)
  rw [lg_entry_eq]
  generalize (lg_sl ([.ref o0]) ++ List.replicate (2 - (lg_sl ([.ref o0])).length) Slot.unset).toArray = ls at hl ⊢
  have hl : lv_has ls 2 [(0, .ref o0)] := hl
  refine lv_aload_n hx hb dX12_keep_0 rfl (lv_at hl 0 rfl) ?_
  refine lv_iconst (v := 0) hx hb dX12_keep_1 (by decide) ?_
  refine tw_put (v := .int 0) (ty := .int) hx hb hts bF_X12 tyX12 tyX12_ok nmX12 hown hK hT hG hS hr_o0 shm_0 rfl 0 (by decide) (ht_at hts 0 rfl) (fun _ h9 => h9) rfl (by decide +kernel) rfl rfl (gl_at rfl (gi_all _)) dX12_keep_2 (fun H locs hT oq m1 oj hS => ?_)
  have hF := hF.put hr_o0 skm_0 oq oj (by decide)
  have m2 := (oj 3 (by decide) (by decide)).trans hm_him
  refine lv_aload_n hx hb dX12_keep_5 rfl (lv_at hl 0 rfl) ?_
  have hFc := gA_free hG hA hS
  refine va_calli (va_runV (As := []) (rest := []) ⟨hx, hb, hml, hown, hts⟩ (s_hour l dC dI kA adK adV G H q wZ0 wN wH wB wC wL wK wU wV PI im PM PT lS lB lE lN o0 hT hr_o0 (fun _ => Int.le_refl 0) hgn hgh hgb hgc hgi hgu) (cwV 0 hts (goodIn_app (goodIn_r _ [4, 5, 6, 7] rfl (by decide +kernel)) (goodIn_ca (goodIn_r _ [2, 3] rfl (by decide +kernel)) (bs_in _ _))) rfl rfl rfl (by decide +kernel) ⟨(Nat.le_of_ble_eq_true rfl), (Nat.le_of_ble_eq_true rfl)⟩) ⟨fun a U g mk q => by obtain ⟨q0, q1, qK, qE⟩ := q; exact ⟨q0, q1, va_K.moved (u := U) (U := U.calling g mk a) (Vm.Alike.refl U.vm) qK, EVS.blind g mk a qE⟩, gH_rc hK hT hr_o0 shm_0 rfl, fun U hU hW => ⟨rfl, hU, va_K.moved hW.alike hK, hE.call hS hFc hU hW⟩⟩ rfl rfl hl.1 rfl (lv_room (Nat.le_of_ble_eq_true rfl)) dX12_keep_6 ⟨(Nat.le_of_ble_eq_true rfl), (Nat.le_of_ble_eq_true rfl)⟩) hS (fun q _ h => hFc q h) hFc (fun r3 u t H locs ht hvm hw4 hB _ _ hS => ?_)
  obtain ⟨hT, hF1⟩ := hB
  rw [ht] at hT hF1
  have m5 := (hF1.fld hr_o0 skm_0 (k := 3) (by decide) (by decide)).trans m2
  have m6 := (hF1.fld hr_o0 skm_0 (k := 0) (by decide) (by decide)).trans m1
  have hF := hF.more hF1 (by decide)
  try dsimp only at hw4
  obtain ⟨h7, hf8⟩ := hw4
  refine lv_if_ne (tgt := 14) hx hb dX12_keep_9 (by decide) (fun c9 => ?_) (fun c9 => ?_)
  · have t10 : r3.toInt ≠ 0 := ti_ne c9 rfl (by decide)
    refine lv_iconst (v := 0) hx hb dX12_keep_14 (by decide) ?_
    refine lv_istore_n (lv' := [(1, .int 0), (0, .ref o0)]) hx hb dX12_keep_15 rfl hl (by decide) rfl (fun ls hl => ?_)
    have key27 : ∀ (n27 i11 : Nat), i11 + n27 = 1749 → 0 ≤ i11 → ∀ (H : Heap) (locs : List Loc), gH (dC, dI) kA (SHm q (wP wZ0 wN wH wB wC wL wK wU wV) (pcP (wP wZ0 wN wH wB wC wL wK wU wV) PI i11) im PM PT lS lB lE lN) G H → gF (dC, dI) SKm G ([(0, 0), (0, 3), (3, 0)] : List (Nat × Nat)) s.heap H → va_S A s.heap H locs → el H o0 (dI 15 3) = some (.int him) → el H o0 (dI 15 0) = some (.int 0) → ∀ ls : Array Slot, lv_has ls 2 [(1, .int (nI i11)), (0, .ref o0)] → W p l e (headSpec w_s_keepE ({ frames := 1, cells := 0, slots := 0, locals := 20 })).room s m #[.ref o0] below meth c H locs 0 0 (MQ below (va_Qi (fun (r : Int32) (u : Int32 × (Nat → Int → Prop)) => match u with | (h1, PI1) => (0 ≤ r.toInt ∧ r.toInt ≤ 1) ∧ ((wH = 0 ∧ r.toInt = 0 ∧ h1.toInt = him.toInt ∧ PI1 = PI) ∨ (wH ≠ 0 ∧ r.toInt = 1 ∧ h1.toInt = 1 ∧ PI1 = (wP wZ0 wN wH wB wC wL wK wU wV)))) (fun (u : Int32 × (Nat → Int → Prop)) (t : State) => match u with | (h1, PI1) => gH (dC, dI) kA (SHm q (wP wZ0 wN wH wB wC wL wK wU wV) PI1 im PM PT lS lB lE lN) G t.heap ∧ gF (dC, dI) SKm G ([(0, 0), (0, 3), (3, 0)] : List (Nat × Nat)) s.heap t.heap ∧ el t.heap o0 (dI 15 3) = some (.int h1)) A) #[.ref o0] s 0 0 A) (F0 m 16 ls []) := by
      intro n27
      induction n27 with
      | zero =>
        intro i11 hn27 hlo28  H locs hT hF hS m12 m13 ls hl
        obtain rfl : 1749 = i11 := by omega
        refine lv_iload_n hx hb dX12_keep_16 rfl (lv_at hl 0 rfl) ?_
        refine lv_sipush (v := 1749) hx hb dX12_keep_17 (by decide) ?_
        refine lv_icmp_ge (tgt := 41) hx hb dX12_keep_20 (by decide) (fun c29 => ?_) (fun c29 => (by exfalso; have q9 : ((1749 : Nat) : Int) < 1749 := ti_nle c29 (by decide) (nI_toInt (by omega)); omega))
        have t30 : 1749 ≤ ((1749 : Nat) : Int) := ti_le c29 (by decide) (nI_toInt (by omega))
        have hT : gH (dC, dI) kA (SHm q (wP wZ0 wN wH wB wC wL wK wU wV) (wP wZ0 wN wH wB wC wL wK wU wV) im PM PT lS lB lE lN) G H := SHm_mono hT (fun _ _ _ z => z) (fun _ hi _ p => pc_all hi p) (fun _ _ z => z) (fun _ _ z => z) (fun _ _ _ _ z => z) (fun _ _ _ _ z => z) (fun _ _ _ _ z => z) (fun _ => Int.le_refl _)
        refine lv_aload_n hx hb dX12_keep_41 rfl (lv_at hl 1 rfl) ?_
        refine lv_iconst (v := 1) hx hb dX12_keep_42 (by decide) ?_
        refine tw_put (v := .int 1) (ty := .boolean) hx hb hts bF_X12 tyX12 tyX12_ok nmX12 hown hK hT hG hS hr_o0 shm_0 rfl 3 (by decide) (ht_at hts 7 rfl) (fun _ h9 => h9) rfl (by decide +kernel) rfl rfl (gl_at rfl (gi_of (show (1 : Int32).toInt = 1 from (by decide)) (by first | decide | omega) (by first | decide | omega))) dX12_keep_43 (fun H locs hT oq m31 oj hS => ?_)
        have hF := hF.put hr_o0 skm_0 oq oj (by decide)
        refine lv_iconst (v := 1) hx hb dX12_keep_46 (by decide) ?_
        exact W.zret (v := 1) hx hb hr (by decide) (fun t ht hW => ⟨⟨1, ((1 : Int32), (wP wZ0 wN wH wB wC wL wK wU wV)), rfl, (by exact ⟨(rg_t (a := 1) (by decide) (by first | decide | omega) (by first | decide | omega)), (Or.inr ⟨by omega, by decide, by decide, rfl⟩)⟩), by (try dsimp only); rw [ht]; exact ⟨hT, hF, m31⟩⟩, hS.F ht⟩) hS.2.2 dX12_keep_47
      | succ n27 ih27 =>
        intro i11 hn27 hlo28  H locs hT hF hS m12 m13 ls hl
        have hlt32 : i11 < 1749 := by omega
        refine lv_iload_n hx hb dX12_keep_16 rfl (lv_at hl 0 rfl) ?_
        refine lv_sipush (v := 1749) hx hb dX12_keep_17 (by decide) ?_
        refine lv_icmp_ge (tgt := 41) hx hb dX12_keep_20 (by decide) (fun c33 => (by exfalso; have q9 : 1749 ≤ ((i11 : Nat) : Int) := ti_le c33 (by decide) (nI_toInt (by omega)); omega)) (fun c33 => ?_)
        have t34 : ((i11 : Nat) : Int) < 1749 := ti_nle c33 (by decide) (nI_toInt (by omega))
        refine lv_aload_n hx hb dX12_keep_23 rfl (lv_at hl 1 rfl) ?_
        refine tw_get hx hb hts bF_X12 hown hK hT hr_o0 shm_0 rfl 2 (by decide) (ht_at hts 8 rfl) (fun _ h9 => h9) dX12_keep_24 (fun v9 m35 h9 => ?_)
        obtain ⟨rfl, hg36⟩ := h9 _ rfl
        refine lv_iload_n hx hb dX12_keep_27 rfl (lv_at hl 0 rfl) ?_
        refine lv_aload_n hx hb dX12_keep_28 rfl (lv_at hl 1 rfl) ?_
        refine tw_get hx hb hts bF_X12 hown hK hT hr_o0 shm_0 rfl 1 (by decide) (ht_at hts 2 rfl) (fun _ h9 => h9) dX12_keep_29 (fun v9 m37 h9 => ?_)
        obtain ⟨rfl, hg38⟩ := h9 _ rfl
        refine lv_iload_n hx hb dX12_keep_32 rfl (lv_at hl 0 rfl) ?_
        refine tw_iald (i := (nI i11)) hx hb hK hT hg38 shm_2 rfl (vp_in_nI (by omega) (by decide)) dX12_keep_33 (fun v9 m39 h9 => ?_)
        obtain ⟨x40, rfl, gx40, kx40⟩ := (gp_any h9)
        have t41 : (nI i11).toNatClampNeg = i11 := tn_nI (by omega)
        refine tw_iast2 (Sg1 := (SHm q (wP wZ0 wN wH wB wC wL wK wU wV) (pcP (wP wZ0 wN wH wB wC wL wK wU wV) PI (i11 + 1)) im PM PT lS lB lE lN)) (i := (nI i11)) (x := x40) hx hb hK hT hG hS hg36 shm_3 rfl shm_3 shm_o3 (fun b9 h9 => hgu b9 2 h9) (vp_in_nI (by omega) (by decide)) (⟨_, rfl, by rw [show (nI i11).toNatClampNeg = i11 from tn_nI (by omega)]; exact pc_at (by have q8 := wq_l hT hg38 (by have q9 := tn_of (show (nI i11).toInt = ((i11 : Nat) : Int) from (nI_toInt (by omega))) (by omega); omega) m39; rw [show (nI i11).toNatClampNeg = i11 from tn_nI (by omega)] at q8; exact q8)⟩) (fun k9 hk9 hne9 v9 hv9 he9 => by obtain ⟨x9, rfl, p9⟩ := he9; exact ⟨x9, rfl, pc_st (by omega) p9⟩) dX12_keep_34 (fun H locs hT oq m42 oi hS => ?_)
        have hF := hF.ast hg36 skm_3 oq (by decide)
        have m43 := (el_kept (oq _ (gne hr_o0 hg36 (by decide)))).trans m12
        have m44 := (el_kept (oq _ (gne hr_o0 hg36 (by decide)))).trans m13
        refine lv_iinc (v := nI (i11 + 1)) (lv' := [(1, .int (nI (i11 + 1))), (0, .ref o0)]) hx hb dX12_keep_35 hl (k := 0) rfl (nI_add i11 1) (by decide) rfl (fun ls hl => ?_)
        refine lv_goto (tgt := 16) hx hb dX12_keep_38 (by decide) ?_
        exact ih27 (i11 + 1) (by omega) (by omega) _ _ hT hF hS m43 m44 ls (lv_sub hl [0, 1] rfl)
    have hT : gH (dC, dI) kA (SHm q (wP wZ0 wN wH wB wC wL wK wU wV) (pcP (wP wZ0 wN wH wB wC wL wK wU wV) PI 0) im PM PT lS lB lE lN) G H := SHm_mono hT (fun _ _ _ z => z) (fun _ _ _ p => pc_0 p) (fun _ _ z => z) (fun _ _ z => z) (fun _ _ _ _ z => z) (fun _ _ _ _ z => z) (fun _ _ _ _ z => z) (fun _ => Int.le_refl _)
    exact key27 (1749 - 0) 0 (by omega) (Nat.le_refl _) _ _ hT hF hS m5 m6 ls (lv_sub hl [0, 1] rfl)
  · have t46 : r3.toInt = 0 := ti_eq c9 rfl (by decide)
    refine lv_iconst (v := 0) hx hb dX12_keep_12 (by decide) ?_
    exact W.zret (v := 0) hx hb hr (by decide) (fun t ht hW => ⟨⟨0, (him, PI), rfl, (by exact ⟨(rg_t (a := 0) (by decide) (by first | decide | omega) (by first | decide | omega)), (Or.inl ⟨by omega, by decide, by omega, rfl⟩)⟩), by (try dsimp only); rw [ht]; exact ⟨hT, hF, m5⟩⟩, hS.F ht⟩) hS.2.2 dX12_keep_13
def w_s_backE : List Cond := .code yX12_back cX12_back 2 (some .boolean) :: (HAppend.hAppend (α := List Cond) (β := List Cond) (γ := List Cond) [.fieldLink RX12 194 "SeaLandModel" "thrown" "I", .fieldLink RX12 325 "SeaLandModel" "hasImage" "Z", .fieldLink RX12 13 "SeaLandModel" "image" "[I", .code yX12_hour cX12_hour 1 (some .int), .fieldLink RX12 9 "SeaLandModel" "world" "[I", .methodLink RX12 228 yX12_hour, .instanceMethod yX12_hour, .selects RX12 yX12_hour yX12_hour, .initialized RX12, .fieldLink RX12 238 "SeaLandModel" "rows" "I"] bs)
set_option maxHeartbeats 4000000 in
set_option maxRecDepth 100000 in
theorem s_backE (l : Launch) (dC : Nat → ClassId) (dI : Nat → Nat → Nat) (kA : Nat → ClassId) (adK adV : Nat → Nat) (G : gT) (H0 : Heap) (q : Nat → Nat) (wZ wN : Nat → Int) (wH wB wC : Int) (wL wK : Nat → Prop) (wU wV : Nat → Nat) (PI : Nat → Int → Prop) (im : Int) (PM PT : Nat → Int → Prop) (lS lB lE : Nat → Nat → Int → Prop) (lN : Nat → Int) (o0 : Nat) (him : Int32) (vN : Nat → Int) (vH vB vC : Int) (vL vK : Nat → Prop) (vU vV : Nat → Nat) (hT : gH (dC, dI) kA (SHm q (wP wZ0 wN wH wB wC wL wK wU wV) (wP wZ0 vN vH vB vC vL vK vU vV) im PM PT lS lB lE lN) G H0) (hr_o0 : G o0 = some 0) (hm_him : el H0 o0 (dI 15 3) = some (.int him)) (hq0 : 0 ≤ him.toInt ∧ him.toInt ≤ 1) (hgz : ∀ i, 0 ≤ wZ i) (hgn : ∀ i, 6500000 ≤ wN i ∧ wN i ≤ 20200000) (hgh : 0 ≤ wH ∧ wH ≤ 40000) (hgb : 0 ≤ wB ∧ wB ≤ 3850000) (hgc : 0 ≤ wC ∧ wC ≤ 30) (hgi : 0 ≤ im ∧ im ≤ 1) (hgu : ∀ a t, G a = some (t + 1) → a = q t) : Met l yX12_back w_s_backE ({ frames := 1, cells := 0, slots := 0, locals := 20 }) (va_Pc [.ref o0] (fun U => U.heap = H0 ∧ va_K (dC, dI) vwCl (tyl kA) U ∧ EVS adK adV (gA G H0.size) U U.heap)) (va_Qi (fun (r : Int32) (u : (Nat → Int) × Int × Int × Int × (Nat → Prop) × (Nat → Prop) × (Nat → Nat) × (Nat → Nat)) => match u with | (wN1, wH1, wB1, wC1, wL1, wK1, wU1, wV1) => (0 ≤ r.toInt ∧ r.toInt ≤ 1) ∧ (((him.toInt = 0 ∨ wH < vH) ∧ r.toInt = 0 ∧ wN1 = wN ∧ wH1 = wH ∧ wB1 = wB ∧ wC1 = wC ∧ wL1 = wL ∧ wK1 = wK ∧ wU1 = wU ∧ wV1 = wV) ∨ (him.toInt = 1 ∧ vH ≤ wH ∧ r.toInt = 1 ∧ wN1 = vN ∧ wH1 = vH ∧ wB1 = vB ∧ wC1 = vC ∧ wL1 = vL ∧ wK1 = vK ∧ wU1 = vU ∧ wV1 = vV))) (fun (u : (Nat → Int) × Int × Int × Int × (Nat → Prop) × (Nat → Prop) × (Nat → Nat) × (Nat → Nat)) (t : State) => match u with | (wN1, wH1, wB1, wC1, wL1, wK1, wU1, wV1) => gH (dC, dI) kA (SHm q (wP wZ0 wN1 wH1 wB1 wC1 wL1 wK1 wU1 wV1) (wP wZ0 vN vH vB vC vL vK vU vV) im PM PT lS lB lE lN) G t.heap ∧ gF (dC, dI) SKm G ([(0, 0), (0, 9), (2, 0)] : List (Nat × Nat)) H0 t.heap) (gA G H0.size)) 0 0 (gA G H0.size) := by
  refine Met.ofW (cc := cX12_back) (maxL := 2) (ret := (some .boolean)) (by decide) rfl ?_
  intro p e s m args below meth c s₁ B hml hv
  obtain ⟨rfl, hH0, hK, hE⟩ := hv
  have hx := B.exec
  have hb := B.bytes
  have hr := B.returns
  have hts := atoms_spec (ws := w_s_backE) B.pre
  have hown : s.vm.findClass RX12 = some m.cls := findClass_of_methodNamed B.named
  have hlocks := B.notSynchronized
  subst hH0
  generalize hAe : gA G s.heap.size = A at hE ⊢
  have hA : ∀ q : Nat, s.heap.size ≤ q → A q := fun q h => by rw [← hAe]; exact Or.inr h
  have hG := gA_of hAe
  have hS : va_S A s.heap s.heap [] := va_S.rf
  have hF : gF (dC, dI) SKm G ([(0, 0), (0, 9), (2, 0)] : List (Nat × Nat)) s.heap s.heap := gF.rf
  have hl := lv_entry ([.ref o0]) (n := 2) (Nat.le_of_ble_eq_true rfl)
  rw [lg_entry_eq]
  generalize (lg_sl ([.ref o0]) ++ List.replicate (2 - (lg_sl ([.ref o0])).length) Slot.unset).toArray = ls at hl ⊢
  have hl : lv_has ls 2 [(0, .ref o0)] := hl
  refine lv_aload_n hx hb dX12_back_0 rfl (lv_at hl 0 rfl) ?_
  refine lv_iconst (v := 0) hx hb dX12_back_1 (by decide) ?_
  refine tw_put (v := .int 0) (ty := .int) hx hb hts bF_X12 tyX12 tyX12_ok nmX12 hown hK hT hG hS hr_o0 shm_0 rfl 0 (by decide) (ht_at hts 0 rfl) (fun _ h9 => h9) rfl (by decide +kernel) rfl rfl (gl_at rfl (gi_all _)) dX12_back_2 (fun H locs hT oq m1 oj hS => ?_)
  have hF := hF.put hr_o0 skm_0 oq oj (by decide)
  have m2 := (oj 3 (by decide) (by decide)).trans hm_him
  refine lv_aload_n hx hb dX12_back_5 rfl (lv_at hl 0 rfl) ?_
  refine tw_getM (v := .int him) hx hb hts bF_X12 hown hK hT hr_o0 shm_0 rfl 3 (by decide) (ht_at hts 1 rfl) (fun _ h9 => h9) m2 dX12_back_6 ?_
  refine lv_if_eq (tgt := 27) hx hb dX12_back_9 (by decide) (fun c3 => ?_) (fun c3 => ?_)
  · have t4 : him.toInt = 0 := ti_eq c3 rfl (by decide)
    refine lv_iconst (v := 0) hx hb dX12_back_27 (by decide) ?_
    exact W.zret (v := 0) hx hb hr (by decide) (fun t ht hW => ⟨⟨0, (wN, wH, wB, wC, wL, wK, wU, wV), rfl, (by exact ⟨(rg_t (a := 0) (by decide) (by first | decide | omega) (by first | decide | omega)), (Or.inl ⟨by omega, by decide, rfl, rfl, rfl, rfl, rfl, rfl, rfl, rfl⟩)⟩), by (try dsimp only); rw [ht]; exact ⟨hT, hF⟩⟩, hS.F ht⟩) hS.2.2 dX12_back_28
  · have t5 : him.toInt ≠ 0 := ti_ne c3 rfl (by decide)
    refine lv_aload_n hx hb dX12_back_12 rfl (lv_at hl 0 rfl) ?_
    refine tw_get hx hb hts bF_X12 hown hK hT hr_o0 shm_0 rfl 2 (by decide) (ht_at hts 2 rfl) (fun _ h9 => h9) dX12_back_13 (fun v9 m6 h9 => ?_)
    obtain ⟨rfl, hg7⟩ := h9 _ rfl
    refine lv_sipush (v := 1429) hx hb dX12_back_16 (by decide) ?_
    refine tw_iald (i := 1429) hx hb hK hT hg7 shm_3 rfl (by unfold vp_in; decide) dX12_back_19 (fun v9 m8 h9 => ?_)
    obtain ⟨x9, rfl, gx9, kx9⟩ := (gp_any h9)
    have q7 := gq_at hT hg7 shm_3 (by decide) m8
    have q6 := w_hou (z := wZ0) (n := vN) (h := vH) (b := vB) (c := vC) (i := (1429 : Int32).toNatClampNeg) (by decide)
    have t10 : vH ≤ x9.toInt ∧ x9.toInt ≤ vH := ⟨by rw [← q6.1]; exact q7.1, by rw [← q6.2]; exact q7.2.1⟩
    refine lv_aload_n hx hb dX12_back_20 rfl (lv_at hl 0 rfl) ?_
    have hFc := gA_free hG hA hS
    refine va_calli (va_runV (As := []) (rest := [.int x9]) ⟨hx, hb, hml, hown, hts⟩ (s_hour l dC dI kA adK adV G H q wZ0 wN wH wB wC wL wK wU wV (wP wZ0 vN vH vB vC vL vK vU vV) im PM PT lS lB lE lN o0 hT hr_o0 (fun _ => Int.le_refl 0) hgn hgh hgb hgc hgi hgu) (cwV 0 hts (goodIn_app (goodIn_r _ [6, 7, 8, 9] rfl (by decide +kernel)) (goodIn_ca (goodIn_r _ [4, 5] rfl (by decide +kernel)) (bs_in _ _))) rfl rfl rfl (by decide +kernel) ⟨(Nat.le_of_ble_eq_true rfl), (Nat.le_of_ble_eq_true rfl)⟩) ⟨fun a U g mk q => by obtain ⟨q0, q1, qK, qE⟩ := q; exact ⟨q0, q1, va_K.moved (u := U) (U := U.calling g mk a) (Vm.Alike.refl U.vm) qK, EVS.blind g mk a qE⟩, gH_rc hK hT hr_o0 shm_0 rfl, fun U hU hW => ⟨rfl, hU, va_K.moved hW.alike hK, hE.call hS hFc hU hW⟩⟩ rfl rfl hl.1 rfl (lv_room (Nat.le_of_ble_eq_true rfl)) dX12_back_21 ⟨(Nat.le_of_ble_eq_true rfl), (Nat.le_of_ble_eq_true rfl)⟩) hS (fun q _ h => hFc q h) hFc (fun r11 u t H locs ht hvm hw12 hB _ _ hS => ?_)
    obtain ⟨hT, hF1⟩ := hB
    rw [ht] at hT hF1
    have m13 := (hF1.fld hr_o0 skm_0 (k := 3) (by decide) (by decide)).trans m2
    have m14 := (hF1.fld hr_o0 skm_0 (k := 0) (by decide) (by decide)).trans m1
    have m15 := (el_kept (hF1.arr hg7 skm_3 (by decide))).trans m8
    have hF := hF.more hF1 (by decide)
    try dsimp only at hw12
    obtain ⟨h16, hf17⟩ := hw12
    refine lv_icmp_le (tgt := 29) hx hb dX12_back_24 (by decide) (fun c18 => ?_) (fun c18 => ?_)
    · have t19 : x9.toInt ≤ r11.toInt := ti_le c18 rfl rfl
      refine lv_iconst (v := 0) hx hb dX12_back_29 (by decide) ?_
      refine lv_istore_n (lv' := [(1, .int 0), (0, .ref o0)]) hx hb dX12_back_30 rfl hl (by decide) rfl (fun ls hl => ?_)
      have key38 : ∀ (n38 i20 : Nat), i20 + n38 = 1749 → 0 ≤ i20 → ∀ (H : Heap) (locs : List Loc), gH (dC, dI) kA (SHm q (pcP (wP wZ0 vN vH vB vC vL vK vU vV) (wP wZ0 wN wH wB wC wL wK wU wV) i20) (wP wZ0 vN vH vB vC vL vK vU vV) im PM PT lS lB lE lN) G H → gF (dC, dI) SKm G ([(0, 0), (0, 9), (2, 0)] : List (Nat × Nat)) s.heap H → va_S A s.heap H locs → el H o0 (dI 15 3) = some (.int him) → el H o0 (dI 15 0) = some (.int 0) → el H (q 2) (1429 : Int32).toNatClampNeg = some (.int x9) → ∀ ls : Array Slot, lv_has ls 2 [(1, .int (nI i20)), (0, .ref o0)] → W p l e (headSpec w_s_backE ({ frames := 1, cells := 0, slots := 0, locals := 20 })).room s m #[.ref o0] below meth c H locs 0 0 (MQ below (va_Qi (fun (r : Int32) (u : (Nat → Int) × Int × Int × Int × (Nat → Prop) × (Nat → Prop) × (Nat → Nat) × (Nat → Nat)) => match u with | (wN1, wH1, wB1, wC1, wL1, wK1, wU1, wV1) => (0 ≤ r.toInt ∧ r.toInt ≤ 1) ∧ (((him.toInt = 0 ∨ wH < vH) ∧ r.toInt = 0 ∧ wN1 = wN ∧ wH1 = wH ∧ wB1 = wB ∧ wC1 = wC ∧ wL1 = wL ∧ wK1 = wK ∧ wU1 = wU ∧ wV1 = wV) ∨ (him.toInt = 1 ∧ vH ≤ wH ∧ r.toInt = 1 ∧ wN1 = vN ∧ wH1 = vH ∧ wB1 = vB ∧ wC1 = vC ∧ wL1 = vL ∧ wK1 = vK ∧ wU1 = vU ∧ wV1 = vV))) (fun (u : (Nat → Int) × Int × Int × Int × (Nat → Prop) × (Nat → Prop) × (Nat → Nat) × (Nat → Nat)) (t : State) => match u with | (wN1, wH1, wB1, wC1, wL1, wK1, wU1, wV1) => gH (dC, dI) kA (SHm q (wP wZ0 wN1 wH1 wB1 wC1 wL1 wK1 wU1 wV1) (wP wZ0 vN vH vB vC vL vK vU vV) im PM PT lS lB lE lN) G t.heap ∧ gF (dC, dI) SKm G ([(0, 0), (0, 9), (2, 0)] : List (Nat × Nat)) s.heap t.heap) A) #[.ref o0] s 0 0 A) (F0 m 31 ls []) := by
        intro n38
        induction n38 with
        | zero =>
          intro i20 hn38 hlo39  H locs hT hF hS m21 m22 m23 ls hl
          obtain rfl : 1749 = i20 := by omega
          refine lv_iload_n hx hb dX12_back_31 rfl (lv_at hl 0 rfl) ?_
          refine lv_sipush (v := 1749) hx hb dX12_back_32 (by decide) ?_
          refine lv_icmp_ge (tgt := 56) hx hb dX12_back_35 (by decide) (fun c40 => ?_) (fun c40 => (by exfalso; have q9 : ((1749 : Nat) : Int) < 1749 := ti_nle c40 (by decide) (nI_toInt (by omega)); omega))
          have t41 : 1749 ≤ ((1749 : Nat) : Int) := ti_le c40 (by decide) (nI_toInt (by omega))
          have hT : gH (dC, dI) kA (SHm q (wP wZ0 vN vH vB vC vL vK vU vV) (wP wZ0 vN vH vB vC vL vK vU vV) im PM PT lS lB lE lN) G H := SHm_w hT (fun _ hi _ p => pc_all hi p)
          refine lv_aload_n hx hb dX12_back_56 rfl (lv_at hl 1 rfl) ?_
          refine lv_iconst (v := 0) hx hb dX12_back_57 (by decide) ?_
          refine tw_put (v := .int 0) (ty := .int) hx hb hts bF_X12 tyX12 tyX12_ok nmX12 hown hK hT hG hS hr_o0 shm_0 rfl 9 (by decide) (ht_at hts 9 rfl) (fun _ h9 => h9) rfl (by decide +kernel) rfl rfl (gl_at rfl (gi_of (show (0 : Int32).toInt = 0 from (by decide)) (by first | decide | omega) (by first | decide | omega))) dX12_back_58 (fun H locs hT oq m42 oj hS => ?_)
          have hF := hF.put hr_o0 skm_0 oq oj (by decide)
          refine lv_iconst (v := 1) hx hb dX12_back_61 (by decide) ?_
          exact W.zret (v := 1) hx hb hr (by decide) (fun t ht hW => ⟨⟨1, (vN, vH, vB, vC, vL, vK, vU, vV), rfl, (by exact ⟨(rg_t (a := 1) (by decide) (by first | decide | omega) (by first | decide | omega)), (Or.inr ⟨by omega, by omega, by decide, rfl, rfl, rfl, rfl, rfl, rfl, rfl, rfl⟩)⟩), by (try dsimp only); rw [ht]; exact ⟨hT, hF⟩⟩, hS.F ht⟩) hS.2.2 dX12_back_62
        | succ n38 ih38 =>
          intro i20 hn38 hlo39  H locs hT hF hS m21 m22 m23 ls hl
          have hlt45 : i20 < 1749 := by omega
          refine lv_iload_n hx hb dX12_back_31 rfl (lv_at hl 0 rfl) ?_
          refine lv_sipush (v := 1749) hx hb dX12_back_32 (by decide) ?_
          refine lv_icmp_ge (tgt := 56) hx hb dX12_back_35 (by decide) (fun c46 => (by exfalso; have q9 : 1749 ≤ ((i20 : Nat) : Int) := ti_le c46 (by decide) (nI_toInt (by omega)); omega)) (fun c46 => ?_)
          have t47 : ((i20 : Nat) : Int) < 1749 := ti_nle c46 (by decide) (nI_toInt (by omega))
          refine lv_aload_n hx hb dX12_back_38 rfl (lv_at hl 1 rfl) ?_
          refine tw_get hx hb hts bF_X12 hown hK hT hr_o0 shm_0 rfl 1 (by decide) (ht_at hts 4 rfl) (fun _ h9 => h9) dX12_back_39 (fun v9 m48 h9 => ?_)
          obtain ⟨rfl, hg49⟩ := h9 _ rfl
          refine lv_iload_n hx hb dX12_back_42 rfl (lv_at hl 0 rfl) ?_
          refine lv_aload_n hx hb dX12_back_43 rfl (lv_at hl 1 rfl) ?_
          refine tw_get hx hb hts bF_X12 hown hK hT hr_o0 shm_0 rfl 2 (by decide) (ht_at hts 2 rfl) (fun _ h9 => h9) dX12_back_44 (fun v9 m50 h9 => ?_)
          obtain ⟨rfl, hg51⟩ := h9 _ rfl
          refine lv_iload_n hx hb dX12_back_47 rfl (lv_at hl 0 rfl) ?_
          refine tw_iald (i := (nI i20)) hx hb hK hT hg7 shm_3 rfl (vp_in_nI (by omega) (by decide)) dX12_back_48 (fun v9 m52 h9 => ?_)
          obtain ⟨x53, rfl, gx53, kx53⟩ := (gp_any h9)
          have t54 : (nI i20).toNatClampNeg = i20 := tn_nI (by omega)
          refine tw_iast2 (Sg1 := (SHm q (pcP (wP wZ0 vN vH vB vC vL vK vU vV) (wP wZ0 wN wH wB wC wL wK wU wV) (i20 + 1)) (wP wZ0 vN vH vB vC vL vK vU vV) im PM PT lS lB lE lN)) (i := (nI i20)) (x := x53) hx hb hK hT hG hS hg49 shm_2 rfl shm_2 shm_o2 (fun b9 h9 => hgu b9 1 h9) (vp_in_nI (by omega) (by decide)) (⟨_, rfl, by rw [show (nI i20).toNatClampNeg = i20 from tn_nI (by omega)]; exact pc_at (by have q8 := gq_at hT hg7 shm_3 (by have q9 := tn_of (show (nI i20).toInt = ((i20 : Nat) : Int) from (nI_toInt (by omega))) (by omega); omega) m52; rw [show (nI i20).toNatClampNeg = i20 from tn_nI (by omega)] at q8; exact q8)⟩) (fun k9 hk9 hne9 v9 hv9 he9 => by obtain ⟨x9, rfl, p9⟩ := he9; exact ⟨x9, rfl, pc_st (by omega) p9⟩) dX12_back_49 (fun H locs hT oq m55 oi hS => ?_)
          have hF := hF.ast hg49 skm_2 oq (by decide)
          have m56 := (el_kept (oq _ (gne hr_o0 hg49 (by decide)))).trans m21
          have m57 := (el_kept (oq _ (gne hr_o0 hg49 (by decide)))).trans m22
          have m58 := (el_kept (oq _ (gne hg7 hg49 (by decide)))).trans m23
          refine lv_iinc (v := nI (i20 + 1)) (lv' := [(1, .int (nI (i20 + 1))), (0, .ref o0)]) hx hb dX12_back_50 hl (k := 0) rfl (nI_add i20 1) (by decide) rfl (fun ls hl => ?_)
          refine lv_goto (tgt := 31) hx hb dX12_back_53 (by decide) ?_
          exact ih38 (i20 + 1) (by omega) (by omega) _ _ hT hF hS m56 m57 m58 ls (lv_sub hl [0, 1] rfl)
      have hT : gH (dC, dI) kA (SHm q (pcP (wP wZ0 vN vH vB vC vL vK vU vV) (wP wZ0 wN wH wB wC wL wK wU wV) 0) (wP wZ0 vN vH vB vC vL vK vU vV) im PM PT lS lB lE lN) G H := SHm_w hT (fun _ _ _ p => pc_0 p)
      exact key38 (1749 - 0) 0 (by omega) (Nat.le_refl _) _ _ hT hF hS m13 m14 m15 ls (lv_sub hl [0, 1] rfl)
    · have t60 : r11.toInt < x9.toInt := ti_nle c18 rfl rfl
      refine lv_iconst (v := 0) hx hb dX12_back_27 (by decide) ?_
      exact W.zret (v := 0) hx hb hr (by decide) (fun t ht hW => ⟨⟨0, (wN, wH, wB, wC, wL, wK, wU, wV), rfl, (by exact ⟨(rg_t (a := 0) (by decide) (by first | decide | omega) (by first | decide | omega)), (Or.inl ⟨by omega, by decide, rfl, rfl, rfl, rfl, rfl, rfl, rfl, rfl⟩)⟩), by (try dsimp only); rw [ht]; exact ⟨hT, hF⟩⟩, hS.F ht⟩) hS.2.2 dX12_back_28
def w_s_isInE : List Cond := .code yX12_isIn cX12_isIn 5 (some .boolean) :: (HAppend.hAppend (α := List Cond) (β := List Cond) (γ := List Cond) [.methodLink RX12 207 Lib.Math.min.name, .static Lib.Math.min.name, .initialized "java/lang/Math", .code Lib.Math.min.name Lib.Math.min.code 2 (some .int), .methodLink RX12 211 Lib.Math.max.name, .static Lib.Math.max.name, .code Lib.Math.max.name Lib.Math.max.code 2 (some .int), .code yX12_in cX12_in 3 (some .boolean), .methodLink RX12 197 yX12_in, .static yX12_in, .initialized RX12] bs)
set_option maxHeartbeats 4000000 in
set_option maxRecDepth 100000 in
theorem s_isInE (l : Launch) (dC : Nat → ClassId) (dI : Nat → Nat → Nat) (kA : Nat → ClassId) (adK adV : Nat → Nat) (G : gT) (H0 : Heap) (q : Nat → Nat) (wZ wN : Nat → Int) (wH wB wC : Int) (wL wK : Nat → Prop) (wU wV : Nat → Nat) (PI : Nat → Int → Prop) (im : Int) (PM PT : Nat → Int → Prop) (lS lB lE : Nat → Nat → Int → Prop) (lN : Nat → Int) (sq : Int32) (a1 : Int32) (a2 : Int32)  (hT : gH (dC, dI) kA (SHm q (wP wZ wN wH wB wC wL wK wU wV) PI im PM PT lS lB lE lN) G H0) (hq0 : 0 ≤ sq.toInt ∧ sq.toInt ≤ 95) (hq1 : 0 ≤ a1.toInt ∧ a1.toInt ≤ 95) (hq2 : 0 ≤ a2.toInt ∧ a2.toInt ≤ 95) (hgz : ∀ i, 0 ≤ wZ i) (hgn : ∀ i, 6500000 ≤ wN i ∧ wN i ≤ 20200000) (hgh : 0 ≤ wH ∧ wH ≤ 40000) (hgb : 0 ≤ wB ∧ wB ≤ 3850000) (hgc : 0 ≤ wC ∧ wC ≤ 30) (hgi : 0 ≤ im ∧ im ≤ 1) (hgu : ∀ a t, G a = some (t + 1) → a = q t) : Met l yX12_isIn w_s_isInE ({ frames := 1, cells := 0, slots := 0, locals := 40 }) (va_Pc [.int sq, .int a1, .int a2] (fun U => U.heap = H0 ∧ va_K (dC, dI) vwCl (tyl kA) U ∧ EVS adK adV (gA G H0.size) U U.heap)) (va_Qi (fun (r : Int32) (u : Unit) => (0 ≤ r.toInt ∧ r.toInt ≤ 1) ∧ ((r.toInt = 1 ∧ (((a1.toInt % 12 ≤ sq.toInt % 12 ∨ a2.toInt % 12 ≤ sq.toInt % 12) ∧ (sq.toInt % 12 ≤ a1.toInt % 12 ∨ sq.toInt % 12 ≤ a2.toInt % 12)) ∧ ((a1.toInt / 12 ≤ sq.toInt / 12 ∨ a2.toInt / 12 ≤ sq.toInt / 12) ∧ (sq.toInt / 12 ≤ a1.toInt / 12 ∨ sq.toInt / 12 ≤ a2.toInt / 12)))) ∨ (r.toInt = 0 ∧ ¬ (((a1.toInt % 12 ≤ sq.toInt % 12 ∨ a2.toInt % 12 ≤ sq.toInt % 12) ∧ (sq.toInt % 12 ≤ a1.toInt % 12 ∨ sq.toInt % 12 ≤ a2.toInt % 12)) ∧ ((a1.toInt / 12 ≤ sq.toInt / 12 ∨ a2.toInt / 12 ≤ sq.toInt / 12) ∧ (sq.toInt / 12 ≤ a1.toInt / 12 ∨ sq.toInt / 12 ≤ a2.toInt / 12)))))) (fun (_ : Unit) (t : State) => gH (dC, dI) kA (SHm q (wP wZ wN wH wB wC wL wK wU wV) PI im PM PT lS lB lE lN) G t.heap ∧ gF (dC, dI) SKm G ([] : List (Nat × Nat)) H0 t.heap) (gA G H0.size)) 0 0 (gA G H0.size) := by
  refine Met.ofW (cc := cX12_isIn) (maxL := 5) (ret := (some .boolean)) (by decide) rfl ?_
  intro p e s m args below meth c s₁ B hml hv
  obtain ⟨rfl, hH0, hK, hE⟩ := hv
  have hx := B.exec
  have hb := B.bytes
  have hr := B.returns
  have hts := atoms_spec (ws := w_s_isInE) B.pre
  have hown : s.vm.findClass RX12 = some m.cls := findClass_of_methodNamed B.named
  have hlocks := B.notSynchronized
  subst hH0
  generalize hAe : gA G s.heap.size = A at hE ⊢
  have hA : ∀ q : Nat, s.heap.size ≤ q → A q := fun q h => by rw [← hAe]; exact Or.inr h
  have hG := gA_of hAe
  have hS : va_S A s.heap s.heap [] := va_S.rf
  have hF : gF (dC, dI) SKm G ([] : List (Nat × Nat)) s.heap s.heap := gF.rf
  have hl := lv_entry ([.int sq, .int a1, .int a2]) (n := 5) (Nat.le_of_ble_eq_true rfl)
  rw [lg_entry_eq]
  generalize (lg_sl ([.int sq, .int a1, .int a2]) ++ List.replicate (5 - (lg_sl ([.int sq, .int a1, .int a2])).length) Slot.unset).toArray = ls at hl ⊢
  have hl : lv_has ls 5 [(0, .int sq), (1, .int a1), (2, .int a2)] := hl
  refine lv_iload_n hx hb dX12_isIn_0 rfl (lv_at hl 0 rfl) ?_
  refine lv_bipush (v := 12) hx hb dX12_isIn_1 (by decide) ?_
  refine lv_irem hx hb dX12_isIn_3 (by decide) ?_
  refine lv_topi (fun x1 ex1 => ?_)
  have t2 : x1.toInt = sq.toInt % 12 := ti_rem ex1 rfl (by decide) (by omega) (by omega)
  refine lv_istore_n (lv' := [(3, .int x1), (0, .int sq), (1, .int a1), (2, .int a2)]) hx hb dX12_isIn_4 rfl hl (by decide) rfl (fun ls hl => ?_)
  refine lv_iload_n hx hb dX12_isIn_5 rfl (lv_at hl 1 rfl) ?_
  refine lv_bipush (v := 12) hx hb dX12_isIn_6 (by decide) ?_
  refine lv_idiv hx hb dX12_isIn_8 (by decide) ?_
  refine lv_topi (fun x3 ex3 => ?_)
  have t4 : x3.toInt = sq.toInt / 12 := ti_div ex3 rfl (by decide) (by omega) (by omega)
  refine lv_istore (lv' := [(4, .int x3), (3, .int x1), (0, .int sq), (1, .int a1), (2, .int a2)]) hx hb dX12_isIn_9 hl (by decide) rfl (fun ls hl => ?_)
  refine lv_iload_n hx hb dX12_isIn_11 rfl (lv_at hl 1 rfl) ?_
  refine lv_iload_n hx hb dX12_isIn_12 rfl (lv_at hl 3 rfl) ?_
  refine lv_bipush (v := 12) hx hb dX12_isIn_13 (by decide) ?_
  refine lv_irem hx hb dX12_isIn_15 (by decide) ?_
  refine lv_topi (fun x5 ex5 => ?_)
  have t6 : x5.toInt = a1.toInt % 12 := ti_rem ex5 rfl (by decide) (by omega) (by omega)
  refine lv_iload_n hx hb dX12_isIn_16 rfl (lv_at hl 4 rfl) ?_
  refine lv_bipush (v := 12) hx hb dX12_isIn_17 (by decide) ?_
  refine lv_irem hx hb dX12_isIn_19 (by decide) ?_
  refine lv_topi (fun x7 ex7 => ?_)
  have t8 : x7.toInt = a2.toInt % 12 := ti_rem ex7 rfl (by decide) (by omega) (by omega)
  refine va_mmin hx hb (hml.trans hl.1.symm) hown (ht_at hts 0 rfl) (ht_at hts 1 rfl) (ht_at hts 2 rfl) (ht_at hts 3 rfl) (Nat.le_of_ble_eq_true rfl) (Nat.le_of_ble_eq_true rfl) (Nat.le_of_ble_eq_true rfl) (Nat.le_of_ble_eq_true rfl) dX12_isIn_20 ?_
  refine lv_topi (fun x9 ex9 => ?_)
  have t10 : x9.toInt ≤ x5.toInt ∧ x9.toInt ≤ x7.toInt ∧ (x9.toInt = x5.toInt ∨ x9.toInt = x7.toInt) := mn_f ex9 rfl rfl
  refine lv_iload_n hx hb dX12_isIn_23 rfl (lv_at hl 3 rfl) ?_
  refine lv_bipush (v := 12) hx hb dX12_isIn_24 (by decide) ?_
  refine lv_irem hx hb dX12_isIn_26 (by decide) ?_
  refine lv_topi (fun x11 ex11 => ?_)
  have t12 : x11.toInt = a1.toInt % 12 := ti_rem ex11 rfl (by decide) (by omega) (by omega)
  refine lv_iload_n hx hb dX12_isIn_27 rfl (lv_at hl 4 rfl) ?_
  refine lv_bipush (v := 12) hx hb dX12_isIn_28 (by decide) ?_
  refine lv_irem hx hb dX12_isIn_30 (by decide) ?_
  refine lv_topi (fun x13 ex13 => ?_)
  have t14 : x13.toInt = a2.toInt % 12 := ti_rem ex13 rfl (by decide) (by omega) (by omega)
  refine va_mmax hx hb (hml.trans hl.1.symm) hown (ht_at hts 4 rfl) (ht_at hts 5 rfl) (ht_at hts 2 rfl) (ht_at hts 6 rfl) (Nat.le_of_ble_eq_true rfl) (Nat.le_of_ble_eq_true rfl) (Nat.le_of_ble_eq_true rfl) (Nat.le_of_ble_eq_true rfl) dX12_isIn_31 ?_
  refine lv_topi (fun x15 ex15 => ?_)
  have t16 : x11.toInt ≤ x15.toInt ∧ x13.toInt ≤ x15.toInt ∧ (x15.toInt = x11.toInt ∨ x15.toInt = x13.toInt) := mx_f ex15 rfl rfl
  have hFc := gA_free hG hA hS
  refine va_calli (va_runS (As := [.int x1, .int x9, .int x15]) (rest := []) ⟨hx, hb, hml, hown, hts⟩ (s_in l dC dI kA adK adV G s.heap q wZ wN wH wB wC wL wK wU wV PI im PM PT lS lB lE lN x1 x9 x15 hT hgz hgn hgh hgb hgc hgi hgu) (va_cwS 3 hts (goodIn_app (goodIn_r _ [9, 10, 11] rfl (by decide +kernel)) (goodIn_ca (goodIn_r _ [8] rfl (by decide +kernel)) (bs_in _ _))) rfl rfl rfl (by decide +kernel) ⟨(Nat.le_of_ble_eq_true rfl), (Nat.le_of_ble_eq_true rfl)⟩) ⟨fun a U g mk q => by obtain ⟨q0, q1, qK, qE⟩ := q; exact ⟨q0, q1, va_K.moved (u := U) (U := U.calling g mk a) (Vm.Alike.refl U.vm) qK, EVS.blind g mk a qE⟩, fun U hU hW => ⟨rfl, hU, va_K.moved hW.alike hK, hE.call hS hFc hU hW⟩⟩ rfl rfl hl.1 rfl (lv_room (Nat.le_of_ble_eq_true rfl)) dX12_isIn_34 ⟨(Nat.le_of_ble_eq_true rfl), (Nat.le_of_ble_eq_true rfl)⟩) hS (fun q _ h => hFc q h) hFc (fun r17 u t H locs ht hvm hw18 hB _ _ hS => ?_)
  obtain ⟨hT, hF1⟩ := hB
  rw [ht] at hT hF1
  have hF := hF.more hF1 (by decide)
  try dsimp only at hw18
  obtain ⟨h19, hi20, hi21⟩ := hw18
  refine lv_if_eq (tgt := 74) hx hb dX12_isIn_37 (by decide) (fun c22 => ?_) (fun c22 => ?_)
  · have t23 : r17.toInt = 0 := ti_eq c22 rfl (by decide)
    have t24 : x1.toInt < x9.toInt ∨ x15.toInt < x1.toInt := hi21 c22
    refine lv_iconst (v := 0) hx hb dX12_isIn_74 (by decide) ?_
    exact W.zret (v := 0) hx hb hr (by decide) (fun t ht hW => ⟨⟨0, (), rfl, (by exact ⟨(rg_t (a := 0) (by decide) (by first | decide | omega) (by first | decide | omega)), (by have : (0 : Int32).toInt = 0 := (by decide); omega)⟩), by (try dsimp only); rw [ht]; exact ⟨hT, hF⟩⟩, hS.F ht⟩) hS.2.2 dX12_isIn_75
  · have t25 : r17.toInt ≠ 0 := ti_ne c22 rfl (by decide)
    have t26 : x9.toInt ≤ x1.toInt ∧ x1.toInt ≤ x15.toInt := hi20 ((bit_of ⟨by omega, by omega⟩).resolve_left c22)
    refine lv_iload hx hb dX12_isIn_40 (lv_at hl 0 rfl) ?_
    refine lv_iload_n hx hb dX12_isIn_42 rfl (lv_at hl 3 rfl) ?_
    refine lv_bipush (v := 12) hx hb dX12_isIn_43 (by decide) ?_
    refine lv_idiv hx hb dX12_isIn_45 (by decide) ?_
    refine lv_topi (fun x27 ex27 => ?_)
    have t28 : x27.toInt = a1.toInt / 12 := ti_div ex27 rfl (by decide) (by omega) (by omega)
    refine lv_iload_n hx hb dX12_isIn_46 rfl (lv_at hl 4 rfl) ?_
    refine lv_bipush (v := 12) hx hb dX12_isIn_47 (by decide) ?_
    refine lv_idiv hx hb dX12_isIn_49 (by decide) ?_
    refine lv_topi (fun x29 ex29 => ?_)
    have t30 : x29.toInt = a2.toInt / 12 := ti_div ex29 rfl (by decide) (by omega) (by omega)
    refine va_mmin hx hb (hml.trans hl.1.symm) hown (ht_at hts 0 rfl) (ht_at hts 1 rfl) (ht_at hts 2 rfl) (ht_at hts 3 rfl) (Nat.le_of_ble_eq_true rfl) (Nat.le_of_ble_eq_true rfl) (Nat.le_of_ble_eq_true rfl) (Nat.le_of_ble_eq_true rfl) dX12_isIn_50 ?_
    refine lv_topi (fun x31 ex31 => ?_)
    have t32 : x31.toInt ≤ x27.toInt ∧ x31.toInt ≤ x29.toInt ∧ (x31.toInt = x27.toInt ∨ x31.toInt = x29.toInt) := mn_f ex31 rfl rfl
    refine lv_iload_n hx hb dX12_isIn_53 rfl (lv_at hl 3 rfl) ?_
    refine lv_bipush (v := 12) hx hb dX12_isIn_54 (by decide) ?_
    refine lv_idiv hx hb dX12_isIn_56 (by decide) ?_
    refine lv_topi (fun x33 ex33 => ?_)
    have t34 : x33.toInt = a1.toInt / 12 := ti_div ex33 rfl (by decide) (by omega) (by omega)
    refine lv_iload_n hx hb dX12_isIn_57 rfl (lv_at hl 4 rfl) ?_
    refine lv_bipush (v := 12) hx hb dX12_isIn_58 (by decide) ?_
    refine lv_idiv hx hb dX12_isIn_60 (by decide) ?_
    refine lv_topi (fun x35 ex35 => ?_)
    have t36 : x35.toInt = a2.toInt / 12 := ti_div ex35 rfl (by decide) (by omega) (by omega)
    refine va_mmax hx hb (hml.trans hl.1.symm) hown (ht_at hts 4 rfl) (ht_at hts 5 rfl) (ht_at hts 2 rfl) (ht_at hts 6 rfl) (Nat.le_of_ble_eq_true rfl) (Nat.le_of_ble_eq_true rfl) (Nat.le_of_ble_eq_true rfl) (Nat.le_of_ble_eq_true rfl) dX12_isIn_61 ?_
    refine lv_topi (fun x37 ex37 => ?_)
    have t38 : x33.toInt ≤ x37.toInt ∧ x35.toInt ≤ x37.toInt ∧ (x37.toInt = x33.toInt ∨ x37.toInt = x35.toInt) := mx_f ex37 rfl rfl
    have hFc := gA_free hG hA hS
    refine va_calli (va_runS (As := [.int x3, .int x31, .int x37]) (rest := []) ⟨hx, hb, hml, hown, hts⟩ (s_in l dC dI kA adK adV G H q wZ wN wH wB wC wL wK wU wV PI im PM PT lS lB lE lN x3 x31 x37 hT hgz hgn hgh hgb hgc hgi hgu) (va_cwS 3 hts (goodIn_app (goodIn_r _ [9, 10, 11] rfl (by decide +kernel)) (goodIn_ca (goodIn_r _ [8] rfl (by decide +kernel)) (bs_in _ _))) rfl rfl rfl (by decide +kernel) ⟨(Nat.le_of_ble_eq_true rfl), (Nat.le_of_ble_eq_true rfl)⟩) ⟨fun a U g mk q => by obtain ⟨q0, q1, qK, qE⟩ := q; exact ⟨q0, q1, va_K.moved (u := U) (U := U.calling g mk a) (Vm.Alike.refl U.vm) qK, EVS.blind g mk a qE⟩, fun U hU hW => ⟨rfl, hU, va_K.moved hW.alike hK, hE.call hS hFc hU hW⟩⟩ rfl rfl hl.1 rfl (lv_room (Nat.le_of_ble_eq_true rfl)) dX12_isIn_64 ⟨(Nat.le_of_ble_eq_true rfl), (Nat.le_of_ble_eq_true rfl)⟩) hS (fun q _ h => hFc q h) hFc (fun r39 u t H locs ht hvm hw40 hB _ _ hS => ?_)
    obtain ⟨hT, hF1⟩ := hB
    rw [ht] at hT hF1
    have hF := hF.more hF1 (by decide)
    try dsimp only at hw40
    obtain ⟨h41, hi42, hi43⟩ := hw40
    refine lv_if_eq (tgt := 74) hx hb dX12_isIn_67 (by decide) (fun c44 => ?_) (fun c44 => ?_)
    · have t45 : r39.toInt = 0 := ti_eq c44 rfl (by decide)
      have t46 : x3.toInt < x31.toInt ∨ x37.toInt < x3.toInt := hi43 c44
      refine lv_iconst (v := 0) hx hb dX12_isIn_74 (by decide) ?_
      exact W.zret (v := 0) hx hb hr (by decide) (fun t ht hW => ⟨⟨0, (), rfl, (by exact ⟨(rg_t (a := 0) (by decide) (by first | decide | omega) (by first | decide | omega)), (by have : (0 : Int32).toInt = 0 := (by decide); omega)⟩), by (try dsimp only); rw [ht]; exact ⟨hT, hF⟩⟩, hS.F ht⟩) hS.2.2 dX12_isIn_75
    · have t47 : r39.toInt ≠ 0 := ti_ne c44 rfl (by decide)
      have t48 : x31.toInt ≤ x3.toInt ∧ x3.toInt ≤ x37.toInt := hi42 ((bit_of ⟨by omega, by omega⟩).resolve_left c44)
      refine lv_iconst (v := 1) hx hb dX12_isIn_70 (by decide) ?_
      refine lv_goto (tgt := 75) hx hb dX12_isIn_71 (by decide) ?_
      exact W.zret (v := 1) hx hb hr (by decide) (fun t ht hW => ⟨⟨1, (), rfl, (by exact ⟨(rg_t (a := 1) (by decide) (by first | decide | omega) (by first | decide | omega)), (by have : (1 : Int32).toInt = 1 := (by decide); omega)⟩), by (try dsimp only); rw [ht]; exact ⟨hT, hF⟩⟩, hS.F ht⟩) hS.2.2 dX12_isIn_75
def w_s_noSquareE : List Cond := .code yX12_noSquare cX12_noSquare 1 (some .boolean) :: (HAppend.hAppend (α := List Cond) (β := List Cond) (γ := List Cond) [.code yX12_in cX12_in 3 (some .boolean), .methodLink RX12 197 yX12_in, .static yX12_in, .initialized RX12] bs)
set_option maxHeartbeats 4000000 in
set_option maxRecDepth 100000 in
theorem s_noSquareE (l : Launch) (dC : Nat → ClassId) (dI : Nat → Nat → Nat) (kA : Nat → ClassId) (adK adV : Nat → Nat) (G : gT) (H0 : Heap) (q : Nat → Nat) (wZ wN : Nat → Int) (wH wB wC : Int) (wL wK : Nat → Prop) (wU wV : Nat → Nat) (PI : Nat → Int → Prop) (im : Int) (PM PT : Nat → Int → Prop) (lS lB lE : Nat → Nat → Int → Prop) (lN : Nat → Int) (sq : Int32)  (hT : gH (dC, dI) kA (SHm q (wP wZ wN wH wB wC wL wK wU wV) PI im PM PT lS lB lE lN) G H0) (hgz : ∀ i, 0 ≤ wZ i) (hgn : ∀ i, 6500000 ≤ wN i ∧ wN i ≤ 20200000) (hgh : 0 ≤ wH ∧ wH ≤ 40000) (hgb : 0 ≤ wB ∧ wB ≤ 3850000) (hgc : 0 ≤ wC ∧ wC ≤ 30) (hgi : 0 ≤ im ∧ im ≤ 1) (hgu : ∀ a t, G a = some (t + 1) → a = q t) : Met l yX12_noSquare w_s_noSquareE ({ frames := 1, cells := 0, slots := 0, locals := 22 }) (va_Pc [.int sq] (fun U => U.heap = H0 ∧ va_K (dC, dI) vwCl (tyl kA) U ∧ EVS adK adV (gA G H0.size) U U.heap)) (va_Qi (fun (r : Int32) (u : Unit) => (0 ≤ r.toInt ∧ r.toInt ≤ 1) ∧ ((r.toInt = 0 ∧ (0 ≤ sq.toInt ∧ sq.toInt ≤ 95)) ∨ (r.toInt = 1 ∧ ¬ (0 ≤ sq.toInt ∧ sq.toInt ≤ 95)))) (fun (_ : Unit) (t : State) => gH (dC, dI) kA (SHm q (wP wZ wN wH wB wC wL wK wU wV) PI im PM PT lS lB lE lN) G t.heap ∧ gF (dC, dI) SKm G ([] : List (Nat × Nat)) H0 t.heap) (gA G H0.size)) 0 0 (gA G H0.size) := by
  refine Met.ofW (cc := cX12_noSquare) (maxL := 1) (ret := (some .boolean)) (by decide) rfl ?_
  intro p e s m args below meth c s₁ B hml hv
  obtain ⟨rfl, hH0, hK, hE⟩ := hv
  have hx := B.exec
  have hb := B.bytes
  have hr := B.returns
  have hts := atoms_spec (ws := w_s_noSquareE) B.pre
  have hown : s.vm.findClass RX12 = some m.cls := findClass_of_methodNamed B.named
  have hlocks := B.notSynchronized
  subst hH0
  generalize hAe : gA G s.heap.size = A at hE ⊢
  have hA : ∀ q : Nat, s.heap.size ≤ q → A q := fun q h => by rw [← hAe]; exact Or.inr h
  have hG := gA_of hAe
  have hS : va_S A s.heap s.heap [] := va_S.rf
  have hF : gF (dC, dI) SKm G ([] : List (Nat × Nat)) s.heap s.heap := gF.rf
  have hl := lv_entry ([.int sq]) (n := 1) (Nat.le_of_ble_eq_true rfl)
  rw [lg_entry_eq]
  generalize (lg_sl ([.int sq]) ++ List.replicate (1 - (lg_sl ([.int sq])).length) Slot.unset).toArray = ls at hl ⊢
  have hl : lv_has ls 1 [(0, .int sq)] := hl
  refine lv_iload_n hx hb dX12_noSquare_0 rfl (lv_at hl 0 rfl) ?_
  refine lv_iconst (v := 0) hx hb dX12_noSquare_1 (by decide) ?_
  refine lv_bipush (v := 95) hx hb dX12_noSquare_2 (by decide) ?_
  have hFc := gA_free hG hA hS
  refine va_calli (va_runS (As := [.int sq, .int 0, .int 95]) (rest := []) ⟨hx, hb, hml, hown, hts⟩ (s_in l dC dI kA adK adV G s.heap q wZ wN wH wB wC wL wK wU wV PI im PM PT lS lB lE lN sq 0 95 hT hgz hgn hgh hgb hgc hgi hgu) (va_cwS 3 hts (goodIn_app (goodIn_r _ [2, 3, 4] rfl (by decide +kernel)) (goodIn_ca (goodIn_r _ [1] rfl (by decide +kernel)) (bs_in _ _))) rfl rfl rfl (by decide +kernel) ⟨(Nat.le_of_ble_eq_true rfl), (Nat.le_of_ble_eq_true rfl)⟩) ⟨fun a U g mk q => by obtain ⟨q0, q1, qK, qE⟩ := q; exact ⟨q0, q1, va_K.moved (u := U) (U := U.calling g mk a) (Vm.Alike.refl U.vm) qK, EVS.blind g mk a qE⟩, fun U hU hW => ⟨rfl, hU, va_K.moved hW.alike hK, hE.call hS hFc hU hW⟩⟩ rfl rfl hl.1 rfl (lv_room (Nat.le_of_ble_eq_true rfl)) dX12_noSquare_4 ⟨(Nat.le_of_ble_eq_true rfl), (Nat.le_of_ble_eq_true rfl)⟩) hS (fun q _ h => hFc q h) hFc (fun r1 u t H locs ht hvm hw2 hB _ _ hS => ?_)
  obtain ⟨hT, hF1⟩ := hB
  rw [ht] at hT hF1
  have hF := hF.more hF1 (by decide)
  try dsimp only at hw2
  obtain ⟨h3, hi4, hi5⟩ := hw2
  refine lv_if_ne (tgt := 14) hx hb dX12_noSquare_7 (by decide) (fun c6 => ?_) (fun c6 => ?_)
  · have t7 : r1.toInt ≠ 0 := ti_ne c6 rfl (by decide)
    have t8 : (0 : Int32).toInt = 0 := by decide
    have t9 : (95 : Int32).toInt = 95 := by decide
    have t10 : (0 : Int32).toInt ≤ sq.toInt ∧ sq.toInt ≤ (95 : Int32).toInt := hi4 ((bit_of ⟨by omega, by omega⟩).resolve_left c6)
    refine lv_iconst (v := 0) hx hb dX12_noSquare_14 (by decide) ?_
    exact W.zret (v := 0) hx hb hr (by decide) (fun t ht hW => ⟨⟨0, (), rfl, (by exact ⟨(rg_t (a := 0) (by decide) (by first | decide | omega) (by first | decide | omega)), (by have : (0 : Int32).toInt = 0 := (by decide); omega)⟩), by (try dsimp only); rw [ht]; exact ⟨hT, hF⟩⟩, hS.F ht⟩) hS.2.2 dX12_noSquare_15
  · have t11 : r1.toInt = 0 := ti_eq c6 rfl (by decide)
    have t12 : (0 : Int32).toInt = 0 := by decide
    have t13 : (95 : Int32).toInt = 95 := by decide
    have t14 : sq.toInt < (0 : Int32).toInt ∨ (95 : Int32).toInt < sq.toInt := hi5 c6
    refine lv_iconst (v := 1) hx hb dX12_noSquare_10 (by decide) ?_
    refine lv_goto (tgt := 15) hx hb dX12_noSquare_11 (by decide) ?_
    exact W.zret (v := 1) hx hb hr (by decide) (fun t ht hW => ⟨⟨1, (), rfl, (by exact ⟨(rg_t (a := 1) (by decide) (by first | decide | omega) (by first | decide | omega)), (by have : (1 : Int32).toInt = 1 := (by decide); omega)⟩), by (try dsimp only); rw [ht]; exact ⟨hT, hF⟩⟩, hS.F ht⟩) hS.2.2 dX12_noSquare_15
def w_s_landC : List Cond := .code yX12_land cX12_land 8 (some .int) :: (HAppend.hAppend (α := List Cond) (β := List Cond) (γ := List Cond) [.fieldLink RX12 194 "SeaLandModel" "thrown" "I", .code yX12_noSquare cX12_noSquare 1 (some .boolean), .code yX12_in cX12_in 3 (some .boolean), .methodLink RX12 197 yX12_in, .static yX12_in, .initialized RX12, .methodLink RX12 220 yX12_noSquare, .static yX12_noSquare, .code yX12_throwsIf cX12_throwsIf 3 (some .boolean), .methodLink RX12 224 yX12_throwsIf, .instanceMethod yX12_throwsIf, .selects RX12 yX12_throwsIf yX12_throwsIf, .code yX12_hour cX12_hour 1 (some .int), .fieldLink RX12 9 "SeaLandModel" "world" "[I", .methodLink RX12 228 yX12_hour, .instanceMethod yX12_hour, .selects RX12 yX12_hour yX12_hour, .fieldLink RX12 238 "SeaLandModel" "rows" "I", .code yX12_isIn cX12_isIn 5 (some .boolean), .methodLink RX12 207 Lib.Math.min.name, .static Lib.Math.min.name, .initialized "java/lang/Math", .code Lib.Math.min.name Lib.Math.min.code 2 (some .int), .methodLink RX12 211 Lib.Math.max.name, .static Lib.Math.max.name, .code Lib.Math.max.name Lib.Math.max.code 2 (some .int), .methodLink RX12 232 yX12_isIn, .static yX12_isIn, .code yX12_isLand cX12_isLand 2 (some .boolean), .methodLink RX12 235 yX12_isLand, .instanceMethod yX12_isLand, .selects RX12 yX12_isLand yX12_isLand] bs)
set_option maxHeartbeats 4000000 in
set_option maxRecDepth 100000 in
theorem s_landC (l : Launch) (dC : Nat → ClassId) (dI : Nat → Nat → Nat) (kA : Nat → ClassId) (adK adV : Nat → Nat) (G : gT) (H0 : Heap) (q : Nat → Nat) (wZ wN : Nat → Int) (wH wB wC : Int) (wL wK : Nat → Prop) (wU wV : Nat → Nat) (PI : Nat → Int → Prop) (im : Int) (PM PT : Nat → Int → Prop) (lS lB lE : Nat → Nat → Int → Prop) (lN : Nat → Int) (o0 : Nat) (p0 : Int32) (p1 : Int32) (p2 : Int32) (p3 : Int32) (p4 : Int32) (L : Nat → Int) (hT : gH (dC, dI) kA (SHm q (wP wZ0 wN wH wB wC wL wK wU wV) PI im PM PT lS lB lE lN) G H0) (hr_o0 : G o0 = some 0) (hL : ∀ i, i < 96 → (wL i ↔ L i = 1) ∧ (0 ≤ L i ∧ L i ≤ 1)) (hgz : ∀ i, 0 ≤ wZ i) (hgn : ∀ i, 6500000 ≤ wN i ∧ wN i ≤ 20200000) (hgh : 0 ≤ wH ∧ wH ≤ 40000) (hgb : 0 ≤ wB ∧ wB ≤ 3850000) (hgc : 0 ≤ wC ∧ wC ≤ 30) (hgi : 0 ≤ im ∧ im ≤ 1) (hgu : ∀ a t, G a = some (t + 1) → a = q t) : Met l yX12_land w_s_landC ({ frames := 2, cells := 0, slots := 0, locals := 64 }) (va_Pc [.ref o0, .int p0, .int p1, .int p2, .int p3, .int p4] (fun U => U.heap = H0 ∧ va_K (dC, dI) vwCl (tyl kA) U ∧ EVS adK adV (gA G H0.size) U U.heap)) (va_Qi (fun (r : Int32) (u : Int32 × (Nat → Prop)) => match u with | (t1, wL1) => (0 ≤ r.toInt ∧ r.toInt ≤ 96) ∧ (∀ j, wL j → wL1 j) ∧ ((laC wH p0.toInt p1.toInt p2.toInt p3.toInt p4.toInt = 0 ∧ t1.toInt = 0 ∧ wL1 = lndB wL p0.toInt p1.toInt 96 ∧ r.toInt = ldN L p0.toInt p1.toInt 96) ∨ (laC wH p0.toInt p1.toInt p2.toInt p3.toInt p4.toInt ≠ 0 ∧ t1.toInt = laC wH p0.toInt p1.toInt p2.toInt p3.toInt p4.toInt ∧ wL1 = wL))) (fun (u : Int32 × (Nat → Prop)) (t : State) => match u with | (t1, wL1) => gH (dC, dI) kA (SHm q (wP wZ0 wN wH wB wC wL1 wK wU wV) PI im PM PT lS lB lE lN) G t.heap ∧ gF (dC, dI) SKm G ([(0, 0), (0, 9), (2, 0)] : List (Nat × Nat)) H0 t.heap ∧ el t.heap o0 (dI 15 0) = some (.int t1)) (gA G H0.size)) 0 0 (gA G H0.size) := by
  refine Met.ofW (cc := cX12_land) (maxL := 8) (ret := (some .int)) (by decide) rfl ?_
  intro p e s m args below meth c s₁ B hml hv
  obtain ⟨rfl, hH0, hK, hE⟩ := hv
  have hx := B.exec
  have hb := B.bytes
  have hr := B.returns
  have hts := atoms_spec (ws := w_s_landC) B.pre
  have hown : s.vm.findClass RX12 = some m.cls := findClass_of_methodNamed B.named
  have hlocks := B.notSynchronized
  subst hH0
  generalize hAe : gA G s.heap.size = A at hE ⊢
  have hA : ∀ q : Nat, s.heap.size ≤ q → A q := fun q h => by rw [← hAe]; exact Or.inr h
  have hG := gA_of hAe
  have hS : va_S A s.heap s.heap [] := va_S.rf
  have hF : gF (dC, dI) SKm G ([(0, 0), (0, 9), (2, 0)] : List (Nat × Nat)) s.heap s.heap := gF.rf
  have hl := lv_entry ([.ref o0, .int p0, .int p1, .int p2, .int p3, .int p4]) (n := 8) (Nat.le_of_ble_eq_true rfl)
  rw [lg_entry_eq]
  generalize (lg_sl ([.ref o0, .int p0, .int p1, .int p2, .int p3, .int p4]) ++ List.replicate (8 - (lg_sl ([.ref o0, .int p0, .int p1, .int p2, .int p3, .int p4])).length) Slot.unset).toArray = ls at hl ⊢
  have hl : lv_has ls 8 [(0, .ref o0), (1, .int p0), (2, .int p1), (3, .int p2), (4, .int p3), (5, .int p4)] := hl
  refine lv_aload_n hx hb dX12_land_0 rfl (lv_at hl 0 rfl) ?_
  refine lv_iconst (v := 0) hx hb dX12_land_1 (by decide) ?_
  refine tw_put (v := .int 0) (ty := .int) hx hb hts bF_X12 tyX12 tyX12_ok nmX12 hown hK hT hG hS hr_o0 shm_0 rfl 0 (by decide) (ht_at hts 0 rfl) (fun _ h9 => h9) rfl (by decide +kernel) rfl rfl (gl_at rfl (gi_all _)) dX12_land_2 (fun H locs hT oq m1 oj hS => ?_)
  have hF := hF.put hr_o0 skm_0 oq oj (by decide)
  refine lv_aload_n hx hb dX12_land_5 rfl (lv_at hl 0 rfl) ?_
  refine lv_iload_n hx hb dX12_land_6 rfl (lv_at hl 1 rfl) ?_
  have hFc := gA_free hG hA hS
  refine va_calli (va_runS (As := [.int p0]) (rest := [.ref o0]) ⟨hx, hb, hml, hown, hts⟩ (s_noSquareE l dC dI kA adK adV G H q wZ0 wN wH wB wC wL wK wU wV PI im PM PT lS lB lE lN p0 hT (fun _ => Int.le_refl 0) hgn hgh hgb hgc hgi hgu) (va_cwS 1 hts (goodIn_app (goodIn_r _ [7, 8, 6] rfl (by decide +kernel)) (goodIn_ca (goodIn_r _ [2, 3, 4, 5, 6] rfl (by decide +kernel)) (bs_in _ _))) rfl rfl rfl (by decide +kernel) ⟨(Nat.le_of_ble_eq_true rfl), (Nat.le_of_ble_eq_true rfl)⟩) ⟨fun a U g mk q => by obtain ⟨q0, q1, qK, qE⟩ := q; exact ⟨q0, q1, va_K.moved (u := U) (U := U.calling g mk a) (Vm.Alike.refl U.vm) qK, EVS.blind g mk a qE⟩, fun U hU hW => ⟨rfl, hU, va_K.moved hW.alike hK, hE.call hS hFc hU hW⟩⟩ rfl rfl hl.1 rfl (lv_room (Nat.le_of_ble_eq_true rfl)) dX12_land_7 ⟨(Nat.le_of_ble_eq_true rfl), (Nat.le_of_ble_eq_true rfl)⟩) hS (fun q _ h => hFc q h) hFc (fun r2 u t H locs ht hvm hw3 hB _ _ hS => ?_)
  obtain ⟨hT, hF1⟩ := hB
  rw [ht] at hT hF1
  have m4 := (hF1.fld hr_o0 skm_0 (k := 0) (by decide) (by decide)).trans m1
  have hF := hF.more hF1 (by decide)
  try dsimp only at hw3
  obtain ⟨h5, hf6⟩ := hw3
  refine lv_if_ne (tgt := 20) hx hb dX12_land_10 (by decide) (fun c7 => ?_) (fun c7 => ?_)
  · have t8 : r2.toInt ≠ 0 := ti_ne c7 rfl (by decide)
    refine lv_iconst (v := 1) hx hb dX12_land_20 (by decide) ?_
    refine lv_goto (tgt := 25) hx hb dX12_land_21 (by decide) ?_
    refine lv_iconst (v := 1) hx hb dX12_land_25 (by decide) ?_
    have hFc := gA_free hG hA hS
    refine va_calli (va_runV (As := [.int 1, .int 1]) (rest := []) ⟨hx, hb, hml, hown, hts⟩ (s_throwsIfP l dC dI kA adK adV G H q wZ0 wN wH wB wC wL wK wU wV PI im PM PT lS lB lE lN o0 1 1 0 hT hr_o0 m4 (rg_t (a := 1) (by decide) (by first | decide | omega) (by first | decide | omega)) (fun _ => Int.le_refl 0) hgn hgh hgb hgc hgi hgu) (cwV 2 hts (goodIn_app (goodIn_r _ [10, 11, 12, 6] rfl (by decide +kernel)) (goodIn_ca (goodIn_r _ [9, 1] rfl (by decide +kernel)) (bs_in _ _))) rfl rfl rfl (by decide +kernel) ⟨(Nat.le_of_ble_eq_true rfl), (Nat.le_of_ble_eq_true rfl)⟩) ⟨fun a U g mk q => by obtain ⟨q0, q1, qK, qE⟩ := q; exact ⟨q0, q1, va_K.moved (u := U) (U := U.calling g mk a) (Vm.Alike.refl U.vm) qK, EVS.blind g mk a qE⟩, gH_rc hK hT hr_o0 shm_0 rfl, fun U hU hW => ⟨rfl, hU, va_K.moved hW.alike hK, hE.call hS hFc hU hW⟩⟩ rfl rfl hl.1 rfl (lv_room (Nat.le_of_ble_eq_true rfl)) dX12_land_26 ⟨(Nat.le_of_ble_eq_true rfl), (Nat.le_of_ble_eq_true rfl)⟩) hS (fun q _ h => hFc q h) hFc (fun r9 u t H locs ht hvm hw10 hB _ _ hS => ?_)
    obtain ⟨u11, rfl⟩ : ∃ z, z = u := ⟨_, rfl⟩
    obtain ⟨hT, hF1, m12⟩ := hB
    rw [ht] at hT hF1 m12
    have hF := hF.more hF1 (by decide)
    try dsimp only at hw10
    obtain ⟨h14, hf15, hd16⟩ := hw10
    have t17 : (1 : Int32).toInt = 1 := by decide
    have t18 : (1 : Int32).toInt = 1 := by decide
    have t19 : (0 : Int32).toInt = 0 := by decide
    obtain rfl : (1 : Int32) = r9 := hd16.symm
    refine lv_if_ne (tgt := 99) hx hb dX12_land_29 (by decide) (fun c20 => ?_) (fun c20 => absurd c20 (by decide))
    refine lv_iconst (v := 0) hx hb dX12_land_99 (by decide) ?_
    exact W.iret (v := 0) hx hb hr (fun t ht hW => ⟨⟨0, (u11, wL), rfl, (by exact ⟨(rg_t (a := 0) (by decide) (by first | decide | omega) (by first | decide | omega)), (fun _ h9 => h9), (Or.inr ⟨by have := laC_s wH p0.toInt p1.toInt p2.toInt p3.toInt p4.toInt; have q0 : (0 : Int32).toInt = 0 := (by decide); have q1 : (1 : Int32).toInt = 1 := (by decide); have q2 : (2 : Int32).toInt = 2 := (by decide); have q3 : (3 : Int32).toInt = 3 := (by decide); have qm : (-1 : Int32).toInt = -1 := (by decide); omega, by have := laC_s wH p0.toInt p1.toInt p2.toInt p3.toInt p4.toInt; have q0 : (0 : Int32).toInt = 0 := (by decide); have q1 : (1 : Int32).toInt = 1 := (by decide); have q2 : (2 : Int32).toInt = 2 := (by decide); have q3 : (3 : Int32).toInt = 3 := (by decide); have qm : (-1 : Int32).toInt = -1 := (by decide); omega, rfl⟩)⟩), by (try dsimp only); rw [ht]; exact ⟨hT, hF, m12⟩⟩, hS.F ht⟩) hS.2.2 dX12_land_100
  · have t21 : r2.toInt = 0 := ti_eq c7 rfl (by decide)
    refine lv_iload_n hx hb dX12_land_13 rfl (lv_at hl 2 rfl) ?_
    have hFc := gA_free hG hA hS
    refine va_calli (va_runS (As := [.int p1]) (rest := [.ref o0]) ⟨hx, hb, hml, hown, hts⟩ (s_noSquareE l dC dI kA adK adV G H q wZ0 wN wH wB wC wL wK wU wV PI im PM PT lS lB lE lN p1 hT (fun _ => Int.le_refl 0) hgn hgh hgb hgc hgi hgu) (va_cwS 1 hts (goodIn_app (goodIn_r _ [7, 8, 6] rfl (by decide +kernel)) (goodIn_ca (goodIn_r _ [2, 3, 4, 5, 6] rfl (by decide +kernel)) (bs_in _ _))) rfl rfl rfl (by decide +kernel) ⟨(Nat.le_of_ble_eq_true rfl), (Nat.le_of_ble_eq_true rfl)⟩) ⟨fun a U g mk q => by obtain ⟨q0, q1, qK, qE⟩ := q; exact ⟨q0, q1, va_K.moved (u := U) (U := U.calling g mk a) (Vm.Alike.refl U.vm) qK, EVS.blind g mk a qE⟩, fun U hU hW => ⟨rfl, hU, va_K.moved hW.alike hK, hE.call hS hFc hU hW⟩⟩ rfl rfl hl.1 rfl (lv_room (Nat.le_of_ble_eq_true rfl)) dX12_land_14 ⟨(Nat.le_of_ble_eq_true rfl), (Nat.le_of_ble_eq_true rfl)⟩) hS (fun q _ h => hFc q h) hFc (fun r22 u t H locs ht hvm hw23 hB _ _ hS => ?_)
    obtain ⟨hT, hF1⟩ := hB
    rw [ht] at hT hF1
    have m24 := (hF1.fld hr_o0 skm_0 (k := 0) (by decide) (by decide)).trans m4
    have hF := hF.more hF1 (by decide)
    try dsimp only at hw23
    obtain ⟨h25, hf26⟩ := hw23
    refine lv_if_eq (tgt := 24) hx hb dX12_land_17 (by decide) (fun c27 => ?_) (fun c27 => ?_)
    · have t28 : r22.toInt = 0 := ti_eq c27 rfl (by decide)
      refine lv_iconst (v := 0) hx hb dX12_land_24 (by decide) ?_
      refine lv_iconst (v := 1) hx hb dX12_land_25 (by decide) ?_
      have hFc := gA_free hG hA hS
      refine va_calli (va_runV (As := [.int 0, .int 1]) (rest := []) ⟨hx, hb, hml, hown, hts⟩ (s_throwsIfP l dC dI kA adK adV G H q wZ0 wN wH wB wC wL wK wU wV PI im PM PT lS lB lE lN o0 0 1 0 hT hr_o0 m24 (rg_t (a := 0) (by decide) (by first | decide | omega) (by first | decide | omega)) (fun _ => Int.le_refl 0) hgn hgh hgb hgc hgi hgu) (cwV 2 hts (goodIn_app (goodIn_r _ [10, 11, 12, 6] rfl (by decide +kernel)) (goodIn_ca (goodIn_r _ [9, 1] rfl (by decide +kernel)) (bs_in _ _))) rfl rfl rfl (by decide +kernel) ⟨(Nat.le_of_ble_eq_true rfl), (Nat.le_of_ble_eq_true rfl)⟩) ⟨fun a U g mk q => by obtain ⟨q0, q1, qK, qE⟩ := q; exact ⟨q0, q1, va_K.moved (u := U) (U := U.calling g mk a) (Vm.Alike.refl U.vm) qK, EVS.blind g mk a qE⟩, gH_rc hK hT hr_o0 shm_0 rfl, fun U hU hW => ⟨rfl, hU, va_K.moved hW.alike hK, hE.call hS hFc hU hW⟩⟩ rfl rfl hl.1 rfl (lv_room (Nat.le_of_ble_eq_true rfl)) dX12_land_26 ⟨(Nat.le_of_ble_eq_true rfl), (Nat.le_of_ble_eq_true rfl)⟩) hS (fun q _ h => hFc q h) hFc (fun r29 u t H locs ht hvm hw30 hB _ _ hS => ?_)
      obtain ⟨u31, rfl⟩ : ∃ z, z = u := ⟨_, rfl⟩
      obtain ⟨hT, hF1, m32⟩ := hB
      rw [ht] at hT hF1 m32
      have hF := hF.more hF1 (by decide)
      try dsimp only at hw30
      obtain ⟨h34, hf35, hd36⟩ := hw30
      have t37 : (0 : Int32).toInt = 0 := by decide
      have t38 : (1 : Int32).toInt = 1 := by decide
      have t39 : (0 : Int32).toInt = 0 := by decide
      obtain rfl : (0 : Int32) = r29 := hd36.symm
      refine lv_if_ne (tgt := 99) hx hb dX12_land_29 (by decide) (fun c40 => absurd c40 (by decide)) (fun c40 => ?_)
      refine lv_aload_n hx hb dX12_land_32 rfl (lv_at hl 0 rfl) ?_
      refine lv_iload_n hx hb dX12_land_33 rfl (lv_at hl 3 rfl) ?_
      refine lv_sipush (v := (-900)) hx hb dX12_land_34 (by decide) ?_
      refine lv_sipush (v := 300) hx hb dX12_land_37 (by decide) ?_
      have hFc := gA_free hG hA hS
      refine va_calli (va_runS (As := [.int p2, .int (-900), .int 300]) (rest := [.ref o0]) ⟨hx, hb, hml, hown, hts⟩ (s_in l dC dI kA adK adV G H q wZ0 wN wH wB wC wL wK wU wV PI im PM PT lS lB lE lN p2 (-900) 300 hT (fun _ => Int.le_refl 0) hgn hgh hgb hgc hgi hgu) (va_cwS 3 hts (goodIn_app (goodIn_r _ [4, 5, 6] rfl (by decide +kernel)) (goodIn_ca (goodIn_r _ [3] rfl (by decide +kernel)) (bs_in _ _))) rfl rfl rfl (by decide +kernel) ⟨(Nat.le_of_ble_eq_true rfl), (Nat.le_of_ble_eq_true rfl)⟩) ⟨fun a U g mk q => by obtain ⟨q0, q1, qK, qE⟩ := q; exact ⟨q0, q1, va_K.moved (u := U) (U := U.calling g mk a) (Vm.Alike.refl U.vm) qK, EVS.blind g mk a qE⟩, fun U hU hW => ⟨rfl, hU, va_K.moved hW.alike hK, hE.call hS hFc hU hW⟩⟩ rfl rfl hl.1 rfl (lv_room (Nat.le_of_ble_eq_true rfl)) dX12_land_40 ⟨(Nat.le_of_ble_eq_true rfl), (Nat.le_of_ble_eq_true rfl)⟩) hS (fun q _ h => hFc q h) hFc (fun r41 u t H locs ht hvm hw42 hB _ _ hS => ?_)
      obtain ⟨hT, hF1⟩ := hB
      rw [ht] at hT hF1
      have m43 := (hF1.fld hr_o0 skm_0 (k := 0) (by decide) (by decide)).trans m32
      have hF := hF.more hF1 (by decide)
      try dsimp only at hw42
      obtain ⟨h44, hi45, hi46⟩ := hw42
      refine lv_if_eq (tgt := 67) hx hb dX12_land_43 (by decide) (fun c47 => ?_) (fun c47 => ?_)
      · have t48 : r41.toInt = 0 := ti_eq c47 rfl (by decide)
        have t49 : (-900 : Int32).toInt = (-900) := by decide
        have t50 : (300 : Int32).toInt = 300 := by decide
        have t51 : p2.toInt < (-900 : Int32).toInt ∨ (300 : Int32).toInt < p2.toInt := hi46 c47
        refine lv_iconst (v := 1) hx hb dX12_land_67 (by decide) ?_
        refine lv_goto (tgt := 72) hx hb dX12_land_68 (by decide) ?_
        refine lv_iconst (v := 2) hx hb dX12_land_72 (by decide) ?_
        have hFc := gA_free hG hA hS
        refine va_calli (va_runV (As := [.int 1, .int 2]) (rest := []) ⟨hx, hb, hml, hown, hts⟩ (s_throwsIfP l dC dI kA adK adV G H q wZ0 wN wH wB wC wL wK wU wV PI im PM PT lS lB lE lN o0 1 2 u31 hT hr_o0 m43 (rg_t (a := 1) (by decide) (by first | decide | omega) (by first | decide | omega)) (fun _ => Int.le_refl 0) hgn hgh hgb hgc hgi hgu) (cwV 2 hts (goodIn_app (goodIn_r _ [10, 11, 12, 6] rfl (by decide +kernel)) (goodIn_ca (goodIn_r _ [9, 1] rfl (by decide +kernel)) (bs_in _ _))) rfl rfl rfl (by decide +kernel) ⟨(Nat.le_of_ble_eq_true rfl), (Nat.le_of_ble_eq_true rfl)⟩) ⟨fun a U g mk q => by obtain ⟨q0, q1, qK, qE⟩ := q; exact ⟨q0, q1, va_K.moved (u := U) (U := U.calling g mk a) (Vm.Alike.refl U.vm) qK, EVS.blind g mk a qE⟩, gH_rc hK hT hr_o0 shm_0 rfl, fun U hU hW => ⟨rfl, hU, va_K.moved hW.alike hK, hE.call hS hFc hU hW⟩⟩ rfl rfl hl.1 rfl (lv_room (Nat.le_of_ble_eq_true rfl)) dX12_land_73 ⟨(Nat.le_of_ble_eq_true rfl), (Nat.le_of_ble_eq_true rfl)⟩) hS (fun q _ h => hFc q h) hFc (fun r52 u t H locs ht hvm hw53 hB _ _ hS => ?_)
        obtain ⟨u54, rfl⟩ : ∃ z, z = u := ⟨_, rfl⟩
        obtain ⟨hT, hF1, m55⟩ := hB
        rw [ht] at hT hF1 m55
        have hF := hF.more hF1 (by decide)
        try dsimp only at hw53
        obtain ⟨h57, hf58, hd59⟩ := hw53
        have t60 : (1 : Int32).toInt = 1 := by decide
        have t61 : (2 : Int32).toInt = 2 := by decide
        obtain rfl : (1 : Int32) = r52 := hd59.symm
        refine lv_if_ne (tgt := 99) hx hb dX12_land_76 (by decide) (fun c62 => ?_) (fun c62 => absurd c62 (by decide))
        refine lv_iconst (v := 0) hx hb dX12_land_99 (by decide) ?_
        exact W.iret (v := 0) hx hb hr (fun t ht hW => ⟨⟨0, (u54, wL), rfl, (by exact ⟨(rg_t (a := 0) (by decide) (by first | decide | omega) (by first | decide | omega)), (fun _ h9 => h9), (Or.inr ⟨by have := laC_s wH p0.toInt p1.toInt p2.toInt p3.toInt p4.toInt; have q0 : (0 : Int32).toInt = 0 := (by decide); have q1 : (1 : Int32).toInt = 1 := (by decide); have q2 : (2 : Int32).toInt = 2 := (by decide); have q3 : (3 : Int32).toInt = 3 := (by decide); have qm : (-1 : Int32).toInt = -1 := (by decide); omega, by have := laC_s wH p0.toInt p1.toInt p2.toInt p3.toInt p4.toInt; have q0 : (0 : Int32).toInt = 0 := (by decide); have q1 : (1 : Int32).toInt = 1 := (by decide); have q2 : (2 : Int32).toInt = 2 := (by decide); have q3 : (3 : Int32).toInt = 3 := (by decide); have qm : (-1 : Int32).toInt = -1 := (by decide); omega, rfl⟩)⟩), by (try dsimp only); rw [ht]; exact ⟨hT, hF, m55⟩⟩, hS.F ht⟩) hS.2.2 dX12_land_100
      · have t63 : r41.toInt ≠ 0 := ti_ne c47 rfl (by decide)
        have t64 : (-900 : Int32).toInt = (-900) := by decide
        have t65 : (300 : Int32).toInt = 300 := by decide
        have t66 : (-900 : Int32).toInt ≤ p2.toInt ∧ p2.toInt ≤ (300 : Int32).toInt := hi45 ((bit_of ⟨by omega, by omega⟩).resolve_left c47)
        refine lv_iload hx hb dX12_land_46 (lv_at hl 4 rfl) ?_
        refine lv_iconst (v := 0) hx hb dX12_land_48 (by decide) ?_
        refine lv_iconst (v := 2) hx hb dX12_land_49 (by decide) ?_
        have hFc := gA_free hG hA hS
        refine va_calli (va_runS (As := [.int p3, .int 0, .int 2]) (rest := [.ref o0]) ⟨hx, hb, hml, hown, hts⟩ (s_in l dC dI kA adK adV G H q wZ0 wN wH wB wC wL wK wU wV PI im PM PT lS lB lE lN p3 0 2 hT (fun _ => Int.le_refl 0) hgn hgh hgb hgc hgi hgu) (va_cwS 3 hts (goodIn_app (goodIn_r _ [4, 5, 6] rfl (by decide +kernel)) (goodIn_ca (goodIn_r _ [3] rfl (by decide +kernel)) (bs_in _ _))) rfl rfl rfl (by decide +kernel) ⟨(Nat.le_of_ble_eq_true rfl), (Nat.le_of_ble_eq_true rfl)⟩) ⟨fun a U g mk q => by obtain ⟨q0, q1, qK, qE⟩ := q; exact ⟨q0, q1, va_K.moved (u := U) (U := U.calling g mk a) (Vm.Alike.refl U.vm) qK, EVS.blind g mk a qE⟩, fun U hU hW => ⟨rfl, hU, va_K.moved hW.alike hK, hE.call hS hFc hU hW⟩⟩ rfl rfl hl.1 rfl (lv_room (Nat.le_of_ble_eq_true rfl)) dX12_land_50 ⟨(Nat.le_of_ble_eq_true rfl), (Nat.le_of_ble_eq_true rfl)⟩) hS (fun q _ h => hFc q h) hFc (fun r67 u t H locs ht hvm hw68 hB _ _ hS => ?_)
        obtain ⟨hT, hF1⟩ := hB
        rw [ht] at hT hF1
        have m69 := (hF1.fld hr_o0 skm_0 (k := 0) (by decide) (by decide)).trans m43
        have hF := hF.more hF1 (by decide)
        try dsimp only at hw68
        obtain ⟨h70, hi71, hi72⟩ := hw68
        refine lv_if_eq (tgt := 67) hx hb dX12_land_53 (by decide) (fun c73 => ?_) (fun c73 => ?_)
        · have t74 : r67.toInt = 0 := ti_eq c73 rfl (by decide)
          have t75 : (0 : Int32).toInt = 0 := by decide
          have t76 : (2 : Int32).toInt = 2 := by decide
          have t77 : p3.toInt < (0 : Int32).toInt ∨ (2 : Int32).toInt < p3.toInt := hi72 c73
          refine lv_iconst (v := 1) hx hb dX12_land_67 (by decide) ?_
          refine lv_goto (tgt := 72) hx hb dX12_land_68 (by decide) ?_
          refine lv_iconst (v := 2) hx hb dX12_land_72 (by decide) ?_
          have hFc := gA_free hG hA hS
          refine va_calli (va_runV (As := [.int 1, .int 2]) (rest := []) ⟨hx, hb, hml, hown, hts⟩ (s_throwsIfP l dC dI kA adK adV G H q wZ0 wN wH wB wC wL wK wU wV PI im PM PT lS lB lE lN o0 1 2 u31 hT hr_o0 m69 (rg_t (a := 1) (by decide) (by first | decide | omega) (by first | decide | omega)) (fun _ => Int.le_refl 0) hgn hgh hgb hgc hgi hgu) (cwV 2 hts (goodIn_app (goodIn_r _ [10, 11, 12, 6] rfl (by decide +kernel)) (goodIn_ca (goodIn_r _ [9, 1] rfl (by decide +kernel)) (bs_in _ _))) rfl rfl rfl (by decide +kernel) ⟨(Nat.le_of_ble_eq_true rfl), (Nat.le_of_ble_eq_true rfl)⟩) ⟨fun a U g mk q => by obtain ⟨q0, q1, qK, qE⟩ := q; exact ⟨q0, q1, va_K.moved (u := U) (U := U.calling g mk a) (Vm.Alike.refl U.vm) qK, EVS.blind g mk a qE⟩, gH_rc hK hT hr_o0 shm_0 rfl, fun U hU hW => ⟨rfl, hU, va_K.moved hW.alike hK, hE.call hS hFc hU hW⟩⟩ rfl rfl hl.1 rfl (lv_room (Nat.le_of_ble_eq_true rfl)) dX12_land_73 ⟨(Nat.le_of_ble_eq_true rfl), (Nat.le_of_ble_eq_true rfl)⟩) hS (fun q _ h => hFc q h) hFc (fun r78 u t H locs ht hvm hw79 hB _ _ hS => ?_)
          obtain ⟨u80, rfl⟩ : ∃ z, z = u := ⟨_, rfl⟩
          obtain ⟨hT, hF1, m81⟩ := hB
          rw [ht] at hT hF1 m81
          have hF := hF.more hF1 (by decide)
          try dsimp only at hw79
          obtain ⟨h83, hf84, hd85⟩ := hw79
          have t86 : (1 : Int32).toInt = 1 := by decide
          have t87 : (2 : Int32).toInt = 2 := by decide
          obtain rfl : (1 : Int32) = r78 := hd85.symm
          refine lv_if_ne (tgt := 99) hx hb dX12_land_76 (by decide) (fun c88 => ?_) (fun c88 => absurd c88 (by decide))
          refine lv_iconst (v := 0) hx hb dX12_land_99 (by decide) ?_
          exact W.iret (v := 0) hx hb hr (fun t ht hW => ⟨⟨0, (u80, wL), rfl, (by exact ⟨(rg_t (a := 0) (by decide) (by first | decide | omega) (by first | decide | omega)), (fun _ h9 => h9), (Or.inr ⟨by have := laC_s wH p0.toInt p1.toInt p2.toInt p3.toInt p4.toInt; have q0 : (0 : Int32).toInt = 0 := (by decide); have q1 : (1 : Int32).toInt = 1 := (by decide); have q2 : (2 : Int32).toInt = 2 := (by decide); have q3 : (3 : Int32).toInt = 3 := (by decide); have qm : (-1 : Int32).toInt = -1 := (by decide); omega, by have := laC_s wH p0.toInt p1.toInt p2.toInt p3.toInt p4.toInt; have q0 : (0 : Int32).toInt = 0 := (by decide); have q1 : (1 : Int32).toInt = 1 := (by decide); have q2 : (2 : Int32).toInt = 2 := (by decide); have q3 : (3 : Int32).toInt = 3 := (by decide); have qm : (-1 : Int32).toInt = -1 := (by decide); omega, rfl⟩)⟩), by (try dsimp only); rw [ht]; exact ⟨hT, hF, m81⟩⟩, hS.F ht⟩) hS.2.2 dX12_land_100
        · have t89 : r67.toInt ≠ 0 := ti_ne c73 rfl (by decide)
          have t90 : (0 : Int32).toInt = 0 := by decide
          have t91 : (2 : Int32).toInt = 2 := by decide
          have t92 : (0 : Int32).toInt ≤ p3.toInt ∧ p3.toInt ≤ (2 : Int32).toInt := hi71 ((bit_of ⟨by omega, by omega⟩).resolve_left c73)
          refine lv_iload hx hb dX12_land_56 (lv_at hl 5 rfl) ?_
          refine lv_iconst (v := 0) hx hb dX12_land_58 (by decide) ?_
          refine lv_bipush (v := 20) hx hb dX12_land_59 (by decide) ?_
          have hFc := gA_free hG hA hS
          refine va_calli (va_runS (As := [.int p4, .int 0, .int 20]) (rest := [.ref o0]) ⟨hx, hb, hml, hown, hts⟩ (s_in l dC dI kA adK adV G H q wZ0 wN wH wB wC wL wK wU wV PI im PM PT lS lB lE lN p4 0 20 hT (fun _ => Int.le_refl 0) hgn hgh hgb hgc hgi hgu) (va_cwS 3 hts (goodIn_app (goodIn_r _ [4, 5, 6] rfl (by decide +kernel)) (goodIn_ca (goodIn_r _ [3] rfl (by decide +kernel)) (bs_in _ _))) rfl rfl rfl (by decide +kernel) ⟨(Nat.le_of_ble_eq_true rfl), (Nat.le_of_ble_eq_true rfl)⟩) ⟨fun a U g mk q => by obtain ⟨q0, q1, qK, qE⟩ := q; exact ⟨q0, q1, va_K.moved (u := U) (U := U.calling g mk a) (Vm.Alike.refl U.vm) qK, EVS.blind g mk a qE⟩, fun U hU hW => ⟨rfl, hU, va_K.moved hW.alike hK, hE.call hS hFc hU hW⟩⟩ rfl rfl hl.1 rfl (lv_room (Nat.le_of_ble_eq_true rfl)) dX12_land_61 ⟨(Nat.le_of_ble_eq_true rfl), (Nat.le_of_ble_eq_true rfl)⟩) hS (fun q _ h => hFc q h) hFc (fun r93 u t H locs ht hvm hw94 hB _ _ hS => ?_)
          obtain ⟨hT, hF1⟩ := hB
          rw [ht] at hT hF1
          have m95 := (hF1.fld hr_o0 skm_0 (k := 0) (by decide) (by decide)).trans m69
          have hF := hF.more hF1 (by decide)
          try dsimp only at hw94
          obtain ⟨h96, hi97, hi98⟩ := hw94
          refine lv_if_ne (tgt := 71) hx hb dX12_land_64 (by decide) (fun c99 => ?_) (fun c99 => ?_)
          · have t100 : r93.toInt ≠ 0 := ti_ne c99 rfl (by decide)
            have t101 : (0 : Int32).toInt = 0 := by decide
            have t102 : (20 : Int32).toInt = 20 := by decide
            have t103 : (0 : Int32).toInt ≤ p4.toInt ∧ p4.toInt ≤ (20 : Int32).toInt := hi97 ((bit_of ⟨by omega, by omega⟩).resolve_left c99)
            refine lv_iconst (v := 0) hx hb dX12_land_71 (by decide) ?_
            refine lv_iconst (v := 2) hx hb dX12_land_72 (by decide) ?_
            have hFc := gA_free hG hA hS
            refine va_calli (va_runV (As := [.int 0, .int 2]) (rest := []) ⟨hx, hb, hml, hown, hts⟩ (s_throwsIfP l dC dI kA adK adV G H q wZ0 wN wH wB wC wL wK wU wV PI im PM PT lS lB lE lN o0 0 2 u31 hT hr_o0 m95 (rg_t (a := 0) (by decide) (by first | decide | omega) (by first | decide | omega)) (fun _ => Int.le_refl 0) hgn hgh hgb hgc hgi hgu) (cwV 2 hts (goodIn_app (goodIn_r _ [10, 11, 12, 6] rfl (by decide +kernel)) (goodIn_ca (goodIn_r _ [9, 1] rfl (by decide +kernel)) (bs_in _ _))) rfl rfl rfl (by decide +kernel) ⟨(Nat.le_of_ble_eq_true rfl), (Nat.le_of_ble_eq_true rfl)⟩) ⟨fun a U g mk q => by obtain ⟨q0, q1, qK, qE⟩ := q; exact ⟨q0, q1, va_K.moved (u := U) (U := U.calling g mk a) (Vm.Alike.refl U.vm) qK, EVS.blind g mk a qE⟩, gH_rc hK hT hr_o0 shm_0 rfl, fun U hU hW => ⟨rfl, hU, va_K.moved hW.alike hK, hE.call hS hFc hU hW⟩⟩ rfl rfl hl.1 rfl (lv_room (Nat.le_of_ble_eq_true rfl)) dX12_land_73 ⟨(Nat.le_of_ble_eq_true rfl), (Nat.le_of_ble_eq_true rfl)⟩) hS (fun q _ h => hFc q h) hFc (fun r104 u t H locs ht hvm hw105 hB _ _ hS => ?_)
            obtain ⟨u106, rfl⟩ : ∃ z, z = u := ⟨_, rfl⟩
            obtain ⟨hT, hF1, m107⟩ := hB
            rw [ht] at hT hF1 m107
            have hF := hF.more hF1 (by decide)
            try dsimp only at hw105
            obtain ⟨h109, hf110, hd111⟩ := hw105
            have t112 : (0 : Int32).toInt = 0 := by decide
            have t113 : (2 : Int32).toInt = 2 := by decide
            obtain rfl : (0 : Int32) = r104 := hd111.symm
            refine lv_if_ne (tgt := 99) hx hb dX12_land_76 (by decide) (fun c114 => absurd c114 (by decide)) (fun c114 => ?_)
            refine lv_aload_n hx hb dX12_land_79 rfl (lv_at hl 0 rfl) ?_
            refine lv_aload_n hx hb dX12_land_80 rfl (lv_at hl 0 rfl) ?_
            have hFc := gA_free hG hA hS
            refine va_calli (va_runV (As := []) (rest := [.ref o0]) ⟨hx, hb, hml, hown, hts⟩ (s_hour l dC dI kA adK adV G H q wZ0 wN wH wB wC wL wK wU wV PI im PM PT lS lB lE lN o0 hT hr_o0 (fun _ => Int.le_refl 0) hgn hgh hgb hgc hgi hgu) (cwV 0 hts (goodIn_app (goodIn_r _ [15, 16, 17, 6] rfl (by decide +kernel)) (goodIn_ca (goodIn_r _ [13, 14] rfl (by decide +kernel)) (bs_in _ _))) rfl rfl rfl (by decide +kernel) ⟨(Nat.le_of_ble_eq_true rfl), (Nat.le_of_ble_eq_true rfl)⟩) ⟨fun a U g mk q => by obtain ⟨q0, q1, qK, qE⟩ := q; exact ⟨q0, q1, va_K.moved (u := U) (U := U.calling g mk a) (Vm.Alike.refl U.vm) qK, EVS.blind g mk a qE⟩, gH_rc hK hT hr_o0 shm_0 rfl, fun U hU hW => ⟨rfl, hU, va_K.moved hW.alike hK, hE.call hS hFc hU hW⟩⟩ rfl rfl hl.1 rfl (lv_room (Nat.le_of_ble_eq_true rfl)) dX12_land_81 ⟨(Nat.le_of_ble_eq_true rfl), (Nat.le_of_ble_eq_true rfl)⟩) hS (fun q _ h => hFc q h) hFc (fun r115 u t H locs ht hvm hw116 hB _ _ hS => ?_)
            obtain ⟨hT, hF1⟩ := hB
            rw [ht] at hT hF1
            have m117 := (hF1.fld hr_o0 skm_0 (k := 0) (by decide) (by decide)).trans m107
            have hF := hF.more hF1 (by decide)
            try dsimp only at hw116
            obtain ⟨h118, hf119⟩ := hw116
            refine lv_if_le (tgt := 91) hx hb dX12_land_84 (by decide) (fun c120 => ?_) (fun c120 => ?_)
            · have t121 : r115.toInt ≤ 0 := ti_le c120 rfl (by decide)
              refine lv_iconst (v := 0) hx hb dX12_land_91 (by decide) ?_
              refine lv_iconst (v := 3) hx hb dX12_land_92 (by decide) ?_
              have hFc := gA_free hG hA hS
              refine va_calli (va_runV (As := [.int 0, .int 3]) (rest := []) ⟨hx, hb, hml, hown, hts⟩ (s_throwsIfP l dC dI kA adK adV G H q wZ0 wN wH wB wC wL wK wU wV PI im PM PT lS lB lE lN o0 0 3 u106 hT hr_o0 m117 (rg_t (a := 0) (by decide) (by first | decide | omega) (by first | decide | omega)) (fun _ => Int.le_refl 0) hgn hgh hgb hgc hgi hgu) (cwV 2 hts (goodIn_app (goodIn_r _ [10, 11, 12, 6] rfl (by decide +kernel)) (goodIn_ca (goodIn_r _ [9, 1] rfl (by decide +kernel)) (bs_in _ _))) rfl rfl rfl (by decide +kernel) ⟨(Nat.le_of_ble_eq_true rfl), (Nat.le_of_ble_eq_true rfl)⟩) ⟨fun a U g mk q => by obtain ⟨q0, q1, qK, qE⟩ := q; exact ⟨q0, q1, va_K.moved (u := U) (U := U.calling g mk a) (Vm.Alike.refl U.vm) qK, EVS.blind g mk a qE⟩, gH_rc hK hT hr_o0 shm_0 rfl, fun U hU hW => ⟨rfl, hU, va_K.moved hW.alike hK, hE.call hS hFc hU hW⟩⟩ rfl rfl hl.1 rfl (lv_room (Nat.le_of_ble_eq_true rfl)) dX12_land_93 ⟨(Nat.le_of_ble_eq_true rfl), (Nat.le_of_ble_eq_true rfl)⟩) hS (fun q _ h => hFc q h) hFc (fun r122 u t H locs ht hvm hw123 hB _ _ hS => ?_)
              obtain ⟨u124, rfl⟩ : ∃ z, z = u := ⟨_, rfl⟩
              obtain ⟨hT, hF1, m125⟩ := hB
              rw [ht] at hT hF1 m125
              have hF := hF.more hF1 (by decide)
              try dsimp only at hw123
              obtain ⟨h127, hf128, hd129⟩ := hw123
              have t130 : (0 : Int32).toInt = 0 := by decide
              have t131 : (3 : Int32).toInt = 3 := by decide
              obtain rfl : (0 : Int32) = r122 := hd129.symm
              refine lv_if_eq (tgt := 101) hx hb dX12_land_96 (by decide) (fun c132 => ?_) (fun c132 => absurd c132 (by decide))
              refine lv_iconst (v := 0) hx hb dX12_land_101 (by decide) ?_
              refine lv_istore (lv' := [(6, .int 0), (0, .ref o0), (1, .int p0), (2, .int p1), (3, .int p2), (4, .int p3), (5, .int p4)]) hx hb dX12_land_102 hl (by decide) rfl (fun ls hl => ?_)
              refine lv_iconst (v := 0) hx hb dX12_land_104 (by decide) ?_
              refine lv_istore (lv' := [(7, .int 0), (6, .int 0), (0, .ref o0), (1, .int p0), (2, .int p1), (3, .int p2), (4, .int p3), (5, .int p4)]) hx hb dX12_land_105 hl (by decide) rfl (fun ls hl => ?_)
              have key304 : ∀ (n304 i133 : Nat), i133 + n304 = 96 → 0 ≤ i133 → ∀ (z134 : Int32), ((0 + 0 * (i133 : Int) ≤ z134.toInt ∧ z134.toInt ≤ 0 + 1 * (i133 : Int)) ∧ (z134.toInt = ldN L p0.toInt p1.toInt i133)) → ∀ (H : Heap) (locs : List Loc), gH (dC, dI) kA (SHm q (wP wZ0 wN wH wB wC (lndB wL p0.toInt p1.toInt i133) wK wU wV) PI im PM PT lS lB lE lN) G H → gF (dC, dI) SKm G ([(0, 0), (0, 9), (2, 0)] : List (Nat × Nat)) s.heap H → va_S A s.heap H locs → el H o0 (dI 15 0) = some (.int u124) → ∀ ls : Array Slot, lv_has ls 8 [(7, .int (nI i133)), (6, .int z134), (0, .ref o0), (1, .int p0), (2, .int p1), (3, .int p2), (4, .int p3), (5, .int p4)] → W p l e (headSpec w_s_landC ({ frames := 2, cells := 0, slots := 0, locals := 64 })).room s m #[.ref o0, .int p0, .int p1, .int p2, .int p3, .int p4] below meth c H locs 0 0 (MQ below (va_Qi (fun (r : Int32) (u : Int32 × (Nat → Prop)) => match u with | (t1, wL1) => (0 ≤ r.toInt ∧ r.toInt ≤ 96) ∧ (∀ j, wL j → wL1 j) ∧ ((laC wH p0.toInt p1.toInt p2.toInt p3.toInt p4.toInt = 0 ∧ t1.toInt = 0 ∧ wL1 = lndB wL p0.toInt p1.toInt 96 ∧ r.toInt = ldN L p0.toInt p1.toInt 96) ∨ (laC wH p0.toInt p1.toInt p2.toInt p3.toInt p4.toInt ≠ 0 ∧ t1.toInt = laC wH p0.toInt p1.toInt p2.toInt p3.toInt p4.toInt ∧ wL1 = wL))) (fun (u : Int32 × (Nat → Prop)) (t : State) => match u with | (t1, wL1) => gH (dC, dI) kA (SHm q (wP wZ0 wN wH wB wC wL1 wK wU wV) PI im PM PT lS lB lE lN) G t.heap ∧ gF (dC, dI) SKm G ([(0, 0), (0, 9), (2, 0)] : List (Nat × Nat)) s.heap t.heap ∧ el t.heap o0 (dI 15 0) = some (.int t1)) A) #[.ref o0, .int p0, .int p1, .int p2, .int p3, .int p4] s 0 0 A) (F0 m 107 ls []) := by
                intro n304
                induction n304 with
                | zero =>
                  intro i133 hn304 hlo305 z134 ⟨h135, hj137⟩ H locs hT hF hS m136 ls hl
                  obtain rfl : 96 = i133 := by omega
                  refine lv_iload hx hb dX12_land_107 (lv_at hl 0 rfl) ?_
                  refine lv_bipush (v := 96) hx hb dX12_land_109 (by decide) ?_
                  refine lv_icmp_ge (tgt := 245) hx hb dX12_land_111 (by decide) (fun c306 => ?_) (fun c306 => (by exfalso; have q9 : ((96 : Nat) : Int) < 96 := ti_nle c306 (by decide) (nI_toInt (by omega)); omega))
                  have t307 : 96 ≤ ((96 : Nat) : Int) := ti_le c306 (by decide) (nI_toInt (by omega))
                  refine lv_aload_n hx hb dX12_land_245 rfl (lv_at hl 2 rfl) ?_
                  refine lv_iconst (v := 0) hx hb dX12_land_246 (by decide) ?_
                  refine tw_put (v := .int 0) (ty := .int) hx hb hts bF_X12 tyX12 tyX12_ok nmX12 hown hK hT hG hS hr_o0 shm_0 rfl 9 (by decide) (ht_at hts 17 rfl) (fun _ h9 => h9) rfl (by decide +kernel) rfl rfl (gl_at rfl (gi_of (show (0 : Int32).toInt = 0 from (by decide)) (by first | decide | omega) (by first | decide | omega))) dX12_land_247 (fun H locs hT oq m308 oj hS => ?_)
                  have hF := hF.put hr_o0 skm_0 oq oj (by decide)
                  have m309 := (oj 0 (by decide) (by decide)).trans m136
                  refine lv_iload hx hb dX12_land_250 (lv_at hl 1 rfl) ?_
                  exact W.iret (v := z134) hx hb hr (fun t ht hW => ⟨⟨z134, (u124, (lndB wL p0.toInt p1.toInt 96)), rfl, (by exact ⟨(by have q8 := ti_all z134; omega), (fun _ h9 => Or.inl h9), (Or.inl ⟨by have := laC_s wH p0.toInt p1.toInt p2.toInt p3.toInt p4.toInt; omega, by have q0 : (0 : Int32).toInt = 0 := (by decide); have q1 : (1 : Int32).toInt = 1 := (by decide); have q2 : (2 : Int32).toInt = 2 := (by decide); have q3 : (3 : Int32).toInt = 3 := (by decide); have qm : (-1 : Int32).toInt = -1 := (by decide); omega, rfl, hj137⟩)⟩), by (try dsimp only); rw [ht]; exact ⟨hT, hF, m309⟩⟩, hS.F ht⟩) hS.2.2 dX12_land_252
                | succ n304 ih304 =>
                  intro i133 hn304 hlo305 z134 ⟨h135, hj137⟩ H locs hT hF hS m136 ls hl
                  have hlt309 : i133 < 96 := by omega
                  refine lv_iload hx hb dX12_land_107 (lv_at hl 0 rfl) ?_
                  refine lv_bipush (v := 96) hx hb dX12_land_109 (by decide) ?_
                  refine lv_icmp_ge (tgt := 245) hx hb dX12_land_111 (by decide) (fun c310 => (by exfalso; have q9 : 96 ≤ ((i133 : Nat) : Int) := ti_le c310 (by decide) (nI_toInt (by omega)); omega)) (fun c310 => ?_)
                  have t311 : ((i133 : Nat) : Int) < 96 := ti_nle c310 (by decide) (nI_toInt (by omega))
                  refine lv_iload hx hb dX12_land_114 (lv_at hl 0 rfl) ?_
                  refine lv_iload_n hx hb dX12_land_116 rfl (lv_at hl 3 rfl) ?_
                  refine lv_iload_n hx hb dX12_land_117 rfl (lv_at hl 4 rfl) ?_
                  have hFc := gA_free hG hA hS
                  refine va_calli (va_runS (As := [.int (nI i133), .int p0, .int p1]) (rest := []) ⟨hx, hb, hml, hown, hts⟩ (s_isInE l dC dI kA adK adV G H q wZ0 wN wH wB wC (lndB wL p0.toInt p1.toInt i133) wK wU wV PI im PM PT lS lB lE lN (nI i133) p0 p1 hT (rg_t (a := ((i133 : Nat) : Int)) (nI_toInt (by omega)) (by omega) (by omega)) (by have q8 := ti_all p0; omega) (by have q8 := ti_all p1; omega) (fun _ => Int.le_refl 0) hgn (by omega) (by omega) (by omega) (by omega) hgu) (va_cwS 3 hts (goodIn_app (goodIn_r _ [27, 28, 6] rfl (by decide +kernel)) (goodIn_ca (goodIn_r _ [19, 20, 21, 22, 23, 24, 25, 26, 3, 4, 5, 6] rfl (by decide +kernel)) (bs_in _ _))) rfl rfl rfl (by decide +kernel) ⟨(Nat.le_of_ble_eq_true rfl), (Nat.le_of_ble_eq_true rfl)⟩) ⟨fun a U g mk q => by obtain ⟨q0, q1, qK, qE⟩ := q; exact ⟨q0, q1, va_K.moved (u := U) (U := U.calling g mk a) (Vm.Alike.refl U.vm) qK, EVS.blind g mk a qE⟩, fun U hU hW => ⟨rfl, hU, va_K.moved hW.alike hK, hE.call hS hFc hU hW⟩⟩ rfl rfl hl.1 rfl (lv_room (Nat.le_of_ble_eq_true rfl)) dX12_land_118 ⟨(Nat.le_of_ble_eq_true rfl), (Nat.le_of_ble_eq_true rfl)⟩) hS (fun q _ h => hFc q h) hFc (fun r312 u t H locs ht hvm hw313 hB _ _ hS => ?_)
                  obtain ⟨hT, hF1⟩ := hB
                  rw [ht] at hT hF1
                  have m314 := (hF1.fld hr_o0 skm_0 (k := 0) (by decide) (by decide)).trans m136
                  have hF := hF.more hF1 (by decide)
                  try dsimp only at hw313
                  obtain ⟨h315, hf316⟩ := hw313
                  have t317 : (nI i133).toInt = ((i133 : Nat) : Int) := nI_toInt (by omega)
                  refine lv_if_ne (tgt := 127) hx hb dX12_land_121 (by decide) (fun c318 => ?_) (fun c318 => ?_)
                  · have t319 : r312.toInt ≠ 0 := ti_ne c318 rfl (by decide)
                    refine lv_iload hx hb dX12_land_127 (lv_at hl 1 rfl) ?_
                    refine lv_aload_n hx hb dX12_land_129 rfl (lv_at hl 2 rfl) ?_
                    refine lv_iload hx hb dX12_land_130 (lv_at hl 0 rfl) ?_
                    have hFc := gA_free hG hA hS
                    refine va_calli (va_runV (As := [.int (nI i133)]) (rest := [.int z134]) ⟨hx, hb, hml, hown, hts⟩ (s_isLand l dC dI kA adK adV G H q wZ0 wN wH wB wC (lndB wL p0.toInt p1.toInt i133) wK wU wV PI im PM PT lS lB lE lN o0 (nI i133) hT hr_o0 (rg_t (a := ((i133 : Nat) : Int)) (nI_toInt (by omega)) (by omega) (by omega)) (fun _ => Int.le_refl 0) hgn (by omega) (by omega) (by omega) (by omega) hgu) (cwV 1 hts (goodIn_app (goodIn_r _ [30, 31, 32, 6] rfl (by decide +kernel)) (goodIn_ca (goodIn_r _ [29, 14] rfl (by decide +kernel)) (bs_in _ _))) rfl rfl rfl (by decide +kernel) ⟨(Nat.le_of_ble_eq_true rfl), (Nat.le_of_ble_eq_true rfl)⟩) ⟨fun a U g mk q => by obtain ⟨q0, q1, qK, qE⟩ := q; exact ⟨q0, q1, va_K.moved (u := U) (U := U.calling g mk a) (Vm.Alike.refl U.vm) qK, EVS.blind g mk a qE⟩, gH_rc hK hT hr_o0 shm_0 rfl, fun U hU hW => ⟨rfl, hU, va_K.moved hW.alike hK, hE.call hS hFc hU hW⟩⟩ rfl rfl hl.1 rfl (lv_room (Nat.le_of_ble_eq_true rfl)) dX12_land_132 ⟨(Nat.le_of_ble_eq_true rfl), (Nat.le_of_ble_eq_true rfl)⟩) hS (fun q _ h => hFc q h) hFc (fun r320 u t H locs ht hvm hw321 hB _ _ hS => ?_)
                    obtain ⟨hT, hF1⟩ := hB
                    rw [ht] at hT hF1
                    have m322 := (hF1.fld hr_o0 skm_0 (k := 0) (by decide) (by decide)).trans m314
                    have hF := hF.more hF1 (by decide)
                    try dsimp only at hw321
                    obtain ⟨h323, hi324, hi325⟩ := hw321
                    refine lv_if_eq (tgt := 142) hx hb dX12_land_135 (by decide) (fun c326 => ?_) (fun c326 => ?_)
                    · have t327 : r320.toInt = 0 := ti_eq c326 rfl (by decide)
                      have t328 : ¬ (lndB wL p0.toInt p1.toInt i133) (nI i133).toNatClampNeg := hi325 c326
                      refine lv_iconst (v := 1) hx hb dX12_land_142 (by decide) ?_
                      refine lv_iadd hx hb dX12_land_143 ?_
                      refine lv_topi (fun x329 ex329 => ?_)
                      have t330 : x329.toInt = z134.toInt + 1 := ti_add ex329 rfl (by decide) (by omega) (by omega)
                      refine lv_istore (lv' := [(6, .int x329), (7, .int (nI i133)), (0, .ref o0), (1, .int p0), (2, .int p1), (3, .int p2), (4, .int p3), (5, .int p4)]) hx hb dX12_land_144 hl (by decide) rfl (fun ls hl => ?_)
                      refine lv_aload_n hx hb dX12_land_146 rfl (lv_at hl 2 rfl) ?_
                      refine tw_get hx hb hts bF_X12 hown hK hT hr_o0 shm_0 rfl 1 (by decide) (ht_at hts 13 rfl) (fun _ h9 => h9) dX12_land_147 (fun v9 m331 h9 => ?_)
                      obtain ⟨rfl, hg332⟩ := h9 _ rfl
                      refine lv_sipush (v := 1748) hx hb dX12_land_150 (by decide) ?_
                      refine lv_dup2_11 hx hb dX12_land_153 rfl rfl ?_
                      refine tw_iald (i := 1748) hx hb hK hT hg332 shm_2 rfl (by unfold vp_in; decide) dX12_land_154 (fun v9 m333 h9 => ?_)
                      obtain ⟨x334, rfl, gx334, kx334⟩ := (gp_at h9 (w_fre (by have q9 := tn_of (show (1748 : Int32).toInt = 1748 from (by decide)) (show (0 : Int) ≤ 1748 from by omega); omega)))
                      refine lv_aload_n hx hb dX12_land_155 rfl (lv_at hl 2 rfl) ?_
                      refine tw_get hx hb hts bF_X12 hown hK hT hr_o0 shm_0 rfl 1 (by decide) (ht_at hts 13 rfl) (fun _ h9 => h9) dX12_land_156 (fun v9 m335 h9 => ?_)
                      obtain ⟨rfl, hg336⟩ := h9 _ rfl
                      refine lv_sipush (v := 384) hx hb dX12_land_159 (by decide) ?_
                      refine lv_iload hx hb dX12_land_162 (lv_at hl 1 rfl) ?_
                      refine lv_iadd hx hb dX12_land_164 ?_
                      refine lv_topi (fun x337 ex337 => ?_)
                      obtain rfl : nI (384 + i133) = x337 := (ex337.trans (nI_add 384 i133)).symm
                      refine tw_iald (i := (nI (384 + i133))) hx hb hK hT hg332 shm_2 rfl (vp_in_nI (by omega) (by decide)) dX12_land_165 (fun v9 m338 h9 => ?_)
                      obtain ⟨x339, rfl, gx339, kx339⟩ := (gw_at h9 (w_wat (by have q9 := tn_of (show (nI (384 + i133)).toInt = ((384 + i133 : Nat) : Int) from (nI_toInt (by omega))) (show (0 : Int) ≤ ((384 + i133 : Nat) : Int) from by omega); omega)) hgn (fun _ => Int.le_refl 0))
                      refine lv_isub hx hb dX12_land_166 ?_
                      refine lv_topi (fun x340 ex340 => ?_)
                      refine tw_iast (i := 1748) (x := x340) hx hb hK hT hG hS hg332 shm_2 rfl (by unfold vp_in; decide) (gp_of (gi_all _) (w_fre (by have q9 := tn_of (show (1748 : Int32).toInt = 1748 from (by decide)) (show (0 : Int) ≤ 1748 from by omega); omega)) (wX_o (by have q9 := tn_of (show (1748 : Int32).toInt = 1748 from (by decide)) (show (0 : Int) ≤ 1748 from by omega); omega) (by omega))) dX12_land_167 (fun H locs hT oq m341 oi hS => ?_)
                      have hF := hF.ast hg332 skm_2 oq (by decide)
                      have m342 := (el_kept (oq _ (gne hr_o0 hg332 (by decide)))).trans m322
                      have m343 := (oi _ (tn_ne (show (nI (384 + i133)).toInt = ((384 + i133 : Nat) : Int) from (nI_toInt (by omega))) (show (1748 : Int32).toInt = 1748 from (by decide)) (by omega) (by omega) (by omega))).trans m338
                      refine lv_aload_n hx hb dX12_land_168 rfl (lv_at hl 2 rfl) ?_
                      refine tw_get hx hb hts bF_X12 hown hK hT hr_o0 shm_0 rfl 1 (by decide) (ht_at hts 13 rfl) (fun _ h9 => h9) dX12_land_169 (fun v9 m344 h9 => ?_)
                      obtain ⟨rfl, hg345⟩ := h9 _ rfl
                      refine lv_iconst (v := 0) hx hb dX12_land_172 (by decide) ?_
                      refine lv_iload hx hb dX12_land_173 (lv_at hl 1 rfl) ?_
                      refine lv_iadd hx hb dX12_land_175 ?_
                      refine lv_topi (fun x346 ex346 => ?_)
                      obtain rfl : nI (0 + i133) = x346 := (ex346.trans (nI_add 0 i133)).symm
                      refine lv_iconst (v := 1) hx hb dX12_land_176 (by decide) ?_
                      have t347 : (((nI (0 + i133)).toNatClampNeg : Nat) : Int) = ((0 + i133 : Nat) : Int) := tn_of (show (nI (0 + i133)).toInt = ((0 + i133 : Nat) : Int) from (nI_toInt (by omega))) (by omega)
                      refine tw_iast2 (Sg1 := (SHm q (wP wZ0 wN wH wB wC (fun j => (lndB wL p0.toInt p1.toInt i133) j ∨ j = i133) wK wU wV) PI im PM PT lS lB lE lN)) (i := (nI (0 + i133))) (x := 1) hx hb hK hT hG hS hg332 shm_2 rfl shm_2 shm_o2 (fun b9 h9 => hgu b9 1 h9) (vp_in_nI (by omega) (by decide)) (gp_of (gi_all _) (w_fre (by omega)) (wX_l (by omega) (Or.inr (by omega)) (by decide))) (fun k9 hk9 hne9 v9 hv9 he9 => by obtain ⟨x9, rfl, p9⟩ := he9; exact ⟨x9, rfl, wP_L (fun _ => ⟨Or.inl, fun z9 => z9.resolve_right (by omega)⟩) p9⟩) dX12_land_177 (fun H locs hT oq m348 oi hS => ?_)
                      have hF := hF.ast hg332 skm_2 oq (by decide)
                      have m349 := (el_kept (oq _ (gne hr_o0 hg332 (by decide)))).trans m342
                      have m350 := (oi _ (tn_ne (show (nI (384 + i133)).toInt = ((384 + i133 : Nat) : Int) from (nI_toInt (by omega))) (show (nI (0 + i133)).toInt = ((0 + i133 : Nat) : Int) from (nI_toInt (by omega))) (by omega) (by omega) (by omega))).trans m343
                      have m351 := (oi _ (tn_ne (show (1748 : Int32).toInt = 1748 from (by decide)) (show (nI (0 + i133)).toInt = ((0 + i133 : Nat) : Int) from (nI_toInt (by omega))) (by omega) (by omega) (by omega))).trans m341
                      refine lv_aload_n hx hb dX12_land_178 rfl (lv_at hl 2 rfl) ?_
                      refine tw_get hx hb hts bF_X12 hown hK hT hr_o0 shm_0 rfl 1 (by decide) (ht_at hts 13 rfl) (fun _ h9 => h9) dX12_land_179 (fun v9 m352 h9 => ?_)
                      obtain ⟨rfl, hg353⟩ := h9 _ rfl
                      refine lv_bipush (v := 96) hx hb dX12_land_182 (by decide) ?_
                      refine lv_iload hx hb dX12_land_184 (lv_at hl 1 rfl) ?_
                      refine lv_iadd hx hb dX12_land_186 ?_
                      refine lv_topi (fun x354 ex354 => ?_)
                      obtain rfl : nI (96 + i133) = x354 := (ex354.trans (nI_add 96 i133)).symm
                      refine lv_iload_n hx hb dX12_land_187 rfl (lv_at hl 5 rfl) ?_
                      refine tw_iast (i := (nI (96 + i133))) (x := p2) hx hb hK hT hG hS hg332 shm_2 rfl (vp_in_nI (by omega) (by decide)) (gp_of (gi_of (show p2.toInt = p2.toInt from rfl) (by omega) (by omega)) (w_hgt (by have q9 := tn_of (show (nI (96 + i133)).toInt = ((96 + i133 : Nat) : Int) from (nI_toInt (by omega))) (show (0 : Int) ≤ ((96 + i133 : Nat) : Int) from by omega); omega)) (wX_o (by have q9 := tn_of (show (nI (96 + i133)).toInt = ((96 + i133 : Nat) : Int) from (nI_toInt (by omega))) (show (0 : Int) ≤ ((96 + i133 : Nat) : Int) from by omega); omega) (by omega))) dX12_land_188 (fun H locs hT oq m355 oi hS => ?_)
                      have hF := hF.ast hg332 skm_2 oq (by decide)
                      have m356 := (el_kept (oq _ (gne hr_o0 hg332 (by decide)))).trans m349
                      have m357 := (oi _ (tn_ne (show (nI (384 + i133)).toInt = ((384 + i133 : Nat) : Int) from (nI_toInt (by omega))) (show (nI (96 + i133)).toInt = ((96 + i133 : Nat) : Int) from (nI_toInt (by omega))) (by omega) (by omega) (by omega))).trans m350
                      have m358 := (oi _ (tn_ne (show (1748 : Int32).toInt = 1748 from (by decide)) (show (nI (96 + i133)).toInt = ((96 + i133 : Nat) : Int) from (nI_toInt (by omega))) (by omega) (by omega) (by omega))).trans m351
                      have m359 := (oi _ (tn_ne (show (nI (0 + i133)).toInt = ((0 + i133 : Nat) : Int) from (nI_toInt (by omega))) (show (nI (96 + i133)).toInt = ((96 + i133 : Nat) : Int) from (nI_toInt (by omega))) (by omega) (by omega) (by omega))).trans m348
                      refine lv_aload_n hx hb dX12_land_189 rfl (lv_at hl 2 rfl) ?_
                      refine tw_get hx hb hts bF_X12 hown hK hT hr_o0 shm_0 rfl 1 (by decide) (ht_at hts 13 rfl) (fun _ h9 => h9) dX12_land_190 (fun v9 m360 h9 => ?_)
                      obtain ⟨rfl, hg361⟩ := h9 _ rfl
                      refine lv_sipush (v := 192) hx hb dX12_land_193 (by decide) ?_
                      refine lv_iload hx hb dX12_land_196 (lv_at hl 1 rfl) ?_
                      refine lv_iadd hx hb dX12_land_198 ?_
                      refine lv_topi (fun x362 ex362 => ?_)
                      obtain rfl : nI (192 + i133) = x362 := (ex362.trans (nI_add 192 i133)).symm
                      refine lv_iload hx hb dX12_land_199 (lv_at hl 6 rfl) ?_
                      refine tw_iast (i := (nI (192 + i133))) (x := p3) hx hb hK hT hG hS hg332 shm_2 rfl (vp_in_nI (by omega) (by decide)) (gp_of (gi_all _) (w_fre (by have q9 := tn_of (show (nI (192 + i133)).toInt = ((192 + i133 : Nat) : Int) from (nI_toInt (by omega))) (show (0 : Int) ≤ ((192 + i133 : Nat) : Int) from by omega); omega)) (wX_o (by have q9 := tn_of (show (nI (192 + i133)).toInt = ((192 + i133 : Nat) : Int) from (nI_toInt (by omega))) (show (0 : Int) ≤ ((192 + i133 : Nat) : Int) from by omega); omega) (by omega))) dX12_land_201 (fun H locs hT oq m363 oi hS => ?_)
                      have hF := hF.ast hg332 skm_2 oq (by decide)
                      have m364 := (el_kept (oq _ (gne hr_o0 hg332 (by decide)))).trans m356
                      have m365 := (oi _ (tn_ne (show (nI (384 + i133)).toInt = ((384 + i133 : Nat) : Int) from (nI_toInt (by omega))) (show (nI (192 + i133)).toInt = ((192 + i133 : Nat) : Int) from (nI_toInt (by omega))) (by omega) (by omega) (by omega))).trans m357
                      have m366 := (oi _ (tn_ne (show (1748 : Int32).toInt = 1748 from (by decide)) (show (nI (192 + i133)).toInt = ((192 + i133 : Nat) : Int) from (nI_toInt (by omega))) (by omega) (by omega) (by omega))).trans m358
                      have m367 := (oi _ (tn_ne (show (nI (0 + i133)).toInt = ((0 + i133 : Nat) : Int) from (nI_toInt (by omega))) (show (nI (192 + i133)).toInt = ((192 + i133 : Nat) : Int) from (nI_toInt (by omega))) (by omega) (by omega) (by omega))).trans m359
                      have m368 := (oi _ (tn_ne (show (nI (96 + i133)).toInt = ((96 + i133 : Nat) : Int) from (nI_toInt (by omega))) (show (nI (192 + i133)).toInt = ((192 + i133 : Nat) : Int) from (nI_toInt (by omega))) (by omega) (by omega) (by omega))).trans m355
                      refine lv_aload_n hx hb dX12_land_202 rfl (lv_at hl 2 rfl) ?_
                      refine tw_get hx hb hts bF_X12 hown hK hT hr_o0 shm_0 rfl 1 (by decide) (ht_at hts 13 rfl) (fun _ h9 => h9) dX12_land_203 (fun v9 m369 h9 => ?_)
                      obtain ⟨rfl, hg370⟩ := h9 _ rfl
                      refine lv_sipush (v := 288) hx hb dX12_land_206 (by decide) ?_
                      refine lv_iload hx hb dX12_land_209 (lv_at hl 1 rfl) ?_
                      refine lv_iadd hx hb dX12_land_211 ?_
                      refine lv_topi (fun x371 ex371 => ?_)
                      obtain rfl : nI (288 + i133) = x371 := (ex371.trans (nI_add 288 i133)).symm
                      refine lv_iload hx hb dX12_land_212 (lv_at hl 7 rfl) ?_
                      refine tw_iast (i := (nI (288 + i133))) (x := p4) hx hb hK hT hG hS hg332 shm_2 rfl (vp_in_nI (by omega) (by decide)) (gp_of (gi_of (show p4.toInt = p4.toInt from rfl) (by omega) (by omega)) (w_dit (by have q9 := tn_of (show (nI (288 + i133)).toInt = ((288 + i133 : Nat) : Int) from (nI_toInt (by omega))) (show (0 : Int) ≤ ((288 + i133 : Nat) : Int) from by omega); omega)) (wX_o (by have q9 := tn_of (show (nI (288 + i133)).toInt = ((288 + i133 : Nat) : Int) from (nI_toInt (by omega))) (show (0 : Int) ≤ ((288 + i133 : Nat) : Int) from by omega); omega) (by omega))) dX12_land_214 (fun H locs hT oq m372 oi hS => ?_)
                      have hF := hF.ast hg332 skm_2 oq (by decide)
                      have m373 := (el_kept (oq _ (gne hr_o0 hg332 (by decide)))).trans m364
                      have m374 := (oi _ (tn_ne (show (nI (384 + i133)).toInt = ((384 + i133 : Nat) : Int) from (nI_toInt (by omega))) (show (nI (288 + i133)).toInt = ((288 + i133 : Nat) : Int) from (nI_toInt (by omega))) (by omega) (by omega) (by omega))).trans m365
                      have m375 := (oi _ (tn_ne (show (1748 : Int32).toInt = 1748 from (by decide)) (show (nI (288 + i133)).toInt = ((288 + i133 : Nat) : Int) from (nI_toInt (by omega))) (by omega) (by omega) (by omega))).trans m366
                      have m376 := (oi _ (tn_ne (show (nI (0 + i133)).toInt = ((0 + i133 : Nat) : Int) from (nI_toInt (by omega))) (show (nI (288 + i133)).toInt = ((288 + i133 : Nat) : Int) from (nI_toInt (by omega))) (by omega) (by omega) (by omega))).trans m367
                      have m377 := (oi _ (tn_ne (show (nI (96 + i133)).toInt = ((96 + i133 : Nat) : Int) from (nI_toInt (by omega))) (show (nI (288 + i133)).toInt = ((288 + i133 : Nat) : Int) from (nI_toInt (by omega))) (by omega) (by omega) (by omega))).trans m368
                      have m378 := (oi _ (tn_ne (show (nI (192 + i133)).toInt = ((192 + i133 : Nat) : Int) from (nI_toInt (by omega))) (show (nI (288 + i133)).toInt = ((288 + i133 : Nat) : Int) from (nI_toInt (by omega))) (by omega) (by omega) (by omega))).trans m363
                      refine lv_aload_n hx hb dX12_land_215 rfl (lv_at hl 2 rfl) ?_
                      refine tw_get hx hb hts bF_X12 hown hK hT hr_o0 shm_0 rfl 1 (by decide) (ht_at hts 13 rfl) (fun _ h9 => h9) dX12_land_216 (fun v9 m379 h9 => ?_)
                      obtain ⟨rfl, hg380⟩ := h9 _ rfl
                      refine lv_sipush (v := 384) hx hb dX12_land_219 (by decide) ?_
                      refine lv_iload hx hb dX12_land_222 (lv_at hl 1 rfl) ?_
                      refine lv_iadd hx hb dX12_land_224 ?_
                      refine lv_topi (fun x381 ex381 => ?_)
                      obtain rfl : nI (384 + i133) = x381 := (ex381.trans (nI_add 384 i133)).symm
                      refine lv_iconst (v := 0) hx hb dX12_land_225 (by decide) ?_
                      have t382 : 6500000 ≤ wN (nI (384 + i133)).toNatClampNeg ∧ wN (nI (384 + i133)).toNatClampNeg ≤ 20200000 := hgn _
                      refine tw_iast (i := (nI (384 + i133))) (x := 0) hx hb hK hT hG hS hg332 shm_2 rfl (vp_in_nI (by omega) (by decide)) (gp_of (gi_of (show (0 : Int32).toInt = 0 from (by decide)) (by first | decide | omega) (by first | decide | omega)) (w_wat0 (by have q9 := tn_of (show (nI (384 + i133)).toInt = ((384 + i133 : Nat) : Int) from (nI_toInt (by omega))) (show (0 : Int) ≤ ((384 + i133 : Nat) : Int) from by omega); omega)) (wX_o (by have q9 := tn_of (show (nI (384 + i133)).toInt = ((384 + i133 : Nat) : Int) from (nI_toInt (by omega))) (show (0 : Int) ≤ ((384 + i133 : Nat) : Int) from by omega); omega) (by omega))) dX12_land_226 (fun H locs hT oq m383 oi hS => ?_)
                      have hF := hF.ast hg332 skm_2 oq (by decide)
                      have m384 := (el_kept (oq _ (gne hr_o0 hg332 (by decide)))).trans m373
                      have m385 := (oi _ (tn_ne (show (1748 : Int32).toInt = 1748 from (by decide)) (show (nI (384 + i133)).toInt = ((384 + i133 : Nat) : Int) from (nI_toInt (by omega))) (by omega) (by omega) (by omega))).trans m375
                      have m386 := (oi _ (tn_ne (show (nI (0 + i133)).toInt = ((0 + i133 : Nat) : Int) from (nI_toInt (by omega))) (show (nI (384 + i133)).toInt = ((384 + i133 : Nat) : Int) from (nI_toInt (by omega))) (by omega) (by omega) (by omega))).trans m376
                      have m387 := (oi _ (tn_ne (show (nI (96 + i133)).toInt = ((96 + i133 : Nat) : Int) from (nI_toInt (by omega))) (show (nI (384 + i133)).toInt = ((384 + i133 : Nat) : Int) from (nI_toInt (by omega))) (by omega) (by omega) (by omega))).trans m377
                      have m388 := (oi _ (tn_ne (show (nI (192 + i133)).toInt = ((192 + i133 : Nat) : Int) from (nI_toInt (by omega))) (show (nI (384 + i133)).toInt = ((384 + i133 : Nat) : Int) from (nI_toInt (by omega))) (by omega) (by omega) (by omega))).trans m378
                      have m389 := (oi _ (tn_ne (show (nI (288 + i133)).toInt = ((288 + i133 : Nat) : Int) from (nI_toInt (by omega))) (show (nI (384 + i133)).toInt = ((384 + i133 : Nat) : Int) from (nI_toInt (by omega))) (by omega) (by omega) (by omega))).trans m372
                      refine lv_aload_n hx hb dX12_land_227 rfl (lv_at hl 2 rfl) ?_
                      refine tw_get hx hb hts bF_X12 hown hK hT hr_o0 shm_0 rfl 1 (by decide) (ht_at hts 13 rfl) (fun _ h9 => h9) dX12_land_228 (fun v9 m390 h9 => ?_)
                      obtain ⟨rfl, hg391⟩ := h9 _ rfl
                      refine lv_sipush (v := 480) hx hb dX12_land_231 (by decide) ?_
                      refine lv_iload hx hb dX12_land_234 (lv_at hl 1 rfl) ?_
                      refine lv_iadd hx hb dX12_land_236 ?_
                      refine lv_topi (fun x392 ex392 => ?_)
                      obtain rfl : nI (480 + i133) = x392 := (ex392.trans (nI_add 480 i133)).symm
                      refine lv_iconst (v := 0) hx hb dX12_land_237 (by decide) ?_
                      refine tw_iast (i := (nI (480 + i133))) (x := 0) hx hb hK hT hG hS hg332 shm_2 rfl (vp_in_nI (by omega) (by decide)) (gp_of (gi_all _) (w_fre (by have q9 := tn_of (show (nI (480 + i133)).toInt = ((480 + i133 : Nat) : Int) from (nI_toInt (by omega))) (show (0 : Int) ≤ ((480 + i133 : Nat) : Int) from by omega); omega)) (wX_o (by have q9 := tn_of (show (nI (480 + i133)).toInt = ((480 + i133 : Nat) : Int) from (nI_toInt (by omega))) (show (0 : Int) ≤ ((480 + i133 : Nat) : Int) from by omega); omega) (by omega))) dX12_land_238 (fun H locs hT oq m393 oi hS => ?_)
                      have hF := hF.ast hg332 skm_2 oq (by decide)
                      have m394 := (el_kept (oq _ (gne hr_o0 hg332 (by decide)))).trans m384
                      have m395 := (oi _ (tn_ne (show (1748 : Int32).toInt = 1748 from (by decide)) (show (nI (480 + i133)).toInt = ((480 + i133 : Nat) : Int) from (nI_toInt (by omega))) (by omega) (by omega) (by omega))).trans m385
                      have m396 := (oi _ (tn_ne (show (nI (0 + i133)).toInt = ((0 + i133 : Nat) : Int) from (nI_toInt (by omega))) (show (nI (480 + i133)).toInt = ((480 + i133 : Nat) : Int) from (nI_toInt (by omega))) (by omega) (by omega) (by omega))).trans m386
                      have m397 := (oi _ (tn_ne (show (nI (96 + i133)).toInt = ((96 + i133 : Nat) : Int) from (nI_toInt (by omega))) (show (nI (480 + i133)).toInt = ((480 + i133 : Nat) : Int) from (nI_toInt (by omega))) (by omega) (by omega) (by omega))).trans m387
                      have m398 := (oi _ (tn_ne (show (nI (192 + i133)).toInt = ((192 + i133 : Nat) : Int) from (nI_toInt (by omega))) (show (nI (480 + i133)).toInt = ((480 + i133 : Nat) : Int) from (nI_toInt (by omega))) (by omega) (by omega) (by omega))).trans m388
                      have m399 := (oi _ (tn_ne (show (nI (288 + i133)).toInt = ((288 + i133 : Nat) : Int) from (nI_toInt (by omega))) (show (nI (480 + i133)).toInt = ((480 + i133 : Nat) : Int) from (nI_toInt (by omega))) (by omega) (by omega) (by omega))).trans m389
                      have m400 := (oi _ (tn_ne (show (nI (384 + i133)).toInt = ((384 + i133 : Nat) : Int) from (nI_toInt (by omega))) (show (nI (480 + i133)).toInt = ((480 + i133 : Nat) : Int) from (nI_toInt (by omega))) (by omega) (by omega) (by omega))).trans m383
                      refine lv_iinc (v := nI (i133 + 1)) (lv' := [(7, .int (nI (i133 + 1))), (6, .int x329), (0, .ref o0), (1, .int p0), (2, .int p1), (3, .int p2), (4, .int p3), (5, .int p4)]) hx hb dX12_land_239 hl (k := 1) rfl (nI_add i133 1) (by decide) rfl (fun ls hl => ?_)
                      refine lv_goto (tgt := 107) hx hb dX12_land_242 (by decide) ?_
                      have hT : gH (dC, dI) kA (SHm q (wP wZ0 wN wH wB wC (lndB wL p0.toInt p1.toInt (i133 + 1)) wK wU wV) PI im PM PT lS lB lE lN) G H := SHm_w hT (fun i hi x p => wP_L (fun _ => lb_in (inR_1 (s := ((i133 : Nat) : Int)) (a := p0.toInt) (b := p1.toInt) (by have q9 : (nI i133).toInt = ((i133 : Nat) : Int) := nI_toInt (by omega); omega))) p)
                      exact ih304 (i133 + 1) (by omega) (by omega) x329 ⟨(by have q8 := ti_all x329; omega), (by have := (show x329.toInt = x329.toInt from rfl); first | exact ldN_out (inR_0 (s := ((i133 : Nat) : Int)) (a := p0.toInt) (b := p1.toInt) (by have q9 : (nI i133).toInt = ((i133 : Nat) : Int) := nI_toInt (by omega); omega)) hj137 | exact ldN_no (inR_1 (s := ((i133 : Nat) : Int)) (a := p0.toInt) (b := p1.toInt) (by have q9 : (nI i133).toInt = ((i133 : Nat) : Int) := nI_toInt (by omega); omega)) (lb_L hL (by omega) (tn_nI (by omega)) (by assumption)) (by rw [← hj137]; omega) | exact ldN_one (inR_1 (s := ((i133 : Nat) : Int)) (a := p0.toInt) (b := p1.toInt) (by have q9 : (nI i133).toInt = ((i133 : Nat) : Int) := nI_toInt (by omega); omega)) (lb_N hL (by omega) (tn_nI (by omega)) (by assumption)) hj137 (by omega))⟩ _ _ hT hF hS m394 ls (lv_sub hl [0, 1, 2, 3, 4, 5, 6, 7] rfl)
                    · have t401 : r320.toInt ≠ 0 := ti_ne c326 rfl (by decide)
                      have t402 : (lndB wL p0.toInt p1.toInt i133) (nI i133).toNatClampNeg := hi324 ((bit_of ⟨by omega, by omega⟩).resolve_left c326)
                      refine lv_iconst (v := 0) hx hb dX12_land_138 (by decide) ?_
                      refine lv_goto (tgt := 143) hx hb dX12_land_139 (by decide) ?_
                      refine lv_iadd hx hb dX12_land_143 ?_
                      refine lv_topi (fun x403 ex403 => ?_)
                      have t404 : x403.toInt = z134.toInt + 0 := ti_add ex403 rfl (by decide) (by omega) (by omega)
                      refine lv_istore (lv' := [(6, .int x403), (7, .int (nI i133)), (0, .ref o0), (1, .int p0), (2, .int p1), (3, .int p2), (4, .int p3), (5, .int p4)]) hx hb dX12_land_144 hl (by decide) rfl (fun ls hl => ?_)
                      refine lv_aload_n hx hb dX12_land_146 rfl (lv_at hl 2 rfl) ?_
                      refine tw_get hx hb hts bF_X12 hown hK hT hr_o0 shm_0 rfl 1 (by decide) (ht_at hts 13 rfl) (fun _ h9 => h9) dX12_land_147 (fun v9 m405 h9 => ?_)
                      obtain ⟨rfl, hg406⟩ := h9 _ rfl
                      refine lv_sipush (v := 1748) hx hb dX12_land_150 (by decide) ?_
                      refine lv_dup2_11 hx hb dX12_land_153 rfl rfl ?_
                      refine tw_iald (i := 1748) hx hb hK hT hg406 shm_2 rfl (by unfold vp_in; decide) dX12_land_154 (fun v9 m407 h9 => ?_)
                      obtain ⟨x408, rfl, gx408, kx408⟩ := (gp_at h9 (w_fre (by have q9 := tn_of (show (1748 : Int32).toInt = 1748 from (by decide)) (show (0 : Int) ≤ 1748 from by omega); omega)))
                      refine lv_aload_n hx hb dX12_land_155 rfl (lv_at hl 2 rfl) ?_
                      refine tw_get hx hb hts bF_X12 hown hK hT hr_o0 shm_0 rfl 1 (by decide) (ht_at hts 13 rfl) (fun _ h9 => h9) dX12_land_156 (fun v9 m409 h9 => ?_)
                      obtain ⟨rfl, hg410⟩ := h9 _ rfl
                      refine lv_sipush (v := 384) hx hb dX12_land_159 (by decide) ?_
                      refine lv_iload hx hb dX12_land_162 (lv_at hl 1 rfl) ?_
                      refine lv_iadd hx hb dX12_land_164 ?_
                      refine lv_topi (fun x411 ex411 => ?_)
                      obtain rfl : nI (384 + i133) = x411 := (ex411.trans (nI_add 384 i133)).symm
                      refine tw_iald (i := (nI (384 + i133))) hx hb hK hT hg406 shm_2 rfl (vp_in_nI (by omega) (by decide)) dX12_land_165 (fun v9 m412 h9 => ?_)
                      obtain ⟨x413, rfl, gx413, kx413⟩ := (gw_at h9 (w_wat (by have q9 := tn_of (show (nI (384 + i133)).toInt = ((384 + i133 : Nat) : Int) from (nI_toInt (by omega))) (show (0 : Int) ≤ ((384 + i133 : Nat) : Int) from by omega); omega)) hgn (fun _ => Int.le_refl 0))
                      refine lv_isub hx hb dX12_land_166 ?_
                      refine lv_topi (fun x414 ex414 => ?_)
                      refine tw_iast (i := 1748) (x := x414) hx hb hK hT hG hS hg406 shm_2 rfl (by unfold vp_in; decide) (gp_of (gi_all _) (w_fre (by have q9 := tn_of (show (1748 : Int32).toInt = 1748 from (by decide)) (show (0 : Int) ≤ 1748 from by omega); omega)) (wX_o (by have q9 := tn_of (show (1748 : Int32).toInt = 1748 from (by decide)) (show (0 : Int) ≤ 1748 from by omega); omega) (by omega))) dX12_land_167 (fun H locs hT oq m415 oi hS => ?_)
                      have hF := hF.ast hg406 skm_2 oq (by decide)
                      have m416 := (el_kept (oq _ (gne hr_o0 hg406 (by decide)))).trans m322
                      have m417 := (oi _ (tn_ne (show (nI (384 + i133)).toInt = ((384 + i133 : Nat) : Int) from (nI_toInt (by omega))) (show (1748 : Int32).toInt = 1748 from (by decide)) (by omega) (by omega) (by omega))).trans m412
                      refine lv_aload_n hx hb dX12_land_168 rfl (lv_at hl 2 rfl) ?_
                      refine tw_get hx hb hts bF_X12 hown hK hT hr_o0 shm_0 rfl 1 (by decide) (ht_at hts 13 rfl) (fun _ h9 => h9) dX12_land_169 (fun v9 m418 h9 => ?_)
                      obtain ⟨rfl, hg419⟩ := h9 _ rfl
                      refine lv_iconst (v := 0) hx hb dX12_land_172 (by decide) ?_
                      refine lv_iload hx hb dX12_land_173 (lv_at hl 1 rfl) ?_
                      refine lv_iadd hx hb dX12_land_175 ?_
                      refine lv_topi (fun x420 ex420 => ?_)
                      obtain rfl : nI (0 + i133) = x420 := (ex420.trans (nI_add 0 i133)).symm
                      refine lv_iconst (v := 1) hx hb dX12_land_176 (by decide) ?_
                      have t421 : (((nI (0 + i133)).toNatClampNeg : Nat) : Int) = ((0 + i133 : Nat) : Int) := tn_of (show (nI (0 + i133)).toInt = ((0 + i133 : Nat) : Int) from (nI_toInt (by omega))) (by omega)
                      refine tw_iast2 (Sg1 := (SHm q (wP wZ0 wN wH wB wC (fun j => (lndB wL p0.toInt p1.toInt i133) j ∨ j = i133) wK wU wV) PI im PM PT lS lB lE lN)) (i := (nI (0 + i133))) (x := 1) hx hb hK hT hG hS hg406 shm_2 rfl shm_2 shm_o2 (fun b9 h9 => hgu b9 1 h9) (vp_in_nI (by omega) (by decide)) (gp_of (gi_all _) (w_fre (by omega)) (wX_l (by omega) (Or.inr (by omega)) (by decide))) (fun k9 hk9 hne9 v9 hv9 he9 => by obtain ⟨x9, rfl, p9⟩ := he9; exact ⟨x9, rfl, wP_L (fun _ => ⟨Or.inl, fun z9 => z9.resolve_right (by omega)⟩) p9⟩) dX12_land_177 (fun H locs hT oq m422 oi hS => ?_)
                      have hF := hF.ast hg406 skm_2 oq (by decide)
                      have m423 := (el_kept (oq _ (gne hr_o0 hg406 (by decide)))).trans m416
                      have m424 := (oi _ (tn_ne (show (nI (384 + i133)).toInt = ((384 + i133 : Nat) : Int) from (nI_toInt (by omega))) (show (nI (0 + i133)).toInt = ((0 + i133 : Nat) : Int) from (nI_toInt (by omega))) (by omega) (by omega) (by omega))).trans m417
                      have m425 := (oi _ (tn_ne (show (1748 : Int32).toInt = 1748 from (by decide)) (show (nI (0 + i133)).toInt = ((0 + i133 : Nat) : Int) from (nI_toInt (by omega))) (by omega) (by omega) (by omega))).trans m415
                      refine lv_aload_n hx hb dX12_land_178 rfl (lv_at hl 2 rfl) ?_
                      refine tw_get hx hb hts bF_X12 hown hK hT hr_o0 shm_0 rfl 1 (by decide) (ht_at hts 13 rfl) (fun _ h9 => h9) dX12_land_179 (fun v9 m426 h9 => ?_)
                      obtain ⟨rfl, hg427⟩ := h9 _ rfl
                      refine lv_bipush (v := 96) hx hb dX12_land_182 (by decide) ?_
                      refine lv_iload hx hb dX12_land_184 (lv_at hl 1 rfl) ?_
                      refine lv_iadd hx hb dX12_land_186 ?_
                      refine lv_topi (fun x428 ex428 => ?_)
                      obtain rfl : nI (96 + i133) = x428 := (ex428.trans (nI_add 96 i133)).symm
                      refine lv_iload_n hx hb dX12_land_187 rfl (lv_at hl 5 rfl) ?_
                      refine tw_iast (i := (nI (96 + i133))) (x := p2) hx hb hK hT hG hS hg406 shm_2 rfl (vp_in_nI (by omega) (by decide)) (gp_of (gi_of (show p2.toInt = p2.toInt from rfl) (by omega) (by omega)) (w_hgt (by have q9 := tn_of (show (nI (96 + i133)).toInt = ((96 + i133 : Nat) : Int) from (nI_toInt (by omega))) (show (0 : Int) ≤ ((96 + i133 : Nat) : Int) from by omega); omega)) (wX_o (by have q9 := tn_of (show (nI (96 + i133)).toInt = ((96 + i133 : Nat) : Int) from (nI_toInt (by omega))) (show (0 : Int) ≤ ((96 + i133 : Nat) : Int) from by omega); omega) (by omega))) dX12_land_188 (fun H locs hT oq m429 oi hS => ?_)
                      have hF := hF.ast hg406 skm_2 oq (by decide)
                      have m430 := (el_kept (oq _ (gne hr_o0 hg406 (by decide)))).trans m423
                      have m431 := (oi _ (tn_ne (show (nI (384 + i133)).toInt = ((384 + i133 : Nat) : Int) from (nI_toInt (by omega))) (show (nI (96 + i133)).toInt = ((96 + i133 : Nat) : Int) from (nI_toInt (by omega))) (by omega) (by omega) (by omega))).trans m424
                      have m432 := (oi _ (tn_ne (show (1748 : Int32).toInt = 1748 from (by decide)) (show (nI (96 + i133)).toInt = ((96 + i133 : Nat) : Int) from (nI_toInt (by omega))) (by omega) (by omega) (by omega))).trans m425
                      have m433 := (oi _ (tn_ne (show (nI (0 + i133)).toInt = ((0 + i133 : Nat) : Int) from (nI_toInt (by omega))) (show (nI (96 + i133)).toInt = ((96 + i133 : Nat) : Int) from (nI_toInt (by omega))) (by omega) (by omega) (by omega))).trans m422
                      refine lv_aload_n hx hb dX12_land_189 rfl (lv_at hl 2 rfl) ?_
                      refine tw_get hx hb hts bF_X12 hown hK hT hr_o0 shm_0 rfl 1 (by decide) (ht_at hts 13 rfl) (fun _ h9 => h9) dX12_land_190 (fun v9 m434 h9 => ?_)
                      obtain ⟨rfl, hg435⟩ := h9 _ rfl
                      refine lv_sipush (v := 192) hx hb dX12_land_193 (by decide) ?_
                      refine lv_iload hx hb dX12_land_196 (lv_at hl 1 rfl) ?_
                      refine lv_iadd hx hb dX12_land_198 ?_
                      refine lv_topi (fun x436 ex436 => ?_)
                      obtain rfl : nI (192 + i133) = x436 := (ex436.trans (nI_add 192 i133)).symm
                      refine lv_iload hx hb dX12_land_199 (lv_at hl 6 rfl) ?_
                      refine tw_iast (i := (nI (192 + i133))) (x := p3) hx hb hK hT hG hS hg406 shm_2 rfl (vp_in_nI (by omega) (by decide)) (gp_of (gi_all _) (w_fre (by have q9 := tn_of (show (nI (192 + i133)).toInt = ((192 + i133 : Nat) : Int) from (nI_toInt (by omega))) (show (0 : Int) ≤ ((192 + i133 : Nat) : Int) from by omega); omega)) (wX_o (by have q9 := tn_of (show (nI (192 + i133)).toInt = ((192 + i133 : Nat) : Int) from (nI_toInt (by omega))) (show (0 : Int) ≤ ((192 + i133 : Nat) : Int) from by omega); omega) (by omega))) dX12_land_201 (fun H locs hT oq m437 oi hS => ?_)
                      have hF := hF.ast hg406 skm_2 oq (by decide)
                      have m438 := (el_kept (oq _ (gne hr_o0 hg406 (by decide)))).trans m430
                      have m439 := (oi _ (tn_ne (show (nI (384 + i133)).toInt = ((384 + i133 : Nat) : Int) from (nI_toInt (by omega))) (show (nI (192 + i133)).toInt = ((192 + i133 : Nat) : Int) from (nI_toInt (by omega))) (by omega) (by omega) (by omega))).trans m431
                      have m440 := (oi _ (tn_ne (show (1748 : Int32).toInt = 1748 from (by decide)) (show (nI (192 + i133)).toInt = ((192 + i133 : Nat) : Int) from (nI_toInt (by omega))) (by omega) (by omega) (by omega))).trans m432
                      have m441 := (oi _ (tn_ne (show (nI (0 + i133)).toInt = ((0 + i133 : Nat) : Int) from (nI_toInt (by omega))) (show (nI (192 + i133)).toInt = ((192 + i133 : Nat) : Int) from (nI_toInt (by omega))) (by omega) (by omega) (by omega))).trans m433
                      have m442 := (oi _ (tn_ne (show (nI (96 + i133)).toInt = ((96 + i133 : Nat) : Int) from (nI_toInt (by omega))) (show (nI (192 + i133)).toInt = ((192 + i133 : Nat) : Int) from (nI_toInt (by omega))) (by omega) (by omega) (by omega))).trans m429
                      refine lv_aload_n hx hb dX12_land_202 rfl (lv_at hl 2 rfl) ?_
                      refine tw_get hx hb hts bF_X12 hown hK hT hr_o0 shm_0 rfl 1 (by decide) (ht_at hts 13 rfl) (fun _ h9 => h9) dX12_land_203 (fun v9 m443 h9 => ?_)
                      obtain ⟨rfl, hg444⟩ := h9 _ rfl
                      refine lv_sipush (v := 288) hx hb dX12_land_206 (by decide) ?_
                      refine lv_iload hx hb dX12_land_209 (lv_at hl 1 rfl) ?_
                      refine lv_iadd hx hb dX12_land_211 ?_
                      refine lv_topi (fun x445 ex445 => ?_)
                      obtain rfl : nI (288 + i133) = x445 := (ex445.trans (nI_add 288 i133)).symm
                      refine lv_iload hx hb dX12_land_212 (lv_at hl 7 rfl) ?_
                      refine tw_iast (i := (nI (288 + i133))) (x := p4) hx hb hK hT hG hS hg406 shm_2 rfl (vp_in_nI (by omega) (by decide)) (gp_of (gi_of (show p4.toInt = p4.toInt from rfl) (by omega) (by omega)) (w_dit (by have q9 := tn_of (show (nI (288 + i133)).toInt = ((288 + i133 : Nat) : Int) from (nI_toInt (by omega))) (show (0 : Int) ≤ ((288 + i133 : Nat) : Int) from by omega); omega)) (wX_o (by have q9 := tn_of (show (nI (288 + i133)).toInt = ((288 + i133 : Nat) : Int) from (nI_toInt (by omega))) (show (0 : Int) ≤ ((288 + i133 : Nat) : Int) from by omega); omega) (by omega))) dX12_land_214 (fun H locs hT oq m446 oi hS => ?_)
                      have hF := hF.ast hg406 skm_2 oq (by decide)
                      have m447 := (el_kept (oq _ (gne hr_o0 hg406 (by decide)))).trans m438
                      have m448 := (oi _ (tn_ne (show (nI (384 + i133)).toInt = ((384 + i133 : Nat) : Int) from (nI_toInt (by omega))) (show (nI (288 + i133)).toInt = ((288 + i133 : Nat) : Int) from (nI_toInt (by omega))) (by omega) (by omega) (by omega))).trans m439
                      have m449 := (oi _ (tn_ne (show (1748 : Int32).toInt = 1748 from (by decide)) (show (nI (288 + i133)).toInt = ((288 + i133 : Nat) : Int) from (nI_toInt (by omega))) (by omega) (by omega) (by omega))).trans m440
                      have m450 := (oi _ (tn_ne (show (nI (0 + i133)).toInt = ((0 + i133 : Nat) : Int) from (nI_toInt (by omega))) (show (nI (288 + i133)).toInt = ((288 + i133 : Nat) : Int) from (nI_toInt (by omega))) (by omega) (by omega) (by omega))).trans m441
                      have m451 := (oi _ (tn_ne (show (nI (96 + i133)).toInt = ((96 + i133 : Nat) : Int) from (nI_toInt (by omega))) (show (nI (288 + i133)).toInt = ((288 + i133 : Nat) : Int) from (nI_toInt (by omega))) (by omega) (by omega) (by omega))).trans m442
                      have m452 := (oi _ (tn_ne (show (nI (192 + i133)).toInt = ((192 + i133 : Nat) : Int) from (nI_toInt (by omega))) (show (nI (288 + i133)).toInt = ((288 + i133 : Nat) : Int) from (nI_toInt (by omega))) (by omega) (by omega) (by omega))).trans m437
                      refine lv_aload_n hx hb dX12_land_215 rfl (lv_at hl 2 rfl) ?_
                      refine tw_get hx hb hts bF_X12 hown hK hT hr_o0 shm_0 rfl 1 (by decide) (ht_at hts 13 rfl) (fun _ h9 => h9) dX12_land_216 (fun v9 m453 h9 => ?_)
                      obtain ⟨rfl, hg454⟩ := h9 _ rfl
                      refine lv_sipush (v := 384) hx hb dX12_land_219 (by decide) ?_
                      refine lv_iload hx hb dX12_land_222 (lv_at hl 1 rfl) ?_
                      refine lv_iadd hx hb dX12_land_224 ?_
                      refine lv_topi (fun x455 ex455 => ?_)
                      obtain rfl : nI (384 + i133) = x455 := (ex455.trans (nI_add 384 i133)).symm
                      refine lv_iconst (v := 0) hx hb dX12_land_225 (by decide) ?_
                      have t456 : 6500000 ≤ wN (nI (384 + i133)).toNatClampNeg ∧ wN (nI (384 + i133)).toNatClampNeg ≤ 20200000 := hgn _
                      refine tw_iast (i := (nI (384 + i133))) (x := 0) hx hb hK hT hG hS hg406 shm_2 rfl (vp_in_nI (by omega) (by decide)) (gp_of (gi_of (show (0 : Int32).toInt = 0 from (by decide)) (by first | decide | omega) (by first | decide | omega)) (w_wat0 (by have q9 := tn_of (show (nI (384 + i133)).toInt = ((384 + i133 : Nat) : Int) from (nI_toInt (by omega))) (show (0 : Int) ≤ ((384 + i133 : Nat) : Int) from by omega); omega)) (wX_o (by have q9 := tn_of (show (nI (384 + i133)).toInt = ((384 + i133 : Nat) : Int) from (nI_toInt (by omega))) (show (0 : Int) ≤ ((384 + i133 : Nat) : Int) from by omega); omega) (by omega))) dX12_land_226 (fun H locs hT oq m457 oi hS => ?_)
                      have hF := hF.ast hg406 skm_2 oq (by decide)
                      have m458 := (el_kept (oq _ (gne hr_o0 hg406 (by decide)))).trans m447
                      have m459 := (oi _ (tn_ne (show (1748 : Int32).toInt = 1748 from (by decide)) (show (nI (384 + i133)).toInt = ((384 + i133 : Nat) : Int) from (nI_toInt (by omega))) (by omega) (by omega) (by omega))).trans m449
                      have m460 := (oi _ (tn_ne (show (nI (0 + i133)).toInt = ((0 + i133 : Nat) : Int) from (nI_toInt (by omega))) (show (nI (384 + i133)).toInt = ((384 + i133 : Nat) : Int) from (nI_toInt (by omega))) (by omega) (by omega) (by omega))).trans m450
                      have m461 := (oi _ (tn_ne (show (nI (96 + i133)).toInt = ((96 + i133 : Nat) : Int) from (nI_toInt (by omega))) (show (nI (384 + i133)).toInt = ((384 + i133 : Nat) : Int) from (nI_toInt (by omega))) (by omega) (by omega) (by omega))).trans m451
                      have m462 := (oi _ (tn_ne (show (nI (192 + i133)).toInt = ((192 + i133 : Nat) : Int) from (nI_toInt (by omega))) (show (nI (384 + i133)).toInt = ((384 + i133 : Nat) : Int) from (nI_toInt (by omega))) (by omega) (by omega) (by omega))).trans m452
                      have m463 := (oi _ (tn_ne (show (nI (288 + i133)).toInt = ((288 + i133 : Nat) : Int) from (nI_toInt (by omega))) (show (nI (384 + i133)).toInt = ((384 + i133 : Nat) : Int) from (nI_toInt (by omega))) (by omega) (by omega) (by omega))).trans m446
                      refine lv_aload_n hx hb dX12_land_227 rfl (lv_at hl 2 rfl) ?_
                      refine tw_get hx hb hts bF_X12 hown hK hT hr_o0 shm_0 rfl 1 (by decide) (ht_at hts 13 rfl) (fun _ h9 => h9) dX12_land_228 (fun v9 m464 h9 => ?_)
                      obtain ⟨rfl, hg465⟩ := h9 _ rfl
                      refine lv_sipush (v := 480) hx hb dX12_land_231 (by decide) ?_
                      refine lv_iload hx hb dX12_land_234 (lv_at hl 1 rfl) ?_
                      refine lv_iadd hx hb dX12_land_236 ?_
                      refine lv_topi (fun x466 ex466 => ?_)
                      obtain rfl : nI (480 + i133) = x466 := (ex466.trans (nI_add 480 i133)).symm
                      refine lv_iconst (v := 0) hx hb dX12_land_237 (by decide) ?_
                      refine tw_iast (i := (nI (480 + i133))) (x := 0) hx hb hK hT hG hS hg406 shm_2 rfl (vp_in_nI (by omega) (by decide)) (gp_of (gi_all _) (w_fre (by have q9 := tn_of (show (nI (480 + i133)).toInt = ((480 + i133 : Nat) : Int) from (nI_toInt (by omega))) (show (0 : Int) ≤ ((480 + i133 : Nat) : Int) from by omega); omega)) (wX_o (by have q9 := tn_of (show (nI (480 + i133)).toInt = ((480 + i133 : Nat) : Int) from (nI_toInt (by omega))) (show (0 : Int) ≤ ((480 + i133 : Nat) : Int) from by omega); omega) (by omega))) dX12_land_238 (fun H locs hT oq m467 oi hS => ?_)
                      have hF := hF.ast hg406 skm_2 oq (by decide)
                      have m468 := (el_kept (oq _ (gne hr_o0 hg406 (by decide)))).trans m458
                      have m469 := (oi _ (tn_ne (show (1748 : Int32).toInt = 1748 from (by decide)) (show (nI (480 + i133)).toInt = ((480 + i133 : Nat) : Int) from (nI_toInt (by omega))) (by omega) (by omega) (by omega))).trans m459
                      have m470 := (oi _ (tn_ne (show (nI (0 + i133)).toInt = ((0 + i133 : Nat) : Int) from (nI_toInt (by omega))) (show (nI (480 + i133)).toInt = ((480 + i133 : Nat) : Int) from (nI_toInt (by omega))) (by omega) (by omega) (by omega))).trans m460
                      have m471 := (oi _ (tn_ne (show (nI (96 + i133)).toInt = ((96 + i133 : Nat) : Int) from (nI_toInt (by omega))) (show (nI (480 + i133)).toInt = ((480 + i133 : Nat) : Int) from (nI_toInt (by omega))) (by omega) (by omega) (by omega))).trans m461
                      have m472 := (oi _ (tn_ne (show (nI (192 + i133)).toInt = ((192 + i133 : Nat) : Int) from (nI_toInt (by omega))) (show (nI (480 + i133)).toInt = ((480 + i133 : Nat) : Int) from (nI_toInt (by omega))) (by omega) (by omega) (by omega))).trans m462
                      have m473 := (oi _ (tn_ne (show (nI (288 + i133)).toInt = ((288 + i133 : Nat) : Int) from (nI_toInt (by omega))) (show (nI (480 + i133)).toInt = ((480 + i133 : Nat) : Int) from (nI_toInt (by omega))) (by omega) (by omega) (by omega))).trans m463
                      have m474 := (oi _ (tn_ne (show (nI (384 + i133)).toInt = ((384 + i133 : Nat) : Int) from (nI_toInt (by omega))) (show (nI (480 + i133)).toInt = ((480 + i133 : Nat) : Int) from (nI_toInt (by omega))) (by omega) (by omega) (by omega))).trans m457
                      refine lv_iinc (v := nI (i133 + 1)) (lv' := [(7, .int (nI (i133 + 1))), (6, .int x403), (0, .ref o0), (1, .int p0), (2, .int p1), (3, .int p2), (4, .int p3), (5, .int p4)]) hx hb dX12_land_239 hl (k := 1) rfl (nI_add i133 1) (by decide) rfl (fun ls hl => ?_)
                      refine lv_goto (tgt := 107) hx hb dX12_land_242 (by decide) ?_
                      have hT : gH (dC, dI) kA (SHm q (wP wZ0 wN wH wB wC (lndB wL p0.toInt p1.toInt (i133 + 1)) wK wU wV) PI im PM PT lS lB lE lN) G H := SHm_w hT (fun i hi x p => wP_L (fun _ => lb_in (inR_1 (s := ((i133 : Nat) : Int)) (a := p0.toInt) (b := p1.toInt) (by have q9 : (nI i133).toInt = ((i133 : Nat) : Int) := nI_toInt (by omega); omega))) p)
                      exact ih304 (i133 + 1) (by omega) (by omega) x403 ⟨(by have q8 := ti_all x403; omega), (by have := (show x403.toInt = x403.toInt from rfl); first | exact ldN_out (inR_0 (s := ((i133 : Nat) : Int)) (a := p0.toInt) (b := p1.toInt) (by have q9 : (nI i133).toInt = ((i133 : Nat) : Int) := nI_toInt (by omega); omega)) hj137 | exact ldN_no (inR_1 (s := ((i133 : Nat) : Int)) (a := p0.toInt) (b := p1.toInt) (by have q9 : (nI i133).toInt = ((i133 : Nat) : Int) := nI_toInt (by omega); omega)) (lb_L hL (by omega) (tn_nI (by omega)) (by assumption)) (by rw [← hj137]; omega) | exact ldN_one (inR_1 (s := ((i133 : Nat) : Int)) (a := p0.toInt) (b := p1.toInt) (by have q9 : (nI i133).toInt = ((i133 : Nat) : Int) := nI_toInt (by omega); omega)) (lb_N hL (by omega) (tn_nI (by omega)) (by assumption)) hj137 (by omega))⟩ _ _ hT hF hS m468 ls (lv_sub hl [0, 1, 2, 3, 4, 5, 6, 7] rfl)
                  · have t475 : r312.toInt = 0 := ti_eq c318 rfl (by decide)
                    refine lv_goto (tgt := 239) hx hb dX12_land_124 (by decide) ?_
                    refine lv_iinc (v := nI (i133 + 1)) (lv' := [(7, .int (nI (i133 + 1))), (6, .int z134), (0, .ref o0), (1, .int p0), (2, .int p1), (3, .int p2), (4, .int p3), (5, .int p4)]) hx hb dX12_land_239 hl (k := 0) rfl (nI_add i133 1) (by decide) rfl (fun ls hl => ?_)
                    refine lv_goto (tgt := 107) hx hb dX12_land_242 (by decide) ?_
                    have hT : gH (dC, dI) kA (SHm q (wP wZ0 wN wH wB wC (lndB wL p0.toInt p1.toInt (i133 + 1)) wK wU wV) PI im PM PT lS lB lE lN) G H := SHm_w hT (fun i hi x p => wP_L (fun _ => lb_out (inR_0 (s := ((i133 : Nat) : Int)) (a := p0.toInt) (b := p1.toInt) (by have q9 : (nI i133).toInt = ((i133 : Nat) : Int) := nI_toInt (by omega); omega))) p)
                    exact ih304 (i133 + 1) (by omega) (by omega) z134 ⟨(by have q8 := ti_all z134; omega), (by have := (show z134.toInt = z134.toInt from rfl); first | exact ldN_out (inR_0 (s := ((i133 : Nat) : Int)) (a := p0.toInt) (b := p1.toInt) (by have q9 : (nI i133).toInt = ((i133 : Nat) : Int) := nI_toInt (by omega); omega)) hj137 | exact ldN_no (inR_1 (s := ((i133 : Nat) : Int)) (a := p0.toInt) (b := p1.toInt) (by have q9 : (nI i133).toInt = ((i133 : Nat) : Int) := nI_toInt (by omega); omega)) (lb_L hL (by omega) (tn_nI (by omega)) (by assumption)) (by rw [← hj137]; omega) | exact ldN_one (inR_1 (s := ((i133 : Nat) : Int)) (a := p0.toInt) (b := p1.toInt) (by have q9 : (nI i133).toInt = ((i133 : Nat) : Int) := nI_toInt (by omega); omega)) (lb_N hL (by omega) (tn_nI (by omega)) (by assumption)) hj137 (by omega))⟩ _ _ hT hF hS m314 ls (lv_sub hl [0, 1, 2, 3, 4, 5, 6, 7] rfl)
              have hT : gH (dC, dI) kA (SHm q (wP wZ0 wN wH wB wC (lndB wL p0.toInt p1.toInt 0) wK wU wV) PI im PM PT lS lB lE lN) G H := SHm_w hT (fun i hi x p => wP_L (fun _ => lb_0) p)
              exact key304 (96 - 0) 0 (by omega) (Nat.le_refl _) 0 ⟨(rg_t (a := 0) (by decide) (by first | decide | omega) (by first | decide | omega)), (show (0 : Int32).toInt = 0 from by decide)⟩ _ _ hT hF hS m125 ls (lv_sub hl [0, 1, 2, 3, 4, 5, 6, 7] rfl)
            · have t476 : 0 < r115.toInt := ti_nle c120 rfl (by decide)
              refine lv_iconst (v := 1) hx hb dX12_land_87 (by decide) ?_
              refine lv_goto (tgt := 92) hx hb dX12_land_88 (by decide) ?_
              refine lv_iconst (v := 3) hx hb dX12_land_92 (by decide) ?_
              have hFc := gA_free hG hA hS
              refine va_calli (va_runV (As := [.int 1, .int 3]) (rest := []) ⟨hx, hb, hml, hown, hts⟩ (s_throwsIfP l dC dI kA adK adV G H q wZ0 wN wH wB wC wL wK wU wV PI im PM PT lS lB lE lN o0 1 3 u106 hT hr_o0 m117 (rg_t (a := 1) (by decide) (by first | decide | omega) (by first | decide | omega)) (fun _ => Int.le_refl 0) hgn hgh hgb hgc hgi hgu) (cwV 2 hts (goodIn_app (goodIn_r _ [10, 11, 12, 6] rfl (by decide +kernel)) (goodIn_ca (goodIn_r _ [9, 1] rfl (by decide +kernel)) (bs_in _ _))) rfl rfl rfl (by decide +kernel) ⟨(Nat.le_of_ble_eq_true rfl), (Nat.le_of_ble_eq_true rfl)⟩) ⟨fun a U g mk q => by obtain ⟨q0, q1, qK, qE⟩ := q; exact ⟨q0, q1, va_K.moved (u := U) (U := U.calling g mk a) (Vm.Alike.refl U.vm) qK, EVS.blind g mk a qE⟩, gH_rc hK hT hr_o0 shm_0 rfl, fun U hU hW => ⟨rfl, hU, va_K.moved hW.alike hK, hE.call hS hFc hU hW⟩⟩ rfl rfl hl.1 rfl (lv_room (Nat.le_of_ble_eq_true rfl)) dX12_land_93 ⟨(Nat.le_of_ble_eq_true rfl), (Nat.le_of_ble_eq_true rfl)⟩) hS (fun q _ h => hFc q h) hFc (fun r477 u t H locs ht hvm hw478 hB _ _ hS => ?_)
              obtain ⟨u479, rfl⟩ : ∃ z, z = u := ⟨_, rfl⟩
              obtain ⟨hT, hF1, m480⟩ := hB
              rw [ht] at hT hF1 m480
              have hF := hF.more hF1 (by decide)
              try dsimp only at hw478
              obtain ⟨h482, hf483, hd484⟩ := hw478
              have t485 : (1 : Int32).toInt = 1 := by decide
              have t486 : (3 : Int32).toInt = 3 := by decide
              obtain rfl : (1 : Int32) = r477 := hd484.symm
              refine lv_if_eq (tgt := 101) hx hb dX12_land_96 (by decide) (fun c487 => absurd c487 (by decide)) (fun c487 => ?_)
              refine lv_iconst (v := 0) hx hb dX12_land_99 (by decide) ?_
              exact W.iret (v := 0) hx hb hr (fun t ht hW => ⟨⟨0, (u479, wL), rfl, (by exact ⟨(rg_t (a := 0) (by decide) (by first | decide | omega) (by first | decide | omega)), (fun _ h9 => h9), (Or.inr ⟨by have := laC_s wH p0.toInt p1.toInt p2.toInt p3.toInt p4.toInt; have q0 : (0 : Int32).toInt = 0 := (by decide); have q1 : (1 : Int32).toInt = 1 := (by decide); have q2 : (2 : Int32).toInt = 2 := (by decide); have q3 : (3 : Int32).toInt = 3 := (by decide); have qm : (-1 : Int32).toInt = -1 := (by decide); omega, by have := laC_s wH p0.toInt p1.toInt p2.toInt p3.toInt p4.toInt; have q0 : (0 : Int32).toInt = 0 := (by decide); have q1 : (1 : Int32).toInt = 1 := (by decide); have q2 : (2 : Int32).toInt = 2 := (by decide); have q3 : (3 : Int32).toInt = 3 := (by decide); have qm : (-1 : Int32).toInt = -1 := (by decide); omega, rfl⟩)⟩), by (try dsimp only); rw [ht]; exact ⟨hT, hF, m480⟩⟩, hS.F ht⟩) hS.2.2 dX12_land_100
          · have t488 : r93.toInt = 0 := ti_eq c99 rfl (by decide)
            have t489 : (0 : Int32).toInt = 0 := by decide
            have t490 : (20 : Int32).toInt = 20 := by decide
            have t491 : p4.toInt < (0 : Int32).toInt ∨ (20 : Int32).toInt < p4.toInt := hi98 c99
            refine lv_iconst (v := 1) hx hb dX12_land_67 (by decide) ?_
            refine lv_goto (tgt := 72) hx hb dX12_land_68 (by decide) ?_
            refine lv_iconst (v := 2) hx hb dX12_land_72 (by decide) ?_
            have hFc := gA_free hG hA hS
            refine va_calli (va_runV (As := [.int 1, .int 2]) (rest := []) ⟨hx, hb, hml, hown, hts⟩ (s_throwsIfP l dC dI kA adK adV G H q wZ0 wN wH wB wC wL wK wU wV PI im PM PT lS lB lE lN o0 1 2 u31 hT hr_o0 m95 (rg_t (a := 1) (by decide) (by first | decide | omega) (by first | decide | omega)) (fun _ => Int.le_refl 0) hgn hgh hgb hgc hgi hgu) (cwV 2 hts (goodIn_app (goodIn_r _ [10, 11, 12, 6] rfl (by decide +kernel)) (goodIn_ca (goodIn_r _ [9, 1] rfl (by decide +kernel)) (bs_in _ _))) rfl rfl rfl (by decide +kernel) ⟨(Nat.le_of_ble_eq_true rfl), (Nat.le_of_ble_eq_true rfl)⟩) ⟨fun a U g mk q => by obtain ⟨q0, q1, qK, qE⟩ := q; exact ⟨q0, q1, va_K.moved (u := U) (U := U.calling g mk a) (Vm.Alike.refl U.vm) qK, EVS.blind g mk a qE⟩, gH_rc hK hT hr_o0 shm_0 rfl, fun U hU hW => ⟨rfl, hU, va_K.moved hW.alike hK, hE.call hS hFc hU hW⟩⟩ rfl rfl hl.1 rfl (lv_room (Nat.le_of_ble_eq_true rfl)) dX12_land_73 ⟨(Nat.le_of_ble_eq_true rfl), (Nat.le_of_ble_eq_true rfl)⟩) hS (fun q _ h => hFc q h) hFc (fun r492 u t H locs ht hvm hw493 hB _ _ hS => ?_)
            obtain ⟨u494, rfl⟩ : ∃ z, z = u := ⟨_, rfl⟩
            obtain ⟨hT, hF1, m495⟩ := hB
            rw [ht] at hT hF1 m495
            have hF := hF.more hF1 (by decide)
            try dsimp only at hw493
            obtain ⟨h497, hf498, hd499⟩ := hw493
            have t500 : (1 : Int32).toInt = 1 := by decide
            have t501 : (2 : Int32).toInt = 2 := by decide
            obtain rfl : (1 : Int32) = r492 := hd499.symm
            refine lv_if_ne (tgt := 99) hx hb dX12_land_76 (by decide) (fun c502 => ?_) (fun c502 => absurd c502 (by decide))
            refine lv_iconst (v := 0) hx hb dX12_land_99 (by decide) ?_
            exact W.iret (v := 0) hx hb hr (fun t ht hW => ⟨⟨0, (u494, wL), rfl, (by exact ⟨(rg_t (a := 0) (by decide) (by first | decide | omega) (by first | decide | omega)), (fun _ h9 => h9), (Or.inr ⟨by have := laC_s wH p0.toInt p1.toInt p2.toInt p3.toInt p4.toInt; have q0 : (0 : Int32).toInt = 0 := (by decide); have q1 : (1 : Int32).toInt = 1 := (by decide); have q2 : (2 : Int32).toInt = 2 := (by decide); have q3 : (3 : Int32).toInt = 3 := (by decide); have qm : (-1 : Int32).toInt = -1 := (by decide); omega, by have := laC_s wH p0.toInt p1.toInt p2.toInt p3.toInt p4.toInt; have q0 : (0 : Int32).toInt = 0 := (by decide); have q1 : (1 : Int32).toInt = 1 := (by decide); have q2 : (2 : Int32).toInt = 2 := (by decide); have q3 : (3 : Int32).toInt = 3 := (by decide); have qm : (-1 : Int32).toInt = -1 := (by decide); omega, rfl⟩)⟩), by (try dsimp only); rw [ht]; exact ⟨hT, hF, m495⟩⟩, hS.F ht⟩) hS.2.2 dX12_land_100
    · have t503 : r22.toInt ≠ 0 := ti_ne c27 rfl (by decide)
      refine lv_iconst (v := 1) hx hb dX12_land_20 (by decide) ?_
      refine lv_goto (tgt := 25) hx hb dX12_land_21 (by decide) ?_
      refine lv_iconst (v := 1) hx hb dX12_land_25 (by decide) ?_
      have hFc := gA_free hG hA hS
      refine va_calli (va_runV (As := [.int 1, .int 1]) (rest := []) ⟨hx, hb, hml, hown, hts⟩ (s_throwsIfP l dC dI kA adK adV G H q wZ0 wN wH wB wC wL wK wU wV PI im PM PT lS lB lE lN o0 1 1 0 hT hr_o0 m24 (rg_t (a := 1) (by decide) (by first | decide | omega) (by first | decide | omega)) (fun _ => Int.le_refl 0) hgn hgh hgb hgc hgi hgu) (cwV 2 hts (goodIn_app (goodIn_r _ [10, 11, 12, 6] rfl (by decide +kernel)) (goodIn_ca (goodIn_r _ [9, 1] rfl (by decide +kernel)) (bs_in _ _))) rfl rfl rfl (by decide +kernel) ⟨(Nat.le_of_ble_eq_true rfl), (Nat.le_of_ble_eq_true rfl)⟩) ⟨fun a U g mk q => by obtain ⟨q0, q1, qK, qE⟩ := q; exact ⟨q0, q1, va_K.moved (u := U) (U := U.calling g mk a) (Vm.Alike.refl U.vm) qK, EVS.blind g mk a qE⟩, gH_rc hK hT hr_o0 shm_0 rfl, fun U hU hW => ⟨rfl, hU, va_K.moved hW.alike hK, hE.call hS hFc hU hW⟩⟩ rfl rfl hl.1 rfl (lv_room (Nat.le_of_ble_eq_true rfl)) dX12_land_26 ⟨(Nat.le_of_ble_eq_true rfl), (Nat.le_of_ble_eq_true rfl)⟩) hS (fun q _ h => hFc q h) hFc (fun r504 u t H locs ht hvm hw505 hB _ _ hS => ?_)
      obtain ⟨u506, rfl⟩ : ∃ z, z = u := ⟨_, rfl⟩
      obtain ⟨hT, hF1, m507⟩ := hB
      rw [ht] at hT hF1 m507
      have hF := hF.more hF1 (by decide)
      try dsimp only at hw505
      obtain ⟨h509, hf510, hd511⟩ := hw505
      have t512 : (1 : Int32).toInt = 1 := by decide
      have t513 : (1 : Int32).toInt = 1 := by decide
      have t514 : (0 : Int32).toInt = 0 := by decide
      obtain rfl : (1 : Int32) = r504 := hd511.symm
      refine lv_if_ne (tgt := 99) hx hb dX12_land_29 (by decide) (fun c515 => ?_) (fun c515 => absurd c515 (by decide))
      refine lv_iconst (v := 0) hx hb dX12_land_99 (by decide) ?_
      exact W.iret (v := 0) hx hb hr (fun t ht hW => ⟨⟨0, (u506, wL), rfl, (by exact ⟨(rg_t (a := 0) (by decide) (by first | decide | omega) (by first | decide | omega)), (fun _ h9 => h9), (Or.inr ⟨by have := laC_s wH p0.toInt p1.toInt p2.toInt p3.toInt p4.toInt; have q0 : (0 : Int32).toInt = 0 := (by decide); have q1 : (1 : Int32).toInt = 1 := (by decide); have q2 : (2 : Int32).toInt = 2 := (by decide); have q3 : (3 : Int32).toInt = 3 := (by decide); have qm : (-1 : Int32).toInt = -1 := (by decide); omega, by have := laC_s wH p0.toInt p1.toInt p2.toInt p3.toInt p4.toInt; have q0 : (0 : Int32).toInt = 0 := (by decide); have q1 : (1 : Int32).toInt = 1 := (by decide); have q2 : (2 : Int32).toInt = 2 := (by decide); have q3 : (3 : Int32).toInt = 3 := (by decide); have qm : (-1 : Int32).toInt = -1 := (by decide); omega, rfl⟩)⟩), by (try dsimp only); rw [ht]; exact ⟨hT, hF, m507⟩⟩, hS.F ht⟩) hS.2.2 dX12_land_100
def w_s_fillC : List Cond := .code yX12_fill cX12_fill 4 (some .boolean) :: (HAppend.hAppend (α := List Cond) (β := List Cond) (γ := List Cond) [.fieldLink RX12 194 "SeaLandModel" "thrown" "I", .code yX12_noSquare cX12_noSquare 1 (some .boolean), .code yX12_in cX12_in 3 (some .boolean), .methodLink RX12 197 yX12_in, .static yX12_in, .initialized RX12, .methodLink RX12 220 yX12_noSquare, .static yX12_noSquare, .code yX12_throwsIf cX12_throwsIf 3 (some .boolean), .methodLink RX12 224 yX12_throwsIf, .instanceMethod yX12_throwsIf, .selects RX12 yX12_throwsIf yX12_throwsIf, .constant RX12 241 100000, .code yX12_isLand cX12_isLand 2 (some .boolean), .fieldLink RX12 9 "SeaLandModel" "world" "[I", .methodLink RX12 235 yX12_isLand, .instanceMethod yX12_isLand, .selects RX12 yX12_isLand yX12_isLand, .fieldLink RX12 238 "SeaLandModel" "rows" "I"] bs)
set_option maxHeartbeats 4000000 in
set_option maxRecDepth 100000 in
theorem s_fillC (l : Launch) (dC : Nat → ClassId) (dI : Nat → Nat → Nat) (kA : Nat → ClassId) (adK adV : Nat → Nat) (G : gT) (H0 : Heap) (q : Nat → Nat) (wZ wN : Nat → Int) (wH wB wC : Int) (wL wK : Nat → Prop) (wU wV : Nat → Nat) (PI : Nat → Int → Prop) (im : Int) (PM PT : Nat → Int → Prop) (lS lB lE : Nat → Nat → Int → Prop) (lN : Nat → Int) (o0 : Nat) (p0 : Int32) (p1 : Int32) (p2 : Int32)  (hT : gH (dC, dI) kA (SHm q (wP wZ0 wN wH wB wC wL wK wU wV) PI im PM PT lS lB lE lN) G H0) (hr_o0 : G o0 = some 0) (hgz : ∀ i, 0 ≤ wZ i) (hgn : ∀ i, 6500000 ≤ wN i ∧ wN i ≤ 20200000) (hgh : 0 ≤ wH ∧ wH ≤ 40000) (hgb : 0 ≤ wB ∧ wB ≤ 3850000) (hgc : 0 ≤ wC ∧ wC ≤ 30) (hgi : 0 ≤ im ∧ im ≤ 1) (hgu : ∀ a t, G a = some (t + 1) → a = q t) : Met l yX12_fill w_s_fillC ({ frames := 2, cells := 0, slots := 0, locals := 42 }) (va_Pc [.ref o0, .int p0, .int p1, .int p2] (fun U => U.heap = H0 ∧ va_K (dC, dI) vwCl (tyl kA) U ∧ EVS adK adV (gA G H0.size) U U.heap)) (va_Qi (fun (r : Int32) (u : Int32) => (0 ≤ r.toInt ∧ r.toInt ≤ 1) ∧ ((fiC p0.toInt p1.toInt p2.toInt = 0 ∧ u.toInt = 0 ∧ ((r.toInt = 1 ∧ wL p0.toNatClampNeg) ∨ (r.toInt = 0 ∧ ¬ wL p0.toNatClampNeg))) ∨ (fiC p0.toInt p1.toInt p2.toInt ≠ 0 ∧ u.toInt = fiC p0.toInt p1.toInt p2.toInt))) (fun (t1 : Int32) (t : State) => gH (dC, dI) kA (SHm q (wP wZ0 wN wH wB wC wL wK wU wV) PI im PM PT lS lB lE lN) G t.heap ∧ gF (dC, dI) SKm G ([(0, 0), (0, 9), (2, 0)] : List (Nat × Nat)) H0 t.heap ∧ el t.heap o0 (dI 15 0) = some (.int t1)) (gA G H0.size)) 0 0 (gA G H0.size) := by
  refine Met.ofW (cc := cX12_fill) (maxL := 4) (ret := (some .boolean)) (by decide) rfl ?_
  intro p e s m args below meth c s₁ B hml hv
  obtain ⟨rfl, hH0, hK, hE⟩ := hv
  have hx := B.exec
  have hb := B.bytes
  have hr := B.returns
  have hts := atoms_spec (ws := w_s_fillC) B.pre
  have hown : s.vm.findClass RX12 = some m.cls := findClass_of_methodNamed B.named
  have hlocks := B.notSynchronized
  subst hH0
  generalize hAe : gA G s.heap.size = A at hE ⊢
  have hA : ∀ q : Nat, s.heap.size ≤ q → A q := fun q h => by rw [← hAe]; exact Or.inr h
  have hG := gA_of hAe
  have hS : va_S A s.heap s.heap [] := va_S.rf
  have hF : gF (dC, dI) SKm G ([(0, 0), (0, 9), (2, 0)] : List (Nat × Nat)) s.heap s.heap := gF.rf
  have hl := lv_entry ([.ref o0, .int p0, .int p1, .int p2]) (n := 4) (Nat.le_of_ble_eq_true rfl)
  rw [lg_entry_eq]
  generalize (lg_sl ([.ref o0, .int p0, .int p1, .int p2]) ++ List.replicate (4 - (lg_sl ([.ref o0, .int p0, .int p1, .int p2])).length) Slot.unset).toArray = ls at hl ⊢
  have hl : lv_has ls 4 [(0, .ref o0), (1, .int p0), (2, .int p1), (3, .int p2)] := hl
  refine lv_aload_n hx hb dX12_fill_0 rfl (lv_at hl 0 rfl) ?_
  refine lv_iconst (v := 0) hx hb dX12_fill_1 (by decide) ?_
  refine tw_put (v := .int 0) (ty := .int) hx hb hts bF_X12 tyX12 tyX12_ok nmX12 hown hK hT hG hS hr_o0 shm_0 rfl 0 (by decide) (ht_at hts 0 rfl) (fun _ h9 => h9) rfl (by decide +kernel) rfl rfl (gl_at rfl (gi_all _)) dX12_fill_2 (fun H locs hT oq m1 oj hS => ?_)
  have hF := hF.put hr_o0 skm_0 oq oj (by decide)
  refine lv_aload_n hx hb dX12_fill_5 rfl (lv_at hl 0 rfl) ?_
  refine lv_iload_n hx hb dX12_fill_6 rfl (lv_at hl 1 rfl) ?_
  have hFc := gA_free hG hA hS
  refine va_calli (va_runS (As := [.int p0]) (rest := [.ref o0]) ⟨hx, hb, hml, hown, hts⟩ (s_noSquareE l dC dI kA adK adV G H q wZ0 wN wH wB wC wL wK wU wV PI im PM PT lS lB lE lN p0 hT (fun _ => Int.le_refl 0) hgn hgh hgb hgc hgi hgu) (va_cwS 1 hts (goodIn_app (goodIn_r _ [7, 8, 6] rfl (by decide +kernel)) (goodIn_ca (goodIn_r _ [2, 3, 4, 5, 6] rfl (by decide +kernel)) (bs_in _ _))) rfl rfl rfl (by decide +kernel) ⟨(Nat.le_of_ble_eq_true rfl), (Nat.le_of_ble_eq_true rfl)⟩) ⟨fun a U g mk q => by obtain ⟨q0, q1, qK, qE⟩ := q; exact ⟨q0, q1, va_K.moved (u := U) (U := U.calling g mk a) (Vm.Alike.refl U.vm) qK, EVS.blind g mk a qE⟩, fun U hU hW => ⟨rfl, hU, va_K.moved hW.alike hK, hE.call hS hFc hU hW⟩⟩ rfl rfl hl.1 rfl (lv_room (Nat.le_of_ble_eq_true rfl)) dX12_fill_7 ⟨(Nat.le_of_ble_eq_true rfl), (Nat.le_of_ble_eq_true rfl)⟩) hS (fun q _ h => hFc q h) hFc (fun r2 u t H locs ht hvm hw3 hB _ _ hS => ?_)
  obtain ⟨hT, hF1⟩ := hB
  rw [ht] at hT hF1
  have m4 := (hF1.fld hr_o0 skm_0 (k := 0) (by decide) (by decide)).trans m1
  have hF := hF.more hF1 (by decide)
  try dsimp only at hw3
  obtain ⟨h5, hf6⟩ := hw3
  refine lv_iconst (v := 1) hx hb dX12_fill_10 (by decide) ?_
  have hFc := gA_free hG hA hS
  refine va_calli (va_runV (As := [.int r2, .int 1]) (rest := []) ⟨hx, hb, hml, hown, hts⟩ (s_throwsIfP l dC dI kA adK adV G H q wZ0 wN wH wB wC wL wK wU wV PI im PM PT lS lB lE lN o0 r2 1 0 hT hr_o0 m4 (by have q8 := ti_all r2; omega) (fun _ => Int.le_refl 0) hgn hgh hgb hgc hgi hgu) (cwV 2 hts (goodIn_app (goodIn_r _ [10, 11, 12, 6] rfl (by decide +kernel)) (goodIn_ca (goodIn_r _ [9, 1] rfl (by decide +kernel)) (bs_in _ _))) rfl rfl rfl (by decide +kernel) ⟨(Nat.le_of_ble_eq_true rfl), (Nat.le_of_ble_eq_true rfl)⟩) ⟨fun a U g mk q => by obtain ⟨q0, q1, qK, qE⟩ := q; exact ⟨q0, q1, va_K.moved (u := U) (U := U.calling g mk a) (Vm.Alike.refl U.vm) qK, EVS.blind g mk a qE⟩, gH_rc hK hT hr_o0 shm_0 rfl, fun U hU hW => ⟨rfl, hU, va_K.moved hW.alike hK, hE.call hS hFc hU hW⟩⟩ rfl rfl hl.1 rfl (lv_room (Nat.le_of_ble_eq_true rfl)) dX12_fill_11 ⟨(Nat.le_of_ble_eq_true rfl), (Nat.le_of_ble_eq_true rfl)⟩) hS (fun q _ h => hFc q h) hFc (fun r7 u t H locs ht hvm hw8 hB _ _ hS => ?_)
  obtain ⟨u9, rfl⟩ : ∃ z, z = u := ⟨_, rfl⟩
  obtain ⟨hT, hF1, m10⟩ := hB
  rw [ht] at hT hF1 m10
  have hF := hF.more hF1 (by decide)
  try dsimp only at hw8
  obtain ⟨h12, hf13, hd14⟩ := hw8
  have t15 : (1 : Int32).toInt = 1 := by decide
  have t16 : (0 : Int32).toInt = 0 := by decide
  obtain rfl : r2 = r7 := hd14.symm
  refine lv_if_ne (tgt := 59) hx hb dX12_fill_14 (by decide) (fun c17 => ?_) (fun c17 => ?_)
  · have t18 : r2.toInt ≠ 0 := ti_ne c17 rfl (by decide)
    refine lv_iconst (v := 0) hx hb dX12_fill_59 (by decide) ?_
    exact W.zret (v := 0) hx hb hr (by decide) (fun t ht hW => ⟨⟨0, u9, rfl, (by exact ⟨(rg_t (a := 0) (by decide) (by first | decide | omega) (by first | decide | omega)), (by first | exact Or.inl ⟨by have := fiC_s p0.toInt p1.toInt p2.toInt; omega, by have q0 : (0 : Int32).toInt = 0 := (by decide); have q1 : (1 : Int32).toInt = 1 := (by decide); have q2 : (2 : Int32).toInt = 2 := (by decide); have q3 : (3 : Int32).toInt = 3 := (by decide); have qm : (-1 : Int32).toInt = -1 := (by decide); omega, Or.inr ⟨by decide, by assumption⟩⟩ | exact Or.inr ⟨by have := fiC_s p0.toInt p1.toInt p2.toInt; have q0 : (0 : Int32).toInt = 0 := (by decide); have q1 : (1 : Int32).toInt = 1 := (by decide); have q2 : (2 : Int32).toInt = 2 := (by decide); have q3 : (3 : Int32).toInt = 3 := (by decide); have qm : (-1 : Int32).toInt = -1 := (by decide); omega, by have := fiC_s p0.toInt p1.toInt p2.toInt; have q0 : (0 : Int32).toInt = 0 := (by decide); have q1 : (1 : Int32).toInt = 1 := (by decide); have q2 : (2 : Int32).toInt = 2 := (by decide); have q3 : (3 : Int32).toInt = 3 := (by decide); have qm : (-1 : Int32).toInt = -1 := (by decide); omega⟩)⟩), by (try dsimp only); rw [ht]; exact ⟨hT, hF, m10⟩⟩, hS.F ht⟩) hS.2.2 dX12_fill_60
  · have t19 : r2.toInt = 0 := ti_eq c17 rfl (by decide)
    refine lv_aload_n hx hb dX12_fill_17 rfl (lv_at hl 0 rfl) ?_
    refine lv_iload_n hx hb dX12_fill_18 rfl (lv_at hl 2 rfl) ?_
    refine lv_iconst (v := 0) hx hb dX12_fill_19 (by decide) ?_
    refine lv_sipush (v := 900) hx hb dX12_fill_20 (by decide) ?_
    have hFc := gA_free hG hA hS
    refine va_calli (va_runS (As := [.int p1, .int 0, .int 900]) (rest := [.ref o0]) ⟨hx, hb, hml, hown, hts⟩ (s_in l dC dI kA adK adV G H q wZ0 wN wH wB wC wL wK wU wV PI im PM PT lS lB lE lN p1 0 900 hT (fun _ => Int.le_refl 0) hgn hgh hgb hgc hgi hgu) (va_cwS 3 hts (goodIn_app (goodIn_r _ [4, 5, 6] rfl (by decide +kernel)) (goodIn_ca (goodIn_r _ [3] rfl (by decide +kernel)) (bs_in _ _))) rfl rfl rfl (by decide +kernel) ⟨(Nat.le_of_ble_eq_true rfl), (Nat.le_of_ble_eq_true rfl)⟩) ⟨fun a U g mk q => by obtain ⟨q0, q1, qK, qE⟩ := q; exact ⟨q0, q1, va_K.moved (u := U) (U := U.calling g mk a) (Vm.Alike.refl U.vm) qK, EVS.blind g mk a qE⟩, fun U hU hW => ⟨rfl, hU, va_K.moved hW.alike hK, hE.call hS hFc hU hW⟩⟩ rfl rfl hl.1 rfl (lv_room (Nat.le_of_ble_eq_true rfl)) dX12_fill_23 ⟨(Nat.le_of_ble_eq_true rfl), (Nat.le_of_ble_eq_true rfl)⟩) hS (fun q _ h => hFc q h) hFc (fun r20 u t H locs ht hvm hw21 hB _ _ hS => ?_)
    obtain ⟨hT, hF1⟩ := hB
    rw [ht] at hT hF1
    have m22 := (hF1.fld hr_o0 skm_0 (k := 0) (by decide) (by decide)).trans m10
    have hF := hF.more hF1 (by decide)
    try dsimp only at hw21
    obtain ⟨h23, hi24, hi25⟩ := hw21
    refine lv_if_eq (tgt := 39) hx hb dX12_fill_26 (by decide) (fun c26 => ?_) (fun c26 => ?_)
    · have t27 : r20.toInt = 0 := ti_eq c26 rfl (by decide)
      have t28 : (0 : Int32).toInt = 0 := by decide
      have t29 : (900 : Int32).toInt = 900 := by decide
      have t30 : p1.toInt < (0 : Int32).toInt ∨ (900 : Int32).toInt < p1.toInt := hi25 c26
      refine lv_iconst (v := 1) hx hb dX12_fill_39 (by decide) ?_
      refine lv_goto (tgt := 44) hx hb dX12_fill_40 (by decide) ?_
      refine lv_iconst (v := 2) hx hb dX12_fill_44 (by decide) ?_
      have hFc := gA_free hG hA hS
      refine va_calli (va_runV (As := [.int 1, .int 2]) (rest := []) ⟨hx, hb, hml, hown, hts⟩ (s_throwsIfP l dC dI kA adK adV G H q wZ0 wN wH wB wC wL wK wU wV PI im PM PT lS lB lE lN o0 1 2 u9 hT hr_o0 m22 (rg_t (a := 1) (by decide) (by first | decide | omega) (by first | decide | omega)) (fun _ => Int.le_refl 0) hgn hgh hgb hgc hgi hgu) (cwV 2 hts (goodIn_app (goodIn_r _ [10, 11, 12, 6] rfl (by decide +kernel)) (goodIn_ca (goodIn_r _ [9, 1] rfl (by decide +kernel)) (bs_in _ _))) rfl rfl rfl (by decide +kernel) ⟨(Nat.le_of_ble_eq_true rfl), (Nat.le_of_ble_eq_true rfl)⟩) ⟨fun a U g mk q => by obtain ⟨q0, q1, qK, qE⟩ := q; exact ⟨q0, q1, va_K.moved (u := U) (U := U.calling g mk a) (Vm.Alike.refl U.vm) qK, EVS.blind g mk a qE⟩, gH_rc hK hT hr_o0 shm_0 rfl, fun U hU hW => ⟨rfl, hU, va_K.moved hW.alike hK, hE.call hS hFc hU hW⟩⟩ rfl rfl hl.1 rfl (lv_room (Nat.le_of_ble_eq_true rfl)) dX12_fill_45 ⟨(Nat.le_of_ble_eq_true rfl), (Nat.le_of_ble_eq_true rfl)⟩) hS (fun q _ h => hFc q h) hFc (fun r31 u t H locs ht hvm hw32 hB _ _ hS => ?_)
      obtain ⟨u33, rfl⟩ : ∃ z, z = u := ⟨_, rfl⟩
      obtain ⟨hT, hF1, m34⟩ := hB
      rw [ht] at hT hF1 m34
      have hF := hF.more hF1 (by decide)
      try dsimp only at hw32
      obtain ⟨h36, hf37, hd38⟩ := hw32
      have t39 : (1 : Int32).toInt = 1 := by decide
      have t40 : (2 : Int32).toInt = 2 := by decide
      obtain rfl : (1 : Int32) = r31 := hd38.symm
      refine lv_if_ne (tgt := 59) hx hb dX12_fill_48 (by decide) (fun c41 => ?_) (fun c41 => absurd c41 (by decide))
      refine lv_iconst (v := 0) hx hb dX12_fill_59 (by decide) ?_
      exact W.zret (v := 0) hx hb hr (by decide) (fun t ht hW => ⟨⟨0, u33, rfl, (by exact ⟨(rg_t (a := 0) (by decide) (by first | decide | omega) (by first | decide | omega)), (by first | exact Or.inl ⟨by have := fiC_s p0.toInt p1.toInt p2.toInt; omega, by have q0 : (0 : Int32).toInt = 0 := (by decide); have q1 : (1 : Int32).toInt = 1 := (by decide); have q2 : (2 : Int32).toInt = 2 := (by decide); have q3 : (3 : Int32).toInt = 3 := (by decide); have qm : (-1 : Int32).toInt = -1 := (by decide); omega, Or.inr ⟨by decide, by assumption⟩⟩ | exact Or.inr ⟨by have := fiC_s p0.toInt p1.toInt p2.toInt; have q0 : (0 : Int32).toInt = 0 := (by decide); have q1 : (1 : Int32).toInt = 1 := (by decide); have q2 : (2 : Int32).toInt = 2 := (by decide); have q3 : (3 : Int32).toInt = 3 := (by decide); have qm : (-1 : Int32).toInt = -1 := (by decide); omega, by have := fiC_s p0.toInt p1.toInt p2.toInt; have q0 : (0 : Int32).toInt = 0 := (by decide); have q1 : (1 : Int32).toInt = 1 := (by decide); have q2 : (2 : Int32).toInt = 2 := (by decide); have q3 : (3 : Int32).toInt = 3 := (by decide); have qm : (-1 : Int32).toInt = -1 := (by decide); omega⟩)⟩), by (try dsimp only); rw [ht]; exact ⟨hT, hF, m34⟩⟩, hS.F ht⟩) hS.2.2 dX12_fill_60
    · have t42 : r20.toInt ≠ 0 := ti_ne c26 rfl (by decide)
      have t43 : (0 : Int32).toInt = 0 := by decide
      have t44 : (900 : Int32).toInt = 900 := by decide
      have t45 : (0 : Int32).toInt ≤ p1.toInt ∧ p1.toInt ≤ (900 : Int32).toInt := hi24 ((bit_of ⟨by omega, by omega⟩).resolve_left c26)
      refine lv_iload_n hx hb dX12_fill_29 rfl (lv_at hl 3 rfl) ?_
      refine lv_iconst (v := 0) hx hb dX12_fill_30 (by decide) ?_
      refine lv_ldc (v := 100000) hx hb hown (ht_at hts 12 rfl) dX12_fill_31 ?_
      have hFc := gA_free hG hA hS
      refine va_calli (va_runS (As := [.int p2, .int 0, .int 100000]) (rest := [.ref o0]) ⟨hx, hb, hml, hown, hts⟩ (s_in l dC dI kA adK adV G H q wZ0 wN wH wB wC wL wK wU wV PI im PM PT lS lB lE lN p2 0 100000 hT (fun _ => Int.le_refl 0) hgn hgh hgb hgc hgi hgu) (va_cwS 3 hts (goodIn_app (goodIn_r _ [4, 5, 6] rfl (by decide +kernel)) (goodIn_ca (goodIn_r _ [3] rfl (by decide +kernel)) (bs_in _ _))) rfl rfl rfl (by decide +kernel) ⟨(Nat.le_of_ble_eq_true rfl), (Nat.le_of_ble_eq_true rfl)⟩) ⟨fun a U g mk q => by obtain ⟨q0, q1, qK, qE⟩ := q; exact ⟨q0, q1, va_K.moved (u := U) (U := U.calling g mk a) (Vm.Alike.refl U.vm) qK, EVS.blind g mk a qE⟩, fun U hU hW => ⟨rfl, hU, va_K.moved hW.alike hK, hE.call hS hFc hU hW⟩⟩ rfl rfl hl.1 rfl (lv_room (Nat.le_of_ble_eq_true rfl)) dX12_fill_33 ⟨(Nat.le_of_ble_eq_true rfl), (Nat.le_of_ble_eq_true rfl)⟩) hS (fun q _ h => hFc q h) hFc (fun r46 u t H locs ht hvm hw47 hB _ _ hS => ?_)
      obtain ⟨hT, hF1⟩ := hB
      rw [ht] at hT hF1
      have m48 := (hF1.fld hr_o0 skm_0 (k := 0) (by decide) (by decide)).trans m22
      have hF := hF.more hF1 (by decide)
      try dsimp only at hw47
      obtain ⟨h49, hi50, hi51⟩ := hw47
      refine lv_if_ne (tgt := 43) hx hb dX12_fill_36 (by decide) (fun c52 => ?_) (fun c52 => ?_)
      · have t53 : r46.toInt ≠ 0 := ti_ne c52 rfl (by decide)
        have t54 : (0 : Int32).toInt = 0 := by decide
        have t55 : (100000 : Int32).toInt = 100000 := by decide
        have t56 : (0 : Int32).toInt ≤ p2.toInt ∧ p2.toInt ≤ (100000 : Int32).toInt := hi50 ((bit_of ⟨by omega, by omega⟩).resolve_left c52)
        refine lv_iconst (v := 0) hx hb dX12_fill_43 (by decide) ?_
        refine lv_iconst (v := 2) hx hb dX12_fill_44 (by decide) ?_
        have hFc := gA_free hG hA hS
        refine va_calli (va_runV (As := [.int 0, .int 2]) (rest := []) ⟨hx, hb, hml, hown, hts⟩ (s_throwsIfP l dC dI kA adK adV G H q wZ0 wN wH wB wC wL wK wU wV PI im PM PT lS lB lE lN o0 0 2 u9 hT hr_o0 m48 (rg_t (a := 0) (by decide) (by first | decide | omega) (by first | decide | omega)) (fun _ => Int.le_refl 0) hgn hgh hgb hgc hgi hgu) (cwV 2 hts (goodIn_app (goodIn_r _ [10, 11, 12, 6] rfl (by decide +kernel)) (goodIn_ca (goodIn_r _ [9, 1] rfl (by decide +kernel)) (bs_in _ _))) rfl rfl rfl (by decide +kernel) ⟨(Nat.le_of_ble_eq_true rfl), (Nat.le_of_ble_eq_true rfl)⟩) ⟨fun a U g mk q => by obtain ⟨q0, q1, qK, qE⟩ := q; exact ⟨q0, q1, va_K.moved (u := U) (U := U.calling g mk a) (Vm.Alike.refl U.vm) qK, EVS.blind g mk a qE⟩, gH_rc hK hT hr_o0 shm_0 rfl, fun U hU hW => ⟨rfl, hU, va_K.moved hW.alike hK, hE.call hS hFc hU hW⟩⟩ rfl rfl hl.1 rfl (lv_room (Nat.le_of_ble_eq_true rfl)) dX12_fill_45 ⟨(Nat.le_of_ble_eq_true rfl), (Nat.le_of_ble_eq_true rfl)⟩) hS (fun q _ h => hFc q h) hFc (fun r57 u t H locs ht hvm hw58 hB _ _ hS => ?_)
        obtain ⟨u59, rfl⟩ : ∃ z, z = u := ⟨_, rfl⟩
        obtain ⟨hT, hF1, m60⟩ := hB
        rw [ht] at hT hF1 m60
        have hF := hF.more hF1 (by decide)
        try dsimp only at hw58
        obtain ⟨h62, hf63, hd64⟩ := hw58
        have t65 : (0 : Int32).toInt = 0 := by decide
        have t66 : (2 : Int32).toInt = 2 := by decide
        obtain rfl : (0 : Int32) = r57 := hd64.symm
        refine lv_if_ne (tgt := 59) hx hb dX12_fill_48 (by decide) (fun c67 => absurd c67 (by decide)) (fun c67 => ?_)
        refine lv_aload_n hx hb dX12_fill_51 rfl (lv_at hl 0 rfl) ?_
        refine lv_iload_n hx hb dX12_fill_52 rfl (lv_at hl 1 rfl) ?_
        have hFc := gA_free hG hA hS
        refine va_calli (va_runV (As := [.int p0]) (rest := []) ⟨hx, hb, hml, hown, hts⟩ (s_isLand l dC dI kA adK adV G H q wZ0 wN wH wB wC wL wK wU wV PI im PM PT lS lB lE lN o0 p0 hT hr_o0 (by have q8 := ti_all p0; omega) (fun _ => Int.le_refl 0) hgn hgh hgb hgc hgi hgu) (cwV 1 hts (goodIn_app (goodIn_r _ [16, 17, 18, 6] rfl (by decide +kernel)) (goodIn_ca (goodIn_r _ [14, 15] rfl (by decide +kernel)) (bs_in _ _))) rfl rfl rfl (by decide +kernel) ⟨(Nat.le_of_ble_eq_true rfl), (Nat.le_of_ble_eq_true rfl)⟩) ⟨fun a U g mk q => by obtain ⟨q0, q1, qK, qE⟩ := q; exact ⟨q0, q1, va_K.moved (u := U) (U := U.calling g mk a) (Vm.Alike.refl U.vm) qK, EVS.blind g mk a qE⟩, gH_rc hK hT hr_o0 shm_0 rfl, fun U hU hW => ⟨rfl, hU, va_K.moved hW.alike hK, hE.call hS hFc hU hW⟩⟩ rfl rfl hl.1 rfl (lv_room (Nat.le_of_ble_eq_true rfl)) dX12_fill_53 ⟨(Nat.le_of_ble_eq_true rfl), (Nat.le_of_ble_eq_true rfl)⟩) hS (fun q _ h => hFc q h) hFc (fun r68 u t H locs ht hvm hw69 hB _ _ hS => ?_)
        obtain ⟨hT, hF1⟩ := hB
        rw [ht] at hT hF1
        have m70 := (hF1.fld hr_o0 skm_0 (k := 0) (by decide) (by decide)).trans m60
        have hF := hF.more hF1 (by decide)
        try dsimp only at hw69
        obtain ⟨h71, hi72, hi73⟩ := hw69
        refine lv_if_ne (tgt := 61) hx hb dX12_fill_56 (by decide) (fun c74 => ?_) (fun c74 => ?_)
        · have t75 : r68.toInt ≠ 0 := ti_ne c74 rfl (by decide)
          have t76 : wL p0.toNatClampNeg := hi72 ((bit_of ⟨by omega, by omega⟩).resolve_left c74)
          refine lv_aload_n hx hb dX12_fill_61 rfl (lv_at hl 0 rfl) ?_
          refine tw_get hx hb hts bF_X12 hown hK hT hr_o0 shm_0 rfl 1 (by decide) (ht_at hts 14 rfl) (fun _ h9 => h9) dX12_fill_62 (fun v9 m77 h9 => ?_)
          obtain ⟨rfl, hg78⟩ := h9 _ rfl
          refine lv_sipush (v := 1748) hx hb dX12_fill_65 (by decide) ?_
          refine lv_dup2_11 hx hb dX12_fill_68 rfl rfl ?_
          refine tw_iald (i := 1748) hx hb hK hT hg78 shm_2 rfl (by unfold vp_in; decide) dX12_fill_69 (fun v9 m79 h9 => ?_)
          obtain ⟨x80, rfl, gx80, kx80⟩ := (gp_at h9 (w_fre (by have q9 := tn_of (show (1748 : Int32).toInt = 1748 from (by decide)) (show (0 : Int) ≤ 1748 from by omega); omega)))
          refine lv_iload_n hx hb dX12_fill_70 rfl (lv_at hl 2 rfl) ?_
          refine lv_aload_n hx hb dX12_fill_71 rfl (lv_at hl 0 rfl) ?_
          refine tw_get hx hb hts bF_X12 hown hK hT hr_o0 shm_0 rfl 1 (by decide) (ht_at hts 14 rfl) (fun _ h9 => h9) dX12_fill_72 (fun v9 m81 h9 => ?_)
          obtain ⟨rfl, hg82⟩ := h9 _ rfl
          refine lv_sipush (v := 384) hx hb dX12_fill_75 (by decide) ?_
          refine lv_iload_n hx hb dX12_fill_78 rfl (lv_at hl 1 rfl) ?_
          refine lv_iadd hx hb dX12_fill_79 ?_
          refine lv_topi (fun x83 ex83 => ?_)
          have t84 : x83.toInt = 384 + p0.toInt := ti_add ex83 (by decide) rfl (by omega) (by omega)
          refine tw_iald (i := x83) hx hb hK hT hg78 shm_2 rfl (vin_t (a := x83.toInt) rfl (by omega) (by omega)) dX12_fill_80 (fun v9 m85 h9 => ?_)
          obtain ⟨x86, rfl, gx86, kx86⟩ := (gw_at h9 (w_wat (by have q9 := tn_of (show x83.toInt = x83.toInt from rfl) (show (0 : Int) ≤ x83.toInt from by omega); omega)) hgn (fun _ => Int.le_refl 0))
          refine lv_isub hx hb dX12_fill_81 ?_
          refine lv_topi (fun x87 ex87 => ?_)
          have t88 : x87.toInt = p1.toInt - x86.toInt := ti_sub ex87 rfl rfl (by omega) (by omega)
          refine lv_iadd hx hb dX12_fill_82 ?_
          refine lv_topi (fun x89 ex89 => ?_)
          refine tw_iast (i := 1748) (x := x89) hx hb hK hT hG hS hg78 shm_2 rfl (by unfold vp_in; decide) (gp_of (gi_all _) (w_fre (by have q9 := tn_of (show (1748 : Int32).toInt = 1748 from (by decide)) (show (0 : Int) ≤ 1748 from by omega); omega)) (wX_o (by have q9 := tn_of (show (1748 : Int32).toInt = 1748 from (by decide)) (show (0 : Int) ≤ 1748 from by omega); omega) (by omega))) dX12_fill_83 (fun H locs hT oq m90 oi hS => ?_)
          have hF := hF.ast hg78 skm_2 oq (by decide)
          have m91 := (el_kept (oq _ (gne hr_o0 hg78 (by decide)))).trans m70
          have m92 := (oi _ (tn_ne (show x83.toInt = x83.toInt from rfl) (show (1748 : Int32).toInt = 1748 from (by decide)) (by omega) (by omega) (by omega))).trans m85
          refine lv_aload_n hx hb dX12_fill_84 rfl (lv_at hl 0 rfl) ?_
          refine tw_get hx hb hts bF_X12 hown hK hT hr_o0 shm_0 rfl 1 (by decide) (ht_at hts 14 rfl) (fun _ h9 => h9) dX12_fill_85 (fun v9 m93 h9 => ?_)
          obtain ⟨rfl, hg94⟩ := h9 _ rfl
          refine lv_sipush (v := 384) hx hb dX12_fill_88 (by decide) ?_
          refine lv_iload_n hx hb dX12_fill_91 rfl (lv_at hl 1 rfl) ?_
          refine lv_iadd hx hb dX12_fill_92 ?_
          refine lv_topi (fun x95 ex95 => ?_)
          have t96 : x95.toInt = 384 + p0.toInt := ti_add ex95 (by decide) rfl (by omega) (by omega)
          refine lv_iload_n hx hb dX12_fill_93 rfl (lv_at hl 2 rfl) ?_
          have t97 : 6500000 ≤ wN x95.toNatClampNeg ∧ wN x95.toNatClampNeg ≤ 20200000 := hgn _
          have t98 : wN x83.toNatClampNeg = wN x95.toNatClampNeg := congrArg _ (tn_same (show x83.toInt = x83.toInt from rfl) (show x95.toInt = x95.toInt from rfl) (by omega))
          refine tw_iast (i := x95) (x := p1) hx hb hK hT hG hS hg78 shm_2 rfl (vin_t (a := x95.toInt) rfl (by omega) (by omega)) (gp_of (gi_of (show p1.toInt = p1.toInt from rfl) (by omega) (by omega)) (w_wat0 (by have q9 := tn_of (show x95.toInt = x95.toInt from rfl) (show (0 : Int) ≤ x95.toInt from by omega); omega)) (wX_o (by have q9 := tn_of (show x95.toInt = x95.toInt from rfl) (show (0 : Int) ≤ x95.toInt from by omega); omega) (by omega))) dX12_fill_94 (fun H locs hT oq m99 oi hS => ?_)
          have hF := hF.ast hg78 skm_2 oq (by decide)
          have m100 := (el_kept (oq _ (gne hr_o0 hg78 (by decide)))).trans m91
          have m101 := (oi _ (tn_ne (show (1748 : Int32).toInt = 1748 from (by decide)) (show x95.toInt = x95.toInt from rfl) (by omega) (by omega) (by omega))).trans m90
          refine lv_aload_n hx hb dX12_fill_95 rfl (lv_at hl 0 rfl) ?_
          refine tw_get hx hb hts bF_X12 hown hK hT hr_o0 shm_0 rfl 1 (by decide) (ht_at hts 14 rfl) (fun _ h9 => h9) dX12_fill_96 (fun v9 m102 h9 => ?_)
          obtain ⟨rfl, hg103⟩ := h9 _ rfl
          refine lv_sipush (v := 480) hx hb dX12_fill_99 (by decide) ?_
          refine lv_iload_n hx hb dX12_fill_102 rfl (lv_at hl 1 rfl) ?_
          refine lv_iadd hx hb dX12_fill_103 ?_
          refine lv_topi (fun x104 ex104 => ?_)
          have t105 : x104.toInt = 480 + p0.toInt := ti_add ex104 (by decide) rfl (by omega) (by omega)
          refine lv_iload_n hx hb dX12_fill_104 rfl (lv_at hl 3 rfl) ?_
          refine tw_iast (i := x104) (x := p2) hx hb hK hT hG hS hg78 shm_2 rfl (vin_t (a := x104.toInt) rfl (by omega) (by omega)) (gp_of (gi_all _) (w_fre (by have q9 := tn_of (show x104.toInt = x104.toInt from rfl) (show (0 : Int) ≤ x104.toInt from by omega); omega)) (wX_o (by have q9 := tn_of (show x104.toInt = x104.toInt from rfl) (show (0 : Int) ≤ x104.toInt from by omega); omega) (by omega))) dX12_fill_105 (fun H locs hT oq m106 oi hS => ?_)
          have hF := hF.ast hg78 skm_2 oq (by decide)
          have m107 := (el_kept (oq _ (gne hr_o0 hg78 (by decide)))).trans m100
          have m108 := (oi _ (tn_ne (show (1748 : Int32).toInt = 1748 from (by decide)) (show x104.toInt = x104.toInt from rfl) (by omega) (by omega) (by omega))).trans m101
          have m109 := (oi _ (tn_ne (show x95.toInt = x95.toInt from rfl) (show x104.toInt = x104.toInt from rfl) (by omega) (by omega) (by omega))).trans m99
          refine lv_aload_n hx hb dX12_fill_106 rfl (lv_at hl 0 rfl) ?_
          refine lv_iconst (v := 0) hx hb dX12_fill_107 (by decide) ?_
          refine tw_put (v := .int 0) (ty := .int) hx hb hts bF_X12 tyX12 tyX12_ok nmX12 hown hK hT hG hS hr_o0 shm_0 rfl 9 (by decide) (ht_at hts 18 rfl) (fun _ h9 => h9) rfl (by decide +kernel) rfl rfl (gl_at rfl (gi_of (show (0 : Int32).toInt = 0 from (by decide)) (by first | decide | omega) (by first | decide | omega))) dX12_fill_108 (fun H locs hT oq m110 oj hS => ?_)
          have hF := hF.put hr_o0 skm_0 oq oj (by decide)
          have m111 := (oj 0 (by decide) (by decide)).trans m107
          have m112 := (el_kept (oq _ (gne hg78 hr_o0 (by decide)))).trans m108
          have m113 := (el_kept (oq _ (gne hg78 hr_o0 (by decide)))).trans m109
          have m114 := (el_kept (oq _ (gne hg78 hr_o0 (by decide)))).trans m106
          refine lv_iconst (v := 1) hx hb dX12_fill_111 (by decide) ?_
          exact W.zret (v := 1) hx hb hr (by decide) (fun t ht hW => ⟨⟨1, u59, rfl, (by exact ⟨(rg_t (a := 1) (by decide) (by first | decide | omega) (by first | decide | omega)), (Or.inl ⟨by have := fiC_s p0.toInt p1.toInt p2.toInt; omega, by have q0 : (0 : Int32).toInt = 0 := (by decide); have q1 : (1 : Int32).toInt = 1 := (by decide); have q2 : (2 : Int32).toInt = 2 := (by decide); have q3 : (3 : Int32).toInt = 3 := (by decide); have qm : (-1 : Int32).toInt = -1 := (by decide); omega, Or.inl ⟨by decide, by assumption⟩⟩)⟩), by (try dsimp only); rw [ht]; exact ⟨hT, hF, m111⟩⟩, hS.F ht⟩) hS.2.2 dX12_fill_112
        · have t115 : r68.toInt = 0 := ti_eq c74 rfl (by decide)
          have t116 : ¬ wL p0.toNatClampNeg := hi73 c74
          refine lv_iconst (v := 0) hx hb dX12_fill_59 (by decide) ?_
          exact W.zret (v := 0) hx hb hr (by decide) (fun t ht hW => ⟨⟨0, u59, rfl, (by exact ⟨(rg_t (a := 0) (by decide) (by first | decide | omega) (by first | decide | omega)), (by first | exact Or.inl ⟨by have := fiC_s p0.toInt p1.toInt p2.toInt; omega, by have q0 : (0 : Int32).toInt = 0 := (by decide); have q1 : (1 : Int32).toInt = 1 := (by decide); have q2 : (2 : Int32).toInt = 2 := (by decide); have q3 : (3 : Int32).toInt = 3 := (by decide); have qm : (-1 : Int32).toInt = -1 := (by decide); omega, Or.inr ⟨by decide, by assumption⟩⟩ | exact Or.inr ⟨by have := fiC_s p0.toInt p1.toInt p2.toInt; have q0 : (0 : Int32).toInt = 0 := (by decide); have q1 : (1 : Int32).toInt = 1 := (by decide); have q2 : (2 : Int32).toInt = 2 := (by decide); have q3 : (3 : Int32).toInt = 3 := (by decide); have qm : (-1 : Int32).toInt = -1 := (by decide); omega, by have := fiC_s p0.toInt p1.toInt p2.toInt; have q0 : (0 : Int32).toInt = 0 := (by decide); have q1 : (1 : Int32).toInt = 1 := (by decide); have q2 : (2 : Int32).toInt = 2 := (by decide); have q3 : (3 : Int32).toInt = 3 := (by decide); have qm : (-1 : Int32).toInt = -1 := (by decide); omega⟩)⟩), by (try dsimp only); rw [ht]; exact ⟨hT, hF, m70⟩⟩, hS.F ht⟩) hS.2.2 dX12_fill_60
      · have t117 : r46.toInt = 0 := ti_eq c52 rfl (by decide)
        have t118 : (0 : Int32).toInt = 0 := by decide
        have t119 : (100000 : Int32).toInt = 100000 := by decide
        have t120 : p2.toInt < (0 : Int32).toInt ∨ (100000 : Int32).toInt < p2.toInt := hi51 c52
        refine lv_iconst (v := 1) hx hb dX12_fill_39 (by decide) ?_
        refine lv_goto (tgt := 44) hx hb dX12_fill_40 (by decide) ?_
        refine lv_iconst (v := 2) hx hb dX12_fill_44 (by decide) ?_
        have hFc := gA_free hG hA hS
        refine va_calli (va_runV (As := [.int 1, .int 2]) (rest := []) ⟨hx, hb, hml, hown, hts⟩ (s_throwsIfP l dC dI kA adK adV G H q wZ0 wN wH wB wC wL wK wU wV PI im PM PT lS lB lE lN o0 1 2 u9 hT hr_o0 m48 (rg_t (a := 1) (by decide) (by first | decide | omega) (by first | decide | omega)) (fun _ => Int.le_refl 0) hgn hgh hgb hgc hgi hgu) (cwV 2 hts (goodIn_app (goodIn_r _ [10, 11, 12, 6] rfl (by decide +kernel)) (goodIn_ca (goodIn_r _ [9, 1] rfl (by decide +kernel)) (bs_in _ _))) rfl rfl rfl (by decide +kernel) ⟨(Nat.le_of_ble_eq_true rfl), (Nat.le_of_ble_eq_true rfl)⟩) ⟨fun a U g mk q => by obtain ⟨q0, q1, qK, qE⟩ := q; exact ⟨q0, q1, va_K.moved (u := U) (U := U.calling g mk a) (Vm.Alike.refl U.vm) qK, EVS.blind g mk a qE⟩, gH_rc hK hT hr_o0 shm_0 rfl, fun U hU hW => ⟨rfl, hU, va_K.moved hW.alike hK, hE.call hS hFc hU hW⟩⟩ rfl rfl hl.1 rfl (lv_room (Nat.le_of_ble_eq_true rfl)) dX12_fill_45 ⟨(Nat.le_of_ble_eq_true rfl), (Nat.le_of_ble_eq_true rfl)⟩) hS (fun q _ h => hFc q h) hFc (fun r121 u t H locs ht hvm hw122 hB _ _ hS => ?_)
        obtain ⟨u123, rfl⟩ : ∃ z, z = u := ⟨_, rfl⟩
        obtain ⟨hT, hF1, m124⟩ := hB
        rw [ht] at hT hF1 m124
        have hF := hF.more hF1 (by decide)
        try dsimp only at hw122
        obtain ⟨h126, hf127, hd128⟩ := hw122
        have t129 : (1 : Int32).toInt = 1 := by decide
        have t130 : (2 : Int32).toInt = 2 := by decide
        obtain rfl : (1 : Int32) = r121 := hd128.symm
        refine lv_if_ne (tgt := 59) hx hb dX12_fill_48 (by decide) (fun c131 => ?_) (fun c131 => absurd c131 (by decide))
        refine lv_iconst (v := 0) hx hb dX12_fill_59 (by decide) ?_
        exact W.zret (v := 0) hx hb hr (by decide) (fun t ht hW => ⟨⟨0, u123, rfl, (by exact ⟨(rg_t (a := 0) (by decide) (by first | decide | omega) (by first | decide | omega)), (by first | exact Or.inl ⟨by have := fiC_s p0.toInt p1.toInt p2.toInt; omega, by have q0 : (0 : Int32).toInt = 0 := (by decide); have q1 : (1 : Int32).toInt = 1 := (by decide); have q2 : (2 : Int32).toInt = 2 := (by decide); have q3 : (3 : Int32).toInt = 3 := (by decide); have qm : (-1 : Int32).toInt = -1 := (by decide); omega, Or.inr ⟨by decide, by assumption⟩⟩ | exact Or.inr ⟨by have := fiC_s p0.toInt p1.toInt p2.toInt; have q0 : (0 : Int32).toInt = 0 := (by decide); have q1 : (1 : Int32).toInt = 1 := (by decide); have q2 : (2 : Int32).toInt = 2 := (by decide); have q3 : (3 : Int32).toInt = 3 := (by decide); have qm : (-1 : Int32).toInt = -1 := (by decide); omega, by have := fiC_s p0.toInt p1.toInt p2.toInt; have q0 : (0 : Int32).toInt = 0 := (by decide); have q1 : (1 : Int32).toInt = 1 := (by decide); have q2 : (2 : Int32).toInt = 2 := (by decide); have q3 : (3 : Int32).toInt = 3 := (by decide); have qm : (-1 : Int32).toInt = -1 := (by decide); omega⟩)⟩), by (try dsimp only); rw [ht]; exact ⟨hT, hF, m124⟩⟩, hS.F ht⟩) hS.2.2 dX12_fill_60
def w_s_farmOfC : List Cond := .code yX12_farmOf cX12_farmOf 3 (some .int) :: (HAppend.hAppend (α := List Cond) (β := List Cond) (γ := List Cond) [.fieldLink RX12 498 "SeaLandModel" "farms" "I", .fieldLink RX12 113 "SeaLandModel" "farmFrom" "[I", .fieldLink RX12 116 "SeaLandModel" "farmTo" "[I", .code yX12_isIn cX12_isIn 5 (some .boolean), .methodLink RX12 207 Lib.Math.min.name, .static Lib.Math.min.name, .initialized "java/lang/Math", .code Lib.Math.min.name Lib.Math.min.code 2 (some .int), .methodLink RX12 211 Lib.Math.max.name, .static Lib.Math.max.name, .code Lib.Math.max.name Lib.Math.max.code 2 (some .int), .code yX12_in cX12_in 3 (some .boolean), .methodLink RX12 197 yX12_in, .static yX12_in, .initialized RX12, .methodLink RX12 232 yX12_isIn, .static yX12_isIn] bs)
set_option maxHeartbeats 4000000 in
set_option maxRecDepth 100000 in
theorem s_farmOfC (l : Launch) (dC : Nat → ClassId) (dI : Nat → Nat → Nat) (kA : Nat → ClassId) (adK adV : Nat → Nat) (G : gT) (H0 : Heap) (q : Nat → Nat) (wZ wN : Nat → Int) (wH wB wC : Int) (wL wK : Nat → Prop) (wU wV : Nat → Nat) (PI : Nat → Int → Prop) (im : Int) (PM PT : Nat → Int → Prop) (lS lB lE : Nat → Nat → Int → Prop) (lN : Nat → Int) (o0 : Nat) (sq : Int32) (nf : Int32) (aFr : Nat → Int32) (aTo : Nat → Int32)  (hT : gH (dC, dI) kA (SHm q (wP wZ wN wH wB wC wL wK wU wV) PI im PM PT lS lB lE lN) G H0) (hr_o0 : G o0 = some 0) (hm_nf : el H0 o0 (dI 15 47) = some (.int nf)) (hq0 : 0 ≤ sq.toInt ∧ sq.toInt ≤ 95) (hq1 : 0 ≤ nf.toInt ∧ nf.toInt ≤ 30) (hAB : ∀ f : Nat, ((f : Nat) : Int) < nf.toInt → (0 ≤ (aFr f).toInt ∧ (aFr f).toInt ≤ 95) ∧ (0 ≤ (aTo f).toInt ∧ (aTo f).toInt ≤ 95)) (hc_aFr : ct H0 (q 43) 30 aFr) (hc_aTo : ct H0 (q 44) 30 aTo) (hgz : ∀ i, 0 ≤ wZ i) (hgn : ∀ i, 6500000 ≤ wN i ∧ wN i ≤ 20200000) (hgh : 0 ≤ wH ∧ wH ≤ 40000) (hgb : 0 ≤ wB ∧ wB ≤ 3850000) (hgc : 0 ≤ wC ∧ wC ≤ 30) (hgi : 0 ≤ im ∧ im ≤ 1) (hgu : ∀ a t, G a = some (t + 1) → a = q t) : Met l yX12_farmOf w_s_farmOfC ({ frames := 2, cells := 0, slots := 0, locals := 64 }) (va_Pc [.ref o0, .int sq] (fun U => U.heap = H0 ∧ va_K (dC, dI) vwCl (tyl kA) U ∧ EVS adK adV (gA G H0.size) U U.heap)) (va_Qi (fun (r : Int32) (u : Unit) => (-1 ≤ r.toInt ∧ r.toInt ≤ 29) ∧ ((r.toInt = -1 ∧ ¬ frm aFr aTo nf.toInt sq.toInt) ∨ (0 ≤ r.toInt ∧ frm aFr aTo nf.toInt sq.toInt))) (fun (_ : Unit) (t : State) => gH (dC, dI) kA (SHm q (wP wZ wN wH wB wC wL wK wU wV) PI im PM PT lS lB lE lN) G t.heap ∧ gF (dC, dI) SKm G ([] : List (Nat × Nat)) H0 t.heap) (gA G H0.size)) 0 0 (gA G H0.size) := by
  refine Met.ofW (cc := cX12_farmOf) (maxL := 3) (ret := (some .int)) (by decide) rfl ?_
  intro p e s m args below meth c s₁ B hml hv
  obtain ⟨rfl, hH0, hK, hE⟩ := hv
  have hx := B.exec
  have hb := B.bytes
  have hr := B.returns
  have hts := atoms_spec (ws := w_s_farmOfC) B.pre
  have hown : s.vm.findClass RX12 = some m.cls := findClass_of_methodNamed B.named
  have hlocks := B.notSynchronized
  subst hH0
  generalize hAe : gA G s.heap.size = A at hE ⊢
  have hA : ∀ q : Nat, s.heap.size ≤ q → A q := fun q h => by rw [← hAe]; exact Or.inr h
  have hG := gA_of hAe
  have hS : va_S A s.heap s.heap [] := va_S.rf
  have hF : gF (dC, dI) SKm G ([] : List (Nat × Nat)) s.heap s.heap := gF.rf
  have hl := lv_entry ([.ref o0, .int sq]) (n := 3) (Nat.le_of_ble_eq_true rfl)
  rw [lg_entry_eq]
  generalize (lg_sl ([.ref o0, .int sq]) ++ List.replicate (3 - (lg_sl ([.ref o0, .int sq])).length) Slot.unset).toArray = ls at hl ⊢
  have hl : lv_has ls 3 [(0, .ref o0), (1, .int sq)] := hl
  have hg1 : G (q 43) = some 44 := gx_of hT hr_o0 shm_0 (k := 43) (by decide) rfl
  have hg2 : G (q 44) = some 45 := gx_of hT hr_o0 shm_0 (k := 44) (by decide) rfl
  refine lv_iconst (v := 0) hx hb dX12_farmOf_0 (by decide) ?_
  refine lv_istore_n (lv' := [(2, .int 0), (0, .ref o0), (1, .int sq)]) hx hb dX12_farmOf_1 rfl hl (by decide) rfl (fun ls hl => ?_)
  have key35 : ∀ (n35 i3 : Nat), i3 + n35 = 30 → 0 ≤ i3 → ((∀ f9 : Nat, f9 < i3 → inRb sq.toInt (aFr f9).toInt (aTo f9).toInt = false)) → ∀ (H : Heap) (locs : List Loc), gH (dC, dI) kA (SHm q (wP wZ wN wH wB wC wL wK wU wV) PI im PM PT lS lB lE lN) G H → gF (dC, dI) SKm G ([] : List (Nat × Nat)) s.heap H → va_S A s.heap H locs → ct H (q 43) 30 aFr → ct H (q 44) 30 aTo → el H o0 (dI 15 47) = some (.int nf) → ∀ ls : Array Slot, lv_has ls 3 [(2, .int (nI i3)), (0, .ref o0), (1, .int sq)] → W p l e (headSpec w_s_farmOfC ({ frames := 2, cells := 0, slots := 0, locals := 64 })).room s m #[.ref o0, .int sq] below meth c H locs 0 0 (MQ below (va_Qi (fun (r : Int32) (u : Unit) => (-1 ≤ r.toInt ∧ r.toInt ≤ 29) ∧ ((r.toInt = -1 ∧ ¬ frm aFr aTo nf.toInt sq.toInt) ∨ (0 ≤ r.toInt ∧ frm aFr aTo nf.toInt sq.toInt))) (fun (_ : Unit) (t : State) => gH (dC, dI) kA (SHm q (wP wZ wN wH wB wC wL wK wU wV) PI im PM PT lS lB lE lN) G t.heap ∧ gF (dC, dI) SKm G ([] : List (Nat × Nat)) s.heap t.heap) A) #[.ref o0, .int sq] s 0 0 A) (F0 m 2 ls []) := by
    intro n35
    induction n35 with
    | zero =>
      intro i3 hn35 hlo36 hj7 H locs hT hF hS m4 m5 m6 ls hl
      obtain rfl : 30 = i3 := by omega
      refine lv_iload_n hx hb dX12_farmOf_2 rfl (lv_at hl 0 rfl) ?_
      refine lv_aload_n hx hb dX12_farmOf_3 rfl (lv_at hl 1 rfl) ?_
      refine tw_getM (v := .int nf) hx hb hts bF_X12 hown hK hT hr_o0 shm_0 rfl 47 (by decide) (ht_at hts 0 rfl) (fun _ h9 => h9) m6 dX12_farmOf_4 ?_
      refine lv_icmp_ge (tgt := 37) hx hb dX12_farmOf_7 (by decide) (fun c37 => ?_) (fun c37 => (by exfalso; have q9 : ((30 : Nat) : Int) < nf.toInt := ti_nle c37 rfl (nI_toInt (by omega)); omega))
      have t38 : nf.toInt ≤ ((30 : Nat) : Int) := ti_le c37 rfl (nI_toInt (by omega))
      refine lv_iconst (v := (-1)) hx hb dX12_farmOf_37 (by decide) ?_
      exact W.iret (v := (-1)) hx hb hr (fun t ht hW => ⟨⟨(-1), (), rfl, (by exact ⟨(rg_t (a := (-1)) (by decide) (by first | decide | omega) (by first | decide | omega)), (Or.inl ⟨by decide, frm_no (fun f9 h9 => hj7 f9 (by omega))⟩)⟩), by (try dsimp only); rw [ht]; exact ⟨hT, hF⟩⟩, hS.F ht⟩) hS.2.2 dX12_farmOf_38
    | succ n35 ih35 =>
      intro i3 hn35 hlo36 hj7 H locs hT hF hS m4 m5 m6 ls hl
      have hlt38 : i3 < 30 := by omega
      refine lv_iload_n hx hb dX12_farmOf_2 rfl (lv_at hl 0 rfl) ?_
      refine lv_aload_n hx hb dX12_farmOf_3 rfl (lv_at hl 1 rfl) ?_
      refine tw_getM (v := .int nf) hx hb hts bF_X12 hown hK hT hr_o0 shm_0 rfl 47 (by decide) (ht_at hts 0 rfl) (fun _ h9 => h9) m6 dX12_farmOf_4 ?_
      refine lv_icmp_ge (tgt := 37) hx hb dX12_farmOf_7 (by decide) (fun c39 => ?_) (fun c39 => ?_)
      · have t40 : nf.toInt ≤ ((i3 : Nat) : Int) := ti_le c39 rfl (nI_toInt (by omega))
        refine lv_iconst (v := (-1)) hx hb dX12_farmOf_37 (by decide) ?_
        exact W.iret (v := (-1)) hx hb hr (fun t ht hW => ⟨⟨(-1), (), rfl, (by exact ⟨(rg_t (a := (-1)) (by decide) (by first | decide | omega) (by first | decide | omega)), (Or.inl ⟨by decide, frm_no (fun f9 h9 => hj7 f9 (by omega))⟩)⟩), by (try dsimp only); rw [ht]; exact ⟨hT, hF⟩⟩, hS.F ht⟩) hS.2.2 dX12_farmOf_38
      · have t41 : ((i3 : Nat) : Int) < nf.toInt := ti_nle c39 rfl (nI_toInt (by omega))
        refine lv_iload_n hx hb dX12_farmOf_10 rfl (lv_at hl 2 rfl) ?_
        refine lv_aload_n hx hb dX12_farmOf_11 rfl (lv_at hl 1 rfl) ?_
        refine tw_get hx hb hts bF_X12 hown hK hT hr_o0 shm_0 rfl 43 (by decide) (ht_at hts 1 rfl) (fun _ h9 => h9) dX12_farmOf_12 (fun v9 m42 h9 => ?_)
        obtain ⟨rfl, hg43⟩ := h9 _ rfl
        refine lv_iload_n hx hb dX12_farmOf_15 rfl (lv_at hl 0 rfl) ?_
        refine tw_iald (i := (nI i3)) hx hb hK hT hg1 shm_44 rfl (vp_in_nI (by omega) (by decide)) dX12_farmOf_16 (fun v9 m44 h9 => ?_)
        obtain ⟨x45, rfl, gx45, kx45⟩ := h9
        have cx45 := m4.at m44 (by have q9 := tn_of (show (nI i3).toInt = ((i3 : Nat) : Int) from (nI_toInt (by omega))) (by omega); omega)
        refine lv_aload_n hx hb dX12_farmOf_17 rfl (lv_at hl 1 rfl) ?_
        refine tw_get hx hb hts bF_X12 hown hK hT hr_o0 shm_0 rfl 44 (by decide) (ht_at hts 2 rfl) (fun _ h9 => h9) dX12_farmOf_18 (fun v9 m46 h9 => ?_)
        obtain ⟨rfl, hg47⟩ := h9 _ rfl
        refine lv_iload_n hx hb dX12_farmOf_21 rfl (lv_at hl 0 rfl) ?_
        refine tw_iald (i := (nI i3)) hx hb hK hT hg2 shm_45 rfl (vp_in_nI (by omega) (by decide)) dX12_farmOf_22 (fun v9 m48 h9 => ?_)
        obtain ⟨x49, rfl, gx49, kx49⟩ := h9
        have cx49 := m5.at m48 (by have q9 := tn_of (show (nI i3).toInt = ((i3 : Nat) : Int) from (nI_toInt (by omega))) (by omega); omega)
        have t50 : x45.toInt = (aFr i3).toInt := congrArg Int32.toInt (cx45.trans (by rw [tn_nI (by omega)]))
        have t51 : 0 ≤ (aFr i3).toInt ∧ (aFr i3).toInt ≤ 95 := (hAB i3 (by omega)).1
        have t52 : x49.toInt = (aTo i3).toInt := congrArg Int32.toInt (cx49.trans (by rw [tn_nI (by omega)]))
        have t53 : 0 ≤ (aTo i3).toInt ∧ (aTo i3).toInt ≤ 95 := (hAB i3 (by omega)).2
        have hFc := gA_free hG hA hS
        refine va_calli (va_runS (As := [.int sq, .int x45, .int x49]) (rest := []) ⟨hx, hb, hml, hown, hts⟩ (s_isInE l dC dI kA adK adV G H q wZ wN wH wB wC wL wK wU wV PI im PM PT lS lB lE lN sq x45 x49 hT (by have q8 := ti_all sq; omega) (by have q8 := ti_all x45; omega) (by have q8 := ti_all x49; omega) hgz hgn hgh hgb hgc hgi hgu) (va_cwS 3 hts (goodIn_app (goodIn_r _ [16, 17, 15] rfl (by decide +kernel)) (goodIn_ca (goodIn_r _ [4, 5, 6, 7, 8, 9, 10, 11, 12, 13, 14, 15] rfl (by decide +kernel)) (bs_in _ _))) rfl rfl rfl (by decide +kernel) ⟨(Nat.le_of_ble_eq_true rfl), (Nat.le_of_ble_eq_true rfl)⟩) ⟨fun a U g mk q => by obtain ⟨q0, q1, qK, qE⟩ := q; exact ⟨q0, q1, va_K.moved (u := U) (U := U.calling g mk a) (Vm.Alike.refl U.vm) qK, EVS.blind g mk a qE⟩, fun U hU hW => ⟨rfl, hU, va_K.moved hW.alike hK, hE.call hS hFc hU hW⟩⟩ rfl rfl hl.1 rfl (lv_room (Nat.le_of_ble_eq_true rfl)) dX12_farmOf_23 ⟨(Nat.le_of_ble_eq_true rfl), (Nat.le_of_ble_eq_true rfl)⟩) hS (fun q _ h => hFc q h) hFc (fun r54 u t H locs ht hvm hw55 hB _ _ hS => ?_)
        obtain ⟨hT, hF1⟩ := hB
        rw [ht] at hT hF1
        have m56 := m4.kept (hF1.arr hg1 skm_44 (by decide))
        have m57 := m5.kept (hF1.arr hg2 skm_45 (by decide))
        have m58 := (hF1.fld hr_o0 skm_0 (k := 47) (by decide) (by decide)).trans m6
        have hF := hF.more hF1 (by decide)
        try dsimp only at hw55
        obtain ⟨h61, hf62⟩ := hw55
        refine lv_if_eq (tgt := 31) hx hb dX12_farmOf_26 (by decide) (fun c63 => ?_) (fun c63 => ?_)
        · have t64 : r54.toInt = 0 := ti_eq c63 rfl (by decide)
          refine lv_iinc (v := nI (i3 + 1)) (lv' := [(2, .int (nI (i3 + 1))), (0, .ref o0), (1, .int sq)]) hx hb dX12_farmOf_31 hl (k := 0) rfl (nI_add i3 1) (by decide) rfl (fun ls hl => ?_)
          refine lv_goto (tgt := 2) hx hb dX12_farmOf_34 (by decide) ?_
          exact ih35 (i3 + 1) (by omega) (by omega) (fun f9 h9 => by by_cases e9 : f9 = i3; (· rw [e9]; exact inR_0 (s := sq.toInt) (a := (aFr i3).toInt) (b := (aTo i3).toInt) (by omega)); exact hj7 f9 (by omega)) _ _ hT hF hS m56 m57 m58 ls (lv_sub hl [0, 1, 2] rfl)
        · have t65 : r54.toInt ≠ 0 := ti_ne c63 rfl (by decide)
          refine lv_iload_n hx hb dX12_farmOf_29 rfl (lv_at hl 0 rfl) ?_
          exact W.iret (v := nI i3) hx hb hr (fun t ht hW => ⟨⟨nI i3, (), rfl, (by exact ⟨(rg_t (a := ((i3 : Nat) : Int)) (nI_toInt (by omega)) (by omega) (by omega)), (Or.inr ⟨by have q9 : (nI i3).toInt = ((i3 : Nat) : Int) := nI_toInt (by omega); omega, i3, by omega, inR_1 (s := sq.toInt) (a := (aFr i3).toInt) (b := (aTo i3).toInt) (by omega)⟩)⟩), by (try dsimp only); rw [ht]; exact ⟨hT, hF⟩⟩, hS.F ht⟩) hS.2.2 dX12_farmOf_30
  exact key35 (30 - 0) 0 (by omega) (Nat.le_refl _) (fun f9 h9 => absurd h9 (Nat.not_lt_zero f9)) _ _ hT hF hS hc_aFr hc_aTo hm_nf ls (lv_sub hl [0, 1, 2] rfl)
def w_s_farmC : List Cond := .code yX12_farm cX12_farm 4 (some .int) :: (HAppend.hAppend (α := List Cond) (β := List Cond) (γ := List Cond) [.fieldLink RX12 194 "SeaLandModel" "thrown" "I", .code yX12_noSquare cX12_noSquare 1 (some .boolean), .code yX12_in cX12_in 3 (some .boolean), .methodLink RX12 197 yX12_in, .static yX12_in, .initialized RX12, .methodLink RX12 220 yX12_noSquare, .static yX12_noSquare, .code yX12_throwsIf cX12_throwsIf 3 (some .boolean), .methodLink RX12 224 yX12_throwsIf, .instanceMethod yX12_throwsIf, .selects RX12 yX12_throwsIf yX12_throwsIf, .fieldLink RX12 498 "SeaLandModel" "farms" "I", .fieldLink RX12 113 "SeaLandModel" "farmFrom" "[I", .fieldLink RX12 116 "SeaLandModel" "farmTo" "[I", .fieldLink RX12 122 "SeaLandModel" "holder" "[I", .code yX12_isIn cX12_isIn 5 (some .boolean), .methodLink RX12 207 Lib.Math.min.name, .static Lib.Math.min.name, .initialized "java/lang/Math", .code Lib.Math.min.name Lib.Math.min.code 2 (some .int), .methodLink RX12 211 Lib.Math.max.name, .static Lib.Math.max.name, .code Lib.Math.max.name Lib.Math.max.code 2 (some .int), .methodLink RX12 232 yX12_isIn, .static yX12_isIn, .code yX12_isLand cX12_isLand 2 (some .boolean), .fieldLink RX12 9 "SeaLandModel" "world" "[I", .methodLink RX12 235 yX12_isLand, .instanceMethod yX12_isLand, .selects RX12 yX12_isLand yX12_isLand, .code yX12_farmOf cX12_farmOf 3 (some .int), .methodLink RX12 329 yX12_farmOf, .instanceMethod yX12_farmOf, .selects RX12 yX12_farmOf yX12_farmOf] bs)
set_option maxHeartbeats 4000000 in
set_option maxRecDepth 100000 in
theorem s_farmC (l : Launch) (dC : Nat → ClassId) (dI : Nat → Nat → Nat) (kA : Nat → ClassId) (adK adV : Nat → Nat) (G : gT) (H0 : Heap) (q : Nat → Nat) (wZ wN : Nat → Int) (wH wB wC : Int) (wL wK : Nat → Prop) (wU wV : Nat → Nat) (PI : Nat → Int → Prop) (im : Int) (PM PT : Nat → Int → Prop) (lS lB lE : Nat → Nat → Int → Prop) (lN : Nat → Int) (o0 : Nat) (p0 : Int32) (p1 : Int32) (nf : Int32) (aFr : Nat → Int32) (aTo : Nat → Int32) (L F : Nat → Int) (hT : gH (dC, dI) kA (SHm q (wP wZ wN wH wB wC wL wK wU wV) PI im PM PT lS lB lE lN) G H0) (hr_o0 : G o0 = some 0) (hm_nf : el H0 o0 (dI 15 47) = some (.int nf)) (hq0 : 0 ≤ nf.toInt ∧ nf.toInt ≤ 30) (hAB : ∀ f : Nat, ((f : Nat) : Int) < nf.toInt → (0 ≤ (aFr f).toInt ∧ (aFr f).toInt ≤ 95) ∧ (0 ≤ (aTo f).toInt ∧ (aTo f).toInt ≤ 95)) (hL : ∀ i, i < 96 → (wL i ↔ L i = 1) ∧ (0 ≤ L i ∧ L i ≤ 1)) (hF9 : ∀ i, i < 96 → (frm aFr aTo nf.toInt ((i : Nat) : Int) ↔ F i = 1) ∧ (0 ≤ F i ∧ F i ≤ 1)) (hc_aFr : ct H0 (q 43) 30 aFr) (hc_aTo : ct H0 (q 44) 30 aTo) (hgz : ∀ i, 0 ≤ wZ i) (hgn : ∀ i, 6500000 ≤ wN i ∧ wN i ≤ 20200000) (hgh : 0 ≤ wH ∧ wH ≤ 40000) (hgb : 0 ≤ wB ∧ wB ≤ 3850000) (hgc : 0 ≤ wC ∧ wC ≤ 30) (hgi : 0 ≤ im ∧ im ≤ 1) (hgu : ∀ a t, G a = some (t + 1) → a = q t) : Met l yX12_farm w_s_farmC ({ frames := 3, cells := 0, slots := 0, locals := 86 }) (va_Pc [.ref o0, .int p0, .int p1] (fun U => U.heap = H0 ∧ va_K (dC, dI) vwCl (tyl kA) U ∧ EVS adK adV (gA G H0.size) U U.heap)) (va_Qi (fun (r : Int32) (u : Int32 × Int32 × (Nat → Int32) × (Nat → Int32)) => match u with | (t1, f1, aFr1, aTo1) => (-1 ≤ r.toInt ∧ r.toInt ≤ 29) ∧ ((faC p0.toInt p1.toInt = 1 ∧ t1.toInt = 1 ∧ f1.toInt = nf.toInt ∧ aFr1 = aFr ∧ aTo1 = aTo) ∨ (faC p0.toInt p1.toInt = 0 ∧ t1.toInt = 0 ∧ (((decide (nf.toInt < 30) && fmK L F p0.toInt p1.toInt 96) = true ∧ r.toInt = nf.toInt ∧ f1.toInt = nf.toInt + 1 ∧ aFr1 = cu aFr nf.toNatClampNeg p0 ∧ aTo1 = cu aTo nf.toNatClampNeg p1) ∨ ((decide (nf.toInt < 30) && fmK L F p0.toInt p1.toInt 96) = false ∧ r.toInt = -1 ∧ f1.toInt = nf.toInt ∧ aFr1 = aFr ∧ aTo1 = aTo))))) (fun (u : Int32 × Int32 × (Nat → Int32) × (Nat → Int32)) (t : State) => match u with | (t1, f1, aFr1, aTo1) => gH (dC, dI) kA (SHm q (wP wZ wN wH wB wC wL wK wU wV) PI im PM PT lS lB lE lN) G t.heap ∧ gF (dC, dI) SKm G ([(0, 0), (0, 47), (44, 0), (45, 0), (47, 0)] : List (Nat × Nat)) H0 t.heap ∧ el t.heap o0 (dI 15 0) = some (.int t1) ∧ el t.heap o0 (dI 15 47) = some (.int f1) ∧ ct t.heap (q 43) 30 aFr1 ∧ ct t.heap (q 44) 30 aTo1) (gA G H0.size)) 0 0 (gA G H0.size) := by
  refine Met.ofW (cc := cX12_farm) (maxL := 4) (ret := (some .int)) (by decide) rfl ?_
  intro p e s m args below meth c s₁ B hml hv
  obtain ⟨rfl, hH0, hK, hE⟩ := hv
  have hx := B.exec
  have hb := B.bytes
  have hr := B.returns
  have hts := atoms_spec (ws := w_s_farmC) B.pre
  have hown : s.vm.findClass RX12 = some m.cls := findClass_of_methodNamed B.named
  have hlocks := B.notSynchronized
  subst hH0
  generalize hAe : gA G s.heap.size = A at hE ⊢
  have hA : ∀ q : Nat, s.heap.size ≤ q → A q := fun q h => by rw [← hAe]; exact Or.inr h
  have hG := gA_of hAe
  have hS : va_S A s.heap s.heap [] := va_S.rf
  have hF : gF (dC, dI) SKm G ([(0, 0), (0, 47), (44, 0), (45, 0), (47, 0)] : List (Nat × Nat)) s.heap s.heap := gF.rf
  have hl := lv_entry ([.ref o0, .int p0, .int p1]) (n := 4) (Nat.le_of_ble_eq_true rfl)
  rw [lg_entry_eq]
  generalize (lg_sl ([.ref o0, .int p0, .int p1]) ++ List.replicate (4 - (lg_sl ([.ref o0, .int p0, .int p1])).length) Slot.unset).toArray = ls at hl ⊢
  have hl : lv_has ls 4 [(0, .ref o0), (1, .int p0), (2, .int p1)] := hl
  have hg1 : G (q 43) = some 44 := gx_of hT hr_o0 shm_0 (k := 43) (by decide) rfl
  have hg2 : G (q 44) = some 45 := gx_of hT hr_o0 shm_0 (k := 44) (by decide) rfl
  refine lv_aload_n hx hb dX12_farm_0 rfl (lv_at hl 0 rfl) ?_
  refine lv_iconst (v := 0) hx hb dX12_farm_1 (by decide) ?_
  refine tw_put (v := .int 0) (ty := .int) hx hb hts bF_X12 tyX12 tyX12_ok nmX12 hown hK hT hG hS hr_o0 shm_0 rfl 0 (by decide) (ht_at hts 0 rfl) (fun _ h9 => h9) rfl (by decide +kernel) rfl rfl (gl_at rfl (gi_all _)) dX12_farm_2 (fun H locs hT oq m3 oj hS => ?_)
  have hF := hF.put hr_o0 skm_0 oq oj (by decide)
  have m4 := (oj 47 (by decide) (by decide)).trans hm_nf
  have m5 := hc_aFr.kept (oq _ (gne hg1 hr_o0 (by decide)))
  have m6 := hc_aTo.kept (oq _ (gne hg2 hr_o0 (by decide)))
  refine lv_aload_n hx hb dX12_farm_5 rfl (lv_at hl 0 rfl) ?_
  refine lv_iload_n hx hb dX12_farm_6 rfl (lv_at hl 1 rfl) ?_
  have hFc := gA_free hG hA hS
  refine va_calli (va_runS (As := [.int p0]) (rest := [.ref o0]) ⟨hx, hb, hml, hown, hts⟩ (s_noSquareE l dC dI kA adK adV G H q wZ wN wH wB wC wL wK wU wV PI im PM PT lS lB lE lN p0 hT hgz hgn hgh hgb hgc hgi hgu) (va_cwS 1 hts (goodIn_app (goodIn_r _ [7, 8, 6] rfl (by decide +kernel)) (goodIn_ca (goodIn_r _ [2, 3, 4, 5, 6] rfl (by decide +kernel)) (bs_in _ _))) rfl rfl rfl (by decide +kernel) ⟨(Nat.le_of_ble_eq_true rfl), (Nat.le_of_ble_eq_true rfl)⟩) ⟨fun a U g mk q => by obtain ⟨q0, q1, qK, qE⟩ := q; exact ⟨q0, q1, va_K.moved (u := U) (U := U.calling g mk a) (Vm.Alike.refl U.vm) qK, EVS.blind g mk a qE⟩, fun U hU hW => ⟨rfl, hU, va_K.moved hW.alike hK, hE.call hS hFc hU hW⟩⟩ rfl rfl hl.1 rfl (lv_room (Nat.le_of_ble_eq_true rfl)) dX12_farm_7 ⟨(Nat.le_of_ble_eq_true rfl), (Nat.le_of_ble_eq_true rfl)⟩) hS (fun q _ h => hFc q h) hFc (fun r7 u t H locs ht hvm hw8 hB _ _ hS => ?_)
  obtain ⟨hT, hF1⟩ := hB
  rw [ht] at hT hF1
  have m9 := (hF1.fld hr_o0 skm_0 (k := 47) (by decide) (by decide)).trans m4
  have m10 := m5.kept (hF1.arr hg1 skm_44 (by decide))
  have m11 := m6.kept (hF1.arr hg2 skm_45 (by decide))
  have m12 := (hF1.fld hr_o0 skm_0 (k := 0) (by decide) (by decide)).trans m3
  have hF := hF.more hF1 (by decide)
  try dsimp only at hw8
  obtain ⟨h13, hf14⟩ := hw8
  refine lv_if_ne (tgt := 20) hx hb dX12_farm_10 (by decide) (fun c15 => ?_) (fun c15 => ?_)
  · have t16 : r7.toInt ≠ 0 := ti_ne c15 rfl (by decide)
    refine lv_iconst (v := 1) hx hb dX12_farm_20 (by decide) ?_
    refine lv_goto (tgt := 25) hx hb dX12_farm_21 (by decide) ?_
    refine lv_iconst (v := 1) hx hb dX12_farm_25 (by decide) ?_
    have hFc := gA_free hG hA hS
    refine va_calli (va_runV (As := [.int 1, .int 1]) (rest := []) ⟨hx, hb, hml, hown, hts⟩ (s_throwsIfP l dC dI kA adK adV G H q wZ wN wH wB wC wL wK wU wV PI im PM PT lS lB lE lN o0 1 1 0 hT hr_o0 m12 (rg_t (a := 1) (by decide) (by first | decide | omega) (by first | decide | omega)) hgz hgn hgh hgb hgc hgi hgu) (cwV 2 hts (goodIn_app (goodIn_r _ [10, 11, 12, 6] rfl (by decide +kernel)) (goodIn_ca (goodIn_r _ [9, 1] rfl (by decide +kernel)) (bs_in _ _))) rfl rfl rfl (by decide +kernel) ⟨(Nat.le_of_ble_eq_true rfl), (Nat.le_of_ble_eq_true rfl)⟩) ⟨fun a U g mk q => by obtain ⟨q0, q1, qK, qE⟩ := q; exact ⟨q0, q1, va_K.moved (u := U) (U := U.calling g mk a) (Vm.Alike.refl U.vm) qK, EVS.blind g mk a qE⟩, gH_rc hK hT hr_o0 shm_0 rfl, fun U hU hW => ⟨rfl, hU, va_K.moved hW.alike hK, hE.call hS hFc hU hW⟩⟩ rfl rfl hl.1 rfl (lv_room (Nat.le_of_ble_eq_true rfl)) dX12_farm_26 ⟨(Nat.le_of_ble_eq_true rfl), (Nat.le_of_ble_eq_true rfl)⟩) hS (fun q _ h => hFc q h) hFc (fun r17 u t H locs ht hvm hw18 hB _ _ hS => ?_)
    obtain ⟨u19, rfl⟩ : ∃ z, z = u := ⟨_, rfl⟩
    obtain ⟨hT, hF1, m20⟩ := hB
    rw [ht] at hT hF1 m20
    have m21 := (hF1.fld hr_o0 skm_0 (k := 47) (by decide) (by decide)).trans m9
    have m22 := m10.kept (hF1.arr hg1 skm_44 (by decide))
    have m23 := m11.kept (hF1.arr hg2 skm_45 (by decide))
    have hF := hF.more hF1 (by decide)
    try dsimp only at hw18
    obtain ⟨h25, hf26, hd27⟩ := hw18
    have t28 : (1 : Int32).toInt = 1 := by decide
    have t29 : (1 : Int32).toInt = 1 := by decide
    have t30 : (0 : Int32).toInt = 0 := by decide
    obtain rfl : (1 : Int32) = r17 := hd27.symm
    refine lv_if_ne (tgt := 41) hx hb dX12_farm_29 (by decide) (fun c31 => ?_) (fun c31 => absurd c31 (by decide))
    refine lv_aload_n hx hb dX12_farm_41 rfl (lv_at hl 0 rfl) ?_
    refine tw_getM (v := .int u19) hx hb hts bF_X12 hown hK hT hr_o0 shm_0 rfl 0 (by decide) (ht_at hts 0 rfl) (fun _ h9 => h9) m20 dX12_farm_42 ?_
    refine lv_if_eq (tgt := 52) hx hb dX12_farm_45 (by decide) (fun c32 => ?_) (fun c32 => ?_)
    · have t33 : u19.toInt = 0 := ti_eq c32 rfl (by decide)
      refine lv_iconst (v := (-1)) hx hb dX12_farm_52 (by decide) ?_
      exact W.iret (v := (-1)) hx hb hr (fun t ht hW => ⟨⟨(-1), (u19, nf, aFr, aTo), rfl, (by exact ⟨(rg_t (a := (-1)) (by decide) (by first | decide | omega) (by first | decide | omega)), (by have q0 : (0 : Int32).toInt = 0 := (by decide); have q1 : (1 : Int32).toInt = 1 := (by decide); have q2 : (2 : Int32).toInt = 2 := (by decide); have q3 : (3 : Int32).toInt = 3 := (by decide); have qm : (-1 : Int32).toInt = -1 := (by decide); first | exact Or.inl ⟨by have := faC_s p0.toInt p1.toInt; have q0 : (0 : Int32).toInt = 0 := (by decide); have q1 : (1 : Int32).toInt = 1 := (by decide); have q2 : (2 : Int32).toInt = 2 := (by decide); have q3 : (3 : Int32).toInt = 3 := (by decide); have qm : (-1 : Int32).toInt = -1 := (by decide); omega, by have q0 : (0 : Int32).toInt = 0 := (by decide); have q1 : (1 : Int32).toInt = 1 := (by decide); have q2 : (2 : Int32).toInt = 2 := (by decide); have q3 : (3 : Int32).toInt = 3 := (by decide); have qm : (-1 : Int32).toInt = -1 := (by decide); omega, by omega, rfl, rfl⟩ | exact Or.inr ⟨by have := faC_s p0.toInt p1.toInt; have q0 : (0 : Int32).toInt = 0 := (by decide); have q1 : (1 : Int32).toInt = 1 := (by decide); have q2 : (2 : Int32).toInt = 2 := (by decide); have q3 : (3 : Int32).toInt = 3 := (by decide); have qm : (-1 : Int32).toInt = -1 := (by decide); omega, by have q0 : (0 : Int32).toInt = 0 := (by decide); have q1 : (1 : Int32).toInt = 1 := (by decide); have q2 : (2 : Int32).toInt = 2 := (by decide); have q3 : (3 : Int32).toInt = 3 := (by decide); have qm : (-1 : Int32).toInt = -1 := (by decide); omega, Or.inr ⟨fm_b (by omega), by decide, by omega, rfl, rfl⟩⟩)⟩), by (try dsimp only); rw [ht]; exact ⟨hT, hF, m20, m21, m22, m23⟩⟩, hS.F ht⟩) hS.2.2 dX12_farm_53
    · have t34 : u19.toInt ≠ 0 := ti_ne c32 rfl (by decide)
      refine lv_iconst (v := 0) hx hb dX12_farm_48 (by decide) ?_
      refine lv_goto (tgt := 53) hx hb dX12_farm_49 (by decide) ?_
      exact W.iret (v := 0) hx hb hr (fun t ht hW => ⟨⟨0, (u19, nf, aFr, aTo), rfl, (by exact ⟨(rg_t (a := 0) (by decide) (by first | decide | omega) (by first | decide | omega)), (by have q0 : (0 : Int32).toInt = 0 := (by decide); have q1 : (1 : Int32).toInt = 1 := (by decide); have q2 : (2 : Int32).toInt = 2 := (by decide); have q3 : (3 : Int32).toInt = 3 := (by decide); have qm : (-1 : Int32).toInt = -1 := (by decide); first | exact Or.inl ⟨by have := faC_s p0.toInt p1.toInt; have q0 : (0 : Int32).toInt = 0 := (by decide); have q1 : (1 : Int32).toInt = 1 := (by decide); have q2 : (2 : Int32).toInt = 2 := (by decide); have q3 : (3 : Int32).toInt = 3 := (by decide); have qm : (-1 : Int32).toInt = -1 := (by decide); omega, by have q0 : (0 : Int32).toInt = 0 := (by decide); have q1 : (1 : Int32).toInt = 1 := (by decide); have q2 : (2 : Int32).toInt = 2 := (by decide); have q3 : (3 : Int32).toInt = 3 := (by decide); have qm : (-1 : Int32).toInt = -1 := (by decide); omega, by omega, rfl, rfl⟩ | exact Or.inr ⟨by have := faC_s p0.toInt p1.toInt; have q0 : (0 : Int32).toInt = 0 := (by decide); have q1 : (1 : Int32).toInt = 1 := (by decide); have q2 : (2 : Int32).toInt = 2 := (by decide); have q3 : (3 : Int32).toInt = 3 := (by decide); have qm : (-1 : Int32).toInt = -1 := (by decide); omega, by have q0 : (0 : Int32).toInt = 0 := (by decide); have q1 : (1 : Int32).toInt = 1 := (by decide); have q2 : (2 : Int32).toInt = 2 := (by decide); have q3 : (3 : Int32).toInt = 3 := (by decide); have qm : (-1 : Int32).toInt = -1 := (by decide); omega, Or.inr ⟨fm_b (by omega), by decide, by omega, rfl, rfl⟩⟩)⟩), by (try dsimp only); rw [ht]; exact ⟨hT, hF, m20, m21, m22, m23⟩⟩, hS.F ht⟩) hS.2.2 dX12_farm_53
  · have t35 : r7.toInt = 0 := ti_eq c15 rfl (by decide)
    refine lv_iload_n hx hb dX12_farm_13 rfl (lv_at hl 2 rfl) ?_
    have hFc := gA_free hG hA hS
    refine va_calli (va_runS (As := [.int p1]) (rest := [.ref o0]) ⟨hx, hb, hml, hown, hts⟩ (s_noSquareE l dC dI kA adK adV G H q wZ wN wH wB wC wL wK wU wV PI im PM PT lS lB lE lN p1 hT hgz hgn hgh hgb hgc hgi hgu) (va_cwS 1 hts (goodIn_app (goodIn_r _ [7, 8, 6] rfl (by decide +kernel)) (goodIn_ca (goodIn_r _ [2, 3, 4, 5, 6] rfl (by decide +kernel)) (bs_in _ _))) rfl rfl rfl (by decide +kernel) ⟨(Nat.le_of_ble_eq_true rfl), (Nat.le_of_ble_eq_true rfl)⟩) ⟨fun a U g mk q => by obtain ⟨q0, q1, qK, qE⟩ := q; exact ⟨q0, q1, va_K.moved (u := U) (U := U.calling g mk a) (Vm.Alike.refl U.vm) qK, EVS.blind g mk a qE⟩, fun U hU hW => ⟨rfl, hU, va_K.moved hW.alike hK, hE.call hS hFc hU hW⟩⟩ rfl rfl hl.1 rfl (lv_room (Nat.le_of_ble_eq_true rfl)) dX12_farm_14 ⟨(Nat.le_of_ble_eq_true rfl), (Nat.le_of_ble_eq_true rfl)⟩) hS (fun q _ h => hFc q h) hFc (fun r36 u t H locs ht hvm hw37 hB _ _ hS => ?_)
    obtain ⟨hT, hF1⟩ := hB
    rw [ht] at hT hF1
    have m38 := (hF1.fld hr_o0 skm_0 (k := 47) (by decide) (by decide)).trans m9
    have m39 := m10.kept (hF1.arr hg1 skm_44 (by decide))
    have m40 := m11.kept (hF1.arr hg2 skm_45 (by decide))
    have m41 := (hF1.fld hr_o0 skm_0 (k := 0) (by decide) (by decide)).trans m12
    have hF := hF.more hF1 (by decide)
    try dsimp only at hw37
    obtain ⟨h42, hf43⟩ := hw37
    refine lv_if_eq (tgt := 24) hx hb dX12_farm_17 (by decide) (fun c44 => ?_) (fun c44 => ?_)
    · have t45 : r36.toInt = 0 := ti_eq c44 rfl (by decide)
      refine lv_iconst (v := 0) hx hb dX12_farm_24 (by decide) ?_
      refine lv_iconst (v := 1) hx hb dX12_farm_25 (by decide) ?_
      have hFc := gA_free hG hA hS
      refine va_calli (va_runV (As := [.int 0, .int 1]) (rest := []) ⟨hx, hb, hml, hown, hts⟩ (s_throwsIfP l dC dI kA adK adV G H q wZ wN wH wB wC wL wK wU wV PI im PM PT lS lB lE lN o0 0 1 0 hT hr_o0 m41 (rg_t (a := 0) (by decide) (by first | decide | omega) (by first | decide | omega)) hgz hgn hgh hgb hgc hgi hgu) (cwV 2 hts (goodIn_app (goodIn_r _ [10, 11, 12, 6] rfl (by decide +kernel)) (goodIn_ca (goodIn_r _ [9, 1] rfl (by decide +kernel)) (bs_in _ _))) rfl rfl rfl (by decide +kernel) ⟨(Nat.le_of_ble_eq_true rfl), (Nat.le_of_ble_eq_true rfl)⟩) ⟨fun a U g mk q => by obtain ⟨q0, q1, qK, qE⟩ := q; exact ⟨q0, q1, va_K.moved (u := U) (U := U.calling g mk a) (Vm.Alike.refl U.vm) qK, EVS.blind g mk a qE⟩, gH_rc hK hT hr_o0 shm_0 rfl, fun U hU hW => ⟨rfl, hU, va_K.moved hW.alike hK, hE.call hS hFc hU hW⟩⟩ rfl rfl hl.1 rfl (lv_room (Nat.le_of_ble_eq_true rfl)) dX12_farm_26 ⟨(Nat.le_of_ble_eq_true rfl), (Nat.le_of_ble_eq_true rfl)⟩) hS (fun q _ h => hFc q h) hFc (fun r46 u t H locs ht hvm hw47 hB _ _ hS => ?_)
      obtain ⟨u48, rfl⟩ : ∃ z, z = u := ⟨_, rfl⟩
      obtain ⟨hT, hF1, m49⟩ := hB
      rw [ht] at hT hF1 m49
      have m50 := (hF1.fld hr_o0 skm_0 (k := 47) (by decide) (by decide)).trans m38
      have m51 := m39.kept (hF1.arr hg1 skm_44 (by decide))
      have m52 := m40.kept (hF1.arr hg2 skm_45 (by decide))
      have hF := hF.more hF1 (by decide)
      try dsimp only at hw47
      obtain ⟨h54, hf55, hd56⟩ := hw47
      have t57 : (0 : Int32).toInt = 0 := by decide
      have t58 : (1 : Int32).toInt = 1 := by decide
      have t59 : (0 : Int32).toInt = 0 := by decide
      obtain rfl : (0 : Int32) = r46 := hd56.symm
      refine lv_if_ne (tgt := 41) hx hb dX12_farm_29 (by decide) (fun c60 => absurd c60 (by decide)) (fun c60 => ?_)
      refine lv_aload_n hx hb dX12_farm_32 rfl (lv_at hl 0 rfl) ?_
      refine tw_getM (v := .int nf) hx hb hts bF_X12 hown hK hT hr_o0 shm_0 rfl 47 (by decide) (ht_at hts 12 rfl) (fun _ h9 => h9) m50 dX12_farm_33 ?_
      refine lv_bipush (v := 30) hx hb dX12_farm_36 (by decide) ?_
      refine lv_icmp_ne (tgt := 54) hx hb dX12_farm_38 (by decide) (fun c61 => ?_) (fun c61 => ?_)
      · have t62 : nf.toInt ≠ 30 := ti_ne c61 rfl (by decide)
        refine lv_iconst (v := 0) hx hb dX12_farm_54 (by decide) ?_
        refine lv_istore_n (lv' := [(3, .int 0), (0, .ref o0), (1, .int p0), (2, .int p1)]) hx hb dX12_farm_55 rfl hl (by decide) rfl (fun ls hl => ?_)
        have key108 : ∀ (n108 i63 : Nat), i63 + n108 = 96 → 0 ≤ i63 → ((fmK L F p0.toInt p1.toInt i63 = true)) → ∀ (H : Heap) (locs : List Loc), gH (dC, dI) kA (SHm q (wP wZ wN wH wB wC wL wK wU wV) PI im PM PT lS lB lE lN) G H → gF (dC, dI) SKm G ([(0, 0), (0, 47), (44, 0), (45, 0), (47, 0)] : List (Nat × Nat)) s.heap H → va_S A s.heap H locs → ct H (q 43) 30 aFr → ct H (q 44) 30 aTo → el H o0 (dI 15 47) = some (.int nf) → el H o0 (dI 15 0) = some (.int u48) → ∀ ls : Array Slot, lv_has ls 4 [(3, .int (nI i63)), (0, .ref o0), (1, .int p0), (2, .int p1)] → W p l e (headSpec w_s_farmC ({ frames := 3, cells := 0, slots := 0, locals := 86 })).room s m #[.ref o0, .int p0, .int p1] below meth c H locs 0 0 (MQ below (va_Qi (fun (r : Int32) (u : Int32 × Int32 × (Nat → Int32) × (Nat → Int32)) => match u with | (t1, f1, aFr1, aTo1) => (-1 ≤ r.toInt ∧ r.toInt ≤ 29) ∧ ((faC p0.toInt p1.toInt = 1 ∧ t1.toInt = 1 ∧ f1.toInt = nf.toInt ∧ aFr1 = aFr ∧ aTo1 = aTo) ∨ (faC p0.toInt p1.toInt = 0 ∧ t1.toInt = 0 ∧ (((decide (nf.toInt < 30) && fmK L F p0.toInt p1.toInt 96) = true ∧ r.toInt = nf.toInt ∧ f1.toInt = nf.toInt + 1 ∧ aFr1 = cu aFr nf.toNatClampNeg p0 ∧ aTo1 = cu aTo nf.toNatClampNeg p1) ∨ ((decide (nf.toInt < 30) && fmK L F p0.toInt p1.toInt 96) = false ∧ r.toInt = -1 ∧ f1.toInt = nf.toInt ∧ aFr1 = aFr ∧ aTo1 = aTo))))) (fun (u : Int32 × Int32 × (Nat → Int32) × (Nat → Int32)) (t : State) => match u with | (t1, f1, aFr1, aTo1) => gH (dC, dI) kA (SHm q (wP wZ wN wH wB wC wL wK wU wV) PI im PM PT lS lB lE lN) G t.heap ∧ gF (dC, dI) SKm G ([(0, 0), (0, 47), (44, 0), (45, 0), (47, 0)] : List (Nat × Nat)) s.heap t.heap ∧ el t.heap o0 (dI 15 0) = some (.int t1) ∧ el t.heap o0 (dI 15 47) = some (.int f1) ∧ ct t.heap (q 43) 30 aFr1 ∧ ct t.heap (q 44) 30 aTo1) A) #[.ref o0, .int p0, .int p1] s 0 0 A) (F0 m 56 ls []) := by
          intro n108
          induction n108 with
          | zero =>
            intro i63 hn108 hlo109 hj68 H locs hT hF hS m64 m65 m66 m67 ls hl
            obtain rfl : 96 = i63 := by omega
            refine lv_iload_n hx hb dX12_farm_56 rfl (lv_at hl 0 rfl) ?_
            refine lv_bipush (v := 96) hx hb dX12_farm_57 (by decide) ?_
            refine lv_icmp_ge (tgt := 95) hx hb dX12_farm_59 (by decide) (fun c110 => ?_) (fun c110 => (by exfalso; have q9 : ((96 : Nat) : Int) < 96 := ti_nle c110 (by decide) (nI_toInt (by omega)); omega))
            have t111 : 96 ≤ ((96 : Nat) : Int) := ti_le c110 (by decide) (nI_toInt (by omega))
            refine lv_aload_n hx hb dX12_farm_95 rfl (lv_at hl 1 rfl) ?_
            refine tw_get hx hb hts bF_X12 hown hK hT hr_o0 shm_0 rfl 43 (by decide) (ht_at hts 13 rfl) (fun _ h9 => h9) dX12_farm_96 (fun v9 m112 h9 => ?_)
            obtain ⟨rfl, hg113⟩ := h9 _ rfl
            refine lv_aload_n hx hb dX12_farm_99 rfl (lv_at hl 1 rfl) ?_
            refine tw_getM (v := .int nf) hx hb hts bF_X12 hown hK hT hr_o0 shm_0 rfl 47 (by decide) (ht_at hts 12 rfl) (fun _ h9 => h9) m66 dX12_farm_100 ?_
            refine lv_iload_n hx hb dX12_farm_103 rfl (lv_at hl 2 rfl) ?_
            refine tw_iast (i := nf) (x := p0) hx hb hK hT hG hS hg1 shm_44 rfl (vin_t (a := nf.toInt) rfl (by omega) (by omega)) (gi_all _) dX12_farm_104 (fun H locs hT oq m114 oi hS => ?_)
            have hF := hF.ast hg1 skm_44 oq (by decide)
            have m115 := m64.put m114 oi
            have m116 := m65.kept (oq _ (gne hg2 hg1 (by decide)))
            have m117 := (el_kept (oq _ (gne hr_o0 hg1 (by decide)))).trans m66
            have m118 := (el_kept (oq _ (gne hr_o0 hg1 (by decide)))).trans m67
            refine lv_aload_n hx hb dX12_farm_105 rfl (lv_at hl 1 rfl) ?_
            refine tw_get hx hb hts bF_X12 hown hK hT hr_o0 shm_0 rfl 44 (by decide) (ht_at hts 14 rfl) (fun _ h9 => h9) dX12_farm_106 (fun v9 m119 h9 => ?_)
            obtain ⟨rfl, hg120⟩ := h9 _ rfl
            refine lv_aload_n hx hb dX12_farm_109 rfl (lv_at hl 1 rfl) ?_
            refine tw_getM (v := .int nf) hx hb hts bF_X12 hown hK hT hr_o0 shm_0 rfl 47 (by decide) (ht_at hts 12 rfl) (fun _ h9 => h9) m117 dX12_farm_110 ?_
            refine lv_iload_n hx hb dX12_farm_113 rfl (lv_at hl 3 rfl) ?_
            refine tw_iast (i := nf) (x := p1) hx hb hK hT hG hS hg2 shm_45 rfl (vin_t (a := nf.toInt) rfl (by omega) (by omega)) (gi_all _) dX12_farm_114 (fun H locs hT oq m121 oi hS => ?_)
            have hF := hF.ast hg2 skm_45 oq (by decide)
            have m122 := m115.kept (oq _ (gne hg1 hg2 (by decide)))
            have m123 := m116.put m121 oi
            have m124 := (el_kept (oq _ (gne hr_o0 hg2 (by decide)))).trans m117
            have m125 := (el_kept (oq _ (gne hr_o0 hg2 (by decide)))).trans m118
            have m126 := (el_kept (oq _ (gne hg1 hg2 (by decide)))).trans m114
            refine lv_aload_n hx hb dX12_farm_115 rfl (lv_at hl 1 rfl) ?_
            refine tw_get hx hb hts bF_X12 hown hK hT hr_o0 shm_0 rfl 46 (by decide) (ht_at hts 15 rfl) (fun _ h9 => h9) dX12_farm_116 (fun v9 m127 h9 => ?_)
            obtain ⟨rfl, hg128⟩ := h9 _ rfl
            refine lv_aload_n hx hb dX12_farm_119 rfl (lv_at hl 1 rfl) ?_
            refine tw_getM (v := .int nf) hx hb hts bF_X12 hown hK hT hr_o0 shm_0 rfl 47 (by decide) (ht_at hts 12 rfl) (fun _ h9 => h9) m124 dX12_farm_120 ?_
            refine lv_iconst (v := (-1)) hx hb dX12_farm_123 (by decide) ?_
            refine tw_iast (i := nf) (x := (-1)) hx hb hK hT hG hS hg128 shm_47 rfl (vin_t (a := nf.toInt) rfl (by omega) (by omega)) (gi_of (show (-1 : Int32).toInt = (-1) from (by decide)) (by first | decide | omega) (by first | decide | omega)) dX12_farm_124 (fun H locs hT oq m129 oi hS => ?_)
            have hF := hF.ast hg128 skm_47 oq (by decide)
            have m130 := m122.kept (oq _ (gne hg1 hg128 (by decide)))
            have m131 := m123.kept (oq _ (gne hg2 hg128 (by decide)))
            have m132 := (el_kept (oq _ (gne hr_o0 hg128 (by decide)))).trans m124
            have m133 := (el_kept (oq _ (gne hr_o0 hg128 (by decide)))).trans m125
            have m134 := (el_kept (oq _ (gne hg1 hg128 (by decide)))).trans m126
            have m135 := (el_kept (oq _ (gne hg2 hg128 (by decide)))).trans m121
            refine lv_aload_n hx hb dX12_farm_125 rfl (lv_at hl 1 rfl) ?_
            refine lv_dup hx hb dX12_farm_126 rfl ?_
            refine tw_getM (v := .int nf) hx hb hts bF_X12 hown hK hT hr_o0 shm_0 rfl 47 (by decide) (ht_at hts 12 rfl) (fun _ h9 => h9) m132 dX12_farm_127 ?_
            refine lv_iconst (v := 1) hx hb dX12_farm_130 (by decide) ?_
            refine lv_iadd hx hb dX12_farm_131 ?_
            refine lv_topi (fun x136 ex136 => ?_)
            have t137 : x136.toInt = nf.toInt + 1 := ti_add ex136 rfl (by decide) (by omega) (by omega)
            refine tw_put (v := .int x136) (ty := .int) hx hb hts bF_X12 tyX12 tyX12_ok nmX12 hown hK hT hG hS hr_o0 shm_0 rfl 47 (by decide) (ht_at hts 12 rfl) (fun _ h9 => h9) rfl (by decide +kernel) rfl rfl (gl_at rfl (gi_of (show x136.toInt = x136.toInt from rfl) (by omega) (by omega))) dX12_farm_132 (fun H locs hT oq m138 oj hS => ?_)
            have hF := hF.put hr_o0 skm_0 oq oj (by decide)
            have m139 := m130.kept (oq _ (gne hg1 hr_o0 (by decide)))
            have m140 := m131.kept (oq _ (gne hg2 hr_o0 (by decide)))
            have m141 := (oj 0 (by decide) (by decide)).trans m133
            have m142 := (el_kept (oq _ (gne hg1 hr_o0 (by decide)))).trans m134
            have m143 := (el_kept (oq _ (gne hg2 hr_o0 (by decide)))).trans m135
            have m144 := (el_kept (oq _ (gne hg128 hr_o0 (by decide)))).trans m129
            refine lv_aload_n hx hb dX12_farm_135 rfl (lv_at hl 1 rfl) ?_
            refine tw_getM (v := .int x136) hx hb hts bF_X12 hown hK hT hr_o0 shm_0 rfl 47 (by decide) (ht_at hts 12 rfl) (fun _ h9 => h9) m138 dX12_farm_136 ?_
            refine lv_iconst (v := 1) hx hb dX12_farm_139 (by decide) ?_
            refine lv_isub hx hb dX12_farm_140 ?_
            refine lv_topi (fun x145 ex145 => ?_)
            have t146 : x145.toInt = x136.toInt - 1 := ti_sub ex145 rfl (by decide) (by omega) (by omega)
            exact W.iret (v := x145) hx hb hr (fun t ht hW => ⟨⟨x145, (u48, x136, (cu aFr nf.toNatClampNeg p0), (cu aTo nf.toNatClampNeg p1)), rfl, (by exact ⟨(by have q8 := ti_all x145; omega), (Or.inr ⟨by have := faC_s p0.toInt p1.toInt; omega, by have q0 : (0 : Int32).toInt = 0 := (by decide); have q1 : (1 : Int32).toInt = 1 := (by decide); have q2 : (2 : Int32).toInt = 2 := (by decide); have q3 : (3 : Int32).toInt = 3 := (by decide); have qm : (-1 : Int32).toInt = -1 := (by decide); omega, Or.inl ⟨fm_a (by omega) hj68, by omega, by omega, rfl, rfl⟩⟩)⟩), by (try dsimp only); rw [ht]; exact ⟨hT, hF, m141, m138, m139, m140⟩⟩, hS.F ht⟩) hS.2.2 dX12_farm_141
          | succ n108 ih108 =>
            intro i63 hn108 hlo109 hj68 H locs hT hF hS m64 m65 m66 m67 ls hl
            have hlt146 : i63 < 96 := by omega
            refine lv_iload_n hx hb dX12_farm_56 rfl (lv_at hl 0 rfl) ?_
            refine lv_bipush (v := 96) hx hb dX12_farm_57 (by decide) ?_
            refine lv_icmp_ge (tgt := 95) hx hb dX12_farm_59 (by decide) (fun c147 => (by exfalso; have q9 : 96 ≤ ((i63 : Nat) : Int) := ti_le c147 (by decide) (nI_toInt (by omega)); omega)) (fun c147 => ?_)
            have t148 : ((i63 : Nat) : Int) < 96 := ti_nle c147 (by decide) (nI_toInt (by omega))
            refine lv_iload_n hx hb dX12_farm_62 rfl (lv_at hl 0 rfl) ?_
            refine lv_iload_n hx hb dX12_farm_63 rfl (lv_at hl 2 rfl) ?_
            refine lv_iload_n hx hb dX12_farm_64 rfl (lv_at hl 3 rfl) ?_
            have hFc := gA_free hG hA hS
            refine va_calli (va_runS (As := [.int (nI i63), .int p0, .int p1]) (rest := []) ⟨hx, hb, hml, hown, hts⟩ (s_isInE l dC dI kA adK adV G H q wZ wN wH wB wC wL wK wU wV PI im PM PT lS lB lE lN (nI i63) p0 p1 hT (rg_t (a := ((i63 : Nat) : Int)) (nI_toInt (by omega)) (by omega) (by omega)) (by have q8 := ti_all p0; omega) (by have q8 := ti_all p1; omega) hgz hgn hgh hgb hgc hgi hgu) (va_cwS 3 hts (goodIn_app (goodIn_r _ [25, 26, 6] rfl (by decide +kernel)) (goodIn_ca (goodIn_r _ [17, 18, 19, 20, 21, 22, 23, 24, 3, 4, 5, 6] rfl (by decide +kernel)) (bs_in _ _))) rfl rfl rfl (by decide +kernel) ⟨(Nat.le_of_ble_eq_true rfl), (Nat.le_of_ble_eq_true rfl)⟩) ⟨fun a U g mk q => by obtain ⟨q0, q1, qK, qE⟩ := q; exact ⟨q0, q1, va_K.moved (u := U) (U := U.calling g mk a) (Vm.Alike.refl U.vm) qK, EVS.blind g mk a qE⟩, fun U hU hW => ⟨rfl, hU, va_K.moved hW.alike hK, hE.call hS hFc hU hW⟩⟩ rfl rfl hl.1 rfl (lv_room (Nat.le_of_ble_eq_true rfl)) dX12_farm_65 ⟨(Nat.le_of_ble_eq_true rfl), (Nat.le_of_ble_eq_true rfl)⟩) hS (fun q _ h => hFc q h) hFc (fun r149 u t H locs ht hvm hw150 hB _ _ hS => ?_)
            obtain ⟨hT, hF1⟩ := hB
            rw [ht] at hT hF1
            have m151 := m64.kept (hF1.arr hg1 skm_44 (by decide))
            have m152 := m65.kept (hF1.arr hg2 skm_45 (by decide))
            have m153 := (hF1.fld hr_o0 skm_0 (k := 47) (by decide) (by decide)).trans m66
            have m154 := (hF1.fld hr_o0 skm_0 (k := 0) (by decide) (by decide)).trans m67
            have hF := hF.more hF1 (by decide)
            try dsimp only at hw150
            obtain ⟨h155, hf156⟩ := hw150
            have t157 : (nI i63).toInt = ((i63 : Nat) : Int) := nI_toInt (by omega)
            refine lv_if_eq (tgt := 89) hx hb dX12_farm_68 (by decide) (fun c158 => ?_) (fun c158 => ?_)
            · have t159 : r149.toInt = 0 := ti_eq c158 rfl (by decide)
              refine lv_iinc (v := nI (i63 + 1)) (lv' := [(3, .int (nI (i63 + 1))), (0, .ref o0), (1, .int p0), (2, .int p1)]) hx hb dX12_farm_89 hl (k := 0) rfl (nI_add i63 1) (by decide) rfl (fun ls hl => ?_)
              refine lv_goto (tgt := 56) hx hb dX12_farm_92 (by decide) ?_
              exact ih108 (i63 + 1) (by omega) (by omega) (by have q0 : (0 : Int32).toInt = 0 := (by decide); have q1 : (1 : Int32).toInt = 1 := (by decide); have q2 : (2 : Int32).toInt = 2 := (by decide); have q3 : (3 : Int32).toInt = 3 := (by decide); have qm : (-1 : Int32).toInt = -1 := (by decide); first | exact fmK_out (inR_0 (s := ((i63 : Nat) : Int)) (a := p0.toInt) (b := p1.toInt) (by have q9 : (nI i63).toInt = ((i63 : Nat) : Int) := nI_toInt (by omega); omega)) hj68 | exact fmK_ok (wdL_1 hL (by omega) (tn_nI (by omega)) (by assumption)) (fF_0 hF9 (by omega) (nI_toInt (by omega)) ((trivial).resolve_right (fun h8 => by have := h8.1; omega)).2) hj68) _ _ hT hF hS m151 m152 m153 m154 ls (lv_sub hl [0, 1, 2, 3] rfl)
            · have t160 : r149.toInt ≠ 0 := ti_ne c158 rfl (by decide)
              refine lv_aload_n hx hb dX12_farm_71 rfl (lv_at hl 1 rfl) ?_
              refine lv_iload_n hx hb dX12_farm_72 rfl (lv_at hl 0 rfl) ?_
              have hFc := gA_free hG hA hS
              refine va_calli (va_runV (As := [.int (nI i63)]) (rest := []) ⟨hx, hb, hml, hown, hts⟩ (s_isLand l dC dI kA adK adV G H q wZ wN wH wB wC wL wK wU wV PI im PM PT lS lB lE lN o0 (nI i63) hT hr_o0 (rg_t (a := ((i63 : Nat) : Int)) (nI_toInt (by omega)) (by omega) (by omega)) hgz hgn hgh hgb hgc hgi hgu) (cwV 1 hts (goodIn_app (goodIn_r _ [29, 30, 31, 6] rfl (by decide +kernel)) (goodIn_ca (goodIn_r _ [27, 28] rfl (by decide +kernel)) (bs_in _ _))) rfl rfl rfl (by decide +kernel) ⟨(Nat.le_of_ble_eq_true rfl), (Nat.le_of_ble_eq_true rfl)⟩) ⟨fun a U g mk q => by obtain ⟨q0, q1, qK, qE⟩ := q; exact ⟨q0, q1, va_K.moved (u := U) (U := U.calling g mk a) (Vm.Alike.refl U.vm) qK, EVS.blind g mk a qE⟩, gH_rc hK hT hr_o0 shm_0 rfl, fun U hU hW => ⟨rfl, hU, va_K.moved hW.alike hK, hE.call hS hFc hU hW⟩⟩ rfl rfl hl.1 rfl (lv_room (Nat.le_of_ble_eq_true rfl)) dX12_farm_73 ⟨(Nat.le_of_ble_eq_true rfl), (Nat.le_of_ble_eq_true rfl)⟩) hS (fun q _ h => hFc q h) hFc (fun r161 u t H locs ht hvm hw162 hB _ _ hS => ?_)
              obtain ⟨hT, hF1⟩ := hB
              rw [ht] at hT hF1
              have m163 := m151.kept (hF1.arr hg1 skm_44 (by decide))
              have m164 := m152.kept (hF1.arr hg2 skm_45 (by decide))
              have m165 := (hF1.fld hr_o0 skm_0 (k := 47) (by decide) (by decide)).trans m153
              have m166 := (hF1.fld hr_o0 skm_0 (k := 0) (by decide) (by decide)).trans m154
              have hF := hF.more hF1 (by decide)
              try dsimp only at hw162
              obtain ⟨h167, hi168, hi169⟩ := hw162
              refine lv_if_eq (tgt := 87) hx hb dX12_farm_76 (by decide) (fun c170 => ?_) (fun c170 => ?_)
              · have t171 : r161.toInt = 0 := ti_eq c170 rfl (by decide)
                have t172 : ¬ wL (nI i63).toNatClampNeg := hi169 c170
                refine lv_iconst (v := (-1)) hx hb dX12_farm_87 (by decide) ?_
                exact W.iret (v := (-1)) hx hb hr (fun t ht hW => ⟨⟨(-1), (u48, nf, aFr, aTo), rfl, (by exact ⟨(rg_t (a := (-1)) (by decide) (by first | decide | omega) (by first | decide | omega)), (by have q0 : (0 : Int32).toInt = 0 := (by decide); have q1 : (1 : Int32).toInt = 1 := (by decide); have q2 : (2 : Int32).toInt = 2 := (by decide); have q3 : (3 : Int32).toInt = 3 := (by decide); have qm : (-1 : Int32).toInt = -1 := (by decide); first | exact Or.inr ⟨by have := faC_s p0.toInt p1.toInt; have q0 : (0 : Int32).toInt = 0 := (by decide); have q1 : (1 : Int32).toInt = 1 := (by decide); have q2 : (2 : Int32).toInt = 2 := (by decide); have q3 : (3 : Int32).toInt = 3 := (by decide); have qm : (-1 : Int32).toInt = -1 := (by decide); omega, by have q0 : (0 : Int32).toInt = 0 := (by decide); have q1 : (1 : Int32).toInt = 1 := (by decide); have q2 : (2 : Int32).toInt = 2 := (by decide); have q3 : (3 : Int32).toInt = 3 := (by decide); have qm : (-1 : Int32).toInt = -1 := (by decide); omega, Or.inr ⟨fm_g (fm_e (fmK_no (inR_1 (s := ((i63 : Nat) : Int)) (a := p0.toInt) (b := p1.toInt) (by have q9 : (nI i63).toInt = ((i63 : Nat) : Int) := nI_toInt (by omega); omega)) (Or.inr (fF_1 hF9 (by omega) (nI_toInt (by omega)) ((trivial).resolve_left (fun h8 => by have := h8.1; omega)).2)))) (by omega), by decide, by omega, rfl, rfl⟩⟩ | exact Or.inr ⟨by have := faC_s p0.toInt p1.toInt; have q0 : (0 : Int32).toInt = 0 := (by decide); have q1 : (1 : Int32).toInt = 1 := (by decide); have q2 : (2 : Int32).toInt = 2 := (by decide); have q3 : (3 : Int32).toInt = 3 := (by decide); have qm : (-1 : Int32).toInt = -1 := (by decide); omega, by have q0 : (0 : Int32).toInt = 0 := (by decide); have q1 : (1 : Int32).toInt = 1 := (by decide); have q2 : (2 : Int32).toInt = 2 := (by decide); have q3 : (3 : Int32).toInt = 3 := (by decide); have qm : (-1 : Int32).toInt = -1 := (by decide); omega, Or.inr ⟨fm_g (fm_e (fmK_no (inR_1 (s := ((i63 : Nat) : Int)) (a := p0.toInt) (b := p1.toInt) (by have q9 : (nI i63).toInt = ((i63 : Nat) : Int) := nI_toInt (by omega); omega)) (Or.inl (wdL_0 hL (by omega) (tn_nI (by omega)) (by assumption))))) (by omega), by decide, by omega, rfl, rfl⟩⟩ | exact Or.inl ⟨by have := faC_s p0.toInt p1.toInt; have q0 : (0 : Int32).toInt = 0 := (by decide); have q1 : (1 : Int32).toInt = 1 := (by decide); have q2 : (2 : Int32).toInt = 2 := (by decide); have q3 : (3 : Int32).toInt = 3 := (by decide); have qm : (-1 : Int32).toInt = -1 := (by decide); omega, by have q0 : (0 : Int32).toInt = 0 := (by decide); have q1 : (1 : Int32).toInt = 1 := (by decide); have q2 : (2 : Int32).toInt = 2 := (by decide); have q3 : (3 : Int32).toInt = 3 := (by decide); have qm : (-1 : Int32).toInt = -1 := (by decide); omega, by omega, rfl, rfl⟩ | exact Or.inr ⟨by have := faC_s p0.toInt p1.toInt; have q0 : (0 : Int32).toInt = 0 := (by decide); have q1 : (1 : Int32).toInt = 1 := (by decide); have q2 : (2 : Int32).toInt = 2 := (by decide); have q3 : (3 : Int32).toInt = 3 := (by decide); have qm : (-1 : Int32).toInt = -1 := (by decide); omega, by have q0 : (0 : Int32).toInt = 0 := (by decide); have q1 : (1 : Int32).toInt = 1 := (by decide); have q2 : (2 : Int32).toInt = 2 := (by decide); have q3 : (3 : Int32).toInt = 3 := (by decide); have qm : (-1 : Int32).toInt = -1 := (by decide); omega, Or.inr ⟨fm_b (by omega), by decide, by omega, rfl, rfl⟩⟩)⟩), by (try dsimp only); rw [ht]; exact ⟨hT, hF, m166, m165, m163, m164⟩⟩, hS.F ht⟩) hS.2.2 dX12_farm_88
              · have t173 : r161.toInt ≠ 0 := ti_ne c170 rfl (by decide)
                have t174 : wL (nI i63).toNatClampNeg := hi168 ((bit_of ⟨by omega, by omega⟩).resolve_left c170)
                refine lv_aload_n hx hb dX12_farm_79 rfl (lv_at hl 1 rfl) ?_
                refine lv_iload_n hx hb dX12_farm_80 rfl (lv_at hl 0 rfl) ?_
                have hFc := gA_free hG hA hS
                refine va_calli (va_runV (As := [.int (nI i63)]) (rest := []) ⟨hx, hb, hml, hown, hts⟩ (s_farmOfC l dC dI kA adK adV G H q wZ wN wH wB wC wL wK wU wV PI im PM PT lS lB lE lN o0 (nI i63) nf aFr aTo hT hr_o0 m165 (rg_t (a := ((i63 : Nat) : Int)) (nI_toInt (by omega)) (by omega) (by omega)) (by have q8 := ti_all nf; omega) hAB m163 m164 hgz hgn hgh hgb hgc hgi hgu) (cwV 1 hts (goodIn_app (goodIn_r _ [33, 34, 35, 6] rfl (by decide +kernel)) (goodIn_ca (goodIn_r _ [32, 13, 14, 15, 17, 18, 19, 20, 21, 22, 23, 24, 3, 4, 5, 6, 25, 26] rfl (by decide +kernel)) (bs_in _ _))) rfl rfl rfl (by decide +kernel) ⟨(Nat.le_of_ble_eq_true rfl), (Nat.le_of_ble_eq_true rfl)⟩) ⟨fun a U g mk q => by obtain ⟨q0, q1, qK, qE⟩ := q; exact ⟨q0, q1, va_K.moved (u := U) (U := U.calling g mk a) (Vm.Alike.refl U.vm) qK, EVS.blind g mk a qE⟩, gH_rc hK hT hr_o0 shm_0 rfl, fun U hU hW => ⟨rfl, hU, va_K.moved hW.alike hK, hE.call hS hFc hU hW⟩⟩ rfl rfl hl.1 rfl (lv_room (Nat.le_of_ble_eq_true rfl)) dX12_farm_81 ⟨(Nat.le_of_ble_eq_true rfl), (Nat.le_of_ble_eq_true rfl)⟩) hS (fun q _ h => hFc q h) hFc (fun r175 u t H locs ht hvm hw176 hB _ _ hS => ?_)
                obtain ⟨hT, hF1⟩ := hB
                rw [ht] at hT hF1
                have m177 := m163.kept (hF1.arr hg1 skm_44 (by decide))
                have m178 := m164.kept (hF1.arr hg2 skm_45 (by decide))
                have m179 := (hF1.fld hr_o0 skm_0 (k := 47) (by decide) (by decide)).trans m165
                have m180 := (hF1.fld hr_o0 skm_0 (k := 0) (by decide) (by decide)).trans m166
                have hF := hF.more hF1 (by decide)
                try dsimp only at hw176
                obtain ⟨h181, hf182⟩ := hw176
                refine lv_if_lt (tgt := 89) hx hb dX12_farm_84 (by decide) (fun c183 => ?_) (fun c183 => ?_)
                · have t184 : r175.toInt < 0 := ti_lt c183 rfl (by decide)
                  refine lv_iinc (v := nI (i63 + 1)) (lv' := [(3, .int (nI (i63 + 1))), (0, .ref o0), (1, .int p0), (2, .int p1)]) hx hb dX12_farm_89 hl (k := 0) rfl (nI_add i63 1) (by decide) rfl (fun ls hl => ?_)
                  refine lv_goto (tgt := 56) hx hb dX12_farm_92 (by decide) ?_
                  exact ih108 (i63 + 1) (by omega) (by omega) (by have q0 : (0 : Int32).toInt = 0 := (by decide); have q1 : (1 : Int32).toInt = 1 := (by decide); have q2 : (2 : Int32).toInt = 2 := (by decide); have q3 : (3 : Int32).toInt = 3 := (by decide); have qm : (-1 : Int32).toInt = -1 := (by decide); first | exact fmK_out (inR_0 (s := ((i63 : Nat) : Int)) (a := p0.toInt) (b := p1.toInt) (by have q9 : (nI i63).toInt = ((i63 : Nat) : Int) := nI_toInt (by omega); omega)) hj68 | exact fmK_ok (wdL_1 hL (by omega) (tn_nI (by omega)) (by assumption)) (fF_0 hF9 (by omega) (nI_toInt (by omega)) ((hf182).resolve_right (fun h8 => by have := h8.1; omega)).2) hj68) _ _ hT hF hS m177 m178 m179 m180 ls (lv_sub hl [0, 1, 2, 3] rfl)
                · have t185 : 0 ≤ r175.toInt := ti_nlt c183 rfl (by decide)
                  refine lv_iconst (v := (-1)) hx hb dX12_farm_87 (by decide) ?_
                  exact W.iret (v := (-1)) hx hb hr (fun t ht hW => ⟨⟨(-1), (u48, nf, aFr, aTo), rfl, (by exact ⟨(rg_t (a := (-1)) (by decide) (by first | decide | omega) (by first | decide | omega)), (by have q0 : (0 : Int32).toInt = 0 := (by decide); have q1 : (1 : Int32).toInt = 1 := (by decide); have q2 : (2 : Int32).toInt = 2 := (by decide); have q3 : (3 : Int32).toInt = 3 := (by decide); have qm : (-1 : Int32).toInt = -1 := (by decide); first | exact Or.inr ⟨by have := faC_s p0.toInt p1.toInt; have q0 : (0 : Int32).toInt = 0 := (by decide); have q1 : (1 : Int32).toInt = 1 := (by decide); have q2 : (2 : Int32).toInt = 2 := (by decide); have q3 : (3 : Int32).toInt = 3 := (by decide); have qm : (-1 : Int32).toInt = -1 := (by decide); omega, by have q0 : (0 : Int32).toInt = 0 := (by decide); have q1 : (1 : Int32).toInt = 1 := (by decide); have q2 : (2 : Int32).toInt = 2 := (by decide); have q3 : (3 : Int32).toInt = 3 := (by decide); have qm : (-1 : Int32).toInt = -1 := (by decide); omega, Or.inr ⟨fm_g (fm_e (fmK_no (inR_1 (s := ((i63 : Nat) : Int)) (a := p0.toInt) (b := p1.toInt) (by have q9 : (nI i63).toInt = ((i63 : Nat) : Int) := nI_toInt (by omega); omega)) (Or.inr (fF_1 hF9 (by omega) (nI_toInt (by omega)) ((hf182).resolve_left (fun h8 => by have := h8.1; omega)).2)))) (by omega), by decide, by omega, rfl, rfl⟩⟩ | exact Or.inr ⟨by have := faC_s p0.toInt p1.toInt; have q0 : (0 : Int32).toInt = 0 := (by decide); have q1 : (1 : Int32).toInt = 1 := (by decide); have q2 : (2 : Int32).toInt = 2 := (by decide); have q3 : (3 : Int32).toInt = 3 := (by decide); have qm : (-1 : Int32).toInt = -1 := (by decide); omega, by have q0 : (0 : Int32).toInt = 0 := (by decide); have q1 : (1 : Int32).toInt = 1 := (by decide); have q2 : (2 : Int32).toInt = 2 := (by decide); have q3 : (3 : Int32).toInt = 3 := (by decide); have qm : (-1 : Int32).toInt = -1 := (by decide); omega, Or.inr ⟨fm_g (fm_e (fmK_no (inR_1 (s := ((i63 : Nat) : Int)) (a := p0.toInt) (b := p1.toInt) (by have q9 : (nI i63).toInt = ((i63 : Nat) : Int) := nI_toInt (by omega); omega)) (Or.inl (wdL_0 hL (by omega) (tn_nI (by omega)) (by assumption))))) (by omega), by decide, by omega, rfl, rfl⟩⟩ | exact Or.inl ⟨by have := faC_s p0.toInt p1.toInt; have q0 : (0 : Int32).toInt = 0 := (by decide); have q1 : (1 : Int32).toInt = 1 := (by decide); have q2 : (2 : Int32).toInt = 2 := (by decide); have q3 : (3 : Int32).toInt = 3 := (by decide); have qm : (-1 : Int32).toInt = -1 := (by decide); omega, by have q0 : (0 : Int32).toInt = 0 := (by decide); have q1 : (1 : Int32).toInt = 1 := (by decide); have q2 : (2 : Int32).toInt = 2 := (by decide); have q3 : (3 : Int32).toInt = 3 := (by decide); have qm : (-1 : Int32).toInt = -1 := (by decide); omega, by omega, rfl, rfl⟩ | exact Or.inr ⟨by have := faC_s p0.toInt p1.toInt; have q0 : (0 : Int32).toInt = 0 := (by decide); have q1 : (1 : Int32).toInt = 1 := (by decide); have q2 : (2 : Int32).toInt = 2 := (by decide); have q3 : (3 : Int32).toInt = 3 := (by decide); have qm : (-1 : Int32).toInt = -1 := (by decide); omega, by have q0 : (0 : Int32).toInt = 0 := (by decide); have q1 : (1 : Int32).toInt = 1 := (by decide); have q2 : (2 : Int32).toInt = 2 := (by decide); have q3 : (3 : Int32).toInt = 3 := (by decide); have qm : (-1 : Int32).toInt = -1 := (by decide); omega, Or.inr ⟨fm_b (by omega), by decide, by omega, rfl, rfl⟩⟩)⟩), by (try dsimp only); rw [ht]; exact ⟨hT, hF, m180, m179, m177, m178⟩⟩, hS.F ht⟩) hS.2.2 dX12_farm_88
        exact key108 (96 - 0) 0 (by omega) (Nat.le_refl _) rfl _ _ hT hF hS m51 m52 m50 m49 ls (lv_sub hl [0, 1, 2, 3] rfl)
      · have t186 : nf.toInt = 30 := ti_eq c61 rfl (by decide)
        refine lv_aload_n hx hb dX12_farm_41 rfl (lv_at hl 0 rfl) ?_
        refine tw_getM (v := .int u48) hx hb hts bF_X12 hown hK hT hr_o0 shm_0 rfl 0 (by decide) (ht_at hts 0 rfl) (fun _ h9 => h9) m49 dX12_farm_42 ?_
        refine lv_if_eq (tgt := 52) hx hb dX12_farm_45 (by decide) (fun c187 => ?_) (fun c187 => ?_)
        · have t188 : u48.toInt = 0 := ti_eq c187 rfl (by decide)
          refine lv_iconst (v := (-1)) hx hb dX12_farm_52 (by decide) ?_
          exact W.iret (v := (-1)) hx hb hr (fun t ht hW => ⟨⟨(-1), (u48, nf, aFr, aTo), rfl, (by exact ⟨(rg_t (a := (-1)) (by decide) (by first | decide | omega) (by first | decide | omega)), (by have q0 : (0 : Int32).toInt = 0 := (by decide); have q1 : (1 : Int32).toInt = 1 := (by decide); have q2 : (2 : Int32).toInt = 2 := (by decide); have q3 : (3 : Int32).toInt = 3 := (by decide); have qm : (-1 : Int32).toInt = -1 := (by decide); first | exact Or.inl ⟨by have := faC_s p0.toInt p1.toInt; have q0 : (0 : Int32).toInt = 0 := (by decide); have q1 : (1 : Int32).toInt = 1 := (by decide); have q2 : (2 : Int32).toInt = 2 := (by decide); have q3 : (3 : Int32).toInt = 3 := (by decide); have qm : (-1 : Int32).toInt = -1 := (by decide); omega, by have q0 : (0 : Int32).toInt = 0 := (by decide); have q1 : (1 : Int32).toInt = 1 := (by decide); have q2 : (2 : Int32).toInt = 2 := (by decide); have q3 : (3 : Int32).toInt = 3 := (by decide); have qm : (-1 : Int32).toInt = -1 := (by decide); omega, by omega, rfl, rfl⟩ | exact Or.inr ⟨by have := faC_s p0.toInt p1.toInt; have q0 : (0 : Int32).toInt = 0 := (by decide); have q1 : (1 : Int32).toInt = 1 := (by decide); have q2 : (2 : Int32).toInt = 2 := (by decide); have q3 : (3 : Int32).toInt = 3 := (by decide); have qm : (-1 : Int32).toInt = -1 := (by decide); omega, by have q0 : (0 : Int32).toInt = 0 := (by decide); have q1 : (1 : Int32).toInt = 1 := (by decide); have q2 : (2 : Int32).toInt = 2 := (by decide); have q3 : (3 : Int32).toInt = 3 := (by decide); have qm : (-1 : Int32).toInt = -1 := (by decide); omega, Or.inr ⟨fm_b (by omega), by decide, by omega, rfl, rfl⟩⟩)⟩), by (try dsimp only); rw [ht]; exact ⟨hT, hF, m49, m50, m51, m52⟩⟩, hS.F ht⟩) hS.2.2 dX12_farm_53
        · have t189 : u48.toInt ≠ 0 := ti_ne c187 rfl (by decide)
          refine lv_iconst (v := 0) hx hb dX12_farm_48 (by decide) ?_
          refine lv_goto (tgt := 53) hx hb dX12_farm_49 (by decide) ?_
          exact W.iret (v := 0) hx hb hr (fun t ht hW => ⟨⟨0, (u48, nf, aFr, aTo), rfl, (by exact ⟨(rg_t (a := 0) (by decide) (by first | decide | omega) (by first | decide | omega)), (by have q0 : (0 : Int32).toInt = 0 := (by decide); have q1 : (1 : Int32).toInt = 1 := (by decide); have q2 : (2 : Int32).toInt = 2 := (by decide); have q3 : (3 : Int32).toInt = 3 := (by decide); have qm : (-1 : Int32).toInt = -1 := (by decide); first | exact Or.inl ⟨by have := faC_s p0.toInt p1.toInt; have q0 : (0 : Int32).toInt = 0 := (by decide); have q1 : (1 : Int32).toInt = 1 := (by decide); have q2 : (2 : Int32).toInt = 2 := (by decide); have q3 : (3 : Int32).toInt = 3 := (by decide); have qm : (-1 : Int32).toInt = -1 := (by decide); omega, by have q0 : (0 : Int32).toInt = 0 := (by decide); have q1 : (1 : Int32).toInt = 1 := (by decide); have q2 : (2 : Int32).toInt = 2 := (by decide); have q3 : (3 : Int32).toInt = 3 := (by decide); have qm : (-1 : Int32).toInt = -1 := (by decide); omega, by omega, rfl, rfl⟩ | exact Or.inr ⟨by have := faC_s p0.toInt p1.toInt; have q0 : (0 : Int32).toInt = 0 := (by decide); have q1 : (1 : Int32).toInt = 1 := (by decide); have q2 : (2 : Int32).toInt = 2 := (by decide); have q3 : (3 : Int32).toInt = 3 := (by decide); have qm : (-1 : Int32).toInt = -1 := (by decide); omega, by have q0 : (0 : Int32).toInt = 0 := (by decide); have q1 : (1 : Int32).toInt = 1 := (by decide); have q2 : (2 : Int32).toInt = 2 := (by decide); have q3 : (3 : Int32).toInt = 3 := (by decide); have qm : (-1 : Int32).toInt = -1 := (by decide); omega, Or.inr ⟨fm_b (by omega), by decide, by omega, rfl, rfl⟩⟩)⟩), by (try dsimp only); rw [ht]; exact ⟨hT, hF, m49, m50, m51, m52⟩⟩, hS.F ht⟩) hS.2.2 dX12_farm_53
    · have t190 : r36.toInt ≠ 0 := ti_ne c44 rfl (by decide)
      refine lv_iconst (v := 1) hx hb dX12_farm_20 (by decide) ?_
      refine lv_goto (tgt := 25) hx hb dX12_farm_21 (by decide) ?_
      refine lv_iconst (v := 1) hx hb dX12_farm_25 (by decide) ?_
      have hFc := gA_free hG hA hS
      refine va_calli (va_runV (As := [.int 1, .int 1]) (rest := []) ⟨hx, hb, hml, hown, hts⟩ (s_throwsIfP l dC dI kA adK adV G H q wZ wN wH wB wC wL wK wU wV PI im PM PT lS lB lE lN o0 1 1 0 hT hr_o0 m41 (rg_t (a := 1) (by decide) (by first | decide | omega) (by first | decide | omega)) hgz hgn hgh hgb hgc hgi hgu) (cwV 2 hts (goodIn_app (goodIn_r _ [10, 11, 12, 6] rfl (by decide +kernel)) (goodIn_ca (goodIn_r _ [9, 1] rfl (by decide +kernel)) (bs_in _ _))) rfl rfl rfl (by decide +kernel) ⟨(Nat.le_of_ble_eq_true rfl), (Nat.le_of_ble_eq_true rfl)⟩) ⟨fun a U g mk q => by obtain ⟨q0, q1, qK, qE⟩ := q; exact ⟨q0, q1, va_K.moved (u := U) (U := U.calling g mk a) (Vm.Alike.refl U.vm) qK, EVS.blind g mk a qE⟩, gH_rc hK hT hr_o0 shm_0 rfl, fun U hU hW => ⟨rfl, hU, va_K.moved hW.alike hK, hE.call hS hFc hU hW⟩⟩ rfl rfl hl.1 rfl (lv_room (Nat.le_of_ble_eq_true rfl)) dX12_farm_26 ⟨(Nat.le_of_ble_eq_true rfl), (Nat.le_of_ble_eq_true rfl)⟩) hS (fun q _ h => hFc q h) hFc (fun r191 u t H locs ht hvm hw192 hB _ _ hS => ?_)
      obtain ⟨u193, rfl⟩ : ∃ z, z = u := ⟨_, rfl⟩
      obtain ⟨hT, hF1, m194⟩ := hB
      rw [ht] at hT hF1 m194
      have m195 := (hF1.fld hr_o0 skm_0 (k := 47) (by decide) (by decide)).trans m38
      have m196 := m39.kept (hF1.arr hg1 skm_44 (by decide))
      have m197 := m40.kept (hF1.arr hg2 skm_45 (by decide))
      have hF := hF.more hF1 (by decide)
      try dsimp only at hw192
      obtain ⟨h199, hf200, hd201⟩ := hw192
      have t202 : (1 : Int32).toInt = 1 := by decide
      have t203 : (1 : Int32).toInt = 1 := by decide
      have t204 : (0 : Int32).toInt = 0 := by decide
      obtain rfl : (1 : Int32) = r191 := hd201.symm
      refine lv_if_ne (tgt := 41) hx hb dX12_farm_29 (by decide) (fun c205 => ?_) (fun c205 => absurd c205 (by decide))
      refine lv_aload_n hx hb dX12_farm_41 rfl (lv_at hl 0 rfl) ?_
      refine tw_getM (v := .int u193) hx hb hts bF_X12 hown hK hT hr_o0 shm_0 rfl 0 (by decide) (ht_at hts 0 rfl) (fun _ h9 => h9) m194 dX12_farm_42 ?_
      refine lv_if_eq (tgt := 52) hx hb dX12_farm_45 (by decide) (fun c206 => ?_) (fun c206 => ?_)
      · have t207 : u193.toInt = 0 := ti_eq c206 rfl (by decide)
        refine lv_iconst (v := (-1)) hx hb dX12_farm_52 (by decide) ?_
        exact W.iret (v := (-1)) hx hb hr (fun t ht hW => ⟨⟨(-1), (u193, nf, aFr, aTo), rfl, (by exact ⟨(rg_t (a := (-1)) (by decide) (by first | decide | omega) (by first | decide | omega)), (by have q0 : (0 : Int32).toInt = 0 := (by decide); have q1 : (1 : Int32).toInt = 1 := (by decide); have q2 : (2 : Int32).toInt = 2 := (by decide); have q3 : (3 : Int32).toInt = 3 := (by decide); have qm : (-1 : Int32).toInt = -1 := (by decide); first | exact Or.inl ⟨by have := faC_s p0.toInt p1.toInt; have q0 : (0 : Int32).toInt = 0 := (by decide); have q1 : (1 : Int32).toInt = 1 := (by decide); have q2 : (2 : Int32).toInt = 2 := (by decide); have q3 : (3 : Int32).toInt = 3 := (by decide); have qm : (-1 : Int32).toInt = -1 := (by decide); omega, by have q0 : (0 : Int32).toInt = 0 := (by decide); have q1 : (1 : Int32).toInt = 1 := (by decide); have q2 : (2 : Int32).toInt = 2 := (by decide); have q3 : (3 : Int32).toInt = 3 := (by decide); have qm : (-1 : Int32).toInt = -1 := (by decide); omega, by omega, rfl, rfl⟩ | exact Or.inr ⟨by have := faC_s p0.toInt p1.toInt; have q0 : (0 : Int32).toInt = 0 := (by decide); have q1 : (1 : Int32).toInt = 1 := (by decide); have q2 : (2 : Int32).toInt = 2 := (by decide); have q3 : (3 : Int32).toInt = 3 := (by decide); have qm : (-1 : Int32).toInt = -1 := (by decide); omega, by have q0 : (0 : Int32).toInt = 0 := (by decide); have q1 : (1 : Int32).toInt = 1 := (by decide); have q2 : (2 : Int32).toInt = 2 := (by decide); have q3 : (3 : Int32).toInt = 3 := (by decide); have qm : (-1 : Int32).toInt = -1 := (by decide); omega, Or.inr ⟨fm_b (by omega), by decide, by omega, rfl, rfl⟩⟩)⟩), by (try dsimp only); rw [ht]; exact ⟨hT, hF, m194, m195, m196, m197⟩⟩, hS.F ht⟩) hS.2.2 dX12_farm_53
      · have t208 : u193.toInt ≠ 0 := ti_ne c206 rfl (by decide)
        refine lv_iconst (v := 0) hx hb dX12_farm_48 (by decide) ?_
        refine lv_goto (tgt := 53) hx hb dX12_farm_49 (by decide) ?_
        exact W.iret (v := 0) hx hb hr (fun t ht hW => ⟨⟨0, (u193, nf, aFr, aTo), rfl, (by exact ⟨(rg_t (a := 0) (by decide) (by first | decide | omega) (by first | decide | omega)), (by have q0 : (0 : Int32).toInt = 0 := (by decide); have q1 : (1 : Int32).toInt = 1 := (by decide); have q2 : (2 : Int32).toInt = 2 := (by decide); have q3 : (3 : Int32).toInt = 3 := (by decide); have qm : (-1 : Int32).toInt = -1 := (by decide); first | exact Or.inl ⟨by have := faC_s p0.toInt p1.toInt; have q0 : (0 : Int32).toInt = 0 := (by decide); have q1 : (1 : Int32).toInt = 1 := (by decide); have q2 : (2 : Int32).toInt = 2 := (by decide); have q3 : (3 : Int32).toInt = 3 := (by decide); have qm : (-1 : Int32).toInt = -1 := (by decide); omega, by have q0 : (0 : Int32).toInt = 0 := (by decide); have q1 : (1 : Int32).toInt = 1 := (by decide); have q2 : (2 : Int32).toInt = 2 := (by decide); have q3 : (3 : Int32).toInt = 3 := (by decide); have qm : (-1 : Int32).toInt = -1 := (by decide); omega, by omega, rfl, rfl⟩ | exact Or.inr ⟨by have := faC_s p0.toInt p1.toInt; have q0 : (0 : Int32).toInt = 0 := (by decide); have q1 : (1 : Int32).toInt = 1 := (by decide); have q2 : (2 : Int32).toInt = 2 := (by decide); have q3 : (3 : Int32).toInt = 3 := (by decide); have qm : (-1 : Int32).toInt = -1 := (by decide); omega, by have q0 : (0 : Int32).toInt = 0 := (by decide); have q1 : (1 : Int32).toInt = 1 := (by decide); have q2 : (2 : Int32).toInt = 2 := (by decide); have q3 : (3 : Int32).toInt = 3 := (by decide); have qm : (-1 : Int32).toInt = -1 := (by decide); omega, Or.inr ⟨fm_b (by omega), by decide, by omega, rfl, rfl⟩⟩)⟩), by (try dsimp only); rw [ht]; exact ⟨hT, hF, m194, m195, m196, m197⟩⟩, hS.F ht⟩) hS.2.2 dX12_farm_53
def w_s_noFarmE : List Cond := .code yX12_noFarm cX12_noFarm 2 (some .boolean) :: (HAppend.hAppend (α := List Cond) (β := List Cond) (γ := List Cond) [.fieldLink RX12 498 "SeaLandModel" "farms" "I", .code yX12_in cX12_in 3 (some .boolean), .methodLink RX12 197 yX12_in, .static yX12_in, .initialized RX12] bs)
set_option maxHeartbeats 4000000 in
set_option maxRecDepth 100000 in
theorem s_noFarmE (l : Launch) (dC : Nat → ClassId) (dI : Nat → Nat → Nat) (kA : Nat → ClassId) (adK adV : Nat → Nat) (G : gT) (H0 : Heap) (q : Nat → Nat) (wZ wN : Nat → Int) (wH wB wC : Int) (wL wK : Nat → Prop) (wU wV : Nat → Nat) (PI : Nat → Int → Prop) (im : Int) (PM PT : Nat → Int → Prop) (lS lB lE : Nat → Nat → Int → Prop) (lN : Nat → Int) (o0 : Nat) (w : Int32) (nf : Int32)  (hT : gH (dC, dI) kA (SHm q (wP wZ wN wH wB wC wL wK wU wV) PI im PM PT lS lB lE lN) G H0) (hr_o0 : G o0 = some 0) (hm_nf : el H0 o0 (dI 15 47) = some (.int nf)) (hq0 : 0 ≤ nf.toInt ∧ nf.toInt ≤ 30) (hgz : ∀ i, 0 ≤ wZ i) (hgn : ∀ i, 6500000 ≤ wN i ∧ wN i ≤ 20200000) (hgh : 0 ≤ wH ∧ wH ≤ 40000) (hgb : 0 ≤ wB ∧ wB ≤ 3850000) (hgc : 0 ≤ wC ∧ wC ≤ 30) (hgi : 0 ≤ im ∧ im ≤ 1) (hgu : ∀ a t, G a = some (t + 1) → a = q t) : Met l yX12_noFarm w_s_noFarmE ({ frames := 1, cells := 0, slots := 0, locals := 22 }) (va_Pc [.ref o0, .int w] (fun U => U.heap = H0 ∧ va_K (dC, dI) vwCl (tyl kA) U ∧ EVS adK adV (gA G H0.size) U U.heap)) (va_Qi (fun (r : Int32) (u : Unit) => (0 ≤ r.toInt ∧ r.toInt ≤ 1) ∧ ((r.toInt = 0 ∧ (0 ≤ w.toInt ∧ w.toInt < nf.toInt)) ∨ (r.toInt = 1 ∧ ¬ (0 ≤ w.toInt ∧ w.toInt < nf.toInt)))) (fun (_ : Unit) (t : State) => gH (dC, dI) kA (SHm q (wP wZ wN wH wB wC wL wK wU wV) PI im PM PT lS lB lE lN) G t.heap ∧ gF (dC, dI) SKm G ([] : List (Nat × Nat)) H0 t.heap) (gA G H0.size)) 0 0 (gA G H0.size) := by
  refine Met.ofW (cc := cX12_noFarm) (maxL := 2) (ret := (some .boolean)) (by decide) rfl ?_
  intro p e s m args below meth c s₁ B hml hv
  obtain ⟨rfl, hH0, hK, hE⟩ := hv
  have hx := B.exec
  have hb := B.bytes
  have hr := B.returns
  have hts := atoms_spec (ws := w_s_noFarmE) B.pre
  have hown : s.vm.findClass RX12 = some m.cls := findClass_of_methodNamed B.named
  have hlocks := B.notSynchronized
  subst hH0
  generalize hAe : gA G s.heap.size = A at hE ⊢
  have hA : ∀ q : Nat, s.heap.size ≤ q → A q := fun q h => by rw [← hAe]; exact Or.inr h
  have hG := gA_of hAe
  have hS : va_S A s.heap s.heap [] := va_S.rf
  have hF : gF (dC, dI) SKm G ([] : List (Nat × Nat)) s.heap s.heap := gF.rf
  have hl := lv_entry ([.ref o0, .int w]) (n := 2) (Nat.le_of_ble_eq_true rfl)
  rw [lg_entry_eq]
  generalize (lg_sl ([.ref o0, .int w]) ++ List.replicate (2 - (lg_sl ([.ref o0, .int w])).length) Slot.unset).toArray = ls at hl ⊢
  have hl : lv_has ls 2 [(0, .ref o0), (1, .int w)] := hl
  refine lv_iload_n hx hb dX12_noFarm_0 rfl (lv_at hl 1 rfl) ?_
  refine lv_iconst (v := 0) hx hb dX12_noFarm_1 (by decide) ?_
  refine lv_aload_n hx hb dX12_noFarm_2 rfl (lv_at hl 0 rfl) ?_
  refine tw_getM (v := .int nf) hx hb hts bF_X12 hown hK hT hr_o0 shm_0 rfl 47 (by decide) (ht_at hts 0 rfl) (fun _ h9 => h9) hm_nf dX12_noFarm_3 ?_
  refine lv_iconst (v := 1) hx hb dX12_noFarm_6 (by decide) ?_
  refine lv_isub hx hb dX12_noFarm_7 ?_
  refine lv_topi (fun x1 ex1 => ?_)
  have t2 : x1.toInt = nf.toInt - 1 := ti_sub ex1 rfl (by decide) (by omega) (by omega)
  have hFc := gA_free hG hA hS
  refine va_calli (va_runS (As := [.int w, .int 0, .int x1]) (rest := []) ⟨hx, hb, hml, hown, hts⟩ (s_in l dC dI kA adK adV G s.heap q wZ wN wH wB wC wL wK wU wV PI im PM PT lS lB lE lN w 0 x1 hT hgz hgn hgh hgb hgc hgi hgu) (va_cwS 3 hts (goodIn_app (goodIn_r _ [3, 4, 5] rfl (by decide +kernel)) (goodIn_ca (goodIn_r _ [2] rfl (by decide +kernel)) (bs_in _ _))) rfl rfl rfl (by decide +kernel) ⟨(Nat.le_of_ble_eq_true rfl), (Nat.le_of_ble_eq_true rfl)⟩) ⟨fun a U g mk q => by obtain ⟨q0, q1, qK, qE⟩ := q; exact ⟨q0, q1, va_K.moved (u := U) (U := U.calling g mk a) (Vm.Alike.refl U.vm) qK, EVS.blind g mk a qE⟩, fun U hU hW => ⟨rfl, hU, va_K.moved hW.alike hK, hE.call hS hFc hU hW⟩⟩ rfl rfl hl.1 rfl (lv_room (Nat.le_of_ble_eq_true rfl)) dX12_noFarm_8 ⟨(Nat.le_of_ble_eq_true rfl), (Nat.le_of_ble_eq_true rfl)⟩) hS (fun q _ h => hFc q h) hFc (fun r3 u t H locs ht hvm hw4 hB _ _ hS => ?_)
  obtain ⟨hT, hF1⟩ := hB
  rw [ht] at hT hF1
  have hF := hF.more hF1 (by decide)
  try dsimp only at hw4
  obtain ⟨h6, hi7, hi8⟩ := hw4
  refine lv_if_ne (tgt := 18) hx hb dX12_noFarm_11 (by decide) (fun c9 => ?_) (fun c9 => ?_)
  · have t10 : r3.toInt ≠ 0 := ti_ne c9 rfl (by decide)
    have t11 : (0 : Int32).toInt = 0 := by decide
    have t12 : (0 : Int32).toInt ≤ w.toInt ∧ w.toInt ≤ x1.toInt := hi7 ((bit_of ⟨by omega, by omega⟩).resolve_left c9)
    refine lv_iconst (v := 0) hx hb dX12_noFarm_18 (by decide) ?_
    exact W.zret (v := 0) hx hb hr (by decide) (fun t ht hW => ⟨⟨0, (), rfl, (by exact ⟨(rg_t (a := 0) (by decide) (by first | decide | omega) (by first | decide | omega)), (by have : (0 : Int32).toInt = 0 := (by decide); omega)⟩), by (try dsimp only); rw [ht]; exact ⟨hT, hF⟩⟩, hS.F ht⟩) hS.2.2 dX12_noFarm_19
  · have t13 : r3.toInt = 0 := ti_eq c9 rfl (by decide)
    have t14 : (0 : Int32).toInt = 0 := by decide
    have t15 : w.toInt < (0 : Int32).toInt ∨ x1.toInt < w.toInt := hi8 c9
    refine lv_iconst (v := 1) hx hb dX12_noFarm_14 (by decide) ?_
    refine lv_goto (tgt := 19) hx hb dX12_noFarm_15 (by decide) ?_
    exact W.zret (v := 1) hx hb hr (by decide) (fun t ht hW => ⟨⟨1, (), rfl, (by exact ⟨(rg_t (a := 1) (by decide) (by first | decide | omega) (by first | decide | omega)), (by have : (1 : Int32).toInt = 1 := (by decide); omega)⟩), by (try dsimp only); rw [ht]; exact ⟨hT, hF⟩⟩, hS.F ht⟩) hS.2.2 dX12_noFarm_19
def w_s_sowC : List Cond := .code yX12_sow cX12_sow 4 (some .boolean) :: (HAppend.hAppend (α := List Cond) (β := List Cond) (γ := List Cond) [.fieldLink RX12 194 "SeaLandModel" "thrown" "I", .code yX12_noFarm cX12_noFarm 2 (some .boolean), .fieldLink RX12 498 "SeaLandModel" "farms" "I", .code yX12_in cX12_in 3 (some .boolean), .methodLink RX12 197 yX12_in, .static yX12_in, .initialized RX12, .methodLink RX12 502 yX12_noFarm, .instanceMethod yX12_noFarm, .selects RX12 yX12_noFarm yX12_noFarm, .code yX12_throwsIf cX12_throwsIf 3 (some .boolean), .methodLink RX12 224 yX12_throwsIf, .instanceMethod yX12_throwsIf, .selects RX12 yX12_throwsIf yX12_throwsIf, .fieldLink RX12 119 "SeaLandModel" "crop" "[I"] bs)
set_option maxHeartbeats 4000000 in
set_option maxRecDepth 100000 in
theorem s_sowC (l : Launch) (dC : Nat → ClassId) (dI : Nat → Nat → Nat) (kA : Nat → ClassId) (adK adV : Nat → Nat) (G : gT) (H0 : Heap) (q : Nat → Nat) (wZ wN : Nat → Int) (wH wB wC : Int) (wL wK : Nat → Prop) (wU wV : Nat → Nat) (PI : Nat → Int → Prop) (im : Int) (PM PT : Nat → Int → Prop) (lS lB lE : Nat → Nat → Int → Prop) (lN : Nat → Int) (o0 : Nat) (p0 : Int32) (p1 : Int32) (nf : Int32) (aCr : Nat → Int32)  (hT : gH (dC, dI) kA (SHm q (wP wZ wN wH wB wC wL wK wU wV) PI im PM PT lS lB lE lN) G H0) (hr_o0 : G o0 = some 0) (hm_nf : el H0 o0 (dI 15 47) = some (.int nf)) (hq0 : 0 ≤ nf.toInt ∧ nf.toInt ≤ 30) (hc_aCr : ct H0 (q 45) 30 aCr) (hgz : ∀ i, 0 ≤ wZ i) (hgn : ∀ i, 6500000 ≤ wN i ∧ wN i ≤ 20200000) (hgh : 0 ≤ wH ∧ wH ≤ 40000) (hgb : 0 ≤ wB ∧ wB ≤ 3850000) (hgc : 0 ≤ wC ∧ wC ≤ 30) (hgi : 0 ≤ im ∧ im ≤ 1) (hgu : ∀ a t, G a = some (t + 1) → a = q t) : Met l yX12_sow w_s_sowC ({ frames := 2, cells := 0, slots := 0, locals := 43 }) (va_Pc [.ref o0, .int p0, .int p1] (fun U => U.heap = H0 ∧ va_K (dC, dI) vwCl (tyl kA) U ∧ EVS adK adV (gA G H0.size) U U.heap)) (va_Qi (fun (r : Int32) (u : Int32 × (Nat → Int32)) => match u with | (t1, aCr1) => (0 ≤ r.toInt ∧ r.toInt ≤ 1) ∧ ((soC nf.toInt p0.toInt p1.toInt = 0 ∧ t1.toInt = 0 ∧ ((r.toInt = 0 ∧ (aCr p0.toNatClampNeg).toInt = p1.toInt) ∨ (r.toInt = 1 ∧ (aCr p0.toNatClampNeg).toInt ≠ p1.toInt)) ∧ aCr1 = cu aCr p0.toNatClampNeg p1) ∨ (soC nf.toInt p0.toInt p1.toInt ≠ 0 ∧ t1.toInt = soC nf.toInt p0.toInt p1.toInt ∧ aCr1 = aCr))) (fun (u : Int32 × (Nat → Int32)) (t : State) => match u with | (t1, aCr1) => gH (dC, dI) kA (SHm q (wP wZ wN wH wB wC wL wK wU wV) PI im PM PT lS lB lE lN) G t.heap ∧ gF (dC, dI) SKm G ([(0, 0), (46, 0)] : List (Nat × Nat)) H0 t.heap ∧ el t.heap o0 (dI 15 0) = some (.int t1) ∧ ct t.heap (q 45) 30 aCr1) (gA G H0.size)) 0 0 (gA G H0.size) := by
  refine Met.ofW (cc := cX12_sow) (maxL := 4) (ret := (some .boolean)) (by decide) rfl ?_
  intro p e s m args below meth c s₁ B hml hv
  obtain ⟨rfl, hH0, hK, hE⟩ := hv
  have hx := B.exec
  have hb := B.bytes
  have hr := B.returns
  have hts := atoms_spec (ws := w_s_sowC) B.pre
  have hown : s.vm.findClass RX12 = some m.cls := findClass_of_methodNamed B.named
  have hlocks := B.notSynchronized
  subst hH0
  generalize hAe : gA G s.heap.size = A at hE ⊢
  have hA : ∀ q : Nat, s.heap.size ≤ q → A q := fun q h => by rw [← hAe]; exact Or.inr h
  have hG := gA_of hAe
  have hS : va_S A s.heap s.heap [] := va_S.rf
  have hF : gF (dC, dI) SKm G ([(0, 0), (46, 0)] : List (Nat × Nat)) s.heap s.heap := gF.rf
  have hl := lv_entry ([.ref o0, .int p0, .int p1]) (n := 4) (Nat.le_of_ble_eq_true rfl)
  rw [lg_entry_eq]
  generalize (lg_sl ([.ref o0, .int p0, .int p1]) ++ List.replicate (4 - (lg_sl ([.ref o0, .int p0, .int p1])).length) Slot.unset).toArray = ls at hl ⊢
  have hl : lv_has ls 4 [(0, .ref o0), (1, .int p0), (2, .int p1)] := hl
  have hg1 : G (q 45) = some 46 := gx_of hT hr_o0 shm_0 (k := 45) (by decide) rfl
  refine lv_aload_n hx hb dX12_sow_0 rfl (lv_at hl 0 rfl) ?_
  refine lv_iconst (v := 0) hx hb dX12_sow_1 (by decide) ?_
  refine tw_put (v := .int 0) (ty := .int) hx hb hts bF_X12 tyX12 tyX12_ok nmX12 hown hK hT hG hS hr_o0 shm_0 rfl 0 (by decide) (ht_at hts 0 rfl) (fun _ h9 => h9) rfl (by decide +kernel) rfl rfl (gl_at rfl (gi_all _)) dX12_sow_2 (fun H locs hT oq m2 oj hS => ?_)
  have hF := hF.put hr_o0 skm_0 oq oj (by decide)
  have m3 := (oj 47 (by decide) (by decide)).trans hm_nf
  have m4 := hc_aCr.kept (oq _ (gne hg1 hr_o0 (by decide)))
  refine lv_aload_n hx hb dX12_sow_5 rfl (lv_at hl 0 rfl) ?_
  refine lv_aload_n hx hb dX12_sow_6 rfl (lv_at hl 0 rfl) ?_
  refine lv_iload_n hx hb dX12_sow_7 rfl (lv_at hl 1 rfl) ?_
  have hFc := gA_free hG hA hS
  refine va_calli (va_runV (As := [.int p0]) (rest := [.ref o0]) ⟨hx, hb, hml, hown, hts⟩ (s_noFarmE l dC dI kA adK adV G H q wZ wN wH wB wC wL wK wU wV PI im PM PT lS lB lE lN o0 p0 nf hT hr_o0 m3 (by have q8 := ti_all nf; omega) hgz hgn hgh hgb hgc hgi hgu) (cwV 1 hts (goodIn_app (goodIn_r _ [8, 9, 10, 7] rfl (by decide +kernel)) (goodIn_ca (goodIn_r _ [2, 3, 4, 5, 6, 7] rfl (by decide +kernel)) (bs_in _ _))) rfl rfl rfl (by decide +kernel) ⟨(Nat.le_of_ble_eq_true rfl), (Nat.le_of_ble_eq_true rfl)⟩) ⟨fun a U g mk q => by obtain ⟨q0, q1, qK, qE⟩ := q; exact ⟨q0, q1, va_K.moved (u := U) (U := U.calling g mk a) (Vm.Alike.refl U.vm) qK, EVS.blind g mk a qE⟩, gH_rc hK hT hr_o0 shm_0 rfl, fun U hU hW => ⟨rfl, hU, va_K.moved hW.alike hK, hE.call hS hFc hU hW⟩⟩ rfl rfl hl.1 rfl (lv_room (Nat.le_of_ble_eq_true rfl)) dX12_sow_8 ⟨(Nat.le_of_ble_eq_true rfl), (Nat.le_of_ble_eq_true rfl)⟩) hS (fun q _ h => hFc q h) hFc (fun r5 u t H locs ht hvm hw6 hB _ _ hS => ?_)
  obtain ⟨hT, hF1⟩ := hB
  rw [ht] at hT hF1
  have m8 := m4.kept (hF1.arr hg1 skm_46 (by decide))
  have m9 := (hF1.fld hr_o0 skm_0 (k := 0) (by decide) (by decide)).trans m2
  have hF := hF.more hF1 (by decide)
  try dsimp only at hw6
  obtain ⟨h10, hf11⟩ := hw6
  refine lv_iconst (v := 1) hx hb dX12_sow_11 (by decide) ?_
  have hFc := gA_free hG hA hS
  refine va_calli (va_runV (As := [.int r5, .int 1]) (rest := []) ⟨hx, hb, hml, hown, hts⟩ (s_throwsIfP l dC dI kA adK adV G H q wZ wN wH wB wC wL wK wU wV PI im PM PT lS lB lE lN o0 r5 1 0 hT hr_o0 m9 (by have q8 := ti_all r5; omega) hgz hgn hgh hgb hgc hgi hgu) (cwV 2 hts (goodIn_app (goodIn_r _ [12, 13, 14, 7] rfl (by decide +kernel)) (goodIn_ca (goodIn_r _ [11, 1] rfl (by decide +kernel)) (bs_in _ _))) rfl rfl rfl (by decide +kernel) ⟨(Nat.le_of_ble_eq_true rfl), (Nat.le_of_ble_eq_true rfl)⟩) ⟨fun a U g mk q => by obtain ⟨q0, q1, qK, qE⟩ := q; exact ⟨q0, q1, va_K.moved (u := U) (U := U.calling g mk a) (Vm.Alike.refl U.vm) qK, EVS.blind g mk a qE⟩, gH_rc hK hT hr_o0 shm_0 rfl, fun U hU hW => ⟨rfl, hU, va_K.moved hW.alike hK, hE.call hS hFc hU hW⟩⟩ rfl rfl hl.1 rfl (lv_room (Nat.le_of_ble_eq_true rfl)) dX12_sow_12 ⟨(Nat.le_of_ble_eq_true rfl), (Nat.le_of_ble_eq_true rfl)⟩) hS (fun q _ h => hFc q h) hFc (fun r12 u t H locs ht hvm hw13 hB _ _ hS => ?_)
  obtain ⟨u14, rfl⟩ : ∃ z, z = u := ⟨_, rfl⟩
  obtain ⟨hT, hF1, m15⟩ := hB
  rw [ht] at hT hF1 m15
  have m17 := m8.kept (hF1.arr hg1 skm_46 (by decide))
  have hF := hF.more hF1 (by decide)
  try dsimp only at hw13
  obtain ⟨h19, hf20, hd21⟩ := hw13
  have t22 : (1 : Int32).toInt = 1 := by decide
  have t23 : (0 : Int32).toInt = 0 := by decide
  obtain rfl : r5 = r12 := hd21.symm
  refine lv_if_ne (tgt := 40) hx hb dX12_sow_15 (by decide) (fun c24 => ?_) (fun c24 => ?_)
  · have t25 : r5.toInt ≠ 0 := ti_ne c24 rfl (by decide)
    refine lv_iconst (v := 0) hx hb dX12_sow_40 (by decide) ?_
    exact W.zret (v := 0) hx hb hr (by decide) (fun t ht hW => ⟨⟨0, (u14, aCr), rfl, (by exact ⟨(rg_t (a := 0) (by decide) (by first | decide | omega) (by first | decide | omega)), (Or.inr ⟨by have := soC_s nf.toInt p0.toInt p1.toInt; have q0 : (0 : Int32).toInt = 0 := (by decide); have q1 : (1 : Int32).toInt = 1 := (by decide); have q2 : (2 : Int32).toInt = 2 := (by decide); have q3 : (3 : Int32).toInt = 3 := (by decide); have qm : (-1 : Int32).toInt = -1 := (by decide); omega, by have := soC_s nf.toInt p0.toInt p1.toInt; have q0 : (0 : Int32).toInt = 0 := (by decide); have q1 : (1 : Int32).toInt = 1 := (by decide); have q2 : (2 : Int32).toInt = 2 := (by decide); have q3 : (3 : Int32).toInt = 3 := (by decide); have qm : (-1 : Int32).toInt = -1 := (by decide); omega, rfl⟩)⟩), by (try dsimp only); rw [ht]; exact ⟨hT, hF, m15, m17⟩⟩, hS.F ht⟩) hS.2.2 dX12_sow_41
  · have t26 : r5.toInt = 0 := ti_eq c24 rfl (by decide)
    refine lv_aload_n hx hb dX12_sow_18 rfl (lv_at hl 0 rfl) ?_
    refine lv_iload_n hx hb dX12_sow_19 rfl (lv_at hl 2 rfl) ?_
    refine lv_iconst (v := 0) hx hb dX12_sow_20 (by decide) ?_
    refine lv_iconst (v := 3) hx hb dX12_sow_21 (by decide) ?_
    have hFc := gA_free hG hA hS
    refine va_calli (va_runS (As := [.int p1, .int 0, .int 3]) (rest := [.ref o0]) ⟨hx, hb, hml, hown, hts⟩ (s_in l dC dI kA adK adV G H q wZ wN wH wB wC wL wK wU wV PI im PM PT lS lB lE lN p1 0 3 hT hgz hgn hgh hgb hgc hgi hgu) (va_cwS 3 hts (goodIn_app (goodIn_r _ [5, 6, 7] rfl (by decide +kernel)) (goodIn_ca (goodIn_r _ [4] rfl (by decide +kernel)) (bs_in _ _))) rfl rfl rfl (by decide +kernel) ⟨(Nat.le_of_ble_eq_true rfl), (Nat.le_of_ble_eq_true rfl)⟩) ⟨fun a U g mk q => by obtain ⟨q0, q1, qK, qE⟩ := q; exact ⟨q0, q1, va_K.moved (u := U) (U := U.calling g mk a) (Vm.Alike.refl U.vm) qK, EVS.blind g mk a qE⟩, fun U hU hW => ⟨rfl, hU, va_K.moved hW.alike hK, hE.call hS hFc hU hW⟩⟩ rfl rfl hl.1 rfl (lv_room (Nat.le_of_ble_eq_true rfl)) dX12_sow_22 ⟨(Nat.le_of_ble_eq_true rfl), (Nat.le_of_ble_eq_true rfl)⟩) hS (fun q _ h => hFc q h) hFc (fun r27 u t H locs ht hvm hw28 hB _ _ hS => ?_)
    obtain ⟨hT, hF1⟩ := hB
    rw [ht] at hT hF1
    have m30 := m17.kept (hF1.arr hg1 skm_46 (by decide))
    have m31 := (hF1.fld hr_o0 skm_0 (k := 0) (by decide) (by decide)).trans m15
    have hF := hF.more hF1 (by decide)
    try dsimp only at hw28
    obtain ⟨h32, hi33, hi34⟩ := hw28
    refine lv_if_ne (tgt := 32) hx hb dX12_sow_25 (by decide) (fun c35 => ?_) (fun c35 => ?_)
    · have t36 : r27.toInt ≠ 0 := ti_ne c35 rfl (by decide)
      have t37 : (0 : Int32).toInt = 0 := by decide
      have t38 : (3 : Int32).toInt = 3 := by decide
      have t39 : (0 : Int32).toInt ≤ p1.toInt ∧ p1.toInt ≤ (3 : Int32).toInt := hi33 ((bit_of ⟨by omega, by omega⟩).resolve_left c35)
      refine lv_iconst (v := 0) hx hb dX12_sow_32 (by decide) ?_
      refine lv_iconst (v := 2) hx hb dX12_sow_33 (by decide) ?_
      have hFc := gA_free hG hA hS
      refine va_calli (va_runV (As := [.int 0, .int 2]) (rest := []) ⟨hx, hb, hml, hown, hts⟩ (s_throwsIfP l dC dI kA adK adV G H q wZ wN wH wB wC wL wK wU wV PI im PM PT lS lB lE lN o0 0 2 u14 hT hr_o0 m31 (rg_t (a := 0) (by decide) (by first | decide | omega) (by first | decide | omega)) hgz hgn hgh hgb hgc hgi hgu) (cwV 2 hts (goodIn_app (goodIn_r _ [12, 13, 14, 7] rfl (by decide +kernel)) (goodIn_ca (goodIn_r _ [11, 1] rfl (by decide +kernel)) (bs_in _ _))) rfl rfl rfl (by decide +kernel) ⟨(Nat.le_of_ble_eq_true rfl), (Nat.le_of_ble_eq_true rfl)⟩) ⟨fun a U g mk q => by obtain ⟨q0, q1, qK, qE⟩ := q; exact ⟨q0, q1, va_K.moved (u := U) (U := U.calling g mk a) (Vm.Alike.refl U.vm) qK, EVS.blind g mk a qE⟩, gH_rc hK hT hr_o0 shm_0 rfl, fun U hU hW => ⟨rfl, hU, va_K.moved hW.alike hK, hE.call hS hFc hU hW⟩⟩ rfl rfl hl.1 rfl (lv_room (Nat.le_of_ble_eq_true rfl)) dX12_sow_34 ⟨(Nat.le_of_ble_eq_true rfl), (Nat.le_of_ble_eq_true rfl)⟩) hS (fun q _ h => hFc q h) hFc (fun r40 u t H locs ht hvm hw41 hB _ _ hS => ?_)
      obtain ⟨u42, rfl⟩ : ∃ z, z = u := ⟨_, rfl⟩
      obtain ⟨hT, hF1, m43⟩ := hB
      rw [ht] at hT hF1 m43
      have m45 := m30.kept (hF1.arr hg1 skm_46 (by decide))
      have hF := hF.more hF1 (by decide)
      try dsimp only at hw41
      obtain ⟨h47, hf48, hd49⟩ := hw41
      have t50 : (0 : Int32).toInt = 0 := by decide
      have t51 : (2 : Int32).toInt = 2 := by decide
      obtain rfl : (0 : Int32) = r40 := hd49.symm
      refine lv_if_eq (tgt := 42) hx hb dX12_sow_37 (by decide) (fun c52 => ?_) (fun c52 => absurd c52 (by decide))
      refine lv_aload_n hx hb dX12_sow_42 rfl (lv_at hl 0 rfl) ?_
      refine tw_get hx hb hts bF_X12 hown hK hT hr_o0 shm_0 rfl 45 (by decide) (ht_at hts 14 rfl) (fun _ h9 => h9) dX12_sow_43 (fun v9 m53 h9 => ?_)
      obtain ⟨rfl, hg54⟩ := h9 _ rfl
      refine lv_iload_n hx hb dX12_sow_46 rfl (lv_at hl 1 rfl) ?_
      refine tw_iald (i := p0) hx hb hK hT hg1 shm_46 rfl (vin_t (a := p0.toInt) rfl (by omega) (by omega)) dX12_sow_47 (fun v9 m55 h9 => ?_)
      obtain ⟨x56, rfl, gx56, kx56⟩ := h9
      have cx56 := m45.at m55 (by have q9 := tn_of (show p0.toInt = p0.toInt from rfl) (by omega); omega)
      refine lv_iload_n hx hb dX12_sow_48 rfl (lv_at hl 2 rfl) ?_
      refine lv_icmp_eq (tgt := 56) hx hb dX12_sow_49 (by decide) (fun c57 => ?_) (fun c57 => ?_)
      · have t58 : x56.toInt = p1.toInt := ti_eq c57 rfl rfl
        refine lv_iconst (v := 0) hx hb dX12_sow_56 (by decide) ?_
        refine lv_istore_n (lv' := [(3, .int 0), (0, .ref o0), (1, .int p0), (2, .int p1)]) hx hb dX12_sow_57 rfl hl (by decide) rfl (fun ls hl => ?_)
        refine lv_aload_n hx hb dX12_sow_58 rfl (lv_at hl 1 rfl) ?_
        refine tw_get hx hb hts bF_X12 hown hK hT hr_o0 shm_0 rfl 45 (by decide) (ht_at hts 14 rfl) (fun _ h9 => h9) dX12_sow_59 (fun v9 m59 h9 => ?_)
        obtain ⟨rfl, hg60⟩ := h9 _ rfl
        refine lv_iload_n hx hb dX12_sow_62 rfl (lv_at hl 2 rfl) ?_
        refine lv_iload_n hx hb dX12_sow_63 rfl (lv_at hl 3 rfl) ?_
        refine tw_iast (i := p0) (x := p1) hx hb hK hT hG hS hg1 shm_46 rfl (vin_t (a := p0.toInt) rfl (by omega) (by omega)) (gi_all _) dX12_sow_64 (fun H locs hT oq m61 oi hS => ?_)
        have hF := hF.ast hg1 skm_46 oq (by decide)
        have m63 := m45.put m61 oi
        have m64 := (el_kept (oq _ (gne hr_o0 hg1 (by decide)))).trans m43
        refine lv_iload_n hx hb dX12_sow_65 rfl (lv_at hl 0 rfl) ?_
        exact W.zret (v := 0) hx hb hr (by decide) (fun t ht hW => ⟨⟨0, (u42, (cu aCr p0.toNatClampNeg p1)), rfl, (by exact ⟨(rg_t (a := 0) (by decide) (by first | decide | omega) (by first | decide | omega)), (Or.inl ⟨by have := soC_s nf.toInt p0.toInt p1.toInt; omega, by have q0 : (0 : Int32).toInt = 0 := (by decide); have q1 : (1 : Int32).toInt = 1 := (by decide); have q2 : (2 : Int32).toInt = 2 := (by decide); have q3 : (3 : Int32).toInt = 3 := (by decide); have qm : (-1 : Int32).toInt = -1 := (by decide); omega, by have c9 := congrArg Int32.toInt cx56; have q0 : (0 : Int32).toInt = 0 := (by decide); have q1 : (1 : Int32).toInt = 1 := (by decide); have q2 : (2 : Int32).toInt = 2 := (by decide); have q3 : (3 : Int32).toInt = 3 := (by decide); have qm : (-1 : Int32).toInt = -1 := (by decide); omega, rfl⟩)⟩), by (try dsimp only); rw [ht]; exact ⟨hT, hF, m64, m63⟩⟩, hS.F ht⟩) hS.2.2 dX12_sow_66
      · have t65 : x56.toInt ≠ p1.toInt := ti_ne c57 rfl rfl
        refine lv_iconst (v := 1) hx hb dX12_sow_52 (by decide) ?_
        refine lv_goto (tgt := 57) hx hb dX12_sow_53 (by decide) ?_
        refine lv_istore_n (lv' := [(3, .int 1), (0, .ref o0), (1, .int p0), (2, .int p1)]) hx hb dX12_sow_57 rfl hl (by decide) rfl (fun ls hl => ?_)
        refine lv_aload_n hx hb dX12_sow_58 rfl (lv_at hl 1 rfl) ?_
        refine tw_get hx hb hts bF_X12 hown hK hT hr_o0 shm_0 rfl 45 (by decide) (ht_at hts 14 rfl) (fun _ h9 => h9) dX12_sow_59 (fun v9 m66 h9 => ?_)
        obtain ⟨rfl, hg67⟩ := h9 _ rfl
        refine lv_iload_n hx hb dX12_sow_62 rfl (lv_at hl 2 rfl) ?_
        refine lv_iload_n hx hb dX12_sow_63 rfl (lv_at hl 3 rfl) ?_
        refine tw_iast (i := p0) (x := p1) hx hb hK hT hG hS hg1 shm_46 rfl (vin_t (a := p0.toInt) rfl (by omega) (by omega)) (gi_all _) dX12_sow_64 (fun H locs hT oq m68 oi hS => ?_)
        have hF := hF.ast hg1 skm_46 oq (by decide)
        have m70 := m45.put m68 oi
        have m71 := (el_kept (oq _ (gne hr_o0 hg1 (by decide)))).trans m43
        refine lv_iload_n hx hb dX12_sow_65 rfl (lv_at hl 0 rfl) ?_
        exact W.zret (v := 1) hx hb hr (by decide) (fun t ht hW => ⟨⟨1, (u42, (cu aCr p0.toNatClampNeg p1)), rfl, (by exact ⟨(rg_t (a := 1) (by decide) (by first | decide | omega) (by first | decide | omega)), (Or.inl ⟨by have := soC_s nf.toInt p0.toInt p1.toInt; omega, by have q0 : (0 : Int32).toInt = 0 := (by decide); have q1 : (1 : Int32).toInt = 1 := (by decide); have q2 : (2 : Int32).toInt = 2 := (by decide); have q3 : (3 : Int32).toInt = 3 := (by decide); have qm : (-1 : Int32).toInt = -1 := (by decide); omega, by have c9 := congrArg Int32.toInt cx56; have q0 : (0 : Int32).toInt = 0 := (by decide); have q1 : (1 : Int32).toInt = 1 := (by decide); have q2 : (2 : Int32).toInt = 2 := (by decide); have q3 : (3 : Int32).toInt = 3 := (by decide); have qm : (-1 : Int32).toInt = -1 := (by decide); omega, rfl⟩)⟩), by (try dsimp only); rw [ht]; exact ⟨hT, hF, m71, m70⟩⟩, hS.F ht⟩) hS.2.2 dX12_sow_66
    · have t72 : r27.toInt = 0 := ti_eq c35 rfl (by decide)
      have t73 : (0 : Int32).toInt = 0 := by decide
      have t74 : (3 : Int32).toInt = 3 := by decide
      have t75 : p1.toInt < (0 : Int32).toInt ∨ (3 : Int32).toInt < p1.toInt := hi34 c35
      refine lv_iconst (v := 1) hx hb dX12_sow_28 (by decide) ?_
      refine lv_goto (tgt := 33) hx hb dX12_sow_29 (by decide) ?_
      refine lv_iconst (v := 2) hx hb dX12_sow_33 (by decide) ?_
      have hFc := gA_free hG hA hS
      refine va_calli (va_runV (As := [.int 1, .int 2]) (rest := []) ⟨hx, hb, hml, hown, hts⟩ (s_throwsIfP l dC dI kA adK adV G H q wZ wN wH wB wC wL wK wU wV PI im PM PT lS lB lE lN o0 1 2 u14 hT hr_o0 m31 (rg_t (a := 1) (by decide) (by first | decide | omega) (by first | decide | omega)) hgz hgn hgh hgb hgc hgi hgu) (cwV 2 hts (goodIn_app (goodIn_r _ [12, 13, 14, 7] rfl (by decide +kernel)) (goodIn_ca (goodIn_r _ [11, 1] rfl (by decide +kernel)) (bs_in _ _))) rfl rfl rfl (by decide +kernel) ⟨(Nat.le_of_ble_eq_true rfl), (Nat.le_of_ble_eq_true rfl)⟩) ⟨fun a U g mk q => by obtain ⟨q0, q1, qK, qE⟩ := q; exact ⟨q0, q1, va_K.moved (u := U) (U := U.calling g mk a) (Vm.Alike.refl U.vm) qK, EVS.blind g mk a qE⟩, gH_rc hK hT hr_o0 shm_0 rfl, fun U hU hW => ⟨rfl, hU, va_K.moved hW.alike hK, hE.call hS hFc hU hW⟩⟩ rfl rfl hl.1 rfl (lv_room (Nat.le_of_ble_eq_true rfl)) dX12_sow_34 ⟨(Nat.le_of_ble_eq_true rfl), (Nat.le_of_ble_eq_true rfl)⟩) hS (fun q _ h => hFc q h) hFc (fun r76 u t H locs ht hvm hw77 hB _ _ hS => ?_)
      obtain ⟨u78, rfl⟩ : ∃ z, z = u := ⟨_, rfl⟩
      obtain ⟨hT, hF1, m79⟩ := hB
      rw [ht] at hT hF1 m79
      have m81 := m30.kept (hF1.arr hg1 skm_46 (by decide))
      have hF := hF.more hF1 (by decide)
      try dsimp only at hw77
      obtain ⟨h83, hf84, hd85⟩ := hw77
      have t86 : (1 : Int32).toInt = 1 := by decide
      have t87 : (2 : Int32).toInt = 2 := by decide
      obtain rfl : (1 : Int32) = r76 := hd85.symm
      refine lv_if_eq (tgt := 42) hx hb dX12_sow_37 (by decide) (fun c88 => absurd c88 (by decide)) (fun c88 => ?_)
      refine lv_iconst (v := 0) hx hb dX12_sow_40 (by decide) ?_
      exact W.zret (v := 0) hx hb hr (by decide) (fun t ht hW => ⟨⟨0, (u78, aCr), rfl, (by exact ⟨(rg_t (a := 0) (by decide) (by first | decide | omega) (by first | decide | omega)), (Or.inr ⟨by have := soC_s nf.toInt p0.toInt p1.toInt; have q0 : (0 : Int32).toInt = 0 := (by decide); have q1 : (1 : Int32).toInt = 1 := (by decide); have q2 : (2 : Int32).toInt = 2 := (by decide); have q3 : (3 : Int32).toInt = 3 := (by decide); have qm : (-1 : Int32).toInt = -1 := (by decide); omega, by have := soC_s nf.toInt p0.toInt p1.toInt; have q0 : (0 : Int32).toInt = 0 := (by decide); have q1 : (1 : Int32).toInt = 1 := (by decide); have q2 : (2 : Int32).toInt = 2 := (by decide); have q3 : (3 : Int32).toInt = 3 := (by decide); have qm : (-1 : Int32).toInt = -1 := (by decide); omega, rfl⟩)⟩), by (try dsimp only); rw [ht]; exact ⟨hT, hF, m79, m81⟩⟩, hS.F ht⟩) hS.2.2 dX12_sow_41
