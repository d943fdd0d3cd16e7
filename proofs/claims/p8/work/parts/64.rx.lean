def w_s_hoursE : List Cond := .code yX12_hours cX12_hours 3 (some .int) :: (HAppend.hAppend (α := List Cond) (β := List Cond) (γ := List Cond) [.fieldLink RX12 194 "SeaLandModel" "thrown" "I", .code yX12_in cX12_in 3 (some .boolean), .methodLink RX12 197 yX12_in, .static yX12_in, .initialized RX12, .code yX12_throwsIf cX12_throwsIf 3 (some .boolean), .methodLink RX12 224 yX12_throwsIf, .instanceMethod yX12_throwsIf, .selects RX12 yX12_throwsIf yX12_throwsIf, .code yX12_hour cX12_hour 1 (some .int), .fieldLink RX12 9 "SeaLandModel" "world" "[I", .methodLink RX12 228 yX12_hour, .instanceMethod yX12_hour, .selects RX12 yX12_hour yX12_hour, .constant RX12 242 40000, .code yX12_anHour cX12_anHour 6 none, .code yX12_outside cX12_outside 4 (some .int), .methodLink RX12 247 yX12_outside, .instanceMethod yX12_outside, .selects RX12 yX12_outside yX12_outside, .code yX12_rain cX12_rain 3 (some .int), .code yX12_telling cX12_telling 6 (some .int), .methodLink RX12 243 yX12_telling, .instanceMethod yX12_telling, .selects RX12 yX12_telling yX12_telling, .methodLink RX12 253 yX12_rain, .instanceMethod yX12_rain, .selects RX12 yX12_rain yX12_rain, .code yX12_wind cX12_wind 7 (some .int), .methodLink RX12 211 Lib.Math.max.name, .static Lib.Math.max.name, .initialized "java/lang/Math", .code Lib.Math.max.name Lib.Math.max.code 2 (some .int), .methodLink RX12 250 yX12_wind, .instanceMethod yX12_wind, .selects RX12 yX12_wind yX12_wind, .code yX12_of cX12_of 3 (some .int), .code yX12_at cX12_at 2 (some .int), .methodLink RX12 214 yX12_at, .static yX12_at, .methodLink RX12 217 yX12_of, .instanceMethod yX12_of, .selects RX12 yX12_of yX12_of, .code yX12_sluices cX12_sluices 6 none, .code yX12_level cX12_level 2 (some .int), .code yX12_isLand cX12_isLand 2 (some .boolean), .methodLink RX12 235 yX12_isLand, .instanceMethod yX12_isLand, .selects RX12 yX12_isLand yX12_isLand, .methodLink RX12 285 yX12_level, .instanceMethod yX12_level, .selects RX12 yX12_level yX12_level, .methodLink RX12 207 Lib.Math.min.name, .static Lib.Math.min.name, .code Lib.Math.min.name Lib.Math.min.code 2 (some .int), .code yX12_leaves cX12_leaves 4 (some .int), .methodLink RX12 291 yX12_leaves, .instanceMethod yX12_leaves, .selects RX12 yX12_leaves yX12_leaves, .code yX12_brings cX12_brings 3 none, .methodLink RX12 294 yX12_brings, .instanceMethod yX12_brings, .selects RX12 yX12_brings yX12_brings, .methodLink RX12 307 yX12_sluices, .instanceMethod yX12_sluices, .selects RX12 yX12_sluices yX12_sluices, .code yX12_ditches cX12_ditches 5 none, .fieldLink RX12 16 "SeaLandModel" "moves" "[I", .fieldLink RX12 22 "SeaLandModel" "movesSalt" "[I", .fieldLink RX12 19 "SeaLandModel" "movesTo" "[I", .code yX12_hasDitch cX12_hasDitch 2 (some .boolean), .methodLink RX12 298 yX12_hasDitch, .instanceMethod yX12_hasDitch, .selects RX12 yX12_hasDitch yX12_hasDitch, .code yX12_beside cX12_beside 2 (some .int), .methodLink RX12 301 yX12_beside, .static yX12_beside, .methodLink RX12 310 yX12_ditches, .instanceMethod yX12_ditches, .selects RX12 yX12_ditches yX12_ditches, .code yX12_lifts cX12_lifts 7 none, .methodLink RX12 313 yX12_lifts, .instanceMethod yX12_lifts, .selects RX12 yX12_lifts yX12_lifts, .code yX12_dayEnds cX12_dayEnds 3 none, .methodLink RX12 316 yX12_dayEnds, .instanceMethod yX12_dayEnds, .selects RX12 yX12_dayEnds yX12_dayEnds, .code yX12_writesRow cX12_writesRow 2 none, .fieldLink RX12 238 "SeaLandModel" "rows" "I", .fieldLink RX12 25 "SeaLandModel" "rowTold" "[I", .fieldLink RX12 28 "SeaLandModel" "rowTrue" "[I", .methodLink RX12 319 yX12_writesRow, .instanceMethod yX12_writesRow, .selects RX12 yX12_writesRow yX12_writesRow, .code yX12_isDike cX12_isDike 2 (some .boolean), .methodLink RX12 272 yX12_isDike, .instanceMethod yX12_isDike, .selects RX12 yX12_isDike yX12_isDike, .code yX12_dikes cX12_dikes 6 none, .code yX12_seepOf cX12_seepOf 8 (some .int), .methodLink RX12 288 yX12_seepOf, .instanceMethod yX12_seepOf, .selects RX12 yX12_seepOf yX12_seepOf, .code yX12_crest cX12_crest 4 (some .int), .methodLink RX12 282 yX12_crest, .instanceMethod yX12_crest, .selects RX12 yX12_crest yX12_crest, .methodLink RX12 304 yX12_dikes, .instanceMethod yX12_dikes, .selects RX12 yX12_dikes yX12_dikes, .methodLink RX12 322 yX12_anHour, .instanceMethod yX12_anHour, .selects RX12 yX12_anHour yX12_anHour] bs)
set_option maxHeartbeats 4000000 in
set_option maxRecDepth 100000 in
theorem s_hoursE (l : Launch) (dC : Nat → ClassId) (dI : Nat → Nat → Nat) (kA : Nat → ClassId) (adK adV : Nat → Nat) (G : gT) (H0 : Heap) (q : Nat → Nat) (wZ wN : Nat → Int) (wH wB wC : Int) (wL wK : Nat → Prop) (wU wV : Nat → Nat) (PI : Nat → Int → Prop) (im : Int) (PM PT : Nat → Int → Prop) (lS lB lE : Nat → Nat → Int → Prop) (lN : Nat → Int) (o0 : Nat) (p0 : Int32)  (hT : gH (dC, dI) kA (SHm q (wP wZ0 wN wH wB wC wL wK wU wV) PI im PM PT lS lB lE lN) G H0) (hr_o0 : G o0 = some 0) (hgw : wG wC wL wK wU wV) (hn_ : ∀ i, 6500000 ≤ wN i ∧ wN i ≤ 6500000 + 340 * wH) (hb_ : wB ≤ 96 * wH) (hgz : ∀ i, 0 ≤ wZ i) (hgn : ∀ i, 6500000 ≤ wN i ∧ wN i ≤ 20200000) (hgh : 0 ≤ wH ∧ wH ≤ 40000) (hgb : 0 ≤ wB ∧ wB ≤ 3850000) (hgc : 0 ≤ wC ∧ wC ≤ 30) (hgi : 0 ≤ im ∧ im ≤ 1) (hgu : ∀ a t, G a = some (t + 1) → a = q t) : Met l yX12_hours w_s_hoursE ({ frames := 5, cells := 0, slots := 0, locals := 120 }) (va_Pc [.ref o0, .int p0] (fun U => U.heap = H0 ∧ va_K (dC, dI) vwCl (tyl kA) U ∧ EVS adK adV (gA G H0.size) U U.heap)) (va_Qi (fun (r : Int32) (u : Int32 × Int × (Nat → Int) × Int × (Nat → Int → Prop) × (Nat → Int → Prop)) => match u with | (t1, wH1, wN1, wB1, PM1, PT1) => (0 ≤ r.toInt ∧ r.toInt ≤ 40000) ∧ (0 ≤ wH1 ∧ wH1 ≤ 40000) ∧ (∀ i, 6500000 ≤ wN1 i ∧ wN1 i ≤ 6500000 + 340 * wH1) ∧ (0 ≤ wB1 ∧ wB1 ≤ 96 * wH1) ∧ (((0 ≤ p0.toInt ∧ p0.toInt ≤ 240) ∧ t1.toInt = 0 ∧ r.toInt = wH1 ∧ ((wH1 = wH + p0.toInt ∧ wH + p0.toInt ≤ 40000) ∨ (wH1 = 40000 ∧ 40000 ≤ wH + p0.toInt))) ∨ (¬ (0 ≤ p0.toInt ∧ p0.toInt ≤ 240) ∧ t1.toInt = 1 ∧ wH1 = wH))) (fun (u : Int32 × Int × (Nat → Int) × Int × (Nat → Int → Prop) × (Nat → Int → Prop)) (t : State) => match u with | (t1, wH1, wN1, wB1, PM1, PT1) => gH (dC, dI) kA (SHm q (wP wZ0 wN1 wH1 wB1 wC wL wK wU wV) PI im PM1 PT1 lS lB lE lN) G t.heap ∧ gF (dC, dI) SKm G ([(0, 0), (0, 9), (2, 0), (5, 0), (6, 0), (7, 0), (8, 0), (9, 0)] : List (Nat × Nat)) H0 t.heap ∧ el t.heap o0 (dI 15 0) = some (.int t1)) (gA G H0.size)) 0 0 (gA G H0.size) := by
  refine Met.ofW (cc := cX12_hours) (maxL := 3) (ret := (some .int)) (by decide) rfl ?_
  intro p e s m args below meth c s₁ B hml hv
  obtain ⟨rfl, hH0, hK, hE⟩ := hv
  have hx := B.exec
  have hb := B.bytes
  have hr := B.returns
  have hts := atoms_spec (ws := w_s_hoursE) B.pre
  have hown : s.vm.findClass RX12 = some m.cls := findClass_of_methodNamed B.named
  have hlocks := B.notSynchronized
  subst hH0
  generalize hAe : gA G s.heap.size = A at hE ⊢
  have hA : ∀ q : Nat, s.heap.size ≤ q → A q := fun q h => by rw [← hAe]; exact Or.inr h
  have hG := gA_of hAe
  have hS : va_S A s.heap s.heap [] := va_S.rf
  have hF : gF (dC, dI) SKm G ([(0, 0), (0, 9), (2, 0), (5, 0), (6, 0), (7, 0), (8, 0), (9, 0)] : List (Nat × Nat)) s.heap s.heap := gF.rf
  have hl := lv_entry ([.ref o0, .int p0]) (n := 3) (Nat.le_of_ble_eq_true rfl)
  rw [lg_entry_eq]
  generalize (lg_sl ([.ref o0, .int p0]) ++ List.replicate (3 - (lg_sl ([.ref o0, .int p0])).length) Slot.unset).toArray = ls at hl ⊢
  have hl : lv_has ls 3 [(0, .ref o0), (1, .int p0)] := hl
  refine lv_aload_n hx hb dX12_hours_0 rfl (lv_at hl 0 rfl) ?_
  refine lv_iconst (v := 0) hx hb dX12_hours_1 (by decide) ?_
  refine tw_put (v := .int 0) (ty := .int) hx hb hts bF_X12 tyX12 tyX12_ok nmX12 hown hK hT hG hS hr_o0 shm_0 rfl 0 (by decide) (ht_at hts 0 rfl) (fun _ h9 => h9) rfl (by decide +kernel) rfl rfl (gl_at rfl (gi_all _)) dX12_hours_2 (fun H locs hT oq m1 oj hS => ?_)
  have hF := hF.put hr_o0 skm_0 oq oj (by decide)
  refine lv_aload_n hx hb dX12_hours_5 rfl (lv_at hl 0 rfl) ?_
  refine lv_iload_n hx hb dX12_hours_6 rfl (lv_at hl 1 rfl) ?_
  refine lv_iconst (v := 0) hx hb dX12_hours_7 (by decide) ?_
  refine lv_sipush (v := 240) hx hb dX12_hours_8 (by decide) ?_
  have hFc := gA_free hG hA hS
  refine va_calli (va_runS (As := [.int p0, .int 0, .int 240]) (rest := [.ref o0]) ⟨hx, hb, hml, hown, hts⟩ (s_in l dC dI kA adK adV G H q wZ0 wN wH wB wC wL wK wU wV PI im PM PT lS lB lE lN p0 0 240 hT (fun _ => Int.le_refl 0) hgn hgh hgb hgc hgi hgu) (va_cwS 3 hts (goodIn_app (goodIn_r _ [3, 4, 5] rfl (by decide +kernel)) (goodIn_ca (goodIn_r _ [2] rfl (by decide +kernel)) (bs_in _ _))) rfl rfl rfl (by decide +kernel) ⟨(Nat.le_of_ble_eq_true rfl), (Nat.le_of_ble_eq_true rfl)⟩) ⟨fun a U g mk q => by obtain ⟨q0, q1, qK, qE⟩ := q; exact ⟨q0, q1, va_K.moved (u := U) (U := U.calling g mk a) (Vm.Alike.refl U.vm) qK, EVS.blind g mk a qE⟩, fun U hU hW => ⟨rfl, hU, va_K.moved hW.alike hK, hE.call hS hFc hU hW⟩⟩ rfl rfl hl.1 rfl (lv_room (Nat.le_of_ble_eq_true rfl)) dX12_hours_11 ⟨(Nat.le_of_ble_eq_true rfl), (Nat.le_of_ble_eq_true rfl)⟩) hS (fun q _ h => hFc q h) hFc (fun r2 u t H locs ht hvm hw3 hB _ _ hS => ?_)
  obtain ⟨hT, hF1⟩ := hB
  rw [ht] at hT hF1
  have m4 := (hF1.fld hr_o0 skm_0 (k := 0) (by decide) (by decide)).trans m1
  have hF := hF.more hF1 (by decide)
  try dsimp only at hw3
  obtain ⟨h5, hi6, hi7⟩ := hw3
  refine lv_if_ne (tgt := 21) hx hb dX12_hours_14 (by decide) (fun c8 => ?_) (fun c8 => ?_)
  · have t9 : r2.toInt ≠ 0 := ti_ne c8 rfl (by decide)
    have t10 : (0 : Int32).toInt = 0 := by decide
    have t11 : (240 : Int32).toInt = 240 := by decide
    have t12 : (0 : Int32).toInt ≤ p0.toInt ∧ p0.toInt ≤ (240 : Int32).toInt := hi6 ((bit_of ⟨by omega, by omega⟩).resolve_left c8)
    refine lv_iconst (v := 0) hx hb dX12_hours_21 (by decide) ?_
    refine lv_iconst (v := 1) hx hb dX12_hours_22 (by decide) ?_
    have hFc := gA_free hG hA hS
    refine va_calli (va_runV (As := [.int 0, .int 1]) (rest := []) ⟨hx, hb, hml, hown, hts⟩ (s_throwsIfP l dC dI kA adK adV G H q wZ0 wN wH wB wC wL wK wU wV PI im PM PT lS lB lE lN o0 0 1 0 hT hr_o0 m4 (rg_t (a := 0) (by decide) (by first | decide | omega) (by first | decide | omega)) (fun _ => Int.le_refl 0) hgn hgh hgb hgc hgi hgu) (cwV 2 hts (goodIn_app (goodIn_r _ [7, 8, 9, 5] rfl (by decide +kernel)) (goodIn_ca (goodIn_r _ [6, 1] rfl (by decide +kernel)) (bs_in _ _))) rfl rfl rfl (by decide +kernel) ⟨(Nat.le_of_ble_eq_true rfl), (Nat.le_of_ble_eq_true rfl)⟩) ⟨fun a U g mk q => by obtain ⟨q0, q1, qK, qE⟩ := q; exact ⟨q0, q1, va_K.moved (u := U) (U := U.calling g mk a) (Vm.Alike.refl U.vm) qK, EVS.blind g mk a qE⟩, gH_rc hK hT hr_o0 shm_0 rfl, fun U hU hW => ⟨rfl, hU, va_K.moved hW.alike hK, hE.call hS hFc hU hW⟩⟩ rfl rfl hl.1 rfl (lv_room (Nat.le_of_ble_eq_true rfl)) dX12_hours_23 ⟨(Nat.le_of_ble_eq_true rfl), (Nat.le_of_ble_eq_true rfl)⟩) hS (fun q _ h => hFc q h) hFc (fun r13 u t H locs ht hvm hw14 hB _ _ hS => ?_)
    obtain ⟨u15, rfl⟩ : ∃ z, z = u := ⟨_, rfl⟩
    obtain ⟨hT, hF1, m16⟩ := hB
    rw [ht] at hT hF1 m16
    have hF := hF.more hF1 (by decide)
    try dsimp only at hw14
    obtain ⟨h18, hf19, hd20⟩ := hw14
    have t21 : (0 : Int32).toInt = 0 := by decide
    have t22 : (1 : Int32).toInt = 1 := by decide
    have t23 : (0 : Int32).toInt = 0 := by decide
    obtain rfl : (0 : Int32) = r13 := hd20.symm
    refine lv_if_eq (tgt := 31) hx hb dX12_hours_26 (by decide) (fun c24 => ?_) (fun c24 => absurd c24 (by decide))
    refine lv_iconst (v := 0) hx hb dX12_hours_31 (by decide) ?_
    refine lv_istore_n (lv' := [(2, .int 0), (0, .ref o0), (1, .int p0)]) hx hb dX12_hours_32 rfl hl (by decide) rfl (fun ls hl => ?_)
    have key66 : ∀ (n66 i25 : Nat), i25 + n66 = 240 → 0 ≤ i25 → ∀ (gwN26 : Nat → Int), ∀ (gwH27 : Int), ∀ (gwB28 : Int), ∀ (gPM29 : Nat → Int → Prop), ∀ (gPT30 : Nat → Int → Prop), ((∀ i, 6500000 ≤ gwN26 i ∧ gwN26 i ≤ 6500000 + 340 * gwH27) ∧ (0 ≤ gwH27 ∧ gwH27 ≤ 40000) ∧ (0 ≤ gwB28 ∧ gwB28 ≤ 96 * gwH27) ∧ (gwH27 = wH + ((i25 : Nat) : Int) ∧ ((i25 : Nat) : Int) ≤ p0.toInt)) → ∀ (H : Heap) (locs : List Loc), gH (dC, dI) kA (SHm q (wP wZ0 gwN26 gwH27 gwB28 wC wL wK wU wV) PI im gPM29 gPT30 lS lB lE lN) G H → gF (dC, dI) SKm G ([(0, 0), (0, 9), (2, 0), (5, 0), (6, 0), (7, 0), (8, 0), (9, 0)] : List (Nat × Nat)) s.heap H → va_S A s.heap H locs → el H o0 (dI 15 0) = some (.int u15) → ∀ ls : Array Slot, lv_has ls 3 [(2, .int (nI i25)), (0, .ref o0), (1, .int p0)] → W p l e (headSpec w_s_hoursE ({ frames := 5, cells := 0, slots := 0, locals := 120 })).room s m #[.ref o0, .int p0] below meth c H locs 0 0 (MQ below (va_Qi (fun (r : Int32) (u : Int32 × Int × (Nat → Int) × Int × (Nat → Int → Prop) × (Nat → Int → Prop)) => match u with | (t1, wH1, wN1, wB1, PM1, PT1) => (0 ≤ r.toInt ∧ r.toInt ≤ 40000) ∧ (0 ≤ wH1 ∧ wH1 ≤ 40000) ∧ (∀ i, 6500000 ≤ wN1 i ∧ wN1 i ≤ 6500000 + 340 * wH1) ∧ (0 ≤ wB1 ∧ wB1 ≤ 96 * wH1) ∧ (((0 ≤ p0.toInt ∧ p0.toInt ≤ 240) ∧ t1.toInt = 0 ∧ r.toInt = wH1 ∧ ((wH1 = wH + p0.toInt ∧ wH + p0.toInt ≤ 40000) ∨ (wH1 = 40000 ∧ 40000 ≤ wH + p0.toInt))) ∨ (¬ (0 ≤ p0.toInt ∧ p0.toInt ≤ 240) ∧ t1.toInt = 1 ∧ wH1 = wH))) (fun (u : Int32 × Int × (Nat → Int) × Int × (Nat → Int → Prop) × (Nat → Int → Prop)) (t : State) => match u with | (t1, wH1, wN1, wB1, PM1, PT1) => gH (dC, dI) kA (SHm q (wP wZ0 wN1 wH1 wB1 wC wL wK wU wV) PI im PM1 PT1 lS lB lE lN) G t.heap ∧ gF (dC, dI) SKm G ([(0, 0), (0, 9), (2, 0), (5, 0), (6, 0), (7, 0), (8, 0), (9, 0)] : List (Nat × Nat)) s.heap t.heap ∧ el t.heap o0 (dI 15 0) = some (.int t1)) A) #[.ref o0, .int p0] s 0 0 A) (F0 m 33 ls []) := by
      intro n66
      induction n66 with
      | zero =>
        intro i25 hn66 hlo67 gwN26 gwH27 gwB28 gPM29 gPT30 ⟨hg32, hg33, hg34, hj35⟩ H locs hT hF hS m31 ls hl
        obtain rfl : 240 = i25 := by omega
        have t68 : ∀ i, 6500000 ≤ gwN26 i ∧ gwN26 i ≤ 20200000 := fun i => by have q8 := hg32 i; omega
        refine lv_iload_n hx hb dX12_hours_33 rfl (lv_at hl 0 rfl) ?_
        refine lv_iload_n hx hb dX12_hours_34 rfl (lv_at hl 2 rfl) ?_
        refine lv_icmp_ge (tgt := 57) hx hb dX12_hours_35 (by decide) (fun c69 => ?_) (fun c69 => (by exfalso; have q9 : ((240 : Nat) : Int) < p0.toInt := ti_nle c69 rfl (nI_toInt (by omega)); omega))
        have t70 : p0.toInt ≤ ((240 : Nat) : Int) := ti_le c69 rfl (nI_toInt (by omega))
        refine lv_aload_n hx hb dX12_hours_57 rfl (lv_at hl 1 rfl) ?_
        have hFc := gA_free hG hA hS
        refine va_calli (va_runV (As := []) (rest := []) ⟨hx, hb, hml, hown, hts⟩ (s_hour l dC dI kA adK adV G H q wZ0 gwN26 gwH27 gwB28 wC wL wK wU wV PI im gPM29 gPT30 lS lB lE lN o0 hT hr_o0 (fun _ => Int.le_refl 0) t68 hg33 (by omega) (by omega) (by omega) hgu) (cwV 0 hts (goodIn_app (goodIn_r _ [12, 13, 14, 5] rfl (by decide +kernel)) (goodIn_ca (goodIn_r _ [10, 11] rfl (by decide +kernel)) (bs_in _ _))) rfl rfl rfl (by decide +kernel) ⟨(Nat.le_of_ble_eq_true rfl), (Nat.le_of_ble_eq_true rfl)⟩) ⟨fun a U g mk q => by obtain ⟨q0, q1, qK, qE⟩ := q; exact ⟨q0, q1, va_K.moved (u := U) (U := U.calling g mk a) (Vm.Alike.refl U.vm) qK, EVS.blind g mk a qE⟩, gH_rc hK hT hr_o0 shm_0 rfl, fun U hU hW => ⟨rfl, hU, va_K.moved hW.alike hK, hE.call hS hFc hU hW⟩⟩ rfl rfl hl.1 rfl (lv_room (Nat.le_of_ble_eq_true rfl)) dX12_hours_58 ⟨(Nat.le_of_ble_eq_true rfl), (Nat.le_of_ble_eq_true rfl)⟩) hS (fun q _ h => hFc q h) hFc (fun r71 u t H locs ht hvm hw72 hB _ _ hS => ?_)
        obtain ⟨hT, hF1⟩ := hB
        rw [ht] at hT hF1
        have m73 := (hF1.fld hr_o0 skm_0 (k := 0) (by decide) (by decide)).trans m31
        have hF := hF.more hF1 (by decide)
        try dsimp only at hw72
        obtain ⟨h74, hf75⟩ := hw72
        exact W.iret (v := r71) hx hb hr (fun t ht hW => ⟨⟨r71, (u15, gwH27, gwN26, gwB28, gPM29, gPT30), rfl, (by exact ⟨(by have q8 := ti_all r71; omega), (by omega), hg32, (by omega), (by have q0 : (0 : Int32).toInt = 0 := (by decide); have q1 : (1 : Int32).toInt = 1 := (by decide); omega)⟩), by (try dsimp only); rw [ht]; exact ⟨hT, hF, m73⟩⟩, hS.F ht⟩) hS.2.2 dX12_hours_61
      | succ n66 ih66 =>
        intro i25 hn66 hlo67 gwN26 gwH27 gwB28 gPM29 gPT30 ⟨hg32, hg33, hg34, hj35⟩ H locs hT hF hS m31 ls hl
        have hlt75 : i25 < 240 := by omega
        have t76 : ∀ i, 6500000 ≤ gwN26 i ∧ gwN26 i ≤ 20200000 := fun i => by have q8 := hg32 i; omega
        refine lv_iload_n hx hb dX12_hours_33 rfl (lv_at hl 0 rfl) ?_
        refine lv_iload_n hx hb dX12_hours_34 rfl (lv_at hl 2 rfl) ?_
        refine lv_icmp_ge (tgt := 57) hx hb dX12_hours_35 (by decide) (fun c77 => ?_) (fun c77 => ?_)
        · have t78 : p0.toInt ≤ ((i25 : Nat) : Int) := ti_le c77 rfl (nI_toInt (by omega))
          refine lv_aload_n hx hb dX12_hours_57 rfl (lv_at hl 1 rfl) ?_
          have hFc := gA_free hG hA hS
          refine va_calli (va_runV (As := []) (rest := []) ⟨hx, hb, hml, hown, hts⟩ (s_hour l dC dI kA adK adV G H q wZ0 gwN26 gwH27 gwB28 wC wL wK wU wV PI im gPM29 gPT30 lS lB lE lN o0 hT hr_o0 (fun _ => Int.le_refl 0) t76 hg33 (by omega) (by omega) (by omega) hgu) (cwV 0 hts (goodIn_app (goodIn_r _ [12, 13, 14, 5] rfl (by decide +kernel)) (goodIn_ca (goodIn_r _ [10, 11] rfl (by decide +kernel)) (bs_in _ _))) rfl rfl rfl (by decide +kernel) ⟨(Nat.le_of_ble_eq_true rfl), (Nat.le_of_ble_eq_true rfl)⟩) ⟨fun a U g mk q => by obtain ⟨q0, q1, qK, qE⟩ := q; exact ⟨q0, q1, va_K.moved (u := U) (U := U.calling g mk a) (Vm.Alike.refl U.vm) qK, EVS.blind g mk a qE⟩, gH_rc hK hT hr_o0 shm_0 rfl, fun U hU hW => ⟨rfl, hU, va_K.moved hW.alike hK, hE.call hS hFc hU hW⟩⟩ rfl rfl hl.1 rfl (lv_room (Nat.le_of_ble_eq_true rfl)) dX12_hours_58 ⟨(Nat.le_of_ble_eq_true rfl), (Nat.le_of_ble_eq_true rfl)⟩) hS (fun q _ h => hFc q h) hFc (fun r79 u t H locs ht hvm hw80 hB _ _ hS => ?_)
          obtain ⟨hT, hF1⟩ := hB
          rw [ht] at hT hF1
          have m81 := (hF1.fld hr_o0 skm_0 (k := 0) (by decide) (by decide)).trans m31
          have hF := hF.more hF1 (by decide)
          try dsimp only at hw80
          obtain ⟨h82, hf83⟩ := hw80
          exact W.iret (v := r79) hx hb hr (fun t ht hW => ⟨⟨r79, (u15, gwH27, gwN26, gwB28, gPM29, gPT30), rfl, (by exact ⟨(by have q8 := ti_all r79; omega), (by omega), hg32, (by omega), (by have q0 : (0 : Int32).toInt = 0 := (by decide); have q1 : (1 : Int32).toInt = 1 := (by decide); omega)⟩), by (try dsimp only); rw [ht]; exact ⟨hT, hF, m81⟩⟩, hS.F ht⟩) hS.2.2 dX12_hours_61
        · have t84 : ((i25 : Nat) : Int) < p0.toInt := ti_nle c77 rfl (nI_toInt (by omega))
          refine lv_aload_n hx hb dX12_hours_38 rfl (lv_at hl 1 rfl) ?_
          have hFc := gA_free hG hA hS
          refine va_calli (va_runV (As := []) (rest := []) ⟨hx, hb, hml, hown, hts⟩ (s_hour l dC dI kA adK adV G H q wZ0 gwN26 gwH27 gwB28 wC wL wK wU wV PI im gPM29 gPT30 lS lB lE lN o0 hT hr_o0 (fun _ => Int.le_refl 0) t76 hg33 (by omega) (by omega) (by omega) hgu) (cwV 0 hts (goodIn_app (goodIn_r _ [12, 13, 14, 5] rfl (by decide +kernel)) (goodIn_ca (goodIn_r _ [10, 11] rfl (by decide +kernel)) (bs_in _ _))) rfl rfl rfl (by decide +kernel) ⟨(Nat.le_of_ble_eq_true rfl), (Nat.le_of_ble_eq_true rfl)⟩) ⟨fun a U g mk q => by obtain ⟨q0, q1, qK, qE⟩ := q; exact ⟨q0, q1, va_K.moved (u := U) (U := U.calling g mk a) (Vm.Alike.refl U.vm) qK, EVS.blind g mk a qE⟩, gH_rc hK hT hr_o0 shm_0 rfl, fun U hU hW => ⟨rfl, hU, va_K.moved hW.alike hK, hE.call hS hFc hU hW⟩⟩ rfl rfl hl.1 rfl (lv_room (Nat.le_of_ble_eq_true rfl)) dX12_hours_39 ⟨(Nat.le_of_ble_eq_true rfl), (Nat.le_of_ble_eq_true rfl)⟩) hS (fun q _ h => hFc q h) hFc (fun r85 u t H locs ht hvm hw86 hB _ _ hS => ?_)
          obtain ⟨hT, hF1⟩ := hB
          rw [ht] at hT hF1
          have m87 := (hF1.fld hr_o0 skm_0 (k := 0) (by decide) (by decide)).trans m31
          have hF := hF.more hF1 (by decide)
          try dsimp only at hw86
          obtain ⟨h88, hf89⟩ := hw86
          refine lv_ldc (v := 40000) hx hb hown (ht_at hts 14 rfl) dX12_hours_42 ?_
          refine lv_icmp_ge (tgt := 57) hx hb dX12_hours_44 (by decide) (fun c90 => ?_) (fun c90 => ?_)
          · have t91 : 40000 ≤ r85.toInt := ti_le c90 (by decide) rfl
            refine lv_aload_n hx hb dX12_hours_57 rfl (lv_at hl 1 rfl) ?_
            have hFc := gA_free hG hA hS
            refine va_calli (va_runV (As := []) (rest := []) ⟨hx, hb, hml, hown, hts⟩ (s_hour l dC dI kA adK adV G H q wZ0 gwN26 gwH27 gwB28 wC wL wK wU wV PI im gPM29 gPT30 lS lB lE lN o0 hT hr_o0 (fun _ => Int.le_refl 0) t76 hg33 (by omega) (by omega) (by omega) hgu) (cwV 0 hts (goodIn_app (goodIn_r _ [12, 13, 14, 5] rfl (by decide +kernel)) (goodIn_ca (goodIn_r _ [10, 11] rfl (by decide +kernel)) (bs_in _ _))) rfl rfl rfl (by decide +kernel) ⟨(Nat.le_of_ble_eq_true rfl), (Nat.le_of_ble_eq_true rfl)⟩) ⟨fun a U g mk q => by obtain ⟨q0, q1, qK, qE⟩ := q; exact ⟨q0, q1, va_K.moved (u := U) (U := U.calling g mk a) (Vm.Alike.refl U.vm) qK, EVS.blind g mk a qE⟩, gH_rc hK hT hr_o0 shm_0 rfl, fun U hU hW => ⟨rfl, hU, va_K.moved hW.alike hK, hE.call hS hFc hU hW⟩⟩ rfl rfl hl.1 rfl (lv_room (Nat.le_of_ble_eq_true rfl)) dX12_hours_58 ⟨(Nat.le_of_ble_eq_true rfl), (Nat.le_of_ble_eq_true rfl)⟩) hS (fun q _ h => hFc q h) hFc (fun r92 u t H locs ht hvm hw93 hB _ _ hS => ?_)
            obtain ⟨hT, hF1⟩ := hB
            rw [ht] at hT hF1
            have m94 := (hF1.fld hr_o0 skm_0 (k := 0) (by decide) (by decide)).trans m87
            have hF := hF.more hF1 (by decide)
            try dsimp only at hw93
            obtain ⟨h95, hf96⟩ := hw93
            exact W.iret (v := r92) hx hb hr (fun t ht hW => ⟨⟨r92, (u15, gwH27, gwN26, gwB28, gPM29, gPT30), rfl, (by exact ⟨(by have q8 := ti_all r92; omega), (by omega), hg32, (by omega), (by have q0 : (0 : Int32).toInt = 0 := (by decide); have q1 : (1 : Int32).toInt = 1 := (by decide); omega)⟩), by (try dsimp only); rw [ht]; exact ⟨hT, hF, m94⟩⟩, hS.F ht⟩) hS.2.2 dX12_hours_61
          · have t97 : r85.toInt < 40000 := ti_nle c90 (by decide) rfl
            refine lv_aload_n hx hb dX12_hours_47 rfl (lv_at hl 1 rfl) ?_
            have hFc := gA_free hG hA hS
            refine va_callv (va_runV (As := []) (rest := []) ⟨hx, hb, hml, hown, hts⟩ (s_anHour l dC dI kA adK adV G H q wZ0 gwN26 gwH27 gwB28 wC wL wK wU wV PI im gPM29 gPT30 lS lB lE lN o0 hT hr_o0 (by assumption) hg32 (by omega) (by omega) (fun _ => Int.le_refl 0) t76 hg33 (by omega) (by omega) (by omega) hgu) (cwV 0 hts (goodIn_app (goodIn_r _ [112, 113, 114, 5] rfl (by decide +kernel)) (goodIn_ca (goodIn_r _ [16, 11, 10, 12, 13, 14, 5, 17, 2, 3, 4, 18, 19, 20, 21, 22, 23, 24, 25, 26, 27, 28, 29, 30, 31, 32, 33, 34, 35, 36, 37, 38, 39, 40, 41, 42, 43, 44, 45, 46, 47, 48, 49, 50, 51, 52, 53, 54, 55, 56, 57, 58, 59, 60, 61, 62, 63, 64, 65, 66, 67, 68, 69, 70, 71, 72, 73, 74, 75, 76, 77, 78, 79, 80, 81, 82, 83, 84, 85, 86, 87, 88, 89, 90, 91, 92, 93, 94, 95, 96, 97, 98, 99, 100, 101, 102, 103, 104, 105, 106, 107, 108, 109, 110, 111] rfl (by decide +kernel)) (bs_in _ _))) rfl rfl rfl (by decide +kernel) ⟨(Nat.le_of_ble_eq_true rfl), (Nat.le_of_ble_eq_true rfl)⟩) ⟨fun a U g mk q => by obtain ⟨q0, q1, qK, qE⟩ := q; exact ⟨q0, q1, va_K.moved (u := U) (U := U.calling g mk a) (Vm.Alike.refl U.vm) qK, EVS.blind g mk a qE⟩, gH_rc hK hT hr_o0 shm_0 rfl, fun U hU hW => ⟨rfl, hU, va_K.moved hW.alike hK, hE.call hS hFc hU hW⟩⟩ rfl rfl hl.1 rfl (lv_room (Nat.le_of_ble_eq_true rfl)) dX12_hours_48 ⟨(Nat.le_of_ble_eq_true rfl), (Nat.le_of_ble_eq_true rfl)⟩) hS (fun q _ h => hFc q h) hFc (fun u t H locs ht hvm hw99 hB _ _ hS => ?_)
            obtain ⟨u100, u101, u102, u103⟩ := u
            obtain ⟨hT, hF1⟩ := hB
            rw [ht] at hT hF1
            have m104 := (hF1.fld hr_o0 skm_0 (k := 0) (by decide) (by decide)).trans m87
            have hF := hF.more hF1 (by decide)
            try dsimp only at hw99
            obtain ⟨hf105, hf106⟩ := hw99
            refine lv_iinc (v := nI (i25 + 1)) (lv' := [(2, .int (nI (i25 + 1))), (0, .ref o0), (1, .int p0)]) hx hb dX12_hours_51 hl (k := 0) rfl (nI_add i25 1) (by decide) rfl (fun ls hl => ?_)
            refine lv_goto (tgt := 33) hx hb dX12_hours_54 (by decide) ?_
            exact ih66 (i25 + 1) (by omega) (by omega) u100 (gwH27 + 1) u101 u102 u103 ⟨hf105, (by omega), (by omega), (by omega)⟩ _ _ hT hF hS m104 ls (lv_sub hl [0, 1, 2] rfl)
    exact key66 (240 - 0) 0 (by omega) (Nat.le_refl _) wN wH wB PM PT ⟨hn_, (by omega), (by omega), (by omega)⟩ _ _ hT hF hS m16 ls (lv_sub hl [0, 1, 2] rfl)
  · have t107 : r2.toInt = 0 := ti_eq c8 rfl (by decide)
    have t108 : (0 : Int32).toInt = 0 := by decide
    have t109 : (240 : Int32).toInt = 240 := by decide
    have t110 : p0.toInt < (0 : Int32).toInt ∨ (240 : Int32).toInt < p0.toInt := hi7 c8
    refine lv_iconst (v := 1) hx hb dX12_hours_17 (by decide) ?_
    refine lv_goto (tgt := 22) hx hb dX12_hours_18 (by decide) ?_
    refine lv_iconst (v := 1) hx hb dX12_hours_22 (by decide) ?_
    have hFc := gA_free hG hA hS
    refine va_calli (va_runV (As := [.int 1, .int 1]) (rest := []) ⟨hx, hb, hml, hown, hts⟩ (s_throwsIfP l dC dI kA adK adV G H q wZ0 wN wH wB wC wL wK wU wV PI im PM PT lS lB lE lN o0 1 1 0 hT hr_o0 m4 (rg_t (a := 1) (by decide) (by first | decide | omega) (by first | decide | omega)) (fun _ => Int.le_refl 0) hgn hgh hgb hgc hgi hgu) (cwV 2 hts (goodIn_app (goodIn_r _ [7, 8, 9, 5] rfl (by decide +kernel)) (goodIn_ca (goodIn_r _ [6, 1] rfl (by decide +kernel)) (bs_in _ _))) rfl rfl rfl (by decide +kernel) ⟨(Nat.le_of_ble_eq_true rfl), (Nat.le_of_ble_eq_true rfl)⟩) ⟨fun a U g mk q => by obtain ⟨q0, q1, qK, qE⟩ := q; exact ⟨q0, q1, va_K.moved (u := U) (U := U.calling g mk a) (Vm.Alike.refl U.vm) qK, EVS.blind g mk a qE⟩, gH_rc hK hT hr_o0 shm_0 rfl, fun U hU hW => ⟨rfl, hU, va_K.moved hW.alike hK, hE.call hS hFc hU hW⟩⟩ rfl rfl hl.1 rfl (lv_room (Nat.le_of_ble_eq_true rfl)) dX12_hours_23 ⟨(Nat.le_of_ble_eq_true rfl), (Nat.le_of_ble_eq_true rfl)⟩) hS (fun q _ h => hFc q h) hFc (fun r111 u t H locs ht hvm hw112 hB _ _ hS => ?_)
    obtain ⟨u113, rfl⟩ : ∃ z, z = u := ⟨_, rfl⟩
    obtain ⟨hT, hF1, m114⟩ := hB
    rw [ht] at hT hF1 m114
    have hF := hF.more hF1 (by decide)
    try dsimp only at hw112
    obtain ⟨h116, hf117, hd118⟩ := hw112
    have t119 : (1 : Int32).toInt = 1 := by decide
    have t120 : (1 : Int32).toInt = 1 := by decide
    have t121 : (0 : Int32).toInt = 0 := by decide
    obtain rfl : (1 : Int32) = r111 := hd118.symm
    refine lv_if_eq (tgt := 31) hx hb dX12_hours_26 (by decide) (fun c122 => absurd c122 (by decide)) (fun c122 => ?_)
    refine lv_iconst (v := 0) hx hb dX12_hours_29 (by decide) ?_
    exact W.iret (v := 0) hx hb hr (fun t ht hW => ⟨⟨0, (u113, wH, wN, wB, PM, PT), rfl, (by exact ⟨(rg_t (a := 0) (by decide) (by first | decide | omega) (by first | decide | omega)), (by omega), hn_, (by omega), (by have q0 : (0 : Int32).toInt = 0 := (by decide); have q1 : (1 : Int32).toInt = 1 := (by decide); omega)⟩), by (try dsimp only); rw [ht]; exact ⟨hT, hF, m114⟩⟩, hS.F ht⟩) hS.2.2 dX12_hours_30
def w_s_keepE : List Cond := .code yX12_keep cX12_keep 2 (some .boolean) :: (HAppend.hAppend (α := List Cond) (β := List Cond) (γ := List Cond) [.fieldLink RX12 194 "SeaLandModel" "thrown" "I", .code yX12_hour cX12_hour 1 (some .int), .fieldLink RX12 9 "SeaLandModel" "world" "[I", .methodLink RX12 228 yX12_hour, .instanceMethod yX12_hour, .selects RX12 yX12_hour yX12_hour, .initialized RX12, .fieldLink RX12 325 "SeaLandModel" "hasImage" "Z", .fieldLink RX12 13 "SeaLandModel" "image" "[I"] bs)
set_option maxHeartbeats 4000000 in
set_option maxRecDepth 100000 in
theorem s_keepE (l : Launch) (dC : Nat → ClassId) (dI : Nat → Nat → Nat) (kA : Nat → ClassId) (adK adV : Nat → Nat) (G : gT) (H0 : Heap) (q : Nat → Nat) (wZ wN : Nat → Int) (wH wB wC : Int) (wL wK : Nat → Prop) (wU wV : Nat → Nat) (PI : Nat → Int → Prop) (im : Int) (PM PT : Nat → Int → Prop) (lS lB lE : Nat → Nat → Int → Prop) (lN : Nat → Int) (o0 : Nat) (him : Int32)  (hT : gH (dC, dI) kA (SHm q (wP wZ0 wN wH wB wC wL wK wU wV) PI im PM PT lS lB lE lN) G H0) (hr_o0 : G o0 = some 0) (hm_him : el H0 o0 (dI 15 3) = some (.int him)) (hq0 : 0 ≤ him.toInt ∧ him.toInt ≤ 1) (hgz : ∀ i, 0 ≤ wZ i) (hgn : ∀ i, 6500000 ≤ wN i ∧ wN i ≤ 20200000) (hgh : 0 ≤ wH ∧ wH ≤ 40000) (hgb : 0 ≤ wB ∧ wB ≤ 3850000) (hgc : 0 ≤ wC ∧ wC ≤ 30) (hgi : 0 ≤ im ∧ im ≤ 1) (hgu : ∀ a t, G a = some (t + 1) → a = q t) : Met l yX12_keep w_s_keepE ({ frames := 1, cells := 0, slots := 0, locals := 20 }) (va_Pc [.ref o0] (fun U => U.heap = H0 ∧ va_K (dC, dI) vwCl (tyl kA) U ∧ EVS adK adV (gA G H0.size) U U.heap)) (va_Qi (fun (r : Int32) (u : Int32 × (Nat → Int → Prop)) => match u with | (h1, PI1) => (0 ≤ r.toInt ∧ r.toInt ≤ 1) ∧ ((wH = 0 ∧ r.toInt = 0 ∧ h1.toInt = him.toInt ∧ PI1 = PI) ∨ (wH ≠ 0 ∧ r.toInt = 1 ∧ h1.toInt = 1 ∧ PI1 = (wP wZ0 wN wH wB wC wL wK wU wV)))) (fun (u : Int32 × (Nat → Int → Prop)) (t : State) => match u with | (h1, PI1) => gH (dC, dI) kA (SHm q (wP wZ0 wN wH wB wC wL wK wU wV) PI1 im PM PT lS lB lE lN) G t.heap ∧ gF (dC, dI) SKm G ([(0, 0), (0, 3), (3, 0)] : List (Nat × Nat)) H0 t.heap ∧ el t.heap o0 (dI 15 3) = some (.int h1)) (gA G H0.size)) 0 0 (gA G H0.size) := by
  refine Met.ofW (cc := cX12_keep) (maxL := 2) (ret := (some .boolean)) (by decide) rfl ?_
  intro p e s m args below meth c s₁ B hml hv
  obtain ⟨rfl, hH0, hK, hE⟩ := hv
  have hx := B.exec
  have hb := B.bytes
  have hr := B.returns
  have hts := atoms_spec (ws := w_s_keepE) B.pre
  have hown : s.vm.findClass RX12 = some m.cls := findClass_of_methodNamed B.named
  have hlocks := B.notSynchronized
  subst hH0
  generalize hAe : gA G s.heap.size = A at hE ⊢
  have hA : ∀ q : Nat, s.heap.size ≤ q → A q := fun q h => by rw [← hAe]; exact Or.inr h
  have hG := gA_of hAe
  have hS : va_S A s.heap s.heap [] := va_S.rf
  have hF : gF (dC, dI) SKm G ([(0, 0), (0, 3), (3, 0)] : List (Nat × Nat)) s.heap s.heap := gF.rf
  have hl := lv_entry ([.ref o0]) (n := 2) (Nat.le_of_ble_eq_true rfl)
  rw [lg_entry_eq]
  generalize (lg_sl ([.ref o0]) ++ List.replicate (2 - (lg_sl ([.ref o0])).length) Slot.unset).toArray = ls at hl ⊢
  have hl : lv_has ls 2 [(0, .ref o0)] := hl
  refine lv_aload_n hx hb dX12_keep_0 rfl (lv_at hl 0 rfl) ?_
  refine lv_iconst (v := 0) hx hb dX12_keep_1 (by decide) ?_
  refine tw_put (v := .int 0) (ty := .int) hx hb hts bF_X12 tyX12 tyX12_ok nmX12 hown hK hT hG hS hr_o0 shm_0 rfl 0 (by decide) (ht_at hts 0 rfl) (fun _ h9 => h9) rfl (by decide +kernel) rfl rfl (gl_at rfl (gi_all _)) dX12_keep_2 (fun H locs hT oq m1 oj hS => ?_)
  have hF := hF.put hr_o0 skm_0 oq oj (by decide)
  have m2 := (oj 3 (by decide) (by decide)).trans hm_him
  refine lv_aload_n hx hb dX12_keep_5 rfl (lv_at hl 0 rfl) ?_
  have hFc := gA_free hG hA hS
  refine va_calli (va_runV (As := []) (rest := []) ⟨hx, hb, hml, hown, hts⟩ (s_hour l dC dI kA adK adV G H q wZ0 wN wH wB wC wL wK wU wV PI im PM PT lS lB lE lN o0 hT hr_o0 (fun _ => Int.le_refl 0) hgn hgh hgb hgc hgi hgu) (cwV 0 hts (goodIn_app (goodIn_r _ [4, 5, 6, 7] rfl (by decide +kernel)) (goodIn_ca (goodIn_r _ [2, 3] rfl (by decide +kernel)) (bs_in _ _))) rfl rfl rfl (by decide +kernel) ⟨(Nat.le_of_ble_eq_true rfl), (Nat.le_of_ble_eq_true rfl)⟩) ⟨fun a U g mk q => by obtain ⟨q0, q1, qK, qE⟩ := q; exact ⟨q0, q1, va_K.moved (u := U) (U := U.calling g mk a) (Vm.Alike.refl U.vm) qK, EVS.blind g mk a qE⟩, gH_rc hK hT hr_o0 shm_0 rfl, fun U hU hW => ⟨rfl, hU, va_K.moved hW.alike hK, hE.call hS hFc hU hW⟩⟩ rfl rfl hl.1 rfl (lv_room (Nat.le_of_ble_eq_true rfl)) dX12_keep_6 ⟨(Nat.le_of_ble_eq_true rfl), (Nat.le_of_ble_eq_true rfl)⟩) hS (fun q _ h => hFc q h) hFc (fun r3 u t H locs ht hvm hw4 hB _ _ hS => ?_)
  obtain ⟨hT, hF1⟩ := hB
  rw [ht] at hT hF1
  have m5 := (hF1.fld hr_o0 skm_0 (k := 3) (by decide) (by decide)).trans m2
  have m6 := (hF1.fld hr_o0 skm_0 (k := 0) (by decide) (by decide)).trans m1
  have hF := hF.more hF1 (by decide)
  try dsimp only at hw4
  obtain ⟨h7, hf8⟩ := hw4
  refine lv_if_ne (tgt := 14) hx hb dX12_keep_9 (by decide) (fun c9 => ?_) (fun c9 => ?_)
  · have t10 : r3.toInt ≠ 0 := ti_ne c9 rfl (by decide)
    refine lv_iconst (v := 0) hx hb dX12_keep_14 (by decide) ?_
    refine lv_istore_n (lv' := [(1, .int 0), (0, .ref o0)]) hx hb dX12_keep_15 rfl hl (by decide) rfl (fun ls hl => ?_)
    have key27 : ∀ (n27 i11 : Nat), i11 + n27 = 1749 → 0 ≤ i11 → ∀ (H : Heap) (locs : List Loc), gH (dC, dI) kA (SHm q (wP wZ0 wN wH wB wC wL wK wU wV) (pcP (wP wZ0 wN wH wB wC wL wK wU wV) PI i11) im PM PT lS lB lE lN) G H → gF (dC, dI) SKm G ([(0, 0), (0, 3), (3, 0)] : List (Nat × Nat)) s.heap H → va_S A s.heap H locs → el H o0 (dI 15 3) = some (.int him) → el H o0 (dI 15 0) = some (.int 0) → ∀ ls : Array Slot, lv_has ls 2 [(1, .int (nI i11)), (0, .ref o0)] → W p l e (headSpec w_s_keepE ({ frames := 1, cells := 0, slots := 0, locals := 20 })).room s m #[.ref o0] below meth c H locs 0 0 (MQ below (va_Qi (fun (r : Int32) (u : Int32 × (Nat → Int → Prop)) => match u with | (h1, PI1) => (0 ≤ r.toInt ∧ r.toInt ≤ 1) ∧ ((wH = 0 ∧ r.toInt = 0 ∧ h1.toInt = him.toInt ∧ PI1 = PI) ∨ (wH ≠ 0 ∧ r.toInt = 1 ∧ h1.toInt = 1 ∧ PI1 = (wP wZ0 wN wH wB wC wL wK wU wV)))) (fun (u : Int32 × (Nat → Int → Prop)) (t : State) => match u with | (h1, PI1) => gH (dC, dI) kA (SHm q (wP wZ0 wN wH wB wC wL wK wU wV) PI1 im PM PT lS lB lE lN) G t.heap ∧ gF (dC, dI) SKm G ([(0, 0), (0, 3), (3, 0)] : List (Nat × Nat)) s.heap t.heap ∧ el t.heap o0 (dI 15 3) = some (.int h1)) A) #[.ref o0] s 0 0 A) (F0 m 16 ls []) := by
      intro n27
      induction n27 with
      | zero =>
        intro i11 hn27 hlo28  H locs hT hF hS m12 m13 ls hl
        obtain rfl : 1749 = i11 := by omega
        refine lv_iload_n hx hb dX12_keep_16 rfl (lv_at hl 0 rfl) ?_
        refine lv_sipush (v := 1749) hx hb dX12_keep_17 (by decide) ?_
        refine lv_icmp_ge (tgt := 41) hx hb dX12_keep_20 (by decide) (fun c29 => ?_) (fun c29 => (by exfalso; have q9 : ((1749 : Nat) : Int) < 1749 := ti_nle c29 (by decide) (nI_toInt (by omega)); omega))
        have t30 : 1749 ≤ ((1749 : Nat) : Int) := ti_le c29 (by decide) (nI_toInt (by omega))
        have hT : gH (dC, dI) kA (SHm q (wP wZ0 wN wH wB wC wL wK wU wV) (wP wZ0 wN wH wB wC wL wK wU wV) im PM PT lS lB lE lN) G H := SHm_mono hT (fun _ _ _ z => z) (fun _ hi _ p => pc_all hi p) (fun _ _ z => z) (fun _ _ z => z) (fun _ _ _ _ z => z) (fun _ _ _ _ z => z) (fun _ _ _ _ z => z) (fun _ => Int.le_refl _)
        refine lv_aload_n hx hb dX12_keep_41 rfl (lv_at hl 1 rfl) ?_
        refine lv_iconst (v := 1) hx hb dX12_keep_42 (by decide) ?_
        refine tw_put (v := .int 1) (ty := .boolean) hx hb hts bF_X12 tyX12 tyX12_ok nmX12 hown hK hT hG hS hr_o0 shm_0 rfl 3 (by decide) (ht_at hts 7 rfl) (fun _ h9 => h9) rfl (by decide +kernel) rfl rfl (gl_at rfl (gi_of (show (1 : Int32).toInt = 1 from (by decide)) (by first | decide | omega) (by first | decide | omega))) dX12_keep_43 (fun H locs hT oq m31 oj hS => ?_)
        have hF := hF.put hr_o0 skm_0 oq oj (by decide)
        refine lv_iconst (v := 1) hx hb dX12_keep_46 (by decide) ?_
        exact W.zret (v := 1) hx hb hr (by decide) (fun t ht hW => ⟨⟨1, ((1 : Int32), (wP wZ0 wN wH wB wC wL wK wU wV)), rfl, (by exact ⟨(rg_t (a := 1) (by decide) (by first | decide | omega) (by first | decide | omega)), (Or.inr ⟨by omega, by decide, by decide, rfl⟩)⟩), by (try dsimp only); rw [ht]; exact ⟨hT, hF, m31⟩⟩, hS.F ht⟩) hS.2.2 dX12_keep_47
      | succ n27 ih27 =>
        intro i11 hn27 hlo28  H locs hT hF hS m12 m13 ls hl
        have hlt32 : i11 < 1749 := by omega
        refine lv_iload_n hx hb dX12_keep_16 rfl (lv_at hl 0 rfl) ?_
        refine lv_sipush (v := 1749) hx hb dX12_keep_17 (by decide) ?_
        refine lv_icmp_ge (tgt := 41) hx hb dX12_keep_20 (by decide) (fun c33 => (by exfalso; have q9 : 1749 ≤ ((i11 : Nat) : Int) := ti_le c33 (by decide) (nI_toInt (by omega)); omega)) (fun c33 => ?_)
        have t34 : ((i11 : Nat) : Int) < 1749 := ti_nle c33 (by decide) (nI_toInt (by omega))
        refine lv_aload_n hx hb dX12_keep_23 rfl (lv_at hl 1 rfl) ?_
        refine tw_get hx hb hts bF_X12 hown hK hT hr_o0 shm_0 rfl 2 (by decide) (ht_at hts 8 rfl) (fun _ h9 => h9) dX12_keep_24 (fun v9 m35 h9 => ?_)
        obtain ⟨rfl, hg36⟩ := h9 _ rfl
        refine lv_iload_n hx hb dX12_keep_27 rfl (lv_at hl 0 rfl) ?_
        refine lv_aload_n hx hb dX12_keep_28 rfl (lv_at hl 1 rfl) ?_
        refine tw_get hx hb hts bF_X12 hown hK hT hr_o0 shm_0 rfl 1 (by decide) (ht_at hts 2 rfl) (fun _ h9 => h9) dX12_keep_29 (fun v9 m37 h9 => ?_)
        obtain ⟨rfl, hg38⟩ := h9 _ rfl
        refine lv_iload_n hx hb dX12_keep_32 rfl (lv_at hl 0 rfl) ?_
        refine tw_iald (i := (nI i11)) hx hb hK hT hg38 shm_2 rfl (vp_in_nI (by omega) (by decide)) dX12_keep_33 (fun v9 m39 h9 => ?_)
        obtain ⟨x40, rfl, gx40, kx40⟩ := (gp_any h9)
        have t41 : (nI i11).toNatClampNeg = i11 := tn_nI (by omega)
        refine tw_iast2 (Sg1 := (SHm q (wP wZ0 wN wH wB wC wL wK wU wV) (pcP (wP wZ0 wN wH wB wC wL wK wU wV) PI (i11 + 1)) im PM PT lS lB lE lN)) (i := (nI i11)) (x := x40) hx hb hK hT hG hS hg36 shm_3 rfl shm_3 shm_o3 (fun b9 h9 => hgu b9 2 h9) (vp_in_nI (by omega) (by decide)) (⟨_, rfl, by rw [show (nI i11).toNatClampNeg = i11 from tn_nI (by omega)]; exact pc_at (by have q8 := wq_l hT hg38 (by have q9 := tn_of (show (nI i11).toInt = ((i11 : Nat) : Int) from (nI_toInt (by omega))) (by omega); omega) m39; rw [show (nI i11).toNatClampNeg = i11 from tn_nI (by omega)] at q8; exact q8)⟩) (fun k9 hk9 hne9 v9 hv9 he9 => by obtain ⟨x9, rfl, p9⟩ := he9; exact ⟨x9, rfl, pc_st (by omega) p9⟩) dX12_keep_34 (fun H locs hT oq m42 oi hS => ?_)
        have hF := hF.ast hg36 skm_3 oq (by decide)
        have m43 := (el_kept (oq _ (gne hr_o0 hg36 (by decide)))).trans m12
        have m44 := (el_kept (oq _ (gne hr_o0 hg36 (by decide)))).trans m13
        refine lv_iinc (v := nI (i11 + 1)) (lv' := [(1, .int (nI (i11 + 1))), (0, .ref o0)]) hx hb dX12_keep_35 hl (k := 0) rfl (nI_add i11 1) (by decide) rfl (fun ls hl => ?_)
        refine lv_goto (tgt := 16) hx hb dX12_keep_38 (by decide) ?_
        exact ih27 (i11 + 1) (by omega) (by omega) _ _ hT hF hS m43 m44 ls (lv_sub hl [0, 1] rfl)
    have hT : gH (dC, dI) kA (SHm q (wP wZ0 wN wH wB wC wL wK wU wV) (pcP (wP wZ0 wN wH wB wC wL wK wU wV) PI 0) im PM PT lS lB lE lN) G H := SHm_mono hT (fun _ _ _ z => z) (fun _ _ _ p => pc_0 p) (fun _ _ z => z) (fun _ _ z => z) (fun _ _ _ _ z => z) (fun _ _ _ _ z => z) (fun _ _ _ _ z => z) (fun _ => Int.le_refl _)
    exact key27 (1749 - 0) 0 (by omega) (Nat.le_refl _) _ _ hT hF hS m5 m6 ls (lv_sub hl [0, 1] rfl)
  · have t46 : r3.toInt = 0 := ti_eq c9 rfl (by decide)
    refine lv_iconst (v := 0) hx hb dX12_keep_12 (by decide) ?_
    exact W.zret (v := 0) hx hb hr (by decide) (fun t ht hW => ⟨⟨0, (him, PI), rfl, (by exact ⟨(rg_t (a := 0) (by decide) (by first | decide | omega) (by first | decide | omega)), (Or.inl ⟨by omega, by decide, by omega, rfl⟩)⟩), by (try dsimp only); rw [ht]; exact ⟨hT, hF, m5⟩⟩, hS.F ht⟩) hS.2.2 dX12_keep_13
def w_s_backE : List Cond := .code yX12_back cX12_back 2 (some .boolean) :: (HAppend.hAppend (α := List Cond) (β := List Cond) (γ := List Cond) [.fieldLink RX12 194 "SeaLandModel" "thrown" "I", .fieldLink RX12 325 "SeaLandModel" "hasImage" "Z", .fieldLink RX12 13 "SeaLandModel" "image" "[I", .code yX12_hour cX12_hour 1 (some .int), .fieldLink RX12 9 "SeaLandModel" "world" "[I", .methodLink RX12 228 yX12_hour, .instanceMethod yX12_hour, .selects RX12 yX12_hour yX12_hour, .initialized RX12, .fieldLink RX12 238 "SeaLandModel" "rows" "I"] bs)
set_option maxHeartbeats 4000000 in
set_option maxRecDepth 100000 in
theorem s_backE (l : Launch) (dC : Nat → ClassId) (dI : Nat → Nat → Nat) (kA : Nat → ClassId) (adK adV : Nat → Nat) (G : gT) (H0 : Heap) (q : Nat → Nat) (wZ wN : Nat → Int) (wH wB wC : Int) (wL wK : Nat → Prop) (wU wV : Nat → Nat) (PI : Nat → Int → Prop) (im : Int) (PM PT : Nat → Int → Prop) (lS lB lE : Nat → Nat → Int → Prop) (lN : Nat → Int) (o0 : Nat) (him : Int32) (vN : Nat → Int) (vH vB vC : Int) (vL vK : Nat → Prop) (vU vV : Nat → Nat) (hT : gH (dC, dI) kA (SHm q (wP wZ0 wN wH wB wC wL wK wU wV) (wP wZ0 vN vH vB vC vL vK vU vV) im PM PT lS lB lE lN) G H0) (hr_o0 : G o0 = some 0) (hm_him : el H0 o0 (dI 15 3) = some (.int him)) (hq0 : 0 ≤ him.toInt ∧ him.toInt ≤ 1) (hgz : ∀ i, 0 ≤ wZ i) (hgn : ∀ i, 6500000 ≤ wN i ∧ wN i ≤ 20200000) (hgh : 0 ≤ wH ∧ wH ≤ 40000) (hgb : 0 ≤ wB ∧ wB ≤ 3850000) (hgc : 0 ≤ wC ∧ wC ≤ 30) (hgi : 0 ≤ im ∧ im ≤ 1) (hgu : ∀ a t, G a = some (t + 1) → a = q t) : Met l yX12_back w_s_backE ({ frames := 1, cells := 0, slots := 0, locals := 20 }) (va_Pc [.ref o0] (fun U => U.heap = H0 ∧ va_K (dC, dI) vwCl (tyl kA) U ∧ EVS adK adV (gA G H0.size) U U.heap)) (va_Qi (fun (r : Int32) (u : (Nat → Int) × Int × Int × Int × (Nat → Prop) × (Nat → Prop) × (Nat → Nat) × (Nat → Nat)) => match u with | (wN1, wH1, wB1, wC1, wL1, wK1, wU1, wV1) => (0 ≤ r.toInt ∧ r.toInt ≤ 1) ∧ (((him.toInt = 0 ∨ wH < vH) ∧ r.toInt = 0 ∧ wN1 = wN ∧ wH1 = wH ∧ wB1 = wB ∧ wC1 = wC ∧ wL1 = wL ∧ wK1 = wK ∧ wU1 = wU ∧ wV1 = wV) ∨ (him.toInt = 1 ∧ vH ≤ wH ∧ r.toInt = 1 ∧ wN1 = vN ∧ wH1 = vH ∧ wB1 = vB ∧ wC1 = vC ∧ wL1 = vL ∧ wK1 = vK ∧ wU1 = vU ∧ wV1 = vV))) (fun (u : (Nat → Int) × Int × Int × Int × (Nat → Prop) × (Nat → Prop) × (Nat → Nat) × (Nat → Nat)) (t : State) => match u with | (wN1, wH1, wB1, wC1, wL1, wK1, wU1, wV1) => gH (dC, dI) kA (SHm q (wP wZ0 wN1 wH1 wB1 wC1 wL1 wK1 wU1 wV1) (wP wZ0 vN vH vB vC vL vK vU vV) im PM PT lS lB lE lN) G t.heap ∧ gF (dC, dI) SKm G ([(0, 0), (0, 9), (2, 0)] : List (Nat × Nat)) H0 t.heap) (gA G H0.size)) 0 0 (gA G H0.size) := by
  refine Met.ofW (cc := cX12_back) (maxL := 2) (ret := (some .boolean)) (by decide) rfl ?_
  intro p e s m args below meth c s₁ B hml hv
  obtain ⟨rfl, hH0, hK, hE⟩ := hv
  have hx := B.exec
  have hb := B.bytes
  have hr := B.returns
  have hts := atoms_spec (ws := w_s_backE) B.pre
  have hown : s.vm.findClass RX12 = some m.cls := findClass_of_methodNamed B.named
  have hlocks := B.notSynchronized
  subst hH0
  generalize hAe : gA G s.heap.size = A at hE ⊢
  have hA : ∀ q : Nat, s.heap.size ≤ q → A q := fun q h => by rw [← hAe]; exact Or.inr h
  have hG := gA_of hAe
  have hS : va_S A s.heap s.heap [] := va_S.rf
  have hF : gF (dC, dI) SKm G ([(0, 0), (0, 9), (2, 0)] : List (Nat × Nat)) s.heap s.heap := gF.rf
  have hl := lv_entry ([.ref o0]) (n := 2) (Nat.le_of_ble_eq_true rfl)
  rw [lg_entry_eq]
  generalize (lg_sl ([.ref o0]) ++ List.replicate (2 - (lg_sl ([.ref o0])).length) Slot.unset).toArray = ls at hl ⊢
  have hl : lv_has ls 2 [(0, .ref o0)] := hl
  refine lv_aload_n hx hb dX12_back_0 rfl (lv_at hl 0 rfl) ?_
  refine lv_iconst (v := 0) hx hb dX12_back_1 (by decide) ?_
  refine tw_put (v := .int 0) (ty := .int) hx hb hts bF_X12 tyX12 tyX12_ok nmX12 hown hK hT hG hS hr_o0 shm_0 rfl 0 (by decide) (ht_at hts 0 rfl) (fun _ h9 => h9) rfl (by decide +kernel) rfl rfl (gl_at rfl (gi_all _)) dX12_back_2 (fun H locs hT oq m1 oj hS => ?_)
  have hF := hF.put hr_o0 skm_0 oq oj (by decide)
  have m2 := (oj 3 (by decide) (by decide)).trans hm_him
  refine lv_aload_n hx hb dX12_back_5 rfl (lv_at hl 0 rfl) ?_
  refine tw_getM (v := .int him) hx hb hts bF_X12 hown hK hT hr_o0 shm_0 rfl 3 (by decide) (ht_at hts 1 rfl) (fun _ h9 => h9) m2 dX12_back_6 ?_
  refine lv_if_eq (tgt := 27) hx hb dX12_back_9 (by decide) (fun c3 => ?_) (fun c3 => ?_)
  · have t4 : him.toInt = 0 := ti_eq c3 rfl (by decide)
    refine lv_iconst (v := 0) hx hb dX12_back_27 (by decide) ?_
    exact W.zret (v := 0) hx hb hr (by decide) (fun t ht hW => ⟨⟨0, (wN, wH, wB, wC, wL, wK, wU, wV), rfl, (by exact ⟨(rg_t (a := 0) (by decide) (by first | decide | omega) (by first | decide | omega)), (Or.inl ⟨by omega, by decide, rfl, rfl, rfl, rfl, rfl, rfl, rfl, rfl⟩)⟩), by (try dsimp only); rw [ht]; exact ⟨hT, hF⟩⟩, hS.F ht⟩) hS.2.2 dX12_back_28
  · have t5 : him.toInt ≠ 0 := ti_ne c3 rfl (by decide)
    refine lv_aload_n hx hb dX12_back_12 rfl (lv_at hl 0 rfl) ?_
    refine tw_get hx hb hts bF_X12 hown hK hT hr_o0 shm_0 rfl 2 (by decide) (ht_at hts 2 rfl) (fun _ h9 => h9) dX12_back_13 (fun v9 m6 h9 => ?_)
    obtain ⟨rfl, hg7⟩ := h9 _ rfl
    refine lv_sipush (v := 1429) hx hb dX12_back_16 (by decide) ?_
    refine tw_iald (i := 1429) hx hb hK hT hg7 shm_3 rfl (by unfold vp_in; decide) dX12_back_19 (fun v9 m8 h9 => ?_)
    obtain ⟨x9, rfl, gx9, kx9⟩ := (gp_any h9)
    have q7 := gq_at hT hg7 shm_3 (by decide) m8
    have q6 := w_hou (z := wZ0) (n := vN) (h := vH) (b := vB) (c := vC) (i := (1429 : Int32).toNatClampNeg) (by decide)
    have t10 : vH ≤ x9.toInt ∧ x9.toInt ≤ vH := ⟨by rw [← q6.1]; exact q7.1, by rw [← q6.2]; exact q7.2.1⟩
    refine lv_aload_n hx hb dX12_back_20 rfl (lv_at hl 0 rfl) ?_
    have hFc := gA_free hG hA hS
    refine va_calli (va_runV (As := []) (rest := [.int x9]) ⟨hx, hb, hml, hown, hts⟩ (s_hour l dC dI kA adK adV G H q wZ0 wN wH wB wC wL wK wU wV (wP wZ0 vN vH vB vC vL vK vU vV) im PM PT lS lB lE lN o0 hT hr_o0 (fun _ => Int.le_refl 0) hgn hgh hgb hgc hgi hgu) (cwV 0 hts (goodIn_app (goodIn_r _ [6, 7, 8, 9] rfl (by decide +kernel)) (goodIn_ca (goodIn_r _ [4, 5] rfl (by decide +kernel)) (bs_in _ _))) rfl rfl rfl (by decide +kernel) ⟨(Nat.le_of_ble_eq_true rfl), (Nat.le_of_ble_eq_true rfl)⟩) ⟨fun a U g mk q => by obtain ⟨q0, q1, qK, qE⟩ := q; exact ⟨q0, q1, va_K.moved (u := U) (U := U.calling g mk a) (Vm.Alike.refl U.vm) qK, EVS.blind g mk a qE⟩, gH_rc hK hT hr_o0 shm_0 rfl, fun U hU hW => ⟨rfl, hU, va_K.moved hW.alike hK, hE.call hS hFc hU hW⟩⟩ rfl rfl hl.1 rfl (lv_room (Nat.le_of_ble_eq_true rfl)) dX12_back_21 ⟨(Nat.le_of_ble_eq_true rfl), (Nat.le_of_ble_eq_true rfl)⟩) hS (fun q _ h => hFc q h) hFc (fun r11 u t H locs ht hvm hw12 hB _ _ hS => ?_)
    obtain ⟨hT, hF1⟩ := hB
    rw [ht] at hT hF1
    have m13 := (hF1.fld hr_o0 skm_0 (k := 3) (by decide) (by decide)).trans m2
    have m14 := (hF1.fld hr_o0 skm_0 (k := 0) (by decide) (by decide)).trans m1
    have m15 := (el_kept (hF1.arr hg7 skm_3 (by decide))).trans m8
    have hF := hF.more hF1 (by decide)
    try dsimp only at hw12
    obtain ⟨h16, hf17⟩ := hw12
    refine lv_icmp_le (tgt := 29) hx hb dX12_back_24 (by decide) (fun c18 => ?_) (fun c18 => ?_)
    · have t19 : x9.toInt ≤ r11.toInt := ti_le c18 rfl rfl
      refine lv_iconst (v := 0) hx hb dX12_back_29 (by decide) ?_
      refine lv_istore_n (lv' := [(1, .int 0), (0, .ref o0)]) hx hb dX12_back_30 rfl hl (by decide) rfl (fun ls hl => ?_)
      have key38 : ∀ (n38 i20 : Nat), i20 + n38 = 1749 → 0 ≤ i20 → ∀ (H : Heap) (locs : List Loc), gH (dC, dI) kA (SHm q (pcP (wP wZ0 vN vH vB vC vL vK vU vV) (wP wZ0 wN wH wB wC wL wK wU wV) i20) (wP wZ0 vN vH vB vC vL vK vU vV) im PM PT lS lB lE lN) G H → gF (dC, dI) SKm G ([(0, 0), (0, 9), (2, 0)] : List (Nat × Nat)) s.heap H → va_S A s.heap H locs → el H o0 (dI 15 3) = some (.int him) → el H o0 (dI 15 0) = some (.int 0) → el H (q 2) (1429 : Int32).toNatClampNeg = some (.int x9) → ∀ ls : Array Slot, lv_has ls 2 [(1, .int (nI i20)), (0, .ref o0)] → W p l e (headSpec w_s_backE ({ frames := 1, cells := 0, slots := 0, locals := 20 })).room s m #[.ref o0] below meth c H locs 0 0 (MQ below (va_Qi (fun (r : Int32) (u : (Nat → Int) × Int × Int × Int × (Nat → Prop) × (Nat → Prop) × (Nat → Nat) × (Nat → Nat)) => match u with | (wN1, wH1, wB1, wC1, wL1, wK1, wU1, wV1) => (0 ≤ r.toInt ∧ r.toInt ≤ 1) ∧ (((him.toInt = 0 ∨ wH < vH) ∧ r.toInt = 0 ∧ wN1 = wN ∧ wH1 = wH ∧ wB1 = wB ∧ wC1 = wC ∧ wL1 = wL ∧ wK1 = wK ∧ wU1 = wU ∧ wV1 = wV) ∨ (him.toInt = 1 ∧ vH ≤ wH ∧ r.toInt = 1 ∧ wN1 = vN ∧ wH1 = vH ∧ wB1 = vB ∧ wC1 = vC ∧ wL1 = vL ∧ wK1 = vK ∧ wU1 = vU ∧ wV1 = vV))) (fun (u : (Nat → Int) × Int × Int × Int × (Nat → Prop) × (Nat → Prop) × (Nat → Nat) × (Nat → Nat)) (t : State) => match u with | (wN1, wH1, wB1, wC1, wL1, wK1, wU1, wV1) => gH (dC, dI) kA (SHm q (wP wZ0 wN1 wH1 wB1 wC1 wL1 wK1 wU1 wV1) (wP wZ0 vN vH vB vC vL vK vU vV) im PM PT lS lB lE lN) G t.heap ∧ gF (dC, dI) SKm G ([(0, 0), (0, 9), (2, 0)] : List (Nat × Nat)) s.heap t.heap) A) #[.ref o0] s 0 0 A) (F0 m 31 ls []) := by
        intro n38
        induction n38 with
        | zero =>
          intro i20 hn38 hlo39  H locs hT hF hS m21 m22 m23 ls hl
          obtain rfl : 1749 = i20 := by omega
          refine lv_iload_n hx hb dX12_back_31 rfl (lv_at hl 0 rfl) ?_
          refine lv_sipush (v := 1749) hx hb dX12_back_32 (by decide) ?_
          refine lv_icmp_ge (tgt := 56) hx hb dX12_back_35 (by decide) (fun c40 => ?_) (fun c40 => (by exfalso; have q9 : ((1749 : Nat) : Int) < 1749 := ti_nle c40 (by decide) (nI_toInt (by omega)); omega))
          have t41 : 1749 ≤ ((1749 : Nat) : Int) := ti_le c40 (by decide) (nI_toInt (by omega))
          have hT : gH (dC, dI) kA (SHm q (wP wZ0 vN vH vB vC vL vK vU vV) (wP wZ0 vN vH vB vC vL vK vU vV) im PM PT lS lB lE lN) G H := SHm_w hT (fun _ hi _ p => pc_all hi p)
          refine lv_aload_n hx hb dX12_back_56 rfl (lv_at hl 1 rfl) ?_
          refine lv_iconst (v := 0) hx hb dX12_back_57 (by decide) ?_
          refine tw_put (v := .int 0) (ty := .int) hx hb hts bF_X12 tyX12 tyX12_ok nmX12 hown hK hT hG hS hr_o0 shm_0 rfl 9 (by decide) (ht_at hts 9 rfl) (fun _ h9 => h9) rfl (by decide +kernel) rfl rfl (gl_at rfl (gi_of (show (0 : Int32).toInt = 0 from (by decide)) (by first | decide | omega) (by first | decide | omega))) dX12_back_58 (fun H locs hT oq m42 oj hS => ?_)
          have hF := hF.put hr_o0 skm_0 oq oj (by decide)
          refine lv_iconst (v := 1) hx hb dX12_back_61 (by decide) ?_
          exact W.zret (v := 1) hx hb hr (by decide) (fun t ht hW => ⟨⟨1, (vN, vH, vB, vC, vL, vK, vU, vV), rfl, (by exact ⟨(rg_t (a := 1) (by decide) (by first | decide | omega) (by first | decide | omega)), (Or.inr ⟨by omega, by omega, by decide, rfl, rfl, rfl, rfl, rfl, rfl, rfl, rfl⟩)⟩), by (try dsimp only); rw [ht]; exact ⟨hT, hF⟩⟩, hS.F ht⟩) hS.2.2 dX12_back_62
        | succ n38 ih38 =>
          intro i20 hn38 hlo39  H locs hT hF hS m21 m22 m23 ls hl
          have hlt45 : i20 < 1749 := by omega
          refine lv_iload_n hx hb dX12_back_31 rfl (lv_at hl 0 rfl) ?_
          refine lv_sipush (v := 1749) hx hb dX12_back_32 (by decide) ?_
          refine lv_icmp_ge (tgt := 56) hx hb dX12_back_35 (by decide) (fun c46 => (by exfalso; have q9 : 1749 ≤ ((i20 : Nat) : Int) := ti_le c46 (by decide) (nI_toInt (by omega)); omega)) (fun c46 => ?_)
          have t47 : ((i20 : Nat) : Int) < 1749 := ti_nle c46 (by decide) (nI_toInt (by omega))
          refine lv_aload_n hx hb dX12_back_38 rfl (lv_at hl 1 rfl) ?_
          refine tw_get hx hb hts bF_X12 hown hK hT hr_o0 shm_0 rfl 1 (by decide) (ht_at hts 4 rfl) (fun _ h9 => h9) dX12_back_39 (fun v9 m48 h9 => ?_)
          obtain ⟨rfl, hg49⟩ := h9 _ rfl
          refine lv_iload_n hx hb dX12_back_42 rfl (lv_at hl 0 rfl) ?_
          refine lv_aload_n hx hb dX12_back_43 rfl (lv_at hl 1 rfl) ?_
          refine tw_get hx hb hts bF_X12 hown hK hT hr_o0 shm_0 rfl 2 (by decide) (ht_at hts 2 rfl) (fun _ h9 => h9) dX12_back_44 (fun v9 m50 h9 => ?_)
          obtain ⟨rfl, hg51⟩ := h9 _ rfl
          refine lv_iload_n hx hb dX12_back_47 rfl (lv_at hl 0 rfl) ?_
          refine tw_iald (i := (nI i20)) hx hb hK hT hg7 shm_3 rfl (vp_in_nI (by omega) (by decide)) dX12_back_48 (fun v9 m52 h9 => ?_)
          obtain ⟨x53, rfl, gx53, kx53⟩ := (gp_any h9)
          have t54 : (nI i20).toNatClampNeg = i20 := tn_nI (by omega)
          refine tw_iast2 (Sg1 := (SHm q (pcP (wP wZ0 vN vH vB vC vL vK vU vV) (wP wZ0 wN wH wB wC wL wK wU wV) (i20 + 1)) (wP wZ0 vN vH vB vC vL vK vU vV) im PM PT lS lB lE lN)) (i := (nI i20)) (x := x53) hx hb hK hT hG hS hg49 shm_2 rfl shm_2 shm_o2 (fun b9 h9 => hgu b9 1 h9) (vp_in_nI (by omega) (by decide)) (⟨_, rfl, by rw [show (nI i20).toNatClampNeg = i20 from tn_nI (by omega)]; exact pc_at (by have q8 := gq_at hT hg7 shm_3 (by have q9 := tn_of (show (nI i20).toInt = ((i20 : Nat) : Int) from (nI_toInt (by omega))) (by omega); omega) m52; rw [show (nI i20).toNatClampNeg = i20 from tn_nI (by omega)] at q8; exact q8)⟩) (fun k9 hk9 hne9 v9 hv9 he9 => by obtain ⟨x9, rfl, p9⟩ := he9; exact ⟨x9, rfl, pc_st (by omega) p9⟩) dX12_back_49 (fun H locs hT oq m55 oi hS => ?_)
          have hF := hF.ast hg49 skm_2 oq (by decide)
          have m56 := (el_kept (oq _ (gne hr_o0 hg49 (by decide)))).trans m21
          have m57 := (el_kept (oq _ (gne hr_o0 hg49 (by decide)))).trans m22
          have m58 := (el_kept (oq _ (gne hg7 hg49 (by decide)))).trans m23
          refine lv_iinc (v := nI (i20 + 1)) (lv' := [(1, .int (nI (i20 + 1))), (0, .ref o0)]) hx hb dX12_back_50 hl (k := 0) rfl (nI_add i20 1) (by decide) rfl (fun ls hl => ?_)
          refine lv_goto (tgt := 31) hx hb dX12_back_53 (by decide) ?_
          exact ih38 (i20 + 1) (by omega) (by omega) _ _ hT hF hS m56 m57 m58 ls (lv_sub hl [0, 1] rfl)
      have hT : gH (dC, dI) kA (SHm q (pcP (wP wZ0 vN vH vB vC vL vK vU vV) (wP wZ0 wN wH wB wC wL wK wU wV) 0) (wP wZ0 vN vH vB vC vL vK vU vV) im PM PT lS lB lE lN) G H := SHm_w hT (fun _ _ _ p => pc_0 p)
      exact key38 (1749 - 0) 0 (by omega) (Nat.le_refl _) _ _ hT hF hS m13 m14 m15 ls (lv_sub hl [0, 1] rfl)
    · have t60 : r11.toInt < x9.toInt := ti_nle c18 rfl rfl
      refine lv_iconst (v := 0) hx hb dX12_back_27 (by decide) ?_
      exact W.zret (v := 0) hx hb hr (by decide) (fun t ht hW => ⟨⟨0, (wN, wH, wB, wC, wL, wK, wU, wV), rfl, (by exact ⟨(rg_t (a := 0) (by decide) (by first | decide | omega) (by first | decide | omega)), (Or.inl ⟨by omega, by decide, rfl, rfl, rfl, rfl, rfl, rfl, rfl, rfl⟩)⟩), by (try dsimp only); rw [ht]; exact ⟨hT, hF⟩⟩, hS.F ht⟩) hS.2.2 dX12_back_28
def w_s_tideY : List Cond := .code yX12_tide cX12_tide 3 none :: (HAppend.hAppend (α := List Cond) (β := List Cond) (γ := List Cond) [.fieldLink RX12 194 "SeaLandModel" "thrown" "I", .code yX12_in cX12_in 3 (some .boolean), .methodLink RX12 197 yX12_in, .static yX12_in, .initialized RX12, .code yX12_throwsIf cX12_throwsIf 3 (some .boolean), .methodLink RX12 224 yX12_throwsIf, .instanceMethod yX12_throwsIf, .selects RX12 yX12_throwsIf yX12_throwsIf, .fieldLink RX12 9 "SeaLandModel" "world" "[I", .fieldLink RX12 238 "SeaLandModel" "rows" "I"] bs)
set_option maxHeartbeats 4000000 in
set_option maxRecDepth 100000 in
theorem s_tideY (l : Launch) (dC : Nat → ClassId) (dI : Nat → Nat → Nat) (kA : Nat → ClassId) (adK adV : Nat → Nat) (G : gT) (H0 : Heap) (q : Nat → Nat) (wZ wN : Nat → Int) (wH wB wC : Int) (wL wK : Nat → Prop) (wU wV : Nat → Nat) (PI : Nat → Int → Prop) (im : Int) (PM PT : Nat → Int → Prop) (lS lB lE : Nat → Nat → Int → Prop) (lN : Nat → Int) (o0 : Nat) (p0 : Int32) (p1 : Int32)  (hT : gH (dC, dI) kA (SHm q (wP wZ wN wH wB wC wL wK wU wV) PI im PM PT lS lB lE lN) G H0) (hr_o0 : G o0 = some 0) (hgz : ∀ i, 0 ≤ wZ i) (hgn : ∀ i, 6500000 ≤ wN i ∧ wN i ≤ 20200000) (hgh : 0 ≤ wH ∧ wH ≤ 40000) (hgb : 0 ≤ wB ∧ wB ≤ 3850000) (hgc : 0 ≤ wC ∧ wC ≤ 30) (hgi : 0 ≤ im ∧ im ≤ 1) (hgu : ∀ a t, G a = some (t + 1) → a = q t) : Met l yX12_tide w_s_tideY ({ frames := 1, cells := 0, slots := 0, locals := 22 }) (va_Pc [.ref o0, .int p0, .int p1] (fun U => U.heap = H0 ∧ va_K (dC, dI) vwCl (tyl kA) U ∧ EVS adK adV (gA G H0.size) U U.heap)) (va_Qv (fun (u : Int32 × (Nat → Nat)) => match u with | (t1, wU1) => (∀ w, w < 30 → wU1 w = wU w) ∧ ((tiC p0.toInt p1.toInt = 0 ∧ t1.toInt = 0 ∧ SU wU1 (30 + p0.toNatClampNeg) = p1.toInt ∧ ∀ j, 30 ≤ j → j ≠ 30 + p0.toNatClampNeg → SU wU1 j = SU wU j) ∨ (tiC p0.toInt p1.toInt ≠ 0 ∧ t1.toInt = tiC p0.toInt p1.toInt ∧ wU1 = wU))) (fun (u : Int32 × (Nat → Nat)) (t : State) => match u with | (t1, wU1) => gH (dC, dI) kA (SHm q (wP wZ wN wH wB wC wL wK wU1 wV) PI im PM PT lS lB lE lN) G t.heap ∧ gF (dC, dI) SKm G ([(0, 0), (0, 9), (2, 0)] : List (Nat × Nat)) H0 t.heap ∧ el t.heap o0 (dI 15 0) = some (.int t1)) (gA G H0.size)) 0 0 (gA G H0.size) := by
  refine Met.ofW (cc := cX12_tide) (maxL := 3) (ret := none) (by decide) rfl ?_
  intro p e s m args below meth c s₁ B hml hv
  obtain ⟨rfl, hH0, hK, hE⟩ := hv
  have hx := B.exec
  have hb := B.bytes
  have hr := B.returns
  have hts := atoms_spec (ws := w_s_tideY) B.pre
  have hown : s.vm.findClass RX12 = some m.cls := findClass_of_methodNamed B.named
  have hlocks := B.notSynchronized
  subst hH0
  generalize hAe : gA G s.heap.size = A at hE ⊢
  have hA : ∀ q : Nat, s.heap.size ≤ q → A q := fun q h => by rw [← hAe]; exact Or.inr h
  have hG := gA_of hAe
  have hS : va_S A s.heap s.heap [] := va_S.rf
  have hF : gF (dC, dI) SKm G ([(0, 0), (0, 9), (2, 0)] : List (Nat × Nat)) s.heap s.heap := gF.rf
  have hl := lv_entry ([.ref o0, .int p0, .int p1]) (n := 3) (Nat.le_of_ble_eq_true rfl)
  rw [lg_entry_eq]
  generalize (lg_sl ([.ref o0, .int p0, .int p1]) ++ List.replicate (3 - (lg_sl ([.ref o0, .int p0, .int p1])).length) Slot.unset).toArray = ls at hl ⊢
  have hl : lv_has ls 3 [(0, .ref o0), (1, .int p0), (2, .int p1)] := hl
  refine lv_aload_n hx hb dX12_tide_0 rfl (lv_at hl 0 rfl) ?_
  refine lv_iconst (v := 0) hx hb dX12_tide_1 (by decide) ?_
  refine tw_put (v := .int 0) (ty := .int) hx hb hts bF_X12 tyX12 tyX12_ok nmX12 hown hK hT hG hS hr_o0 shm_0 rfl 0 (by decide) (ht_at hts 0 rfl) (fun _ h9 => h9) rfl (by decide +kernel) rfl rfl (gl_at rfl (gi_all _)) dX12_tide_2 (fun H locs hT oq m1 oj hS => ?_)
  have hF := hF.put hr_o0 skm_0 oq oj (by decide)
  refine lv_aload_n hx hb dX12_tide_5 rfl (lv_at hl 0 rfl) ?_
  refine lv_iload_n hx hb dX12_tide_6 rfl (lv_at hl 1 rfl) ?_
  refine lv_iconst (v := 0) hx hb dX12_tide_7 (by decide) ?_
  refine lv_bipush (v := 11) hx hb dX12_tide_8 (by decide) ?_
  have hFc := gA_free hG hA hS
  refine va_calli (va_runS (As := [.int p0, .int 0, .int 11]) (rest := [.ref o0]) ⟨hx, hb, hml, hown, hts⟩ (s_in l dC dI kA adK adV G H q wZ wN wH wB wC wL wK wU wV PI im PM PT lS lB lE lN p0 0 11 hT hgz hgn hgh hgb hgc hgi hgu) (va_cwS 3 hts (goodIn_app (goodIn_r _ [3, 4, 5] rfl (by decide +kernel)) (goodIn_ca (goodIn_r _ [2] rfl (by decide +kernel)) (bs_in _ _))) rfl rfl rfl (by decide +kernel) ⟨(Nat.le_of_ble_eq_true rfl), (Nat.le_of_ble_eq_true rfl)⟩) ⟨fun a U g mk q => by obtain ⟨q0, q1, qK, qE⟩ := q; exact ⟨q0, q1, va_K.moved (u := U) (U := U.calling g mk a) (Vm.Alike.refl U.vm) qK, EVS.blind g mk a qE⟩, fun U hU hW => ⟨rfl, hU, va_K.moved hW.alike hK, hE.call hS hFc hU hW⟩⟩ rfl rfl hl.1 rfl (lv_room (Nat.le_of_ble_eq_true rfl)) dX12_tide_10 ⟨(Nat.le_of_ble_eq_true rfl), (Nat.le_of_ble_eq_true rfl)⟩) hS (fun q _ h => hFc q h) hFc (fun r2 u t H locs ht hvm hw3 hB _ _ hS => ?_)
  obtain ⟨hT, hF1⟩ := hB
  rw [ht] at hT hF1
  have m4 := (hF1.fld hr_o0 skm_0 (k := 0) (by decide) (by decide)).trans m1
  have hF := hF.more hF1 (by decide)
  try dsimp only at hw3
  obtain ⟨h5, hi6, hi7⟩ := hw3
  refine lv_if_eq (tgt := 29) hx hb dX12_tide_13 (by decide) (fun c8 => ?_) (fun c8 => ?_)
  · have t9 : r2.toInt = 0 := ti_eq c8 rfl (by decide)
    have t10 : (0 : Int32).toInt = 0 := by decide
    have t11 : (11 : Int32).toInt = 11 := by decide
    have t12 : p0.toInt < (0 : Int32).toInt ∨ (11 : Int32).toInt < p0.toInt := hi7 c8
    refine lv_iconst (v := 1) hx hb dX12_tide_29 (by decide) ?_
    refine lv_goto (tgt := 34) hx hb dX12_tide_30 (by decide) ?_
    refine lv_iconst (v := 1) hx hb dX12_tide_34 (by decide) ?_
    have hFc := gA_free hG hA hS
    refine va_calli (va_runV (As := [.int 1, .int 1]) (rest := []) ⟨hx, hb, hml, hown, hts⟩ (s_throwsIfP l dC dI kA adK adV G H q wZ wN wH wB wC wL wK wU wV PI im PM PT lS lB lE lN o0 1 1 0 hT hr_o0 m4 (rg_t (a := 1) (by decide) (by first | decide | omega) (by first | decide | omega)) hgz hgn hgh hgb hgc hgi hgu) (cwV 2 hts (goodIn_app (goodIn_r _ [7, 8, 9, 5] rfl (by decide +kernel)) (goodIn_ca (goodIn_r _ [6, 1] rfl (by decide +kernel)) (bs_in _ _))) rfl rfl rfl (by decide +kernel) ⟨(Nat.le_of_ble_eq_true rfl), (Nat.le_of_ble_eq_true rfl)⟩) ⟨fun a U g mk q => by obtain ⟨q0, q1, qK, qE⟩ := q; exact ⟨q0, q1, va_K.moved (u := U) (U := U.calling g mk a) (Vm.Alike.refl U.vm) qK, EVS.blind g mk a qE⟩, gH_rc hK hT hr_o0 shm_0 rfl, fun U hU hW => ⟨rfl, hU, va_K.moved hW.alike hK, hE.call hS hFc hU hW⟩⟩ rfl rfl hl.1 rfl (lv_room (Nat.le_of_ble_eq_true rfl)) dX12_tide_35 ⟨(Nat.le_of_ble_eq_true rfl), (Nat.le_of_ble_eq_true rfl)⟩) hS (fun q _ h => hFc q h) hFc (fun r13 u t H locs ht hvm hw14 hB _ _ hS => ?_)
    obtain ⟨u15, rfl⟩ : ∃ z, z = u := ⟨_, rfl⟩
    obtain ⟨hT, hF1, m16⟩ := hB
    rw [ht] at hT hF1 m16
    have hF := hF.more hF1 (by decide)
    try dsimp only at hw14
    obtain ⟨h18, hf19, hd20⟩ := hw14
    have t21 : (1 : Int32).toInt = 1 := by decide
    have t22 : (1 : Int32).toInt = 1 := by decide
    have t23 : (0 : Int32).toInt = 0 := by decide
    obtain rfl : (1 : Int32) = r13 := hd20.symm
    refine lv_if_eq (tgt := 42) hx hb dX12_tide_38 (by decide) (fun c24 => absurd c24 (by decide)) (fun c24 => ?_)
    exact W.vret hx hb hr (fun t ht hW => ⟨⟨(u15, wU), rfl, (by exact ⟨(fun _ _ => rfl), (Or.inr ⟨by have := tiC_s p0.toInt p1.toInt; have q0 : (0 : Int32).toInt = 0 := (by decide); have q1 : (1 : Int32).toInt = 1 := (by decide); have qm : (-1 : Int32).toInt = -1 := (by decide); omega, by have := tiC_s p0.toInt p1.toInt; have q0 : (0 : Int32).toInt = 0 := (by decide); have q1 : (1 : Int32).toInt = 1 := (by decide); have qm : (-1 : Int32).toInt = -1 := (by decide); omega, rfl⟩)⟩), by (try dsimp only); rw [ht]; exact ⟨hT, hF, m16⟩⟩, hS.F ht⟩) hS.2.2 dX12_tide_41
  · have t25 : r2.toInt ≠ 0 := ti_ne c8 rfl (by decide)
    have t26 : (0 : Int32).toInt = 0 := by decide
    have t27 : (11 : Int32).toInt = 11 := by decide
    have t28 : (0 : Int32).toInt ≤ p0.toInt ∧ p0.toInt ≤ (11 : Int32).toInt := hi6 ((bit_of ⟨by omega, by omega⟩).resolve_left c8)
    refine lv_iload_n hx hb dX12_tide_16 rfl (lv_at hl 2 rfl) ?_
    refine lv_sipush (v := (-400)) hx hb dX12_tide_17 (by decide) ?_
    refine lv_sipush (v := 400) hx hb dX12_tide_20 (by decide) ?_
    have hFc := gA_free hG hA hS
    refine va_calli (va_runS (As := [.int p1, .int (-400), .int 400]) (rest := [.ref o0]) ⟨hx, hb, hml, hown, hts⟩ (s_in l dC dI kA adK adV G H q wZ wN wH wB wC wL wK wU wV PI im PM PT lS lB lE lN p1 (-400) 400 hT hgz hgn hgh hgb hgc hgi hgu) (va_cwS 3 hts (goodIn_app (goodIn_r _ [3, 4, 5] rfl (by decide +kernel)) (goodIn_ca (goodIn_r _ [2] rfl (by decide +kernel)) (bs_in _ _))) rfl rfl rfl (by decide +kernel) ⟨(Nat.le_of_ble_eq_true rfl), (Nat.le_of_ble_eq_true rfl)⟩) ⟨fun a U g mk q => by obtain ⟨q0, q1, qK, qE⟩ := q; exact ⟨q0, q1, va_K.moved (u := U) (U := U.calling g mk a) (Vm.Alike.refl U.vm) qK, EVS.blind g mk a qE⟩, fun U hU hW => ⟨rfl, hU, va_K.moved hW.alike hK, hE.call hS hFc hU hW⟩⟩ rfl rfl hl.1 rfl (lv_room (Nat.le_of_ble_eq_true rfl)) dX12_tide_23 ⟨(Nat.le_of_ble_eq_true rfl), (Nat.le_of_ble_eq_true rfl)⟩) hS (fun q _ h => hFc q h) hFc (fun r29 u t H locs ht hvm hw30 hB _ _ hS => ?_)
    obtain ⟨hT, hF1⟩ := hB
    rw [ht] at hT hF1
    have m31 := (hF1.fld hr_o0 skm_0 (k := 0) (by decide) (by decide)).trans m4
    have hF := hF.more hF1 (by decide)
    try dsimp only at hw30
    obtain ⟨h32, hi33, hi34⟩ := hw30
    refine lv_if_ne (tgt := 33) hx hb dX12_tide_26 (by decide) (fun c35 => ?_) (fun c35 => ?_)
    · have t36 : r29.toInt ≠ 0 := ti_ne c35 rfl (by decide)
      have t37 : (-400 : Int32).toInt = (-400) := by decide
      have t38 : (400 : Int32).toInt = 400 := by decide
      have t39 : (-400 : Int32).toInt ≤ p1.toInt ∧ p1.toInt ≤ (400 : Int32).toInt := hi33 ((bit_of ⟨by omega, by omega⟩).resolve_left c35)
      refine lv_iconst (v := 0) hx hb dX12_tide_33 (by decide) ?_
      refine lv_iconst (v := 1) hx hb dX12_tide_34 (by decide) ?_
      have hFc := gA_free hG hA hS
      refine va_calli (va_runV (As := [.int 0, .int 1]) (rest := []) ⟨hx, hb, hml, hown, hts⟩ (s_throwsIfP l dC dI kA adK adV G H q wZ wN wH wB wC wL wK wU wV PI im PM PT lS lB lE lN o0 0 1 0 hT hr_o0 m31 (rg_t (a := 0) (by decide) (by first | decide | omega) (by first | decide | omega)) hgz hgn hgh hgb hgc hgi hgu) (cwV 2 hts (goodIn_app (goodIn_r _ [7, 8, 9, 5] rfl (by decide +kernel)) (goodIn_ca (goodIn_r _ [6, 1] rfl (by decide +kernel)) (bs_in _ _))) rfl rfl rfl (by decide +kernel) ⟨(Nat.le_of_ble_eq_true rfl), (Nat.le_of_ble_eq_true rfl)⟩) ⟨fun a U g mk q => by obtain ⟨q0, q1, qK, qE⟩ := q; exact ⟨q0, q1, va_K.moved (u := U) (U := U.calling g mk a) (Vm.Alike.refl U.vm) qK, EVS.blind g mk a qE⟩, gH_rc hK hT hr_o0 shm_0 rfl, fun U hU hW => ⟨rfl, hU, va_K.moved hW.alike hK, hE.call hS hFc hU hW⟩⟩ rfl rfl hl.1 rfl (lv_room (Nat.le_of_ble_eq_true rfl)) dX12_tide_35 ⟨(Nat.le_of_ble_eq_true rfl), (Nat.le_of_ble_eq_true rfl)⟩) hS (fun q _ h => hFc q h) hFc (fun r40 u t H locs ht hvm hw41 hB _ _ hS => ?_)
      obtain ⟨u42, rfl⟩ : ∃ z, z = u := ⟨_, rfl⟩
      obtain ⟨hT, hF1, m43⟩ := hB
      rw [ht] at hT hF1 m43
      have hF := hF.more hF1 (by decide)
      try dsimp only at hw41
      obtain ⟨h45, hf46, hd47⟩ := hw41
      have t48 : (0 : Int32).toInt = 0 := by decide
      have t49 : (1 : Int32).toInt = 1 := by decide
      have t50 : (0 : Int32).toInt = 0 := by decide
      obtain rfl : (0 : Int32) = r40 := hd47.symm
      refine lv_if_eq (tgt := 42) hx hb dX12_tide_38 (by decide) (fun c51 => ?_) (fun c51 => absurd c51 (by decide))
      refine lv_aload_n hx hb dX12_tide_42 rfl (lv_at hl 0 rfl) ?_
      refine tw_get hx hb hts bF_X12 hown hK hT hr_o0 shm_0 rfl 1 (by decide) (ht_at hts 9 rfl) (fun _ h9 => h9) dX12_tide_43 (fun v9 m52 h9 => ?_)
      obtain ⟨rfl, hg53⟩ := h9 _ rfl
      refine lv_sipush (v := 1430) hx hb dX12_tide_46 (by decide) ?_
      refine lv_iload_n hx hb dX12_tide_49 rfl (lv_at hl 1 rfl) ?_
      refine lv_iadd hx hb dX12_tide_50 ?_
      refine lv_topi (fun x54 ex54 => ?_)
      have t55 : x54.toInt = 1430 + p0.toInt := ti_add ex54 (by decide) rfl (by omega) (by omega)
      refine lv_iload_n hx hb dX12_tide_51 rfl (lv_at hl 2 rfl) ?_
      refine tw_iast2 (Sg1 := (SHm q (wP wZ wN wH wB wC wL wK (sU wU (x54.toNatClampNeg - 1400) (p1.toInt + 1000).toNat) wV) PI im PM PT lS lB lE lN)) (i := x54) (x := p1) hx hb hK hT hG hS hg53 shm_2 rfl shm_2 shm_o2 (fun b9 h9 => hgu b9 1 h9) (vin_t (a := x54.toInt) rfl (by omega) (by omega)) (gp_of (gi_of (show p1.toInt = p1.toInt from rfl) (by omega) (by omega)) (w_tid (by have q9 := tn_of (show x54.toInt = x54.toInt from rfl) (show (0 : Int) ≤ x54.toInt from by omega); omega)) (wX_s (k := x54.toNatClampNeg - 1400) (v := (p1.toInt + 1000).toNat) ⟨by have q9 := tn_of (show x54.toInt = x54.toInt from rfl) (show (0 : Int) ≤ x54.toInt from by omega); omega, by have q9 := tn_of (show x54.toInt = x54.toInt from rfl) (show (0 : Int) ≤ x54.toInt from by omega); omega⟩ (by omega) (by have := (show p1.toInt = p1.toInt from rfl); omega))) (fun k9 hk9 hne9 v9 hv9 he9 => by obtain ⟨x9, rfl, p9⟩ := he9; exact ⟨x9, rfl, wP_U (by omega) (pl := x54.toNatClampNeg) ⟨by have q9 := tn_of (show x54.toInt = x54.toInt from rfl) (show (0 : Int) ≤ x54.toInt from by omega); omega, by have q9 := tn_of (show x54.toInt = x54.toInt from rfl) (show (0 : Int) ≤ x54.toInt from by omega); omega⟩ hne9 p9⟩) dX12_tide_52 (fun H locs hT oq m56 oi hS => ?_)
      have hF := hF.ast hg53 skm_2 oq (by decide)
      have m57 := (el_kept (oq _ (gne hr_o0 hg53 (by decide)))).trans m43
      refine lv_aload_n hx hb dX12_tide_53 rfl (lv_at hl 0 rfl) ?_
      refine lv_iconst (v := 0) hx hb dX12_tide_54 (by decide) ?_
      refine tw_put (v := .int 0) (ty := .int) hx hb hts bF_X12 tyX12 tyX12_ok nmX12 hown hK hT hG hS hr_o0 shm_0 rfl 9 (by decide) (ht_at hts 10 rfl) (fun _ h9 => h9) rfl (by decide +kernel) rfl rfl (gl_at rfl (gi_of (show (0 : Int32).toInt = 0 from (by decide)) (by first | decide | omega) (by first | decide | omega))) dX12_tide_55 (fun H locs hT oq m58 oj hS => ?_)
      have hF := hF.put hr_o0 skm_0 oq oj (by decide)
      have m59 := (oj 0 (by decide) (by decide)).trans m57
      exact W.vret hx hb hr (fun t ht hW => ⟨⟨(u42, (sU wU (x54.toNatClampNeg - 1400) (p1.toInt + 1000).toNat)), rfl, (by exact ⟨(fun w9 h9 => by have := tn_of (show x54.toInt = x54.toInt from rfl) (by omega); rw [sU_o (by omega)]), (Or.inl ⟨by have := tiC_s p0.toInt p1.toInt; omega, by have q0 : (0 : Int32).toInt = 0 := (by decide); have q1 : (1 : Int32).toInt = 1 := (by decide); have qm : (-1 : Int32).toInt = -1 := (by decide); omega, (by have q8 := tn_of (i := p0) rfl (by omega); have := tn_of (show x54.toInt = x54.toInt from rfl) (by omega); unfold SU sU; (repeat' split) <;> omega), (fun j9 h9 n9 => by have q8 := tn_of (i := p0) rfl (by omega); have := tn_of (show x54.toInt = x54.toInt from rfl) (by omega); unfold SU sU; (repeat' split) <;> omega)⟩)⟩), by (try dsimp only); rw [ht]; exact ⟨hT, hF, m59⟩⟩, hS.F ht⟩) hS.2.2 dX12_tide_58
    · have t61 : r29.toInt = 0 := ti_eq c35 rfl (by decide)
      have t62 : (-400 : Int32).toInt = (-400) := by decide
      have t63 : (400 : Int32).toInt = 400 := by decide
      have t64 : p1.toInt < (-400 : Int32).toInt ∨ (400 : Int32).toInt < p1.toInt := hi34 c35
      refine lv_iconst (v := 1) hx hb dX12_tide_29 (by decide) ?_
      refine lv_goto (tgt := 34) hx hb dX12_tide_30 (by decide) ?_
      refine lv_iconst (v := 1) hx hb dX12_tide_34 (by decide) ?_
      have hFc := gA_free hG hA hS
      refine va_calli (va_runV (As := [.int 1, .int 1]) (rest := []) ⟨hx, hb, hml, hown, hts⟩ (s_throwsIfP l dC dI kA adK adV G H q wZ wN wH wB wC wL wK wU wV PI im PM PT lS lB lE lN o0 1 1 0 hT hr_o0 m31 (rg_t (a := 1) (by decide) (by first | decide | omega) (by first | decide | omega)) hgz hgn hgh hgb hgc hgi hgu) (cwV 2 hts (goodIn_app (goodIn_r _ [7, 8, 9, 5] rfl (by decide +kernel)) (goodIn_ca (goodIn_r _ [6, 1] rfl (by decide +kernel)) (bs_in _ _))) rfl rfl rfl (by decide +kernel) ⟨(Nat.le_of_ble_eq_true rfl), (Nat.le_of_ble_eq_true rfl)⟩) ⟨fun a U g mk q => by obtain ⟨q0, q1, qK, qE⟩ := q; exact ⟨q0, q1, va_K.moved (u := U) (U := U.calling g mk a) (Vm.Alike.refl U.vm) qK, EVS.blind g mk a qE⟩, gH_rc hK hT hr_o0 shm_0 rfl, fun U hU hW => ⟨rfl, hU, va_K.moved hW.alike hK, hE.call hS hFc hU hW⟩⟩ rfl rfl hl.1 rfl (lv_room (Nat.le_of_ble_eq_true rfl)) dX12_tide_35 ⟨(Nat.le_of_ble_eq_true rfl), (Nat.le_of_ble_eq_true rfl)⟩) hS (fun q _ h => hFc q h) hFc (fun r65 u t H locs ht hvm hw66 hB _ _ hS => ?_)
      obtain ⟨u67, rfl⟩ : ∃ z, z = u := ⟨_, rfl⟩
      obtain ⟨hT, hF1, m68⟩ := hB
      rw [ht] at hT hF1 m68
      have hF := hF.more hF1 (by decide)
      try dsimp only at hw66
      obtain ⟨h70, hf71, hd72⟩ := hw66
      have t73 : (1 : Int32).toInt = 1 := by decide
      have t74 : (1 : Int32).toInt = 1 := by decide
      have t75 : (0 : Int32).toInt = 0 := by decide
      obtain rfl : (1 : Int32) = r65 := hd72.symm
      refine lv_if_eq (tgt := 42) hx hb dX12_tide_38 (by decide) (fun c76 => absurd c76 (by decide)) (fun c76 => ?_)
      exact W.vret hx hb hr (fun t ht hW => ⟨⟨(u67, wU), rfl, (by exact ⟨(fun _ _ => rfl), (Or.inr ⟨by have := tiC_s p0.toInt p1.toInt; have q0 : (0 : Int32).toInt = 0 := (by decide); have q1 : (1 : Int32).toInt = 1 := (by decide); have qm : (-1 : Int32).toInt = -1 := (by decide); omega, by have := tiC_s p0.toInt p1.toInt; have q0 : (0 : Int32).toInt = 0 := (by decide); have q1 : (1 : Int32).toInt = 1 := (by decide); have qm : (-1 : Int32).toInt = -1 := (by decide); omega, rfl⟩)⟩), by (try dsimp only); rw [ht]; exact ⟨hT, hF, m68⟩⟩, hS.F ht⟩) hS.2.2 dX12_tide_41
def w_s_stormY : List Cond := .code yX12_storm cX12_storm 5 (some .int) :: (HAppend.hAppend (α := List Cond) (β := List Cond) (γ := List Cond) [.fieldLink RX12 194 "SeaLandModel" "thrown" "I", .code yX12_throwsIf cX12_throwsIf 3 (some .boolean), .methodLink RX12 224 yX12_throwsIf, .instanceMethod yX12_throwsIf, .selects RX12 yX12_throwsIf yX12_throwsIf, .initialized RX12, .constant RX12 242 40000, .code yX12_in cX12_in 3 (some .boolean), .methodLink RX12 197 yX12_in, .static yX12_in, .fieldLink RX12 9 "SeaLandModel" "world" "[I", .fieldLink RX12 238 "SeaLandModel" "rows" "I"] bs)
set_option maxHeartbeats 4000000 in
set_option maxRecDepth 100000 in
theorem s_stormY (l : Launch) (dC : Nat → ClassId) (dI : Nat → Nat → Nat) (kA : Nat → ClassId) (adK adV : Nat → Nat) (G : gT) (H0 : Heap) (q : Nat → Nat) (wZ wN : Nat → Int) (wH wB wC : Int) (wL wK : Nat → Prop) (wU wV : Nat → Nat) (PI : Nat → Int → Prop) (im : Int) (PM PT : Nat → Int → Prop) (lS lB lE : Nat → Nat → Int → Prop) (lN : Nat → Int) (o0 : Nat) (p0 : Int32) (p1 : Int32) (p2 : Int32)  (hT : gH (dC, dI) kA (SHm q (wP wZ wN wH wB wC wL wK wU wV) PI im PM PT lS lB lE lN) G H0) (hr_o0 : G o0 = some 0) (hgz : ∀ i, 0 ≤ wZ i) (hgn : ∀ i, 6500000 ≤ wN i ∧ wN i ≤ 20200000) (hgh : 0 ≤ wH ∧ wH ≤ 40000) (hgb : 0 ≤ wB ∧ wB ≤ 3850000) (hgc : 0 ≤ wC ∧ wC ≤ 30) (hgi : 0 ≤ im ∧ im ≤ 1) (hgu : ∀ a t, G a = some (t + 1) → a = q t) : Met l yX12_storm w_s_stormY ({ frames := 1, cells := 0, slots := 0, locals := 22 }) (va_Pc [.ref o0, .int p0, .int p1, .int p2] (fun U => U.heap = H0 ∧ va_K (dC, dI) vwCl (tyl kA) U ∧ EVS adK adV (gA G H0.size) U U.heap)) (va_Qi (fun (r : Int32) (u : Int32 × (Nat → Nat)) => match u with | (t1, wU1) => (-1 ≤ r.toInt ∧ r.toInt ≤ 20) ∧ (∀ w, w < 30 → wU1 w = wU w) ∧ ((stC p0.toInt p1.toInt p2.toInt ≠ 0 ∧ t1.toInt = stC p0.toInt p1.toInt p2.toInt ∧ wU1 = wU) ∨ (stC p0.toInt p1.toInt p2.toInt = 0 ∧ t1.toInt = 0 ∧ SU wU 42 = 20 ∧ r.toInt = -1 ∧ wU1 = wU) ∨ (stC p0.toInt p1.toInt p2.toInt = 0 ∧ t1.toInt = 0 ∧ ∃ n : Nat, SU wU 42 = ((n : Nat) : Int) ∧ n < 20 ∧ r.toInt = ((n : Nat) : Int) + 1 ∧ SU wU1 42 = ((n : Nat) : Int) + 1 ∧ SU wU1 (43 + 3 * n) = p0.toInt ∧ SU wU1 (44 + 3 * n) = p1.toInt ∧ SU wU1 (45 + 3 * n) = p2.toInt ∧ ∀ j, 30 ≤ j → j ≠ 42 → j ≠ 43 + 3 * n → j ≠ 44 + 3 * n → j ≠ 45 + 3 * n → SU wU1 j = SU wU j))) (fun (u : Int32 × (Nat → Nat)) (t : State) => match u with | (t1, wU1) => gH (dC, dI) kA (SHm q (wP wZ wN wH wB wC wL wK wU1 wV) PI im PM PT lS lB lE lN) G t.heap ∧ gF (dC, dI) SKm G ([(0, 0), (0, 9), (2, 0)] : List (Nat × Nat)) H0 t.heap ∧ el t.heap o0 (dI 15 0) = some (.int t1)) (gA G H0.size)) 0 0 (gA G H0.size) := by
  refine Met.ofW (cc := cX12_storm) (maxL := 5) (ret := (some .int)) (by decide) rfl ?_
  intro p e s m args below meth c s₁ B hml hv
  obtain ⟨rfl, hH0, hK, hE⟩ := hv
  have hx := B.exec
  have hb := B.bytes
  have hr := B.returns
  have hts := atoms_spec (ws := w_s_stormY) B.pre
  have hown : s.vm.findClass RX12 = some m.cls := findClass_of_methodNamed B.named
  have hlocks := B.notSynchronized
  subst hH0
  generalize hAe : gA G s.heap.size = A at hE ⊢
  have hA : ∀ q : Nat, s.heap.size ≤ q → A q := fun q h => by rw [← hAe]; exact Or.inr h
  have hG := gA_of hAe
  have hS : va_S A s.heap s.heap [] := va_S.rf
  have hF : gF (dC, dI) SKm G ([(0, 0), (0, 9), (2, 0)] : List (Nat × Nat)) s.heap s.heap := gF.rf
  have hl := lv_entry ([.ref o0, .int p0, .int p1, .int p2]) (n := 5) (Nat.le_of_ble_eq_true rfl)
  rw [lg_entry_eq]
  generalize (lg_sl ([.ref o0, .int p0, .int p1, .int p2]) ++ List.replicate (5 - (lg_sl ([.ref o0, .int p0, .int p1, .int p2])).length) Slot.unset).toArray = ls at hl ⊢
  have hl : lv_has ls 5 [(0, .ref o0), (1, .int p0), (2, .int p1), (3, .int p2)] := hl
  refine lv_aload_n hx hb dX12_storm_0 rfl (lv_at hl 0 rfl) ?_
  refine lv_iconst (v := 0) hx hb dX12_storm_1 (by decide) ?_
  refine tw_put (v := .int 0) (ty := .int) hx hb hts bF_X12 tyX12 tyX12_ok nmX12 hown hK hT hG hS hr_o0 shm_0 rfl 0 (by decide) (ht_at hts 0 rfl) (fun _ h9 => h9) rfl (by decide +kernel) rfl rfl (gl_at rfl (gi_all _)) dX12_storm_2 (fun H locs hT oq m1 oj hS => ?_)
  have hF := hF.put hr_o0 skm_0 oq oj (by decide)
  refine lv_aload_n hx hb dX12_storm_5 rfl (lv_at hl 0 rfl) ?_
  refine lv_iload_n hx hb dX12_storm_6 rfl (lv_at hl 1 rfl) ?_
  refine lv_if_lt (tgt := 32) hx hb dX12_storm_7 (by decide) (fun c2 => ?_) (fun c2 => ?_)
  · have t3 : p0.toInt < 0 := ti_lt c2 rfl (by decide)
    refine lv_iconst (v := 1) hx hb dX12_storm_32 (by decide) ?_
    refine lv_goto (tgt := 37) hx hb dX12_storm_33 (by decide) ?_
    refine lv_iconst (v := 1) hx hb dX12_storm_37 (by decide) ?_
    have hFc := gA_free hG hA hS
    refine va_calli (va_runV (As := [.int 1, .int 1]) (rest := []) ⟨hx, hb, hml, hown, hts⟩ (s_throwsIfP l dC dI kA adK adV G H q wZ wN wH wB wC wL wK wU wV PI im PM PT lS lB lE lN o0 1 1 0 hT hr_o0 m1 (rg_t (a := 1) (by decide) (by first | decide | omega) (by first | decide | omega)) hgz hgn hgh hgb hgc hgi hgu) (cwV 2 hts (goodIn_app (goodIn_r _ [3, 4, 5, 6] rfl (by decide +kernel)) (goodIn_ca (goodIn_r _ [2, 1] rfl (by decide +kernel)) (bs_in _ _))) rfl rfl rfl (by decide +kernel) ⟨(Nat.le_of_ble_eq_true rfl), (Nat.le_of_ble_eq_true rfl)⟩) ⟨fun a U g mk q => by obtain ⟨q0, q1, qK, qE⟩ := q; exact ⟨q0, q1, va_K.moved (u := U) (U := U.calling g mk a) (Vm.Alike.refl U.vm) qK, EVS.blind g mk a qE⟩, gH_rc hK hT hr_o0 shm_0 rfl, fun U hU hW => ⟨rfl, hU, va_K.moved hW.alike hK, hE.call hS hFc hU hW⟩⟩ rfl rfl hl.1 rfl (lv_room (Nat.le_of_ble_eq_true rfl)) dX12_storm_38 ⟨(Nat.le_of_ble_eq_true rfl), (Nat.le_of_ble_eq_true rfl)⟩) hS (fun q _ h => hFc q h) hFc (fun r4 u t H locs ht hvm hw5 hB _ _ hS => ?_)
    obtain ⟨u6, rfl⟩ : ∃ z, z = u := ⟨_, rfl⟩
    obtain ⟨hT, hF1, m7⟩ := hB
    rw [ht] at hT hF1 m7
    have hF := hF.more hF1 (by decide)
    try dsimp only at hw5
    obtain ⟨h9, hf10, hd11⟩ := hw5
    have t12 : (1 : Int32).toInt = 1 := by decide
    have t13 : (1 : Int32).toInt = 1 := by decide
    have t14 : (0 : Int32).toInt = 0 := by decide
    obtain rfl : (1 : Int32) = r4 := hd11.symm
    refine lv_if_eq (tgt := 46) hx hb dX12_storm_41 (by decide) (fun c15 => absurd c15 (by decide)) (fun c15 => ?_)
    refine lv_iconst (v := 0) hx hb dX12_storm_44 (by decide) ?_
    exact W.iret (v := 0) hx hb hr (fun t ht hW => ⟨⟨0, (u6, wU), rfl, (by exact ⟨(rg_t (a := 0) (by decide) (by first | decide | omega) (by first | decide | omega)), (fun _ _ => rfl), (by have := stC_s p0.toInt p1.toInt p2.toInt; have q0 : (0 : Int32).toInt = 0 := (by decide); have q1 : (1 : Int32).toInt = 1 := (by decide); have qm : (-1 : Int32).toInt = -1 := (by decide); first | exact Or.inr (Or.inl ⟨by omega, by omega, by unfold SU; omega, by omega, rfl⟩) | exact Or.inl ⟨by omega, by omega, rfl⟩)⟩), by (try dsimp only); rw [ht]; exact ⟨hT, hF, m7⟩⟩, hS.F ht⟩) hS.2.2 dX12_storm_45
  · have t16 : 0 ≤ p0.toInt := ti_nlt c2 rfl (by decide)
    refine lv_iload_n hx hb dX12_storm_10 rfl (lv_at hl 2 rfl) ?_
    refine lv_iload_n hx hb dX12_storm_11 rfl (lv_at hl 1 rfl) ?_
    refine lv_icmp_lt (tgt := 32) hx hb dX12_storm_12 (by decide) (fun c17 => ?_) (fun c17 => ?_)
    · have t18 : p1.toInt < p0.toInt := ti_lt c17 rfl rfl
      refine lv_iconst (v := 1) hx hb dX12_storm_32 (by decide) ?_
      refine lv_goto (tgt := 37) hx hb dX12_storm_33 (by decide) ?_
      refine lv_iconst (v := 1) hx hb dX12_storm_37 (by decide) ?_
      have hFc := gA_free hG hA hS
      refine va_calli (va_runV (As := [.int 1, .int 1]) (rest := []) ⟨hx, hb, hml, hown, hts⟩ (s_throwsIfP l dC dI kA adK adV G H q wZ wN wH wB wC wL wK wU wV PI im PM PT lS lB lE lN o0 1 1 0 hT hr_o0 m1 (rg_t (a := 1) (by decide) (by first | decide | omega) (by first | decide | omega)) hgz hgn hgh hgb hgc hgi hgu) (cwV 2 hts (goodIn_app (goodIn_r _ [3, 4, 5, 6] rfl (by decide +kernel)) (goodIn_ca (goodIn_r _ [2, 1] rfl (by decide +kernel)) (bs_in _ _))) rfl rfl rfl (by decide +kernel) ⟨(Nat.le_of_ble_eq_true rfl), (Nat.le_of_ble_eq_true rfl)⟩) ⟨fun a U g mk q => by obtain ⟨q0, q1, qK, qE⟩ := q; exact ⟨q0, q1, va_K.moved (u := U) (U := U.calling g mk a) (Vm.Alike.refl U.vm) qK, EVS.blind g mk a qE⟩, gH_rc hK hT hr_o0 shm_0 rfl, fun U hU hW => ⟨rfl, hU, va_K.moved hW.alike hK, hE.call hS hFc hU hW⟩⟩ rfl rfl hl.1 rfl (lv_room (Nat.le_of_ble_eq_true rfl)) dX12_storm_38 ⟨(Nat.le_of_ble_eq_true rfl), (Nat.le_of_ble_eq_true rfl)⟩) hS (fun q _ h => hFc q h) hFc (fun r19 u t H locs ht hvm hw20 hB _ _ hS => ?_)
      obtain ⟨u21, rfl⟩ : ∃ z, z = u := ⟨_, rfl⟩
      obtain ⟨hT, hF1, m22⟩ := hB
      rw [ht] at hT hF1 m22
      have hF := hF.more hF1 (by decide)
      try dsimp only at hw20
      obtain ⟨h24, hf25, hd26⟩ := hw20
      have t27 : (1 : Int32).toInt = 1 := by decide
      have t28 : (1 : Int32).toInt = 1 := by decide
      have t29 : (0 : Int32).toInt = 0 := by decide
      obtain rfl : (1 : Int32) = r19 := hd26.symm
      refine lv_if_eq (tgt := 46) hx hb dX12_storm_41 (by decide) (fun c30 => absurd c30 (by decide)) (fun c30 => ?_)
      refine lv_iconst (v := 0) hx hb dX12_storm_44 (by decide) ?_
      exact W.iret (v := 0) hx hb hr (fun t ht hW => ⟨⟨0, (u21, wU), rfl, (by exact ⟨(rg_t (a := 0) (by decide) (by first | decide | omega) (by first | decide | omega)), (fun _ _ => rfl), (by have := stC_s p0.toInt p1.toInt p2.toInt; have q0 : (0 : Int32).toInt = 0 := (by decide); have q1 : (1 : Int32).toInt = 1 := (by decide); have qm : (-1 : Int32).toInt = -1 := (by decide); first | exact Or.inr (Or.inl ⟨by omega, by omega, by unfold SU; omega, by omega, rfl⟩) | exact Or.inl ⟨by omega, by omega, rfl⟩)⟩), by (try dsimp only); rw [ht]; exact ⟨hT, hF, m22⟩⟩, hS.F ht⟩) hS.2.2 dX12_storm_45
    · have t31 : p0.toInt ≤ p1.toInt := ti_nlt c17 rfl rfl
      refine lv_iload_n hx hb dX12_storm_15 rfl (lv_at hl 2 rfl) ?_
      refine lv_ldc (v := 40000) hx hb hown (ht_at hts 6 rfl) dX12_storm_16 ?_
      refine lv_icmp_gt (tgt := 32) hx hb dX12_storm_18 (by decide) (fun c32 => ?_) (fun c32 => ?_)
      · have t33 : 40000 < p1.toInt := ti_lt c32 (by decide) rfl
        refine lv_iconst (v := 1) hx hb dX12_storm_32 (by decide) ?_
        refine lv_goto (tgt := 37) hx hb dX12_storm_33 (by decide) ?_
        refine lv_iconst (v := 1) hx hb dX12_storm_37 (by decide) ?_
        have hFc := gA_free hG hA hS
        refine va_calli (va_runV (As := [.int 1, .int 1]) (rest := []) ⟨hx, hb, hml, hown, hts⟩ (s_throwsIfP l dC dI kA adK adV G H q wZ wN wH wB wC wL wK wU wV PI im PM PT lS lB lE lN o0 1 1 0 hT hr_o0 m1 (rg_t (a := 1) (by decide) (by first | decide | omega) (by first | decide | omega)) hgz hgn hgh hgb hgc hgi hgu) (cwV 2 hts (goodIn_app (goodIn_r _ [3, 4, 5, 6] rfl (by decide +kernel)) (goodIn_ca (goodIn_r _ [2, 1] rfl (by decide +kernel)) (bs_in _ _))) rfl rfl rfl (by decide +kernel) ⟨(Nat.le_of_ble_eq_true rfl), (Nat.le_of_ble_eq_true rfl)⟩) ⟨fun a U g mk q => by obtain ⟨q0, q1, qK, qE⟩ := q; exact ⟨q0, q1, va_K.moved (u := U) (U := U.calling g mk a) (Vm.Alike.refl U.vm) qK, EVS.blind g mk a qE⟩, gH_rc hK hT hr_o0 shm_0 rfl, fun U hU hW => ⟨rfl, hU, va_K.moved hW.alike hK, hE.call hS hFc hU hW⟩⟩ rfl rfl hl.1 rfl (lv_room (Nat.le_of_ble_eq_true rfl)) dX12_storm_38 ⟨(Nat.le_of_ble_eq_true rfl), (Nat.le_of_ble_eq_true rfl)⟩) hS (fun q _ h => hFc q h) hFc (fun r34 u t H locs ht hvm hw35 hB _ _ hS => ?_)
        obtain ⟨u36, rfl⟩ : ∃ z, z = u := ⟨_, rfl⟩
        obtain ⟨hT, hF1, m37⟩ := hB
        rw [ht] at hT hF1 m37
        have hF := hF.more hF1 (by decide)
        try dsimp only at hw35
        obtain ⟨h39, hf40, hd41⟩ := hw35
        have t42 : (1 : Int32).toInt = 1 := by decide
        have t43 : (1 : Int32).toInt = 1 := by decide
        have t44 : (0 : Int32).toInt = 0 := by decide
        obtain rfl : (1 : Int32) = r34 := hd41.symm
        refine lv_if_eq (tgt := 46) hx hb dX12_storm_41 (by decide) (fun c45 => absurd c45 (by decide)) (fun c45 => ?_)
        refine lv_iconst (v := 0) hx hb dX12_storm_44 (by decide) ?_
        exact W.iret (v := 0) hx hb hr (fun t ht hW => ⟨⟨0, (u36, wU), rfl, (by exact ⟨(rg_t (a := 0) (by decide) (by first | decide | omega) (by first | decide | omega)), (fun _ _ => rfl), (by have := stC_s p0.toInt p1.toInt p2.toInt; have q0 : (0 : Int32).toInt = 0 := (by decide); have q1 : (1 : Int32).toInt = 1 := (by decide); have qm : (-1 : Int32).toInt = -1 := (by decide); first | exact Or.inr (Or.inl ⟨by omega, by omega, by unfold SU; omega, by omega, rfl⟩) | exact Or.inl ⟨by omega, by omega, rfl⟩)⟩), by (try dsimp only); rw [ht]; exact ⟨hT, hF, m37⟩⟩, hS.F ht⟩) hS.2.2 dX12_storm_45
      · have t46 : p1.toInt ≤ 40000 := ti_nlt c32 (by decide) rfl
        refine lv_iload_n hx hb dX12_storm_21 rfl (lv_at hl 3 rfl) ?_
        refine lv_iconst (v := 1) hx hb dX12_storm_22 (by decide) ?_
        refine lv_sipush (v := 500) hx hb dX12_storm_23 (by decide) ?_
        have hFc := gA_free hG hA hS
        refine va_calli (va_runS (As := [.int p2, .int 1, .int 500]) (rest := [.ref o0]) ⟨hx, hb, hml, hown, hts⟩ (s_in l dC dI kA adK adV G H q wZ wN wH wB wC wL wK wU wV PI im PM PT lS lB lE lN p2 1 500 hT hgz hgn hgh hgb hgc hgi hgu) (va_cwS 3 hts (goodIn_app (goodIn_r _ [9, 10, 6] rfl (by decide +kernel)) (goodIn_ca (goodIn_r _ [8] rfl (by decide +kernel)) (bs_in _ _))) rfl rfl rfl (by decide +kernel) ⟨(Nat.le_of_ble_eq_true rfl), (Nat.le_of_ble_eq_true rfl)⟩) ⟨fun a U g mk q => by obtain ⟨q0, q1, qK, qE⟩ := q; exact ⟨q0, q1, va_K.moved (u := U) (U := U.calling g mk a) (Vm.Alike.refl U.vm) qK, EVS.blind g mk a qE⟩, fun U hU hW => ⟨rfl, hU, va_K.moved hW.alike hK, hE.call hS hFc hU hW⟩⟩ rfl rfl hl.1 rfl (lv_room (Nat.le_of_ble_eq_true rfl)) dX12_storm_26 ⟨(Nat.le_of_ble_eq_true rfl), (Nat.le_of_ble_eq_true rfl)⟩) hS (fun q _ h => hFc q h) hFc (fun r47 u t H locs ht hvm hw48 hB _ _ hS => ?_)
        obtain ⟨hT, hF1⟩ := hB
        rw [ht] at hT hF1
        have m49 := (hF1.fld hr_o0 skm_0 (k := 0) (by decide) (by decide)).trans m1
        have hF := hF.more hF1 (by decide)
        try dsimp only at hw48
        obtain ⟨h50, hi51, hi52⟩ := hw48
        refine lv_if_ne (tgt := 36) hx hb dX12_storm_29 (by decide) (fun c53 => ?_) (fun c53 => ?_)
        · have t54 : r47.toInt ≠ 0 := ti_ne c53 rfl (by decide)
          have t55 : (1 : Int32).toInt = 1 := by decide
          have t56 : (500 : Int32).toInt = 500 := by decide
          have t57 : (1 : Int32).toInt ≤ p2.toInt ∧ p2.toInt ≤ (500 : Int32).toInt := hi51 ((bit_of ⟨by omega, by omega⟩).resolve_left c53)
          refine lv_iconst (v := 0) hx hb dX12_storm_36 (by decide) ?_
          refine lv_iconst (v := 1) hx hb dX12_storm_37 (by decide) ?_
          have hFc := gA_free hG hA hS
          refine va_calli (va_runV (As := [.int 0, .int 1]) (rest := []) ⟨hx, hb, hml, hown, hts⟩ (s_throwsIfP l dC dI kA adK adV G H q wZ wN wH wB wC wL wK wU wV PI im PM PT lS lB lE lN o0 0 1 0 hT hr_o0 m49 (rg_t (a := 0) (by decide) (by first | decide | omega) (by first | decide | omega)) hgz hgn hgh hgb hgc hgi hgu) (cwV 2 hts (goodIn_app (goodIn_r _ [3, 4, 5, 6] rfl (by decide +kernel)) (goodIn_ca (goodIn_r _ [2, 1] rfl (by decide +kernel)) (bs_in _ _))) rfl rfl rfl (by decide +kernel) ⟨(Nat.le_of_ble_eq_true rfl), (Nat.le_of_ble_eq_true rfl)⟩) ⟨fun a U g mk q => by obtain ⟨q0, q1, qK, qE⟩ := q; exact ⟨q0, q1, va_K.moved (u := U) (U := U.calling g mk a) (Vm.Alike.refl U.vm) qK, EVS.blind g mk a qE⟩, gH_rc hK hT hr_o0 shm_0 rfl, fun U hU hW => ⟨rfl, hU, va_K.moved hW.alike hK, hE.call hS hFc hU hW⟩⟩ rfl rfl hl.1 rfl (lv_room (Nat.le_of_ble_eq_true rfl)) dX12_storm_38 ⟨(Nat.le_of_ble_eq_true rfl), (Nat.le_of_ble_eq_true rfl)⟩) hS (fun q _ h => hFc q h) hFc (fun r58 u t H locs ht hvm hw59 hB _ _ hS => ?_)
          obtain ⟨u60, rfl⟩ : ∃ z, z = u := ⟨_, rfl⟩
          obtain ⟨hT, hF1, m61⟩ := hB
          rw [ht] at hT hF1 m61
          have hF := hF.more hF1 (by decide)
          try dsimp only at hw59
          obtain ⟨h63, hf64, hd65⟩ := hw59
          have t66 : (0 : Int32).toInt = 0 := by decide
          have t67 : (1 : Int32).toInt = 1 := by decide
          have t68 : (0 : Int32).toInt = 0 := by decide
          obtain rfl : (0 : Int32) = r58 := hd65.symm
          refine lv_if_eq (tgt := 46) hx hb dX12_storm_41 (by decide) (fun c69 => ?_) (fun c69 => absurd c69 (by decide))
          refine lv_aload_n hx hb dX12_storm_46 rfl (lv_at hl 0 rfl) ?_
          refine tw_get hx hb hts bF_X12 hown hK hT hr_o0 shm_0 rfl 1 (by decide) (ht_at hts 10 rfl) (fun _ h9 => h9) dX12_storm_47 (fun v9 m70 h9 => ?_)
          obtain ⟨rfl, hg71⟩ := h9 _ rfl
          refine lv_sipush (v := 1442) hx hb dX12_storm_50 (by decide) ?_
          refine tw_iald (i := 1442) hx hb hK hT hg71 shm_2 rfl (by unfold vp_in; decide) dX12_storm_53 (fun v9 m72 h9 => ?_)
          obtain ⟨x73, rfl, gx73, kx73⟩ := (gp_at h9 (w_stc (by have q9 := tn_of (show (1442 : Int32).toInt = 1442 from (by decide)) (show (0 : Int) ≤ 1442 from by omega); omega)))
          have t74 : x73.toInt = ((wU 42 : Nat) : Int) - 1000 := (by have q := (wq_l hT hg71 (by decide) m72).2.2.1.2 ⟨by decide, by decide⟩; rw [show (1442 : Int32).toNatClampNeg - 1400 = 42 from by decide] at q; exact q)
          refine lv_istore (lv' := [(4, .int x73), (0, .ref o0), (1, .int p0), (2, .int p1), (3, .int p2)]) hx hb dX12_storm_54 hl (by decide) rfl (fun ls hl => ?_)
          refine lv_iload hx hb dX12_storm_56 (lv_at hl 0 rfl) ?_
          refine lv_bipush (v := 20) hx hb dX12_storm_58 (by decide) ?_
          refine lv_icmp_ne (tgt := 65) hx hb dX12_storm_60 (by decide) (fun c75 => ?_) (fun c75 => ?_)
          · have t76 : x73.toInt ≠ 20 := ti_ne c75 rfl (by decide)
            refine lv_aload_n hx hb dX12_storm_65 rfl (lv_at hl 1 rfl) ?_
            refine tw_get hx hb hts bF_X12 hown hK hT hr_o0 shm_0 rfl 1 (by decide) (ht_at hts 10 rfl) (fun _ h9 => h9) dX12_storm_66 (fun v9 m77 h9 => ?_)
            obtain ⟨rfl, hg78⟩ := h9 _ rfl
            refine lv_sipush (v := 1443) hx hb dX12_storm_69 (by decide) ?_
            refine lv_iconst (v := 3) hx hb dX12_storm_72 (by decide) ?_
            refine lv_iload hx hb dX12_storm_73 (lv_at hl 0 rfl) ?_
            refine lv_imul hx hb dX12_storm_75 ?_
            refine lv_topi (fun x79 ex79 => ?_)
            have t80 : x79.toInt = 3 * x73.toInt := ti_mul ex79 (by decide) rfl (by omega) (by omega)
            refine lv_iadd hx hb dX12_storm_76 ?_
            refine lv_topi (fun x81 ex81 => ?_)
            have t82 : x81.toInt = 1443 + x79.toInt := ti_add ex81 (by decide) rfl (by omega) (by omega)
            refine lv_iload_n hx hb dX12_storm_77 rfl (lv_at hl 2 rfl) ?_
            refine tw_iast2 (Sg1 := (SHm q (wP wZ wN wH wB wC wL wK (sU wU (x81.toNatClampNeg - 1400) (p0.toInt + 1000).toNat) wV) PI im PM PT lS lB lE lN)) (i := x81) (x := p0) hx hb hK hT hG hS hg71 shm_2 rfl shm_2 shm_o2 (fun b9 h9 => hgu b9 1 h9) (vin_t (a := x81.toInt) rfl (by omega) (by omega)) (gp_of (gi_all _) (w_fre (by have q9 := tn_of (show x81.toInt = x81.toInt from rfl) (show (0 : Int) ≤ x81.toInt from by omega); omega)) (wX_s (k := x81.toNatClampNeg - 1400) (v := (p0.toInt + 1000).toNat) ⟨by have q9 := tn_of (show x81.toInt = x81.toInt from rfl) (show (0 : Int) ≤ x81.toInt from by omega); omega, by have q9 := tn_of (show x81.toInt = x81.toInt from rfl) (show (0 : Int) ≤ x81.toInt from by omega); omega⟩ (by omega) (by have := (show p0.toInt = p0.toInt from rfl); omega))) (fun k9 hk9 hne9 v9 hv9 he9 => by obtain ⟨x9, rfl, p9⟩ := he9; exact ⟨x9, rfl, wP_U (by omega) (pl := x81.toNatClampNeg) ⟨by have q9 := tn_of (show x81.toInt = x81.toInt from rfl) (show (0 : Int) ≤ x81.toInt from by omega); omega, by have q9 := tn_of (show x81.toInt = x81.toInt from rfl) (show (0 : Int) ≤ x81.toInt from by omega); omega⟩ hne9 p9⟩) dX12_storm_78 (fun H locs hT oq m83 oi hS => ?_)
            have hF := hF.ast hg71 skm_2 oq (by decide)
            have m84 := (el_kept (oq _ (gne hr_o0 hg71 (by decide)))).trans m61
            have m85 := (oi _ (tn_ne (show (1442 : Int32).toInt = 1442 from (by decide)) (show x81.toInt = x81.toInt from rfl) (by omega) (by omega) (by omega))).trans m72
            refine lv_aload_n hx hb dX12_storm_79 rfl (lv_at hl 1 rfl) ?_
            refine tw_get hx hb hts bF_X12 hown hK hT hr_o0 shm_0 rfl 1 (by decide) (ht_at hts 10 rfl) (fun _ h9 => h9) dX12_storm_80 (fun v9 m86 h9 => ?_)
            obtain ⟨rfl, hg87⟩ := h9 _ rfl
            refine lv_sipush (v := 1443) hx hb dX12_storm_83 (by decide) ?_
            refine lv_iconst (v := 3) hx hb dX12_storm_86 (by decide) ?_
            refine lv_iload hx hb dX12_storm_87 (lv_at hl 0 rfl) ?_
            refine lv_imul hx hb dX12_storm_89 ?_
            refine lv_topi (fun x88 ex88 => ?_)
            have t89 : x88.toInt = 3 * x73.toInt := ti_mul ex88 (by decide) rfl (by omega) (by omega)
            refine lv_iadd hx hb dX12_storm_90 ?_
            refine lv_topi (fun x90 ex90 => ?_)
            have t91 : x90.toInt = 1443 + x88.toInt := ti_add ex90 (by decide) rfl (by omega) (by omega)
            refine lv_iconst (v := 1) hx hb dX12_storm_91 (by decide) ?_
            refine lv_iadd hx hb dX12_storm_92 ?_
            refine lv_topi (fun x92 ex92 => ?_)
            have t93 : x92.toInt = x90.toInt + 1 := ti_add ex92 rfl (by decide) (by omega) (by omega)
            refine lv_iload_n hx hb dX12_storm_93 rfl (lv_at hl 3 rfl) ?_
            refine tw_iast2 (Sg1 := (SHm q (wP wZ wN wH wB wC wL wK (sU (sU wU (x81.toNatClampNeg - 1400) (p0.toInt + 1000).toNat) (x92.toNatClampNeg - 1400) (p1.toInt + 1000).toNat) wV) PI im PM PT lS lB lE lN)) (i := x92) (x := p1) hx hb hK hT hG hS hg71 shm_2 rfl shm_2 shm_o2 (fun b9 h9 => hgu b9 1 h9) (vin_t (a := x92.toInt) rfl (by omega) (by omega)) (gp_of (gi_all _) (w_fre (by have q9 := tn_of (show x92.toInt = x92.toInt from rfl) (show (0 : Int) ≤ x92.toInt from by omega); omega)) (wX_s (k := x92.toNatClampNeg - 1400) (v := (p1.toInt + 1000).toNat) ⟨by have q9 := tn_of (show x92.toInt = x92.toInt from rfl) (show (0 : Int) ≤ x92.toInt from by omega); omega, by have q9 := tn_of (show x92.toInt = x92.toInt from rfl) (show (0 : Int) ≤ x92.toInt from by omega); omega⟩ (by omega) (by have := (show p1.toInt = p1.toInt from rfl); omega))) (fun k9 hk9 hne9 v9 hv9 he9 => by obtain ⟨x9, rfl, p9⟩ := he9; exact ⟨x9, rfl, wP_U (by omega) (pl := x92.toNatClampNeg) ⟨by have q9 := tn_of (show x92.toInt = x92.toInt from rfl) (show (0 : Int) ≤ x92.toInt from by omega); omega, by have q9 := tn_of (show x92.toInt = x92.toInt from rfl) (show (0 : Int) ≤ x92.toInt from by omega); omega⟩ hne9 p9⟩) dX12_storm_94 (fun H locs hT oq m94 oi hS => ?_)
            have hF := hF.ast hg71 skm_2 oq (by decide)
            have m95 := (el_kept (oq _ (gne hr_o0 hg71 (by decide)))).trans m84
            have m96 := (oi _ (tn_ne (show (1442 : Int32).toInt = 1442 from (by decide)) (show x92.toInt = x92.toInt from rfl) (by omega) (by omega) (by omega))).trans m85
            refine lv_aload_n hx hb dX12_storm_95 rfl (lv_at hl 1 rfl) ?_
            refine tw_get hx hb hts bF_X12 hown hK hT hr_o0 shm_0 rfl 1 (by decide) (ht_at hts 10 rfl) (fun _ h9 => h9) dX12_storm_96 (fun v9 m98 h9 => ?_)
            obtain ⟨rfl, hg99⟩ := h9 _ rfl
            refine lv_sipush (v := 1443) hx hb dX12_storm_99 (by decide) ?_
            refine lv_iconst (v := 3) hx hb dX12_storm_102 (by decide) ?_
            refine lv_iload hx hb dX12_storm_103 (lv_at hl 0 rfl) ?_
            refine lv_imul hx hb dX12_storm_105 ?_
            refine lv_topi (fun x100 ex100 => ?_)
            have t101 : x100.toInt = 3 * x73.toInt := ti_mul ex100 (by decide) rfl (by omega) (by omega)
            refine lv_iadd hx hb dX12_storm_106 ?_
            refine lv_topi (fun x102 ex102 => ?_)
            have t103 : x102.toInt = 1443 + x100.toInt := ti_add ex102 (by decide) rfl (by omega) (by omega)
            refine lv_iconst (v := 2) hx hb dX12_storm_107 (by decide) ?_
            refine lv_iadd hx hb dX12_storm_108 ?_
            refine lv_topi (fun x104 ex104 => ?_)
            have t105 : x104.toInt = x102.toInt + 2 := ti_add ex104 rfl (by decide) (by omega) (by omega)
            refine lv_iload_n hx hb dX12_storm_109 rfl (lv_at hl 4 rfl) ?_
            refine tw_iast2 (Sg1 := (SHm q (wP wZ wN wH wB wC wL wK (sU (sU (sU wU (x81.toNatClampNeg - 1400) (p0.toInt + 1000).toNat) (x92.toNatClampNeg - 1400) (p1.toInt + 1000).toNat) (x104.toNatClampNeg - 1400) (p2.toInt + 1000).toNat) wV) PI im PM PT lS lB lE lN)) (i := x104) (x := p2) hx hb hK hT hG hS hg71 shm_2 rfl shm_2 shm_o2 (fun b9 h9 => hgu b9 1 h9) (vin_t (a := x104.toInt) rfl (by omega) (by omega)) (gp_of (gi_of (show p2.toInt = p2.toInt from rfl) (by omega) (by omega)) (w_stm (by have q9 := tn_of (show x104.toInt = x104.toInt from rfl) (show (0 : Int) ≤ x104.toInt from by omega); omega)) (wX_s (k := x104.toNatClampNeg - 1400) (v := (p2.toInt + 1000).toNat) ⟨by have q9 := tn_of (show x104.toInt = x104.toInt from rfl) (show (0 : Int) ≤ x104.toInt from by omega); omega, by have q9 := tn_of (show x104.toInt = x104.toInt from rfl) (show (0 : Int) ≤ x104.toInt from by omega); omega⟩ (by omega) (by have := (show p2.toInt = p2.toInt from rfl); omega))) (fun k9 hk9 hne9 v9 hv9 he9 => by obtain ⟨x9, rfl, p9⟩ := he9; exact ⟨x9, rfl, wP_U (by omega) (pl := x104.toNatClampNeg) ⟨by have q9 := tn_of (show x104.toInt = x104.toInt from rfl) (show (0 : Int) ≤ x104.toInt from by omega); omega, by have q9 := tn_of (show x104.toInt = x104.toInt from rfl) (show (0 : Int) ≤ x104.toInt from by omega); omega⟩ hne9 p9⟩) dX12_storm_110 (fun H locs hT oq m106 oi hS => ?_)
            have hF := hF.ast hg71 skm_2 oq (by decide)
            have m107 := (el_kept (oq _ (gne hr_o0 hg71 (by decide)))).trans m95
            have m108 := (oi _ (tn_ne (show (1442 : Int32).toInt = 1442 from (by decide)) (show x104.toInt = x104.toInt from rfl) (by omega) (by omega) (by omega))).trans m96
            refine lv_aload_n hx hb dX12_storm_111 rfl (lv_at hl 1 rfl) ?_
            refine tw_get hx hb hts bF_X12 hown hK hT hr_o0 shm_0 rfl 1 (by decide) (ht_at hts 10 rfl) (fun _ h9 => h9) dX12_storm_112 (fun v9 m111 h9 => ?_)
            obtain ⟨rfl, hg112⟩ := h9 _ rfl
            refine lv_sipush (v := 1442) hx hb dX12_storm_115 (by decide) ?_
            refine lv_dup2_11 hx hb dX12_storm_118 rfl rfl ?_
            refine tw_iald (i := 1442) hx hb hK hT hg71 shm_2 rfl (by unfold vp_in; decide) dX12_storm_119 (fun v9 m113 h9 => ?_)
            obtain ⟨x114, rfl, gx114, kx114⟩ := (gp_at h9 (w_stc (by have q9 := tn_of (show (1442 : Int32).toInt = 1442 from (by decide)) (show (0 : Int) ≤ 1442 from by omega); omega)))
            obtain rfl : x73 = x114 := (el_same m113 m108 rfl).symm
            refine lv_iconst (v := 1) hx hb dX12_storm_120 (by decide) ?_
            refine lv_iadd hx hb dX12_storm_121 ?_
            refine lv_topi (fun x115 ex115 => ?_)
            have t116 : x115.toInt = x73.toInt + 1 := ti_add ex115 rfl (by decide) (by omega) (by omega)
            refine tw_iast2 (Sg1 := (SHm q (wP wZ wN wH wB wC wL wK (sU (sU (sU (sU wU (x81.toNatClampNeg - 1400) (p0.toInt + 1000).toNat) (x92.toNatClampNeg - 1400) (p1.toInt + 1000).toNat) (x104.toNatClampNeg - 1400) (p2.toInt + 1000).toNat) ((1442 : Int32).toNatClampNeg - 1400) (x115.toInt + 1000).toNat) wV) PI im PM PT lS lB lE lN)) (i := 1442) (x := x115) hx hb hK hT hG hS hg71 shm_2 rfl shm_2 shm_o2 (fun b9 h9 => hgu b9 1 h9) (by unfold vp_in; decide) (gp_of (gi_of (show x115.toInt = x115.toInt from rfl) (by omega) (by omega)) (w_stc (by have q9 := tn_of (show (1442 : Int32).toInt = 1442 from (by decide)) (show (0 : Int) ≤ 1442 from by omega); omega)) (wX_s (k := (1442 : Int32).toNatClampNeg - 1400) (v := (x115.toInt + 1000).toNat) ⟨by have q9 := tn_of (show (1442 : Int32).toInt = 1442 from (by decide)) (show (0 : Int) ≤ 1442 from by omega); omega, by have q9 := tn_of (show (1442 : Int32).toInt = 1442 from (by decide)) (show (0 : Int) ≤ 1442 from by omega); omega⟩ (by omega) (by have := (show x115.toInt = x115.toInt from rfl); omega))) (fun k9 hk9 hne9 v9 hv9 he9 => by obtain ⟨x9, rfl, p9⟩ := he9; exact ⟨x9, rfl, wP_U (by omega) (pl := (1442 : Int32).toNatClampNeg) ⟨by have q9 := tn_of (show (1442 : Int32).toInt = 1442 from (by decide)) (show (0 : Int) ≤ 1442 from by omega); omega, by have q9 := tn_of (show (1442 : Int32).toInt = 1442 from (by decide)) (show (0 : Int) ≤ 1442 from by omega); omega⟩ hne9 p9⟩) dX12_storm_122 (fun H locs hT oq m117 oi hS => ?_)
            have hF := hF.ast hg71 skm_2 oq (by decide)
            have m118 := (el_kept (oq _ (gne hr_o0 hg71 (by decide)))).trans m107
            refine lv_aload_n hx hb dX12_storm_123 rfl (lv_at hl 1 rfl) ?_
            refine lv_iconst (v := 0) hx hb dX12_storm_124 (by decide) ?_
            refine tw_put (v := .int 0) (ty := .int) hx hb hts bF_X12 tyX12 tyX12_ok nmX12 hown hK hT hG hS hr_o0 shm_0 rfl 9 (by decide) (ht_at hts 11 rfl) (fun _ h9 => h9) rfl (by decide +kernel) rfl rfl (gl_at rfl (gi_of (show (0 : Int32).toInt = 0 from (by decide)) (by first | decide | omega) (by first | decide | omega))) dX12_storm_125 (fun H locs hT oq m122 oj hS => ?_)
            have hF := hF.put hr_o0 skm_0 oq oj (by decide)
            have m123 := (oj 0 (by decide) (by decide)).trans m118
            refine lv_iload hx hb dX12_storm_128 (lv_at hl 0 rfl) ?_
            refine lv_iconst (v := 1) hx hb dX12_storm_130 (by decide) ?_
            refine lv_iadd hx hb dX12_storm_131 ?_
            refine lv_topi (fun x128 ex128 => ?_)
            have t129 : x128.toInt = x73.toInt + 1 := ti_add ex128 rfl (by decide) (by omega) (by omega)
            exact W.iret (v := x128) hx hb hr (fun t ht hW => ⟨⟨x128, (u60, (sU (sU (sU (sU wU (x81.toNatClampNeg - 1400) (p0.toInt + 1000).toNat) (x92.toNatClampNeg - 1400) (p1.toInt + 1000).toNat) (x104.toNatClampNeg - 1400) (p2.toInt + 1000).toNat) ((1442 : Int32).toNatClampNeg - 1400) (x115.toInt + 1000).toNat)), rfl, (by exact ⟨(by have q8 := ti_all x128; omega), (fun w9 h9 => by have := tn_of (show x81.toInt = x81.toInt from rfl) (by omega); have := tn_of (show x92.toInt = x92.toInt from rfl) (by omega); have := tn_of (show x104.toInt = x104.toInt from rfl) (by omega); have : (1442 : Int32).toNatClampNeg = 1442 := (by decide); rw [sU_o (by omega)]; rw [sU_o (by omega)]; rw [sU_o (by omega)]; rw [sU_o (by omega)]), (Or.inr (Or.inr ⟨by have := stC_s p0.toInt p1.toInt p2.toInt; omega, by have q0 : (0 : Int32).toInt = 0 := (by decide); have q1 : (1 : Int32).toInt = 1 := (by decide); have qm : (-1 : Int32).toInt = -1 := (by decide); omega, (SU wU 42).toNat, by unfold SU; omega, by unfold SU; omega, by unfold SU; omega, (by have := tn_of (show x81.toInt = x81.toInt from rfl) (by omega); have := tn_of (show x92.toInt = x92.toInt from rfl) (by omega); have := tn_of (show x104.toInt = x104.toInt from rfl) (by omega); have : (1442 : Int32).toNatClampNeg = 1442 := (by decide); unfold SU sU; (repeat' split) <;> omega), (by have := tn_of (show x81.toInt = x81.toInt from rfl) (by omega); have := tn_of (show x92.toInt = x92.toInt from rfl) (by omega); have := tn_of (show x104.toInt = x104.toInt from rfl) (by omega); have : (1442 : Int32).toNatClampNeg = 1442 := (by decide); unfold SU sU; (repeat' split) <;> omega), (by have := tn_of (show x81.toInt = x81.toInt from rfl) (by omega); have := tn_of (show x92.toInt = x92.toInt from rfl) (by omega); have := tn_of (show x104.toInt = x104.toInt from rfl) (by omega); have : (1442 : Int32).toNatClampNeg = 1442 := (by decide); unfold SU sU; (repeat' split) <;> omega), (by have := tn_of (show x81.toInt = x81.toInt from rfl) (by omega); have := tn_of (show x92.toInt = x92.toInt from rfl) (by omega); have := tn_of (show x104.toInt = x104.toInt from rfl) (by omega); have : (1442 : Int32).toNatClampNeg = 1442 := (by decide); unfold SU sU; (repeat' split) <;> omega), fun j9 a9 b9 c9 d9 e9 => (by unfold SU at c9 d9 e9; have := tn_of (show x81.toInt = x81.toInt from rfl) (by omega); have := tn_of (show x92.toInt = x92.toInt from rfl) (by omega); have := tn_of (show x104.toInt = x104.toInt from rfl) (by omega); have : (1442 : Int32).toNatClampNeg = 1442 := (by decide); unfold SU sU; (repeat' split) <;> omega)⟩))⟩), by (try dsimp only); rw [ht]; exact ⟨hT, hF, m123⟩⟩, hS.F ht⟩) hS.2.2 dX12_storm_132
          · have t130 : x73.toInt = 20 := ti_eq c75 rfl (by decide)
            refine lv_iconst (v := (-1)) hx hb dX12_storm_63 (by decide) ?_
            exact W.iret (v := (-1)) hx hb hr (fun t ht hW => ⟨⟨(-1), (u60, wU), rfl, (by exact ⟨(rg_t (a := (-1)) (by decide) (by first | decide | omega) (by first | decide | omega)), (fun _ _ => rfl), (by have := stC_s p0.toInt p1.toInt p2.toInt; have q0 : (0 : Int32).toInt = 0 := (by decide); have q1 : (1 : Int32).toInt = 1 := (by decide); have qm : (-1 : Int32).toInt = -1 := (by decide); first | exact Or.inr (Or.inl ⟨by omega, by omega, by unfold SU; omega, by omega, rfl⟩) | exact Or.inl ⟨by omega, by omega, rfl⟩)⟩), by (try dsimp only); rw [ht]; exact ⟨hT, hF, m61⟩⟩, hS.F ht⟩) hS.2.2 dX12_storm_64
        · have t131 : r47.toInt = 0 := ti_eq c53 rfl (by decide)
          have t132 : (1 : Int32).toInt = 1 := by decide
          have t133 : (500 : Int32).toInt = 500 := by decide
          have t134 : p2.toInt < (1 : Int32).toInt ∨ (500 : Int32).toInt < p2.toInt := hi52 c53
          refine lv_iconst (v := 1) hx hb dX12_storm_32 (by decide) ?_
          refine lv_goto (tgt := 37) hx hb dX12_storm_33 (by decide) ?_
          refine lv_iconst (v := 1) hx hb dX12_storm_37 (by decide) ?_
          have hFc := gA_free hG hA hS
          refine va_calli (va_runV (As := [.int 1, .int 1]) (rest := []) ⟨hx, hb, hml, hown, hts⟩ (s_throwsIfP l dC dI kA adK adV G H q wZ wN wH wB wC wL wK wU wV PI im PM PT lS lB lE lN o0 1 1 0 hT hr_o0 m49 (rg_t (a := 1) (by decide) (by first | decide | omega) (by first | decide | omega)) hgz hgn hgh hgb hgc hgi hgu) (cwV 2 hts (goodIn_app (goodIn_r _ [3, 4, 5, 6] rfl (by decide +kernel)) (goodIn_ca (goodIn_r _ [2, 1] rfl (by decide +kernel)) (bs_in _ _))) rfl rfl rfl (by decide +kernel) ⟨(Nat.le_of_ble_eq_true rfl), (Nat.le_of_ble_eq_true rfl)⟩) ⟨fun a U g mk q => by obtain ⟨q0, q1, qK, qE⟩ := q; exact ⟨q0, q1, va_K.moved (u := U) (U := U.calling g mk a) (Vm.Alike.refl U.vm) qK, EVS.blind g mk a qE⟩, gH_rc hK hT hr_o0 shm_0 rfl, fun U hU hW => ⟨rfl, hU, va_K.moved hW.alike hK, hE.call hS hFc hU hW⟩⟩ rfl rfl hl.1 rfl (lv_room (Nat.le_of_ble_eq_true rfl)) dX12_storm_38 ⟨(Nat.le_of_ble_eq_true rfl), (Nat.le_of_ble_eq_true rfl)⟩) hS (fun q _ h => hFc q h) hFc (fun r135 u t H locs ht hvm hw136 hB _ _ hS => ?_)
          obtain ⟨u137, rfl⟩ : ∃ z, z = u := ⟨_, rfl⟩
          obtain ⟨hT, hF1, m138⟩ := hB
          rw [ht] at hT hF1 m138
          have hF := hF.more hF1 (by decide)
          try dsimp only at hw136
          obtain ⟨h140, hf141, hd142⟩ := hw136
          have t143 : (1 : Int32).toInt = 1 := by decide
          have t144 : (1 : Int32).toInt = 1 := by decide
          have t145 : (0 : Int32).toInt = 0 := by decide
          obtain rfl : (1 : Int32) = r135 := hd142.symm
          refine lv_if_eq (tgt := 46) hx hb dX12_storm_41 (by decide) (fun c146 => absurd c146 (by decide)) (fun c146 => ?_)
          refine lv_iconst (v := 0) hx hb dX12_storm_44 (by decide) ?_
          exact W.iret (v := 0) hx hb hr (fun t ht hW => ⟨⟨0, (u137, wU), rfl, (by exact ⟨(rg_t (a := 0) (by decide) (by first | decide | omega) (by first | decide | omega)), (fun _ _ => rfl), (by have := stC_s p0.toInt p1.toInt p2.toInt; have q0 : (0 : Int32).toInt = 0 := (by decide); have q1 : (1 : Int32).toInt = 1 := (by decide); have qm : (-1 : Int32).toInt = -1 := (by decide); first | exact Or.inr (Or.inl ⟨by omega, by omega, by unfold SU; omega, by omega, rfl⟩) | exact Or.inl ⟨by omega, by omega, rfl⟩)⟩), by (try dsimp only); rw [ht]; exact ⟨hT, hF, m138⟩⟩, hS.F ht⟩) hS.2.2 dX12_storm_45
def w_s_weatherY : List Cond := .code yX12_weather cX12_weather 6 (some .int) :: (HAppend.hAppend (α := List Cond) (β := List Cond) (γ := List Cond) [.fieldLink RX12 194 "SeaLandModel" "thrown" "I", .constant RX12 242 40000, .code yX12_in cX12_in 3 (some .boolean), .methodLink RX12 197 yX12_in, .static yX12_in, .initialized RX12, .code yX12_throwsIf cX12_throwsIf 3 (some .boolean), .methodLink RX12 224 yX12_throwsIf, .instanceMethod yX12_throwsIf, .selects RX12 yX12_throwsIf yX12_throwsIf, .fieldLink RX12 9 "SeaLandModel" "world" "[I", .fieldLink RX12 238 "SeaLandModel" "rows" "I"] bs)
set_option maxHeartbeats 4000000 in
set_option maxRecDepth 100000 in
theorem s_weatherY (l : Launch) (dC : Nat → ClassId) (dI : Nat → Nat → Nat) (kA : Nat → ClassId) (adK adV : Nat → Nat) (G : gT) (H0 : Heap) (q : Nat → Nat) (wZ wN : Nat → Int) (wH wB wC : Int) (wL wK : Nat → Prop) (wU wV : Nat → Nat) (PI : Nat → Int → Prop) (im : Int) (PM PT : Nat → Int → Prop) (lS lB lE : Nat → Nat → Int → Prop) (lN : Nat → Int) (o0 : Nat) (p0 : Int32) (p1 : Int32) (p2 : Int32)  (hT : gH (dC, dI) kA (SHm q (wP wZ wN wH wB wC wL wK wU wV) PI im PM PT lS lB lE lN) G H0) (hr_o0 : G o0 = some 0) (hq0 : 0 ≤ p0.toInt ∧ p0.toInt ≤ 1) (hgz : ∀ i, 0 ≤ wZ i) (hgn : ∀ i, 6500000 ≤ wN i ∧ wN i ≤ 20200000) (hgh : 0 ≤ wH ∧ wH ≤ 40000) (hgb : 0 ≤ wB ∧ wB ≤ 3850000) (hgc : 0 ≤ wC ∧ wC ≤ 30) (hgi : 0 ≤ im ∧ im ≤ 1) (hgu : ∀ a t, G a = some (t + 1) → a = q t) : Met l yX12_weather w_s_weatherY ({ frames := 1, cells := 0, slots := 0, locals := 22 }) (va_Pc [.ref o0, .int p0, .int p1, .int p2] (fun U => U.heap = H0 ∧ va_K (dC, dI) vwCl (tyl kA) U ∧ EVS adK adV (gA G H0.size) U U.heap)) (va_Qi (fun (r : Int32) (u : Int32 × (Nat → Nat)) => match u with | (t1, wU1) => (-1 ≤ r.toInt ∧ r.toInt ≤ 60) ∧ (∀ w, w < 30 → wU1 w = wU w) ∧ ((weC p0.toInt p1.toInt p2.toInt ≠ 0 ∧ t1.toInt = weC p0.toInt p1.toInt p2.toInt ∧ wU1 = wU) ∨ (weC p0.toInt p1.toInt p2.toInt = 0 ∧ t1.toInt = 0 ∧ ((p0.toInt = 0 ∧ SU wU 103 = 60) ∨ (p0.toInt ≠ 0 ∧ SU wU 224 = 60)) ∧ r.toInt = -1 ∧ wU1 = wU) ∨ (weC p0.toInt p1.toInt p2.toInt = 0 ∧ t1.toInt = 0 ∧ p0.toInt = 0 ∧ ∃ n : Nat, SU wU 103 = ((n : Nat) : Int) ∧ n < 60 ∧ r.toInt = ((n : Nat) : Int) + 1 ∧ SU wU1 103 = ((n : Nat) : Int) + 1 ∧ SU wU1 (104 + 2 * n) = p1.toInt ∧ SU wU1 (105 + 2 * n) = p2.toInt ∧ ∀ j, 30 ≤ j → j ≠ 103 → j ≠ 104 + 2 * n → j ≠ 105 + 2 * n → SU wU1 j = SU wU j) ∨ (weC p0.toInt p1.toInt p2.toInt = 0 ∧ t1.toInt = 0 ∧ p0.toInt ≠ 0 ∧ ∃ n : Nat, SU wU 224 = ((n : Nat) : Int) ∧ n < 60 ∧ r.toInt = ((n : Nat) : Int) + 1 ∧ SU wU1 224 = ((n : Nat) : Int) + 1 ∧ SU wU1 (225 + 2 * n) = p1.toInt ∧ SU wU1 (226 + 2 * n) = p2.toInt ∧ ∀ j, 30 ≤ j → j ≠ 224 → j ≠ 225 + 2 * n → j ≠ 226 + 2 * n → SU wU1 j = SU wU j))) (fun (u : Int32 × (Nat → Nat)) (t : State) => match u with | (t1, wU1) => gH (dC, dI) kA (SHm q (wP wZ wN wH wB wC wL wK wU1 wV) PI im PM PT lS lB lE lN) G t.heap ∧ gF (dC, dI) SKm G ([(0, 0), (0, 9), (2, 0)] : List (Nat × Nat)) H0 t.heap ∧ el t.heap o0 (dI 15 0) = some (.int t1)) (gA G H0.size)) 0 0 (gA G H0.size) := by
  refine Met.ofW (cc := cX12_weather) (maxL := 6) (ret := (some .int)) (by decide) rfl ?_
  intro p e s m args below meth c s₁ B hml hv
  obtain ⟨rfl, hH0, hK, hE⟩ := hv
  have hx := B.exec
  have hb := B.bytes
  have hr := B.returns
  have hts := atoms_spec (ws := w_s_weatherY) B.pre
  have hown : s.vm.findClass RX12 = some m.cls := findClass_of_methodNamed B.named
  have hlocks := B.notSynchronized
  subst hH0
  generalize hAe : gA G s.heap.size = A at hE ⊢
  have hA : ∀ q : Nat, s.heap.size ≤ q → A q := fun q h => by rw [← hAe]; exact Or.inr h
  have hG := gA_of hAe
  have hS : va_S A s.heap s.heap [] := va_S.rf
  have hF : gF (dC, dI) SKm G ([(0, 0), (0, 9), (2, 0)] : List (Nat × Nat)) s.heap s.heap := gF.rf
  have hl := lv_entry ([.ref o0, .int p0, .int p1, .int p2]) (n := 6) (Nat.le_of_ble_eq_true rfl)
  rw [lg_entry_eq]
  generalize (lg_sl ([.ref o0, .int p0, .int p1, .int p2]) ++ List.replicate (6 - (lg_sl ([.ref o0, .int p0, .int p1, .int p2])).length) Slot.unset).toArray = ls at hl ⊢
  have hl : lv_has ls 6 [(0, .ref o0), (1, .int p0), (2, .int p1), (3, .int p2)] := hl
  refine lv_aload_n hx hb dX12_weather_0 rfl (lv_at hl 0 rfl) ?_
  refine lv_iconst (v := 0) hx hb dX12_weather_1 (by decide) ?_
  refine tw_put (v := .int 0) (ty := .int) hx hb hts bF_X12 tyX12 tyX12_ok nmX12 hown hK hT hG hS hr_o0 shm_0 rfl 0 (by decide) (ht_at hts 0 rfl) (fun _ h9 => h9) rfl (by decide +kernel) rfl rfl (gl_at rfl (gi_all _)) dX12_weather_2 (fun H locs hT oq m1 oj hS => ?_)
  have hF := hF.put hr_o0 skm_0 oq oj (by decide)
  refine lv_aload_n hx hb dX12_weather_5 rfl (lv_at hl 0 rfl) ?_
  refine lv_iload_n hx hb dX12_weather_6 rfl (lv_at hl 2 rfl) ?_
  refine lv_iconst (v := 0) hx hb dX12_weather_7 (by decide) ?_
  refine lv_ldc (v := 40000) hx hb hown (ht_at hts 1 rfl) dX12_weather_8 ?_
  have hFc := gA_free hG hA hS
  refine va_calli (va_runS (As := [.int p1, .int 0, .int 40000]) (rest := [.ref o0]) ⟨hx, hb, hml, hown, hts⟩ (s_in l dC dI kA adK adV G H q wZ wN wH wB wC wL wK wU wV PI im PM PT lS lB lE lN p1 0 40000 hT hgz hgn hgh hgb hgc hgi hgu) (va_cwS 3 hts (goodIn_app (goodIn_r _ [4, 5, 6] rfl (by decide +kernel)) (goodIn_ca (goodIn_r _ [3] rfl (by decide +kernel)) (bs_in _ _))) rfl rfl rfl (by decide +kernel) ⟨(Nat.le_of_ble_eq_true rfl), (Nat.le_of_ble_eq_true rfl)⟩) ⟨fun a U g mk q => by obtain ⟨q0, q1, qK, qE⟩ := q; exact ⟨q0, q1, va_K.moved (u := U) (U := U.calling g mk a) (Vm.Alike.refl U.vm) qK, EVS.blind g mk a qE⟩, fun U hU hW => ⟨rfl, hU, va_K.moved hW.alike hK, hE.call hS hFc hU hW⟩⟩ rfl rfl hl.1 rfl (lv_room (Nat.le_of_ble_eq_true rfl)) dX12_weather_10 ⟨(Nat.le_of_ble_eq_true rfl), (Nat.le_of_ble_eq_true rfl)⟩) hS (fun q _ h => hFc q h) hFc (fun r2 u t H locs ht hvm hw3 hB _ _ hS => ?_)
  obtain ⟨hT, hF1⟩ := hB
  rw [ht] at hT hF1
  have m4 := (hF1.fld hr_o0 skm_0 (k := 0) (by decide) (by decide)).trans m1
  have hF := hF.more hF1 (by decide)
  try dsimp only at hw3
  obtain ⟨h5, hi6, hi7⟩ := hw3
  refine lv_if_eq (tgt := 43) hx hb dX12_weather_13 (by decide) (fun c8 => ?_) (fun c8 => ?_)
  · have t9 : r2.toInt = 0 := ti_eq c8 rfl (by decide)
    have t10 : (0 : Int32).toInt = 0 := by decide
    have t11 : (40000 : Int32).toInt = 40000 := by decide
    have t12 : p1.toInt < (0 : Int32).toInt ∨ (40000 : Int32).toInt < p1.toInt := hi7 c8
    refine lv_iconst (v := 1) hx hb dX12_weather_43 (by decide) ?_
    refine lv_goto (tgt := 48) hx hb dX12_weather_44 (by decide) ?_
    refine lv_iconst (v := 1) hx hb dX12_weather_48 (by decide) ?_
    have hFc := gA_free hG hA hS
    refine va_calli (va_runV (As := [.int 1, .int 1]) (rest := []) ⟨hx, hb, hml, hown, hts⟩ (s_throwsIfP l dC dI kA adK adV G H q wZ wN wH wB wC wL wK wU wV PI im PM PT lS lB lE lN o0 1 1 0 hT hr_o0 m4 (rg_t (a := 1) (by decide) (by first | decide | omega) (by first | decide | omega)) hgz hgn hgh hgb hgc hgi hgu) (cwV 2 hts (goodIn_app (goodIn_r _ [8, 9, 10, 6] rfl (by decide +kernel)) (goodIn_ca (goodIn_r _ [7, 1] rfl (by decide +kernel)) (bs_in _ _))) rfl rfl rfl (by decide +kernel) ⟨(Nat.le_of_ble_eq_true rfl), (Nat.le_of_ble_eq_true rfl)⟩) ⟨fun a U g mk q => by obtain ⟨q0, q1, qK, qE⟩ := q; exact ⟨q0, q1, va_K.moved (u := U) (U := U.calling g mk a) (Vm.Alike.refl U.vm) qK, EVS.blind g mk a qE⟩, gH_rc hK hT hr_o0 shm_0 rfl, fun U hU hW => ⟨rfl, hU, va_K.moved hW.alike hK, hE.call hS hFc hU hW⟩⟩ rfl rfl hl.1 rfl (lv_room (Nat.le_of_ble_eq_true rfl)) dX12_weather_49 ⟨(Nat.le_of_ble_eq_true rfl), (Nat.le_of_ble_eq_true rfl)⟩) hS (fun q _ h => hFc q h) hFc (fun r13 u t H locs ht hvm hw14 hB _ _ hS => ?_)
    obtain ⟨u15, rfl⟩ : ∃ z, z = u := ⟨_, rfl⟩
    obtain ⟨hT, hF1, m16⟩ := hB
    rw [ht] at hT hF1 m16
    have hF := hF.more hF1 (by decide)
    try dsimp only at hw14
    obtain ⟨h18, hf19, hd20⟩ := hw14
    have t21 : (1 : Int32).toInt = 1 := by decide
    have t22 : (1 : Int32).toInt = 1 := by decide
    have t23 : (0 : Int32).toInt = 0 := by decide
    obtain rfl : (1 : Int32) = r13 := hd20.symm
    refine lv_if_eq (tgt := 57) hx hb dX12_weather_52 (by decide) (fun c24 => absurd c24 (by decide)) (fun c24 => ?_)
    refine lv_iconst (v := 0) hx hb dX12_weather_55 (by decide) ?_
    exact W.iret (v := 0) hx hb hr (fun t ht hW => ⟨⟨0, (u15, wU), rfl, (by exact ⟨(rg_t (a := 0) (by decide) (by first | decide | omega) (by first | decide | omega)), (fun _ _ => rfl), (by have := weC_s p0.toInt p1.toInt p2.toInt; have q0 : (0 : Int32).toInt = 0 := (by decide); have q1 : (1 : Int32).toInt = 1 := (by decide); have qm : (-1 : Int32).toInt = -1 := (by decide); first | exact Or.inr (Or.inl ⟨by omega, by omega, by unfold SU; omega, by omega, rfl⟩) | exact Or.inl ⟨by omega, by omega, rfl⟩)⟩), by (try dsimp only); rw [ht]; exact ⟨hT, hF, m16⟩⟩, hS.F ht⟩) hS.2.2 dX12_weather_56
  · have t25 : r2.toInt ≠ 0 := ti_ne c8 rfl (by decide)
    have t26 : (0 : Int32).toInt = 0 := by decide
    have t27 : (40000 : Int32).toInt = 40000 := by decide
    have t28 : (0 : Int32).toInt ≤ p1.toInt ∧ p1.toInt ≤ (40000 : Int32).toInt := hi6 ((bit_of ⟨by omega, by omega⟩).resolve_left c8)
    refine lv_iload_n hx hb dX12_weather_16 rfl (lv_at hl 1 rfl) ?_
    refine lv_if_eq (tgt := 33) hx hb dX12_weather_17 (by decide) (fun c29 => ?_) (fun c29 => ?_)
    · have t30 : p0.toInt = 0 := ti_eq c29 rfl (by decide)
      refine lv_iload_n hx hb dX12_weather_33 rfl (lv_at hl 3 rfl) ?_
      refine lv_iconst (v := (-1)) hx hb dX12_weather_34 (by decide) ?_
      refine lv_bipush (v := 9) hx hb dX12_weather_35 (by decide) ?_
      have hFc := gA_free hG hA hS
      refine va_calli (va_runS (As := [.int p2, .int (-1), .int 9]) (rest := [.ref o0]) ⟨hx, hb, hml, hown, hts⟩ (s_in l dC dI kA adK adV G H q wZ wN wH wB wC wL wK wU wV PI im PM PT lS lB lE lN p2 (-1) 9 hT hgz hgn hgh hgb hgc hgi hgu) (va_cwS 3 hts (goodIn_app (goodIn_r _ [4, 5, 6] rfl (by decide +kernel)) (goodIn_ca (goodIn_r _ [3] rfl (by decide +kernel)) (bs_in _ _))) rfl rfl rfl (by decide +kernel) ⟨(Nat.le_of_ble_eq_true rfl), (Nat.le_of_ble_eq_true rfl)⟩) ⟨fun a U g mk q => by obtain ⟨q0, q1, qK, qE⟩ := q; exact ⟨q0, q1, va_K.moved (u := U) (U := U.calling g mk a) (Vm.Alike.refl U.vm) qK, EVS.blind g mk a qE⟩, fun U hU hW => ⟨rfl, hU, va_K.moved hW.alike hK, hE.call hS hFc hU hW⟩⟩ rfl rfl hl.1 rfl (lv_room (Nat.le_of_ble_eq_true rfl)) dX12_weather_37 ⟨(Nat.le_of_ble_eq_true rfl), (Nat.le_of_ble_eq_true rfl)⟩) hS (fun q _ h => hFc q h) hFc (fun r31 u t H locs ht hvm hw32 hB _ _ hS => ?_)
      obtain ⟨hT, hF1⟩ := hB
      rw [ht] at hT hF1
      have m33 := (hF1.fld hr_o0 skm_0 (k := 0) (by decide) (by decide)).trans m4
      have hF := hF.more hF1 (by decide)
      try dsimp only at hw32
      obtain ⟨h34, hi35, hi36⟩ := hw32
      refine lv_if_ne (tgt := 47) hx hb dX12_weather_40 (by decide) (fun c37 => ?_) (fun c37 => ?_)
      · have t38 : r31.toInt ≠ 0 := ti_ne c37 rfl (by decide)
        have t39 : (-1 : Int32).toInt = (-1) := by decide
        have t40 : (9 : Int32).toInt = 9 := by decide
        have t41 : (-1 : Int32).toInt ≤ p2.toInt ∧ p2.toInt ≤ (9 : Int32).toInt := hi35 ((bit_of ⟨by omega, by omega⟩).resolve_left c37)
        refine lv_iconst (v := 0) hx hb dX12_weather_47 (by decide) ?_
        refine lv_iconst (v := 1) hx hb dX12_weather_48 (by decide) ?_
        have hFc := gA_free hG hA hS
        refine va_calli (va_runV (As := [.int 0, .int 1]) (rest := []) ⟨hx, hb, hml, hown, hts⟩ (s_throwsIfP l dC dI kA adK adV G H q wZ wN wH wB wC wL wK wU wV PI im PM PT lS lB lE lN o0 0 1 0 hT hr_o0 m33 (rg_t (a := 0) (by decide) (by first | decide | omega) (by first | decide | omega)) hgz hgn hgh hgb hgc hgi hgu) (cwV 2 hts (goodIn_app (goodIn_r _ [8, 9, 10, 6] rfl (by decide +kernel)) (goodIn_ca (goodIn_r _ [7, 1] rfl (by decide +kernel)) (bs_in _ _))) rfl rfl rfl (by decide +kernel) ⟨(Nat.le_of_ble_eq_true rfl), (Nat.le_of_ble_eq_true rfl)⟩) ⟨fun a U g mk q => by obtain ⟨q0, q1, qK, qE⟩ := q; exact ⟨q0, q1, va_K.moved (u := U) (U := U.calling g mk a) (Vm.Alike.refl U.vm) qK, EVS.blind g mk a qE⟩, gH_rc hK hT hr_o0 shm_0 rfl, fun U hU hW => ⟨rfl, hU, va_K.moved hW.alike hK, hE.call hS hFc hU hW⟩⟩ rfl rfl hl.1 rfl (lv_room (Nat.le_of_ble_eq_true rfl)) dX12_weather_49 ⟨(Nat.le_of_ble_eq_true rfl), (Nat.le_of_ble_eq_true rfl)⟩) hS (fun q _ h => hFc q h) hFc (fun r42 u t H locs ht hvm hw43 hB _ _ hS => ?_)
        obtain ⟨u44, rfl⟩ : ∃ z, z = u := ⟨_, rfl⟩
        obtain ⟨hT, hF1, m45⟩ := hB
        rw [ht] at hT hF1 m45
        have hF := hF.more hF1 (by decide)
        try dsimp only at hw43
        obtain ⟨h47, hf48, hd49⟩ := hw43
        have t50 : (0 : Int32).toInt = 0 := by decide
        have t51 : (1 : Int32).toInt = 1 := by decide
        have t52 : (0 : Int32).toInt = 0 := by decide
        obtain rfl : (0 : Int32) = r42 := hd49.symm
        refine lv_if_eq (tgt := 57) hx hb dX12_weather_52 (by decide) (fun c53 => ?_) (fun c53 => absurd c53 (by decide))
        refine lv_iload_n hx hb dX12_weather_57 rfl (lv_at hl 1 rfl) ?_
        refine lv_if_eq (tgt := 67) hx hb dX12_weather_58 (by decide) (fun c54 => ?_) (fun c54 => (by exfalso; have q9 : p0.toInt ≠ 0 := ti_ne c54 rfl (by decide); omega))
        have t55 : p0.toInt = 0 := ti_eq c54 rfl (by decide)
        refine lv_sipush (v := 1503) hx hb dX12_weather_67 (by decide) ?_
        refine lv_istore (lv' := [(4, .int 1503), (0, .ref o0), (1, .int p0), (2, .int p1), (3, .int p2)]) hx hb dX12_weather_70 hl (by decide) rfl (fun ls hl => ?_)
        refine lv_iload_n hx hb dX12_weather_72 rfl (lv_at hl 2 rfl) ?_
        refine lv_if_eq (tgt := 82) hx hb dX12_weather_73 (by decide) (fun c56 => ?_) (fun c56 => (by exfalso; have q9 : p0.toInt ≠ 0 := ti_ne c56 rfl (by decide); omega))
        have t57 : p0.toInt = 0 := ti_eq c56 rfl (by decide)
        refine lv_sipush (v := 1504) hx hb dX12_weather_82 (by decide) ?_
        refine lv_iconst (v := 2) hx hb dX12_weather_85 (by decide) ?_
        refine lv_aload_n hx hb dX12_weather_86 rfl (lv_at hl 1 rfl) ?_
        refine tw_get hx hb hts bF_X12 hown hK hT hr_o0 shm_0 rfl 1 (by decide) (ht_at hts 10 rfl) (fun _ h9 => h9) dX12_weather_87 (fun v9 m58 h9 => ?_)
        obtain ⟨rfl, hg59⟩ := h9 _ rfl
        refine lv_iload hx hb dX12_weather_90 (lv_at hl 0 rfl) ?_
        refine tw_iald (i := 1503) hx hb hK hT hg59 shm_2 rfl (by unfold vp_in; decide) dX12_weather_92 (fun v9 m60 h9 => ?_)
        obtain ⟨x61, rfl, gx61, kx61⟩ := (gp_at h9 (w_wic (by have q9 := tn_of (show (1503 : Int32).toInt = 1503 from (by decide)) (show (0 : Int) ≤ 1503 from by omega); omega)))
        have t62 : x61.toInt = ((wU 103 : Nat) : Int) - 1000 := (by have q := (wq_l hT hg59 (by decide) m60).2.2.1.2 ⟨by decide, by decide⟩; rw [show (1503 : Int32).toNatClampNeg - 1400 = 103 from by decide] at q; exact q)
        refine lv_imul hx hb dX12_weather_93 ?_
        refine lv_topi (fun x63 ex63 => ?_)
        have t64 : x63.toInt = 2 * x61.toInt := ti_mul ex63 (by decide) rfl (by omega) (by omega)
        refine lv_iadd hx hb dX12_weather_94 ?_
        refine lv_topi (fun x65 ex65 => ?_)
        have t66 : x65.toInt = 1504 + x63.toInt := ti_add ex65 (by decide) rfl (by omega) (by omega)
        refine lv_istore (lv' := [(5, .int x65), (4, .int 1503), (0, .ref o0), (1, .int p0), (2, .int p1), (3, .int p2)]) hx hb dX12_weather_95 hl (by decide) rfl (fun ls hl => ?_)
        refine lv_aload_n hx hb dX12_weather_97 rfl (lv_at hl 2 rfl) ?_
        refine tw_get hx hb hts bF_X12 hown hK hT hr_o0 shm_0 rfl 1 (by decide) (ht_at hts 10 rfl) (fun _ h9 => h9) dX12_weather_98 (fun v9 m67 h9 => ?_)
        obtain ⟨rfl, hg68⟩ := h9 _ rfl
        refine lv_iload hx hb dX12_weather_101 (lv_at hl 1 rfl) ?_
        refine tw_iald (i := 1503) hx hb hK hT hg59 shm_2 rfl (by unfold vp_in; decide) dX12_weather_103 (fun v9 m69 h9 => ?_)
        obtain ⟨x70, rfl, gx70, kx70⟩ := (gp_at h9 (w_wic (by have q9 := tn_of (show (1503 : Int32).toInt = 1503 from (by decide)) (show (0 : Int) ≤ 1503 from by omega); omega)))
        obtain rfl : x61 = x70 := (el_same m69 m60 rfl).symm
        refine lv_bipush (v := 60) hx hb dX12_weather_104 (by decide) ?_
        refine lv_icmp_ne (tgt := 111) hx hb dX12_weather_106 (by decide) (fun c71 => ?_) (fun c71 => ?_)
        · have t72 : x61.toInt ≠ 60 := ti_ne c71 rfl (by decide)
          refine lv_aload_n hx hb dX12_weather_111 rfl (lv_at hl 2 rfl) ?_
          refine tw_get hx hb hts bF_X12 hown hK hT hr_o0 shm_0 rfl 1 (by decide) (ht_at hts 10 rfl) (fun _ h9 => h9) dX12_weather_112 (fun v9 m73 h9 => ?_)
          obtain ⟨rfl, hg74⟩ := h9 _ rfl
          refine lv_iload hx hb dX12_weather_115 (lv_at hl 0 rfl) ?_
          refine lv_iload_n hx hb dX12_weather_117 rfl (lv_at hl 4 rfl) ?_
          refine tw_iast2 (Sg1 := (SHm q (wP wZ wN wH wB wC wL wK (sU wU (x65.toNatClampNeg - 1400) (p1.toInt + 1000).toNat) wV) PI im PM PT lS lB lE lN)) (i := x65) (x := p1) hx hb hK hT hG hS hg59 shm_2 rfl shm_2 shm_o2 (fun b9 h9 => hgu b9 1 h9) (vin_t (a := x65.toInt) rfl (by omega) (by omega)) (gp_of (gi_all _) (w_fre (by have q9 := tn_of (show x65.toInt = x65.toInt from rfl) (show (0 : Int) ≤ x65.toInt from by omega); omega)) (wX_s (k := x65.toNatClampNeg - 1400) (v := (p1.toInt + 1000).toNat) ⟨by have q9 := tn_of (show x65.toInt = x65.toInt from rfl) (show (0 : Int) ≤ x65.toInt from by omega); omega, by have q9 := tn_of (show x65.toInt = x65.toInt from rfl) (show (0 : Int) ≤ x65.toInt from by omega); omega⟩ (by omega) (by have := (show p1.toInt = p1.toInt from rfl); omega))) (fun k9 hk9 hne9 v9 hv9 he9 => by obtain ⟨x9, rfl, p9⟩ := he9; exact ⟨x9, rfl, wP_U (by omega) (pl := x65.toNatClampNeg) ⟨by have q9 := tn_of (show x65.toInt = x65.toInt from rfl) (show (0 : Int) ≤ x65.toInt from by omega); omega, by have q9 := tn_of (show x65.toInt = x65.toInt from rfl) (show (0 : Int) ≤ x65.toInt from by omega); omega⟩ hne9 p9⟩) dX12_weather_118 (fun H locs hT oq m75 oi hS => ?_)
          have hF := hF.ast hg59 skm_2 oq (by decide)
          have m76 := (el_kept (oq _ (gne hr_o0 hg59 (by decide)))).trans m45
          have m77 := (oi _ (tn_ne (show (1503 : Int32).toInt = 1503 from (by decide)) (show x65.toInt = x65.toInt from rfl) (by omega) (by omega) (by omega))).trans m60
          refine lv_aload_n hx hb dX12_weather_119 rfl (lv_at hl 2 rfl) ?_
          refine tw_get hx hb hts bF_X12 hown hK hT hr_o0 shm_0 rfl 1 (by decide) (ht_at hts 10 rfl) (fun _ h9 => h9) dX12_weather_120 (fun v9 m78 h9 => ?_)
          obtain ⟨rfl, hg79⟩ := h9 _ rfl
          refine lv_iload hx hb dX12_weather_123 (lv_at hl 0 rfl) ?_
          refine lv_iconst (v := 1) hx hb dX12_weather_125 (by decide) ?_
          refine lv_iadd hx hb dX12_weather_126 ?_
          refine lv_topi (fun x80 ex80 => ?_)
          have t81 : x80.toInt = x65.toInt + 1 := ti_add ex80 rfl (by decide) (by omega) (by omega)
          refine lv_iload_n hx hb dX12_weather_127 rfl (lv_at hl 5 rfl) ?_
          refine tw_iast2 (Sg1 := (SHm q (wP wZ wN wH wB wC wL wK (sU (sU wU (x65.toNatClampNeg - 1400) (p1.toInt + 1000).toNat) (x80.toNatClampNeg - 1400) (p2.toInt + 1000).toNat) wV) PI im PM PT lS lB lE lN)) (i := x80) (x := p2) hx hb hK hT hG hS hg59 shm_2 rfl shm_2 shm_o2 (fun b9 h9 => hgu b9 1 h9) (vin_t (a := x80.toInt) rfl (by omega) (by omega)) (gp_of (gi_of (show p2.toInt = p2.toInt from rfl) (by omega) (by omega)) (w_wid (by have q9 := tn_of (show x80.toInt = x80.toInt from rfl) (show (0 : Int) ≤ x80.toInt from by omega); omega)) (wX_s (k := x80.toNatClampNeg - 1400) (v := (p2.toInt + 1000).toNat) ⟨by have q9 := tn_of (show x80.toInt = x80.toInt from rfl) (show (0 : Int) ≤ x80.toInt from by omega); omega, by have q9 := tn_of (show x80.toInt = x80.toInt from rfl) (show (0 : Int) ≤ x80.toInt from by omega); omega⟩ (by omega) (by have := (show p2.toInt = p2.toInt from rfl); omega))) (fun k9 hk9 hne9 v9 hv9 he9 => by obtain ⟨x9, rfl, p9⟩ := he9; exact ⟨x9, rfl, wP_U (by omega) (pl := x80.toNatClampNeg) ⟨by have q9 := tn_of (show x80.toInt = x80.toInt from rfl) (show (0 : Int) ≤ x80.toInt from by omega); omega, by have q9 := tn_of (show x80.toInt = x80.toInt from rfl) (show (0 : Int) ≤ x80.toInt from by omega); omega⟩ hne9 p9⟩) dX12_weather_128 (fun H locs hT oq m82 oi hS => ?_)
          have hF := hF.ast hg59 skm_2 oq (by decide)
          have m83 := (el_kept (oq _ (gne hr_o0 hg59 (by decide)))).trans m76
          have m84 := (oi _ (tn_ne (show (1503 : Int32).toInt = 1503 from (by decide)) (show x80.toInt = x80.toInt from rfl) (by omega) (by omega) (by omega))).trans m77
          refine lv_aload_n hx hb dX12_weather_129 rfl (lv_at hl 2 rfl) ?_
          refine tw_get hx hb hts bF_X12 hown hK hT hr_o0 shm_0 rfl 1 (by decide) (ht_at hts 10 rfl) (fun _ h9 => h9) dX12_weather_130 (fun v9 m86 h9 => ?_)
          obtain ⟨rfl, hg87⟩ := h9 _ rfl
          refine lv_iload hx hb dX12_weather_133 (lv_at hl 1 rfl) ?_
          refine lv_dup2_11 hx hb dX12_weather_135 rfl rfl ?_
          refine tw_iald (i := 1503) hx hb hK hT hg59 shm_2 rfl (by unfold vp_in; decide) dX12_weather_136 (fun v9 m88 h9 => ?_)
          obtain ⟨x89, rfl, gx89, kx89⟩ := (gp_at h9 (w_wic (by have q9 := tn_of (show (1503 : Int32).toInt = 1503 from (by decide)) (show (0 : Int) ≤ 1503 from by omega); omega)))
          obtain rfl : x61 = x89 := (el_same m88 m84 rfl).symm
          refine lv_iconst (v := 1) hx hb dX12_weather_137 (by decide) ?_
          refine lv_iadd hx hb dX12_weather_138 ?_
          refine lv_topi (fun x90 ex90 => ?_)
          have t91 : x90.toInt = x61.toInt + 1 := ti_add ex90 rfl (by decide) (by omega) (by omega)
          refine tw_iast2 (Sg1 := (SHm q (wP wZ wN wH wB wC wL wK (sU (sU (sU wU (x65.toNatClampNeg - 1400) (p1.toInt + 1000).toNat) (x80.toNatClampNeg - 1400) (p2.toInt + 1000).toNat) ((1503 : Int32).toNatClampNeg - 1400) (x90.toInt + 1000).toNat) wV) PI im PM PT lS lB lE lN)) (i := 1503) (x := x90) hx hb hK hT hG hS hg59 shm_2 rfl shm_2 shm_o2 (fun b9 h9 => hgu b9 1 h9) (by unfold vp_in; decide) (gp_of (gi_of (show x90.toInt = x90.toInt from rfl) (by omega) (by omega)) (w_wic (by have q9 := tn_of (show (1503 : Int32).toInt = 1503 from (by decide)) (show (0 : Int) ≤ 1503 from by omega); omega)) (wX_s (k := (1503 : Int32).toNatClampNeg - 1400) (v := (x90.toInt + 1000).toNat) ⟨by have q9 := tn_of (show (1503 : Int32).toInt = 1503 from (by decide)) (show (0 : Int) ≤ 1503 from by omega); omega, by have q9 := tn_of (show (1503 : Int32).toInt = 1503 from (by decide)) (show (0 : Int) ≤ 1503 from by omega); omega⟩ (by omega) (by have := (show x90.toInt = x90.toInt from rfl); omega))) (fun k9 hk9 hne9 v9 hv9 he9 => by obtain ⟨x9, rfl, p9⟩ := he9; exact ⟨x9, rfl, wP_U (by omega) (pl := (1503 : Int32).toNatClampNeg) ⟨by have q9 := tn_of (show (1503 : Int32).toInt = 1503 from (by decide)) (show (0 : Int) ≤ 1503 from by omega); omega, by have q9 := tn_of (show (1503 : Int32).toInt = 1503 from (by decide)) (show (0 : Int) ≤ 1503 from by omega); omega⟩ hne9 p9⟩) dX12_weather_139 (fun H locs hT oq m92 oi hS => ?_)
          have hF := hF.ast hg59 skm_2 oq (by decide)
          have m93 := (el_kept (oq _ (gne hr_o0 hg59 (by decide)))).trans m83
          refine lv_aload_n hx hb dX12_weather_140 rfl (lv_at hl 2 rfl) ?_
          refine lv_iconst (v := 0) hx hb dX12_weather_141 (by decide) ?_
          refine tw_put (v := .int 0) (ty := .int) hx hb hts bF_X12 tyX12 tyX12_ok nmX12 hown hK hT hG hS hr_o0 shm_0 rfl 9 (by decide) (ht_at hts 11 rfl) (fun _ h9 => h9) rfl (by decide +kernel) rfl rfl (gl_at rfl (gi_of (show (0 : Int32).toInt = 0 from (by decide)) (by first | decide | omega) (by first | decide | omega))) dX12_weather_142 (fun H locs hT oq m96 oj hS => ?_)
          have hF := hF.put hr_o0 skm_0 oq oj (by decide)
          have m97 := (oj 0 (by decide) (by decide)).trans m93
          have m100 := (el_kept (oq _ (gne hg59 hr_o0 (by decide)))).trans m92
          refine lv_aload_n hx hb dX12_weather_145 rfl (lv_at hl 2 rfl) ?_
          refine tw_get hx hb hts bF_X12 hown hK hT hr_o0 shm_0 rfl 1 (by decide) (ht_at hts 10 rfl) (fun _ h9 => h9) dX12_weather_146 (fun v9 m101 h9 => ?_)
          obtain ⟨rfl, hg102⟩ := h9 _ rfl
          refine lv_iload hx hb dX12_weather_149 (lv_at hl 1 rfl) ?_
          refine tw_iald (i := 1503) hx hb hK hT hg59 shm_2 rfl (by unfold vp_in; decide) dX12_weather_151 (fun v9 m103 h9 => ?_)
          obtain ⟨x104, rfl, gx104, kx104⟩ := (gp_at h9 (w_wic (by have q9 := tn_of (show (1503 : Int32).toInt = 1503 from (by decide)) (show (0 : Int) ≤ 1503 from by omega); omega)))
          obtain rfl : x90 = x104 := (el_same m103 m100 rfl).symm
          exact W.iret (v := x90) hx hb hr (fun t ht hW => ⟨⟨x90, (u44, (sU (sU (sU wU (x65.toNatClampNeg - 1400) (p1.toInt + 1000).toNat) (x80.toNatClampNeg - 1400) (p2.toInt + 1000).toNat) ((1503 : Int32).toNatClampNeg - 1400) (x90.toInt + 1000).toNat)), rfl, (by exact ⟨(by have q8 := ti_all x90; omega), (fun w9 h9 => by have := tn_of (show x65.toInt = x65.toInt from rfl) (by omega); have := tn_of (show x80.toInt = x80.toInt from rfl) (by omega); have : (1503 : Int32).toNatClampNeg = 1503 := (by decide); rw [sU_o (by omega)]; rw [sU_o (by omega)]; rw [sU_o (by omega)]), (Or.inr (Or.inr (Or.inl ⟨by have := weC_s p0.toInt p1.toInt p2.toInt; omega, by have q0 : (0 : Int32).toInt = 0 := (by decide); have q1 : (1 : Int32).toInt = 1 := (by decide); have qm : (-1 : Int32).toInt = -1 := (by decide); omega, by omega, (SU wU 103).toNat, by unfold SU; omega, by unfold SU; omega, by unfold SU; omega, (by have := tn_of (show x65.toInt = x65.toInt from rfl) (by omega); have := tn_of (show x80.toInt = x80.toInt from rfl) (by omega); have : (1503 : Int32).toNatClampNeg = 1503 := (by decide); unfold SU sU; (repeat' split) <;> omega), (by have := tn_of (show x65.toInt = x65.toInt from rfl) (by omega); have := tn_of (show x80.toInt = x80.toInt from rfl) (by omega); have : (1503 : Int32).toNatClampNeg = 1503 := (by decide); unfold SU sU; (repeat' split) <;> omega), (by have := tn_of (show x65.toInt = x65.toInt from rfl) (by omega); have := tn_of (show x80.toInt = x80.toInt from rfl) (by omega); have : (1503 : Int32).toNatClampNeg = 1503 := (by decide); unfold SU sU; (repeat' split) <;> omega), fun j9 a9 b9 c9 d9 => (by unfold SU at c9 d9; have := tn_of (show x65.toInt = x65.toInt from rfl) (by omega); have := tn_of (show x80.toInt = x80.toInt from rfl) (by omega); have : (1503 : Int32).toNatClampNeg = 1503 := (by decide); unfold SU sU; (repeat' split) <;> omega)⟩)))⟩), by (try dsimp only); rw [ht]; exact ⟨hT, hF, m97⟩⟩, hS.F ht⟩) hS.2.2 dX12_weather_152
        · have t105 : x61.toInt = 60 := ti_eq c71 rfl (by decide)
          refine lv_iconst (v := (-1)) hx hb dX12_weather_109 (by decide) ?_
          exact W.iret (v := (-1)) hx hb hr (fun t ht hW => ⟨⟨(-1), (u44, wU), rfl, (by exact ⟨(rg_t (a := (-1)) (by decide) (by first | decide | omega) (by first | decide | omega)), (fun _ _ => rfl), (by have := weC_s p0.toInt p1.toInt p2.toInt; have q0 : (0 : Int32).toInt = 0 := (by decide); have q1 : (1 : Int32).toInt = 1 := (by decide); have qm : (-1 : Int32).toInt = -1 := (by decide); first | exact Or.inr (Or.inl ⟨by omega, by omega, by unfold SU; omega, by omega, rfl⟩) | exact Or.inl ⟨by omega, by omega, rfl⟩)⟩), by (try dsimp only); rw [ht]; exact ⟨hT, hF, m45⟩⟩, hS.F ht⟩) hS.2.2 dX12_weather_110
      · have t106 : r31.toInt = 0 := ti_eq c37 rfl (by decide)
        have t107 : (-1 : Int32).toInt = (-1) := by decide
        have t108 : (9 : Int32).toInt = 9 := by decide
        have t109 : p2.toInt < (-1 : Int32).toInt ∨ (9 : Int32).toInt < p2.toInt := hi36 c37
        refine lv_iconst (v := 1) hx hb dX12_weather_43 (by decide) ?_
        refine lv_goto (tgt := 48) hx hb dX12_weather_44 (by decide) ?_
        refine lv_iconst (v := 1) hx hb dX12_weather_48 (by decide) ?_
        have hFc := gA_free hG hA hS
        refine va_calli (va_runV (As := [.int 1, .int 1]) (rest := []) ⟨hx, hb, hml, hown, hts⟩ (s_throwsIfP l dC dI kA adK adV G H q wZ wN wH wB wC wL wK wU wV PI im PM PT lS lB lE lN o0 1 1 0 hT hr_o0 m33 (rg_t (a := 1) (by decide) (by first | decide | omega) (by first | decide | omega)) hgz hgn hgh hgb hgc hgi hgu) (cwV 2 hts (goodIn_app (goodIn_r _ [8, 9, 10, 6] rfl (by decide +kernel)) (goodIn_ca (goodIn_r _ [7, 1] rfl (by decide +kernel)) (bs_in _ _))) rfl rfl rfl (by decide +kernel) ⟨(Nat.le_of_ble_eq_true rfl), (Nat.le_of_ble_eq_true rfl)⟩) ⟨fun a U g mk q => by obtain ⟨q0, q1, qK, qE⟩ := q; exact ⟨q0, q1, va_K.moved (u := U) (U := U.calling g mk a) (Vm.Alike.refl U.vm) qK, EVS.blind g mk a qE⟩, gH_rc hK hT hr_o0 shm_0 rfl, fun U hU hW => ⟨rfl, hU, va_K.moved hW.alike hK, hE.call hS hFc hU hW⟩⟩ rfl rfl hl.1 rfl (lv_room (Nat.le_of_ble_eq_true rfl)) dX12_weather_49 ⟨(Nat.le_of_ble_eq_true rfl), (Nat.le_of_ble_eq_true rfl)⟩) hS (fun q _ h => hFc q h) hFc (fun r110 u t H locs ht hvm hw111 hB _ _ hS => ?_)
        obtain ⟨u112, rfl⟩ : ∃ z, z = u := ⟨_, rfl⟩
        obtain ⟨hT, hF1, m113⟩ := hB
        rw [ht] at hT hF1 m113
        have hF := hF.more hF1 (by decide)
        try dsimp only at hw111
        obtain ⟨h115, hf116, hd117⟩ := hw111
        have t118 : (1 : Int32).toInt = 1 := by decide
        have t119 : (1 : Int32).toInt = 1 := by decide
        have t120 : (0 : Int32).toInt = 0 := by decide
        obtain rfl : (1 : Int32) = r110 := hd117.symm
        refine lv_if_eq (tgt := 57) hx hb dX12_weather_52 (by decide) (fun c121 => absurd c121 (by decide)) (fun c121 => ?_)
        refine lv_iconst (v := 0) hx hb dX12_weather_55 (by decide) ?_
        exact W.iret (v := 0) hx hb hr (fun t ht hW => ⟨⟨0, (u112, wU), rfl, (by exact ⟨(rg_t (a := 0) (by decide) (by first | decide | omega) (by first | decide | omega)), (fun _ _ => rfl), (by have := weC_s p0.toInt p1.toInt p2.toInt; have q0 : (0 : Int32).toInt = 0 := (by decide); have q1 : (1 : Int32).toInt = 1 := (by decide); have qm : (-1 : Int32).toInt = -1 := (by decide); first | exact Or.inr (Or.inl ⟨by omega, by omega, by unfold SU; omega, by omega, rfl⟩) | exact Or.inl ⟨by omega, by omega, rfl⟩)⟩), by (try dsimp only); rw [ht]; exact ⟨hT, hF, m113⟩⟩, hS.F ht⟩) hS.2.2 dX12_weather_56
    · have t122 : p0.toInt ≠ 0 := ti_ne c29 rfl (by decide)
      refine lv_iload_n hx hb dX12_weather_20 rfl (lv_at hl 3 rfl) ?_
      refine lv_iconst (v := 0) hx hb dX12_weather_21 (by decide) ?_
      refine lv_bipush (v := 20) hx hb dX12_weather_22 (by decide) ?_
      have hFc := gA_free hG hA hS
      refine va_calli (va_runS (As := [.int p2, .int 0, .int 20]) (rest := [.ref o0]) ⟨hx, hb, hml, hown, hts⟩ (s_in l dC dI kA adK adV G H q wZ wN wH wB wC wL wK wU wV PI im PM PT lS lB lE lN p2 0 20 hT hgz hgn hgh hgb hgc hgi hgu) (va_cwS 3 hts (goodIn_app (goodIn_r _ [4, 5, 6] rfl (by decide +kernel)) (goodIn_ca (goodIn_r _ [3] rfl (by decide +kernel)) (bs_in _ _))) rfl rfl rfl (by decide +kernel) ⟨(Nat.le_of_ble_eq_true rfl), (Nat.le_of_ble_eq_true rfl)⟩) ⟨fun a U g mk q => by obtain ⟨q0, q1, qK, qE⟩ := q; exact ⟨q0, q1, va_K.moved (u := U) (U := U.calling g mk a) (Vm.Alike.refl U.vm) qK, EVS.blind g mk a qE⟩, fun U hU hW => ⟨rfl, hU, va_K.moved hW.alike hK, hE.call hS hFc hU hW⟩⟩ rfl rfl hl.1 rfl (lv_room (Nat.le_of_ble_eq_true rfl)) dX12_weather_24 ⟨(Nat.le_of_ble_eq_true rfl), (Nat.le_of_ble_eq_true rfl)⟩) hS (fun q _ h => hFc q h) hFc (fun r123 u t H locs ht hvm hw124 hB _ _ hS => ?_)
      obtain ⟨hT, hF1⟩ := hB
      rw [ht] at hT hF1
      have m125 := (hF1.fld hr_o0 skm_0 (k := 0) (by decide) (by decide)).trans m4
      have hF := hF.more hF1 (by decide)
      try dsimp only at hw124
      obtain ⟨h126, hi127, hi128⟩ := hw124
      refine lv_if_ne (tgt := 47) hx hb dX12_weather_27 (by decide) (fun c129 => ?_) (fun c129 => ?_)
      · have t130 : r123.toInt ≠ 0 := ti_ne c129 rfl (by decide)
        have t131 : (0 : Int32).toInt = 0 := by decide
        have t132 : (20 : Int32).toInt = 20 := by decide
        have t133 : (0 : Int32).toInt ≤ p2.toInt ∧ p2.toInt ≤ (20 : Int32).toInt := hi127 ((bit_of ⟨by omega, by omega⟩).resolve_left c129)
        refine lv_iconst (v := 0) hx hb dX12_weather_47 (by decide) ?_
        refine lv_iconst (v := 1) hx hb dX12_weather_48 (by decide) ?_
        have hFc := gA_free hG hA hS
        refine va_calli (va_runV (As := [.int 0, .int 1]) (rest := []) ⟨hx, hb, hml, hown, hts⟩ (s_throwsIfP l dC dI kA adK adV G H q wZ wN wH wB wC wL wK wU wV PI im PM PT lS lB lE lN o0 0 1 0 hT hr_o0 m125 (rg_t (a := 0) (by decide) (by first | decide | omega) (by first | decide | omega)) hgz hgn hgh hgb hgc hgi hgu) (cwV 2 hts (goodIn_app (goodIn_r _ [8, 9, 10, 6] rfl (by decide +kernel)) (goodIn_ca (goodIn_r _ [7, 1] rfl (by decide +kernel)) (bs_in _ _))) rfl rfl rfl (by decide +kernel) ⟨(Nat.le_of_ble_eq_true rfl), (Nat.le_of_ble_eq_true rfl)⟩) ⟨fun a U g mk q => by obtain ⟨q0, q1, qK, qE⟩ := q; exact ⟨q0, q1, va_K.moved (u := U) (U := U.calling g mk a) (Vm.Alike.refl U.vm) qK, EVS.blind g mk a qE⟩, gH_rc hK hT hr_o0 shm_0 rfl, fun U hU hW => ⟨rfl, hU, va_K.moved hW.alike hK, hE.call hS hFc hU hW⟩⟩ rfl rfl hl.1 rfl (lv_room (Nat.le_of_ble_eq_true rfl)) dX12_weather_49 ⟨(Nat.le_of_ble_eq_true rfl), (Nat.le_of_ble_eq_true rfl)⟩) hS (fun q _ h => hFc q h) hFc (fun r134 u t H locs ht hvm hw135 hB _ _ hS => ?_)
        obtain ⟨u136, rfl⟩ : ∃ z, z = u := ⟨_, rfl⟩
        obtain ⟨hT, hF1, m137⟩ := hB
        rw [ht] at hT hF1 m137
        have hF := hF.more hF1 (by decide)
        try dsimp only at hw135
        obtain ⟨h139, hf140, hd141⟩ := hw135
        have t142 : (0 : Int32).toInt = 0 := by decide
        have t143 : (1 : Int32).toInt = 1 := by decide
        have t144 : (0 : Int32).toInt = 0 := by decide
        obtain rfl : (0 : Int32) = r134 := hd141.symm
        refine lv_if_eq (tgt := 57) hx hb dX12_weather_52 (by decide) (fun c145 => ?_) (fun c145 => absurd c145 (by decide))
        refine lv_iload_n hx hb dX12_weather_57 rfl (lv_at hl 1 rfl) ?_
        refine lv_if_eq (tgt := 67) hx hb dX12_weather_58 (by decide) (fun c146 => (by exfalso; have q9 : p0.toInt = 0 := ti_eq c146 rfl (by decide); omega)) (fun c146 => ?_)
        have t147 : p0.toInt ≠ 0 := ti_ne c146 rfl (by decide)
        refine lv_sipush (v := 1624) hx hb dX12_weather_61 (by decide) ?_
        refine lv_goto (tgt := 70) hx hb dX12_weather_64 (by decide) ?_
        refine lv_istore (lv' := [(4, .int 1624), (0, .ref o0), (1, .int p0), (2, .int p1), (3, .int p2)]) hx hb dX12_weather_70 hl (by decide) rfl (fun ls hl => ?_)
        refine lv_iload_n hx hb dX12_weather_72 rfl (lv_at hl 2 rfl) ?_
        refine lv_if_eq (tgt := 82) hx hb dX12_weather_73 (by decide) (fun c148 => (by exfalso; have q9 : p0.toInt = 0 := ti_eq c148 rfl (by decide); omega)) (fun c148 => ?_)
        have t149 : p0.toInt ≠ 0 := ti_ne c148 rfl (by decide)
        refine lv_sipush (v := 1625) hx hb dX12_weather_76 (by decide) ?_
        refine lv_goto (tgt := 85) hx hb dX12_weather_79 (by decide) ?_
        refine lv_iconst (v := 2) hx hb dX12_weather_85 (by decide) ?_
        refine lv_aload_n hx hb dX12_weather_86 rfl (lv_at hl 1 rfl) ?_
        refine tw_get hx hb hts bF_X12 hown hK hT hr_o0 shm_0 rfl 1 (by decide) (ht_at hts 10 rfl) (fun _ h9 => h9) dX12_weather_87 (fun v9 m150 h9 => ?_)
        obtain ⟨rfl, hg151⟩ := h9 _ rfl
        refine lv_iload hx hb dX12_weather_90 (lv_at hl 0 rfl) ?_
        refine tw_iald (i := 1624) hx hb hK hT hg151 shm_2 rfl (by unfold vp_in; decide) dX12_weather_92 (fun v9 m152 h9 => ?_)
        obtain ⟨x153, rfl, gx153, kx153⟩ := (gp_at h9 (w_rac (by have q9 := tn_of (show (1624 : Int32).toInt = 1624 from (by decide)) (show (0 : Int) ≤ 1624 from by omega); omega)))
        have t154 : x153.toInt = ((wU 224 : Nat) : Int) - 1000 := (by have q := (wq_l hT hg151 (by decide) m152).2.2.1.2 ⟨by decide, by decide⟩; rw [show (1624 : Int32).toNatClampNeg - 1400 = 224 from by decide] at q; exact q)
        refine lv_imul hx hb dX12_weather_93 ?_
        refine lv_topi (fun x155 ex155 => ?_)
        have t156 : x155.toInt = 2 * x153.toInt := ti_mul ex155 (by decide) rfl (by omega) (by omega)
        refine lv_iadd hx hb dX12_weather_94 ?_
        refine lv_topi (fun x157 ex157 => ?_)
        have t158 : x157.toInt = 1625 + x155.toInt := ti_add ex157 (by decide) rfl (by omega) (by omega)
        refine lv_istore (lv' := [(5, .int x157), (4, .int 1624), (0, .ref o0), (1, .int p0), (2, .int p1), (3, .int p2)]) hx hb dX12_weather_95 hl (by decide) rfl (fun ls hl => ?_)
        refine lv_aload_n hx hb dX12_weather_97 rfl (lv_at hl 2 rfl) ?_
        refine tw_get hx hb hts bF_X12 hown hK hT hr_o0 shm_0 rfl 1 (by decide) (ht_at hts 10 rfl) (fun _ h9 => h9) dX12_weather_98 (fun v9 m159 h9 => ?_)
        obtain ⟨rfl, hg160⟩ := h9 _ rfl
        refine lv_iload hx hb dX12_weather_101 (lv_at hl 1 rfl) ?_
        refine tw_iald (i := 1624) hx hb hK hT hg151 shm_2 rfl (by unfold vp_in; decide) dX12_weather_103 (fun v9 m161 h9 => ?_)
        obtain ⟨x162, rfl, gx162, kx162⟩ := (gp_at h9 (w_rac (by have q9 := tn_of (show (1624 : Int32).toInt = 1624 from (by decide)) (show (0 : Int) ≤ 1624 from by omega); omega)))
        obtain rfl : x153 = x162 := (el_same m161 m152 rfl).symm
        refine lv_bipush (v := 60) hx hb dX12_weather_104 (by decide) ?_
        refine lv_icmp_ne (tgt := 111) hx hb dX12_weather_106 (by decide) (fun c163 => ?_) (fun c163 => ?_)
        · have t164 : x153.toInt ≠ 60 := ti_ne c163 rfl (by decide)
          refine lv_aload_n hx hb dX12_weather_111 rfl (lv_at hl 2 rfl) ?_
          refine tw_get hx hb hts bF_X12 hown hK hT hr_o0 shm_0 rfl 1 (by decide) (ht_at hts 10 rfl) (fun _ h9 => h9) dX12_weather_112 (fun v9 m165 h9 => ?_)
          obtain ⟨rfl, hg166⟩ := h9 _ rfl
          refine lv_iload hx hb dX12_weather_115 (lv_at hl 0 rfl) ?_
          refine lv_iload_n hx hb dX12_weather_117 rfl (lv_at hl 4 rfl) ?_
          refine tw_iast2 (Sg1 := (SHm q (wP wZ wN wH wB wC wL wK (sU wU (x157.toNatClampNeg - 1400) (p1.toInt + 1000).toNat) wV) PI im PM PT lS lB lE lN)) (i := x157) (x := p1) hx hb hK hT hG hS hg151 shm_2 rfl shm_2 shm_o2 (fun b9 h9 => hgu b9 1 h9) (vin_t (a := x157.toInt) rfl (by omega) (by omega)) (gp_of (gi_all _) (w_fre (by have q9 := tn_of (show x157.toInt = x157.toInt from rfl) (show (0 : Int) ≤ x157.toInt from by omega); omega)) (wX_s (k := x157.toNatClampNeg - 1400) (v := (p1.toInt + 1000).toNat) ⟨by have q9 := tn_of (show x157.toInt = x157.toInt from rfl) (show (0 : Int) ≤ x157.toInt from by omega); omega, by have q9 := tn_of (show x157.toInt = x157.toInt from rfl) (show (0 : Int) ≤ x157.toInt from by omega); omega⟩ (by omega) (by have := (show p1.toInt = p1.toInt from rfl); omega))) (fun k9 hk9 hne9 v9 hv9 he9 => by obtain ⟨x9, rfl, p9⟩ := he9; exact ⟨x9, rfl, wP_U (by omega) (pl := x157.toNatClampNeg) ⟨by have q9 := tn_of (show x157.toInt = x157.toInt from rfl) (show (0 : Int) ≤ x157.toInt from by omega); omega, by have q9 := tn_of (show x157.toInt = x157.toInt from rfl) (show (0 : Int) ≤ x157.toInt from by omega); omega⟩ hne9 p9⟩) dX12_weather_118 (fun H locs hT oq m167 oi hS => ?_)
          have hF := hF.ast hg151 skm_2 oq (by decide)
          have m168 := (el_kept (oq _ (gne hr_o0 hg151 (by decide)))).trans m137
          have m169 := (oi _ (tn_ne (show (1624 : Int32).toInt = 1624 from (by decide)) (show x157.toInt = x157.toInt from rfl) (by omega) (by omega) (by omega))).trans m152
          refine lv_aload_n hx hb dX12_weather_119 rfl (lv_at hl 2 rfl) ?_
          refine tw_get hx hb hts bF_X12 hown hK hT hr_o0 shm_0 rfl 1 (by decide) (ht_at hts 10 rfl) (fun _ h9 => h9) dX12_weather_120 (fun v9 m170 h9 => ?_)
          obtain ⟨rfl, hg171⟩ := h9 _ rfl
          refine lv_iload hx hb dX12_weather_123 (lv_at hl 0 rfl) ?_
          refine lv_iconst (v := 1) hx hb dX12_weather_125 (by decide) ?_
          refine lv_iadd hx hb dX12_weather_126 ?_
          refine lv_topi (fun x172 ex172 => ?_)
          have t173 : x172.toInt = x157.toInt + 1 := ti_add ex172 rfl (by decide) (by omega) (by omega)
          refine lv_iload_n hx hb dX12_weather_127 rfl (lv_at hl 5 rfl) ?_
          refine tw_iast2 (Sg1 := (SHm q (wP wZ wN wH wB wC wL wK (sU (sU wU (x157.toNatClampNeg - 1400) (p1.toInt + 1000).toNat) (x172.toNatClampNeg - 1400) (p2.toInt + 1000).toNat) wV) PI im PM PT lS lB lE lN)) (i := x172) (x := p2) hx hb hK hT hG hS hg151 shm_2 rfl shm_2 shm_o2 (fun b9 h9 => hgu b9 1 h9) (vin_t (a := x172.toInt) rfl (by omega) (by omega)) (gp_of (gi_of (show p2.toInt = p2.toInt from rfl) (by omega) (by omega)) (w_rai (by have q9 := tn_of (show x172.toInt = x172.toInt from rfl) (show (0 : Int) ≤ x172.toInt from by omega); omega)) (wX_s (k := x172.toNatClampNeg - 1400) (v := (p2.toInt + 1000).toNat) ⟨by have q9 := tn_of (show x172.toInt = x172.toInt from rfl) (show (0 : Int) ≤ x172.toInt from by omega); omega, by have q9 := tn_of (show x172.toInt = x172.toInt from rfl) (show (0 : Int) ≤ x172.toInt from by omega); omega⟩ (by omega) (by have := (show p2.toInt = p2.toInt from rfl); omega))) (fun k9 hk9 hne9 v9 hv9 he9 => by obtain ⟨x9, rfl, p9⟩ := he9; exact ⟨x9, rfl, wP_U (by omega) (pl := x172.toNatClampNeg) ⟨by have q9 := tn_of (show x172.toInt = x172.toInt from rfl) (show (0 : Int) ≤ x172.toInt from by omega); omega, by have q9 := tn_of (show x172.toInt = x172.toInt from rfl) (show (0 : Int) ≤ x172.toInt from by omega); omega⟩ hne9 p9⟩) dX12_weather_128 (fun H locs hT oq m174 oi hS => ?_)
          have hF := hF.ast hg151 skm_2 oq (by decide)
          have m175 := (el_kept (oq _ (gne hr_o0 hg151 (by decide)))).trans m168
          have m176 := (oi _ (tn_ne (show (1624 : Int32).toInt = 1624 from (by decide)) (show x172.toInt = x172.toInt from rfl) (by omega) (by omega) (by omega))).trans m169
          refine lv_aload_n hx hb dX12_weather_129 rfl (lv_at hl 2 rfl) ?_
          refine tw_get hx hb hts bF_X12 hown hK hT hr_o0 shm_0 rfl 1 (by decide) (ht_at hts 10 rfl) (fun _ h9 => h9) dX12_weather_130 (fun v9 m178 h9 => ?_)
          obtain ⟨rfl, hg179⟩ := h9 _ rfl
          refine lv_iload hx hb dX12_weather_133 (lv_at hl 1 rfl) ?_
          refine lv_dup2_11 hx hb dX12_weather_135 rfl rfl ?_
          refine tw_iald (i := 1624) hx hb hK hT hg151 shm_2 rfl (by unfold vp_in; decide) dX12_weather_136 (fun v9 m180 h9 => ?_)
          obtain ⟨x181, rfl, gx181, kx181⟩ := (gp_at h9 (w_rac (by have q9 := tn_of (show (1624 : Int32).toInt = 1624 from (by decide)) (show (0 : Int) ≤ 1624 from by omega); omega)))
          obtain rfl : x153 = x181 := (el_same m180 m176 rfl).symm
          refine lv_iconst (v := 1) hx hb dX12_weather_137 (by decide) ?_
          refine lv_iadd hx hb dX12_weather_138 ?_
          refine lv_topi (fun x182 ex182 => ?_)
          have t183 : x182.toInt = x153.toInt + 1 := ti_add ex182 rfl (by decide) (by omega) (by omega)
          refine tw_iast2 (Sg1 := (SHm q (wP wZ wN wH wB wC wL wK (sU (sU (sU wU (x157.toNatClampNeg - 1400) (p1.toInt + 1000).toNat) (x172.toNatClampNeg - 1400) (p2.toInt + 1000).toNat) ((1624 : Int32).toNatClampNeg - 1400) (x182.toInt + 1000).toNat) wV) PI im PM PT lS lB lE lN)) (i := 1624) (x := x182) hx hb hK hT hG hS hg151 shm_2 rfl shm_2 shm_o2 (fun b9 h9 => hgu b9 1 h9) (by unfold vp_in; decide) (gp_of (gi_of (show x182.toInt = x182.toInt from rfl) (by omega) (by omega)) (w_rac (by have q9 := tn_of (show (1624 : Int32).toInt = 1624 from (by decide)) (show (0 : Int) ≤ 1624 from by omega); omega)) (wX_s (k := (1624 : Int32).toNatClampNeg - 1400) (v := (x182.toInt + 1000).toNat) ⟨by have q9 := tn_of (show (1624 : Int32).toInt = 1624 from (by decide)) (show (0 : Int) ≤ 1624 from by omega); omega, by have q9 := tn_of (show (1624 : Int32).toInt = 1624 from (by decide)) (show (0 : Int) ≤ 1624 from by omega); omega⟩ (by omega) (by have := (show x182.toInt = x182.toInt from rfl); omega))) (fun k9 hk9 hne9 v9 hv9 he9 => by obtain ⟨x9, rfl, p9⟩ := he9; exact ⟨x9, rfl, wP_U (by omega) (pl := (1624 : Int32).toNatClampNeg) ⟨by have q9 := tn_of (show (1624 : Int32).toInt = 1624 from (by decide)) (show (0 : Int) ≤ 1624 from by omega); omega, by have q9 := tn_of (show (1624 : Int32).toInt = 1624 from (by decide)) (show (0 : Int) ≤ 1624 from by omega); omega⟩ hne9 p9⟩) dX12_weather_139 (fun H locs hT oq m184 oi hS => ?_)
          have hF := hF.ast hg151 skm_2 oq (by decide)
          have m185 := (el_kept (oq _ (gne hr_o0 hg151 (by decide)))).trans m175
          refine lv_aload_n hx hb dX12_weather_140 rfl (lv_at hl 2 rfl) ?_
          refine lv_iconst (v := 0) hx hb dX12_weather_141 (by decide) ?_
          refine tw_put (v := .int 0) (ty := .int) hx hb hts bF_X12 tyX12 tyX12_ok nmX12 hown hK hT hG hS hr_o0 shm_0 rfl 9 (by decide) (ht_at hts 11 rfl) (fun _ h9 => h9) rfl (by decide +kernel) rfl rfl (gl_at rfl (gi_of (show (0 : Int32).toInt = 0 from (by decide)) (by first | decide | omega) (by first | decide | omega))) dX12_weather_142 (fun H locs hT oq m188 oj hS => ?_)
          have hF := hF.put hr_o0 skm_0 oq oj (by decide)
          have m189 := (oj 0 (by decide) (by decide)).trans m185
          have m192 := (el_kept (oq _ (gne hg151 hr_o0 (by decide)))).trans m184
          refine lv_aload_n hx hb dX12_weather_145 rfl (lv_at hl 2 rfl) ?_
          refine tw_get hx hb hts bF_X12 hown hK hT hr_o0 shm_0 rfl 1 (by decide) (ht_at hts 10 rfl) (fun _ h9 => h9) dX12_weather_146 (fun v9 m193 h9 => ?_)
          obtain ⟨rfl, hg194⟩ := h9 _ rfl
          refine lv_iload hx hb dX12_weather_149 (lv_at hl 1 rfl) ?_
          refine tw_iald (i := 1624) hx hb hK hT hg151 shm_2 rfl (by unfold vp_in; decide) dX12_weather_151 (fun v9 m195 h9 => ?_)
          obtain ⟨x196, rfl, gx196, kx196⟩ := (gp_at h9 (w_rac (by have q9 := tn_of (show (1624 : Int32).toInt = 1624 from (by decide)) (show (0 : Int) ≤ 1624 from by omega); omega)))
          obtain rfl : x182 = x196 := (el_same m195 m192 rfl).symm
          exact W.iret (v := x182) hx hb hr (fun t ht hW => ⟨⟨x182, (u136, (sU (sU (sU wU (x157.toNatClampNeg - 1400) (p1.toInt + 1000).toNat) (x172.toNatClampNeg - 1400) (p2.toInt + 1000).toNat) ((1624 : Int32).toNatClampNeg - 1400) (x182.toInt + 1000).toNat)), rfl, (by exact ⟨(by have q8 := ti_all x182; omega), (fun w9 h9 => by have := tn_of (show x157.toInt = x157.toInt from rfl) (by omega); have := tn_of (show x172.toInt = x172.toInt from rfl) (by omega); have : (1624 : Int32).toNatClampNeg = 1624 := (by decide); rw [sU_o (by omega)]; rw [sU_o (by omega)]; rw [sU_o (by omega)]), (Or.inr (Or.inr (Or.inr ⟨by have := weC_s p0.toInt p1.toInt p2.toInt; omega, by have q0 : (0 : Int32).toInt = 0 := (by decide); have q1 : (1 : Int32).toInt = 1 := (by decide); have qm : (-1 : Int32).toInt = -1 := (by decide); omega, by omega, (SU wU 224).toNat, by unfold SU; omega, by unfold SU; omega, by unfold SU; omega, (by have := tn_of (show x157.toInt = x157.toInt from rfl) (by omega); have := tn_of (show x172.toInt = x172.toInt from rfl) (by omega); have : (1624 : Int32).toNatClampNeg = 1624 := (by decide); unfold SU sU; (repeat' split) <;> omega), (by have := tn_of (show x157.toInt = x157.toInt from rfl) (by omega); have := tn_of (show x172.toInt = x172.toInt from rfl) (by omega); have : (1624 : Int32).toNatClampNeg = 1624 := (by decide); unfold SU sU; (repeat' split) <;> omega), (by have := tn_of (show x157.toInt = x157.toInt from rfl) (by omega); have := tn_of (show x172.toInt = x172.toInt from rfl) (by omega); have : (1624 : Int32).toNatClampNeg = 1624 := (by decide); unfold SU sU; (repeat' split) <;> omega), fun j9 a9 b9 c9 d9 => (by unfold SU at c9 d9; have := tn_of (show x157.toInt = x157.toInt from rfl) (by omega); have := tn_of (show x172.toInt = x172.toInt from rfl) (by omega); have : (1624 : Int32).toNatClampNeg = 1624 := (by decide); unfold SU sU; (repeat' split) <;> omega)⟩)))⟩), by (try dsimp only); rw [ht]; exact ⟨hT, hF, m189⟩⟩, hS.F ht⟩) hS.2.2 dX12_weather_152
        · have t197 : x153.toInt = 60 := ti_eq c163 rfl (by decide)
          refine lv_iconst (v := (-1)) hx hb dX12_weather_109 (by decide) ?_
          exact W.iret (v := (-1)) hx hb hr (fun t ht hW => ⟨⟨(-1), (u136, wU), rfl, (by exact ⟨(rg_t (a := (-1)) (by decide) (by first | decide | omega) (by first | decide | omega)), (fun _ _ => rfl), (by have := weC_s p0.toInt p1.toInt p2.toInt; have q0 : (0 : Int32).toInt = 0 := (by decide); have q1 : (1 : Int32).toInt = 1 := (by decide); have qm : (-1 : Int32).toInt = -1 := (by decide); first | exact Or.inr (Or.inl ⟨by omega, by omega, by unfold SU; omega, by omega, rfl⟩) | exact Or.inl ⟨by omega, by omega, rfl⟩)⟩), by (try dsimp only); rw [ht]; exact ⟨hT, hF, m137⟩⟩, hS.F ht⟩) hS.2.2 dX12_weather_110
      · have t198 : r123.toInt = 0 := ti_eq c129 rfl (by decide)
        have t199 : (0 : Int32).toInt = 0 := by decide
        have t200 : (20 : Int32).toInt = 20 := by decide
        have t201 : p2.toInt < (0 : Int32).toInt ∨ (20 : Int32).toInt < p2.toInt := hi128 c129
        refine lv_goto (tgt := 43) hx hb dX12_weather_30 (by decide) ?_
        refine lv_iconst (v := 1) hx hb dX12_weather_43 (by decide) ?_
        refine lv_goto (tgt := 48) hx hb dX12_weather_44 (by decide) ?_
        refine lv_iconst (v := 1) hx hb dX12_weather_48 (by decide) ?_
        have hFc := gA_free hG hA hS
        refine va_calli (va_runV (As := [.int 1, .int 1]) (rest := []) ⟨hx, hb, hml, hown, hts⟩ (s_throwsIfP l dC dI kA adK adV G H q wZ wN wH wB wC wL wK wU wV PI im PM PT lS lB lE lN o0 1 1 0 hT hr_o0 m125 (rg_t (a := 1) (by decide) (by first | decide | omega) (by first | decide | omega)) hgz hgn hgh hgb hgc hgi hgu) (cwV 2 hts (goodIn_app (goodIn_r _ [8, 9, 10, 6] rfl (by decide +kernel)) (goodIn_ca (goodIn_r _ [7, 1] rfl (by decide +kernel)) (bs_in _ _))) rfl rfl rfl (by decide +kernel) ⟨(Nat.le_of_ble_eq_true rfl), (Nat.le_of_ble_eq_true rfl)⟩) ⟨fun a U g mk q => by obtain ⟨q0, q1, qK, qE⟩ := q; exact ⟨q0, q1, va_K.moved (u := U) (U := U.calling g mk a) (Vm.Alike.refl U.vm) qK, EVS.blind g mk a qE⟩, gH_rc hK hT hr_o0 shm_0 rfl, fun U hU hW => ⟨rfl, hU, va_K.moved hW.alike hK, hE.call hS hFc hU hW⟩⟩ rfl rfl hl.1 rfl (lv_room (Nat.le_of_ble_eq_true rfl)) dX12_weather_49 ⟨(Nat.le_of_ble_eq_true rfl), (Nat.le_of_ble_eq_true rfl)⟩) hS (fun q _ h => hFc q h) hFc (fun r202 u t H locs ht hvm hw203 hB _ _ hS => ?_)
        obtain ⟨u204, rfl⟩ : ∃ z, z = u := ⟨_, rfl⟩
        obtain ⟨hT, hF1, m205⟩ := hB
        rw [ht] at hT hF1 m205
        have hF := hF.more hF1 (by decide)
        try dsimp only at hw203
        obtain ⟨h207, hf208, hd209⟩ := hw203
        have t210 : (1 : Int32).toInt = 1 := by decide
        have t211 : (1 : Int32).toInt = 1 := by decide
        have t212 : (0 : Int32).toInt = 0 := by decide
        obtain rfl : (1 : Int32) = r202 := hd209.symm
        refine lv_if_eq (tgt := 57) hx hb dX12_weather_52 (by decide) (fun c213 => absurd c213 (by decide)) (fun c213 => ?_)
        refine lv_iconst (v := 0) hx hb dX12_weather_55 (by decide) ?_
        exact W.iret (v := 0) hx hb hr (fun t ht hW => ⟨⟨0, (u204, wU), rfl, (by exact ⟨(rg_t (a := 0) (by decide) (by first | decide | omega) (by first | decide | omega)), (fun _ _ => rfl), (by have := weC_s p0.toInt p1.toInt p2.toInt; have q0 : (0 : Int32).toInt = 0 := (by decide); have q1 : (1 : Int32).toInt = 1 := (by decide); have qm : (-1 : Int32).toInt = -1 := (by decide); first | exact Or.inr (Or.inl ⟨by omega, by omega, by unfold SU; omega, by omega, rfl⟩) | exact Or.inl ⟨by omega, by omega, rfl⟩)⟩), by (try dsimp only); rw [ht]; exact ⟨hT, hF, m205⟩⟩, hS.F ht⟩) hS.2.2 dX12_weather_56
