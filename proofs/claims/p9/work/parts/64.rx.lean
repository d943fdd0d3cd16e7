def w_s_hoursE : List Cond := .code yX12_hours cX12_hours 3 (some .int) :: (HAppend.hAppend (α := List Cond) (β := List Cond) (γ := List Cond) [.fieldLink RX12 194 "SeaLandModel" "thrown" "I", .code yX12_in cX12_in 3 (some .boolean), .methodLink RX12 197 yX12_in, .static yX12_in, .initialized RX12, .code yX12_throwsIf cX12_throwsIf 3 (some .boolean), .methodLink RX12 224 yX12_throwsIf, .instanceMethod yX12_throwsIf, .selects RX12 yX12_throwsIf yX12_throwsIf, .code yX12_hour cX12_hour 1 (some .int), .fieldLink RX12 9 "SeaLandModel" "world" "[I", .methodLink RX12 228 yX12_hour, .instanceMethod yX12_hour, .selects RX12 yX12_hour yX12_hour, .constant RX12 242 40000, .code yX12_anHour cX12_anHour 6 none, .code yX12_outside cX12_outside 4 (some .int), .methodLink RX12 247 yX12_outside, .instanceMethod yX12_outside, .selects RX12 yX12_outside yX12_outside, .code yX12_rain cX12_rain 3 (some .int), .code yX12_telling cX12_telling 6 (some .int), .methodLink RX12 243 yX12_telling, .instanceMethod yX12_telling, .selects RX12 yX12_telling yX12_telling, .methodLink RX12 253 yX12_rain, .instanceMethod yX12_rain, .selects RX12 yX12_rain yX12_rain, .code yX12_wind cX12_wind 7 (some .int), .methodLink RX12 211 Lib.Math.max.name, .static Lib.Math.max.name, .initialized "java/lang/Math", .code Lib.Math.max.name Lib.Math.max.code 2 (some .int), .methodLink RX12 250 yX12_wind, .instanceMethod yX12_wind, .selects RX12 yX12_wind yX12_wind, .code yX12_of cX12_of 3 (some .int), .code yX12_at cX12_at 2 (some .int), .methodLink RX12 214 yX12_at, .static yX12_at, .methodLink RX12 217 yX12_of, .instanceMethod yX12_of, .selects RX12 yX12_of yX12_of, .code yX12_sluices cX12_sluices 6 none, .code yX12_level cX12_level 2 (some .int), .code yX12_isLand cX12_isLand 2 (some .boolean), .methodLink RX12 235 yX12_isLand, .instanceMethod yX12_isLand, .selects RX12 yX12_isLand yX12_isLand, .methodLink RX12 285 yX12_level, .instanceMethod yX12_level, .selects RX12 yX12_level yX12_level, .methodLink RX12 207 Lib.Math.min.name, .static Lib.Math.min.name, .code Lib.Math.min.name Lib.Math.min.code 2 (some .int), .code yX12_leaves cX12_leaves 4 (some .int), .methodLink RX12 291 yX12_leaves, .instanceMethod yX12_leaves, .selects RX12 yX12_leaves yX12_leaves, .code yX12_brings cX12_brings 3 none, .methodLink RX12 294 yX12_brings, .instanceMethod yX12_brings, .selects RX12 yX12_brings yX12_brings, .methodLink RX12 307 yX12_sluices, .instanceMethod yX12_sluices, .selects RX12 yX12_sluices yX12_sluices, .code yX12_ditches cX12_ditches 5 none, .fieldLink RX12 16 "SeaLandModel" "moves" "[I", .fieldLink RX12 22 "SeaLandModel" "movesSalt" "[I", .fieldLink RX12 19 "SeaLandModel" "movesTo" "[I", .code yX12_hasDitch cX12_hasDitch 2 (some .boolean), .methodLink RX12 298 yX12_hasDitch, .instanceMethod yX12_hasDitch, .selects RX12 yX12_hasDitch yX12_hasDitch, .code yX12_beside cX12_beside 2 (some .int), .methodLink RX12 301 yX12_beside, .static yX12_beside, .methodLink RX12 310 yX12_ditches, .instanceMethod yX12_ditches, .selects RX12 yX12_ditches yX12_ditches, .code yX12_lifts cX12_lifts 7 none, .methodLink RX12 313 yX12_lifts, .instanceMethod yX12_lifts, .selects RX12 yX12_lifts yX12_lifts, .code yX12_dayEnds cX12_dayEnds 3 none, .methodLink RX12 316 yX12_dayEnds, .instanceMethod yX12_dayEnds, .selects RX12 yX12_dayEnds yX12_dayEnds, .code yX12_writesRow cX12_writesRow 2 none, .fieldLink RX12 238 "SeaLandModel" "rows" "I", .fieldLink RX12 25 "SeaLandModel" "rowTold" "[I", .fieldLink RX12 28 "SeaLandModel" "rowTrue" "[I", .methodLink RX12 319 yX12_writesRow, .instanceMethod yX12_writesRow, .selects RX12 yX12_writesRow yX12_writesRow, .code yX12_isDike cX12_isDike 2 (some .boolean), .methodLink RX12 272 yX12_isDike, .instanceMethod yX12_isDike, .selects RX12 yX12_isDike yX12_isDike, .code yX12_dikes cX12_dikes 6 none, .code yX12_seepOf cX12_seepOf 8 (some .int), .methodLink RX12 288 yX12_seepOf, .instanceMethod yX12_seepOf, .selects RX12 yX12_seepOf yX12_seepOf, .code yX12_crest cX12_crest 4 (some .int), .methodLink RX12 282 yX12_crest, .instanceMethod yX12_crest, .selects RX12 yX12_crest yX12_crest, .methodLink RX12 304 yX12_dikes, .instanceMethod yX12_dikes, .selects RX12 yX12_dikes yX12_dikes, .methodLink RX12 322 yX12_anHour, .instanceMethod yX12_anHour, .selects RX12 yX12_anHour yX12_anHour] bs)
set_option maxHeartbeats 4000000 in
set_option maxRecDepth 100000 in
theorem s_hoursE (l : Launch) (dC : Nat → ClassId) (dI : Nat → Nat → Nat) (kA : Nat → ClassId) (adK adV : Nat → Nat) (G : gT) (H0 : Heap) (q : Nat → Nat) (wZ wN : Nat → Int) (wH wB wC : Int) (wL wK : Nat → Prop) (wU wV : Nat → Nat) (PI : Nat → Int → Prop) (im : Int) (PM PT : Nat → Int → Prop) (lS lB lE : Nat → Nat → Int → Prop) (lN : Nat → Int) (o0 : Nat) (p0 : Int32)  (hT : gH (dC, dI) kA (SHm q (wP wZ0 wN wH wB wC wL wK wU wV) PI im PM PT lS lB lE lN) G H0) (hr_o0 : G o0 = some 0) (hgw : wG wC wL wK wU wV) (hn_ : ∀ i, 6500000 ≤ wN i ∧ wN i ≤ 6500000 + 340 * wH) (hb_ : wB ≤ 96 * wH) (hgz : ∀ i, 0 ≤ wZ i) (hgn : ∀ i, 6500000 ≤ wN i ∧ wN i ≤ 20200000) (hgh : 0 ≤ wH ∧ wH ≤ 40000) (hgb : 0 ≤ wB ∧ wB ≤ 3850000) (hgc : 0 ≤ wC ∧ wC ≤ 30) (hgi : 0 ≤ im ∧ im ≤ 1) (hgu : ∀ a t, G a = some (t + 1) → a = q t) : Met l yX12_hours w_s_hoursE ({ frames := 5, cells := 0, slots := 0, locals := 120 }) (va_Pc [.ref o0, .int p0] (fun U => U.heap = H0 ∧ va_K (dC, dI) vwCl (tyl kA) U ∧ EVS adK adV (gA G H0.size) U U.heap)) (va_Qi (fun (r : Int32) (u : Int32 × Int × (Nat → Int) × Int × (Nat → Int → Prop) × (Nat → Int → Prop)) => match u with | (t1, wH1, wN1, wB1, PM1, PT1) => (0 ≤ r.toInt ∧ r.toInt ≤ 40000) ∧ (0 ≤ wH1 ∧ wH1 ≤ 40000) ∧ (∀ i, 6500000 ≤ wN1 i ∧ wN1 i ≤ 6500000 + 340 * wH1) ∧ (0 ≤ wB1 ∧ wB1 ≤ 96 * wH1) ∧ (((0 ≤ p0.toInt ∧ p0.toInt ≤ 240) ∧ t1.toInt = 0 ∧ r.toInt = wH1 ∧ ((wH1 = wH + p0.toInt ∧ wH + p0.toInt ≤ 40000) ∨ (wH1 = 40000 ∧ 40000 ≤ wH + p0.toInt))) ∨ (¬ (0 ≤ p0.toInt ∧ p0.toInt ≤ 240) ∧ t1.toInt = 1 ∧ wH1 = wH))) (fun (u : Int32 × Int × (Nat → Int) × Int × (Nat → Int → Prop) × (Nat → Int → Prop)) (t : State) => match u with | (t1, wH1, wN1, wB1, PM1, PT1) => gH (dC, dI) kA (SHm q (wP wZ0 wN1 wH1 wB1 wC wL wK wU wV) PI im PM1 PT1 lS lB lE lN) G t.heap ∧ gF (dC, dI) SKm G ([(0, 0), (0, 9), (2, 0), (5, 0), (6, 0), (7, 0), (8, 0), (9, 0)] : List (Nat × Nat)) H0 t.heap ∧ el t.heap o0 (dI 15 0) = some (.int t1)) (gA G H0.size)) 0 0 (gA G H0.size) := by
  refine Met.ofW (cc := cX12_hours) (maxL := 3) (ret := (some .int)) (by decide) rfl ?_
  intro p e s m args below meth c s₁ B hml hv
  obtain ⟨rfl, hH0, hK, hE⟩ := hv
  have hx := B.exec
  have hb := B.bytes
  have hr := B.returns
  have hts := atoms_spec (ws := w_s_hoursE) B.pre
  have hown : s.vm.findClass RX12 = some m.cls := findClass_of_methodNamed B.named
  have hlocks := B.notSynchronized
  subst hH0
  generalize hAe : gA G s.heap.size = A at hE ⊢
  have hA : ∀ q : Nat, s.heap.size ≤ q → A q := fun q h => by rw [← hAe]; exact Or.inr h
  have hG := gA_of hAe
  have hS : va_S A s.heap s.heap [] := va_S.rf
  have hF : gF (dC, dI) SKm G ([(0, 0), (0, 9), (2, 0), (5, 0), (6, 0), (7, 0), (8, 0), (9, 0)] : List (Nat × Nat)) s.heap s.heap := gF.rf
  have hl := lv_entry ([.ref o0, .int p0]) (n := 3) (Nat.le_of_ble_eq_true rfl)
  rw [lg_entry_eq]
  generalize (lg_sl ([.ref o0, .int p0]) ++ List.replicate (3 - (lg_sl ([.ref o0, .int p0])).length) Slot.unset).toArray = ls at hl ⊢
  have hl : lv_has ls 3 [(0, .ref o0), (1, .int p0)] := hl
  refine lv_aload_n hx hb dX12_hours_0 rfl (lv_at hl 0 rfl) ?_
  refine lv_iconst (v := 0) hx hb dX12_hours_1 (by decide) ?_
  refine tw_put (v := .int 0) (ty := .int) hx hb hts bF_X12 tyX12 tyX12_ok nmX12 hown hK hT hG hS hr_o0 shm_0 rfl 0 (by decide) (ht_at hts 0 rfl) (fun _ h9 => h9) rfl (by decide +kernel) rfl rfl (gl_at rfl (gi_all _)) dX12_hours_2 (fun H locs hT oq m1 oj hS => ?_)
  have hF := hF.put hr_o0 skm_0 oq oj (by decide)
  refine lv_aload_n hx hb dX12_hours_5 rfl (lv_at hl 0 rfl) ?_
  refine lv_iload_n hx hb dX12_hours_6 rfl (lv_at hl 1 rfl) ?_
  refine lv_iconst (v := 0) hx hb dX12_hours_7 (by decide) ?_
  refine lv_sipush (v := 240) hx hb dX12_hours_8 (by decide) ?_
  have hFc := gA_free hG hA hS
  refine va_calli (va_runS (As := [.int p0, .int 0, .int 240]) (rest := [.ref o0]) ⟨hx, hb, hml, hown, hts⟩ (s_in l dC dI kA adK adV G H q wZ0 wN wH wB wC wL wK wU wV PI im PM PT lS lB lE lN p0 0 240 hT (fun _ => Int.le_refl 0) hgn hgh hgb hgc hgi hgu) (va_cwS 3 hts (goodIn_app (goodIn_r _ [3, 4, 5] rfl (by decide +kernel)) (goodIn_ca (goodIn_r _ [2] rfl (by decide +kernel)) (bs_in _ _))) rfl rfl rfl (by decide +kernel) ⟨(Nat.le_of_ble_eq_true rfl), (Nat.le_of_ble_eq_true rfl)⟩) ⟨fun a U g mk q => by obtain ⟨q0, q1, qK, qE⟩ := q; exact ⟨q0, q1, va_K.moved (u := U) (U := U.calling g mk a) (Vm.Alike.refl U.vm) qK, EVS.blind g mk a qE⟩, fun U hU hW => ⟨rfl, hU, va_K.moved hW.alike hK, hE.call hS hFc hU hW⟩⟩ rfl rfl hl.1 rfl (lv_room (Nat.le_of_ble_eq_true rfl)) dX12_hours_11 ⟨(Nat.le_of_ble_eq_true rfl), (Nat.le_of_ble_eq_true rfl)⟩) hS (fun q _ h => hFc q h) hFc (fun r2 u t H locs ht hvm hw3 hB _ _ hS => ?_)
  obtain ⟨hT, hF1⟩ := hB
  rw [ht] at hT hF1
  have m4 := (hF1.fld hr_o0 skm_0 (k := 0) (by decide) (by decide)).trans m1
  have hF := hF.more hF1 (by decide)
  try dsimp only at hw3
  obtain ⟨h5, hi6, hi7⟩ := hw3
  refine lv_if_ne (tgt := 21) hx hb dX12_hours_14 (by decide) (fun c8 => ?_) (fun c8 => ?_)
  · have t9 : r2.toInt ≠ 0 := ti_ne c8 rfl (by decide)
    have t10 : (0 : Int32).toInt = 0 := by decide
    have t11 : (240 : Int32).toInt = 240 := by decide
    have t12 : (0 : Int32).toInt ≤ p0.toInt ∧ p0.toInt ≤ (240 : Int32).toInt := hi6 ((bit_of ⟨by omega, by omega⟩).resolve_left c8)
    refine lv_iconst (v := 0) hx hb dX12_hours_21 (by decide) ?_
    refine lv_iconst (v := 1) hx hb dX12_hours_22 (by decide) ?_
    have hFc := gA_free hG hA hS
    refine va_calli (va_runV (As := [.int 0, .int 1]) (rest := []) ⟨hx, hb, hml, hown, hts⟩ (s_throwsIfP l dC dI kA adK adV G H q wZ0 wN wH wB wC wL wK wU wV PI im PM PT lS lB lE lN o0 0 1 0 hT hr_o0 m4 (rg_t (a := 0) (by decide) (by first | decide | omega) (by first | decide | omega)) (fun _ => Int.le_refl 0) hgn hgh hgb hgc hgi hgu) (cwV 2 hts (goodIn_app (goodIn_r _ [7, 8, 9, 5] rfl (by decide +kernel)) (goodIn_ca (goodIn_r _ [6, 1] rfl (by decide +kernel)) (bs_in _ _))) rfl rfl rfl (by decide +kernel) ⟨(Nat.le_of_ble_eq_true rfl), (Nat.le_of_ble_eq_true rfl)⟩) ⟨fun a U g mk q => by obtain ⟨q0, q1, qK, qE⟩ := q; exact ⟨q0, q1, va_K.moved (u := U) (U := U.calling g mk a) (Vm.Alike.refl U.vm) qK, EVS.blind g mk a qE⟩, gH_rc hK hT hr_o0 shm_0 rfl, fun U hU hW => ⟨rfl, hU, va_K.moved hW.alike hK, hE.call hS hFc hU hW⟩⟩ rfl rfl hl.1 rfl (lv_room (Nat.le_of_ble_eq_true rfl)) dX12_hours_23 ⟨(Nat.le_of_ble_eq_true rfl), (Nat.le_of_ble_eq_true rfl)⟩) hS (fun q _ h => hFc q h) hFc (fun r13 u t H locs ht hvm hw14 hB _ _ hS => ?_)
    obtain ⟨u15, rfl⟩ : ∃ z, z = u := ⟨_, rfl⟩
    obtain ⟨hT, hF1, m16⟩ := hB
    rw [ht] at hT hF1 m16
    have hF := hF.more hF1 (by decide)
    try dsimp only at hw14
    obtain ⟨h18, hf19, hd20⟩ := hw14
    have t21 : (0 : Int32).toInt = 0 := by decide
    have t22 : (1 : Int32).toInt = 1 := by decide
    have t23 : (0 : Int32).toInt = 0 := by decide
    obtain rfl : (0 : Int32) = r13 := hd20.symm
    refine lv_if_eq (tgt := 31) hx hb dX12_hours_26 (by decide) (fun c24 => ?_) (fun c24 => absurd c24 (by decide))
    refine lv_iconst (v := 0) hx hb dX12_hours_31 (by decide) ?_
    refine lv_istore_n (lv' := [(2, .int 0), (0, .ref o0), (1, .int p0)]) hx hb dX12_hours_32 rfl hl (by decide) rfl (fun ls hl => ?_)
    have key66 : ∀ (n66 i25 : Nat), i25 + n66 = 240 → 0 ≤ i25 → ∀ (gwN26 : Nat → Int), ∀ (gwH27 : Int), ∀ (gwB28 : Int), ∀ (gPM29 : Nat → Int → Prop), ∀ (gPT30 : Nat → Int → Prop), ((∀ i, 6500000 ≤ gwN26 i ∧ gwN26 i ≤ 6500000 + 340 * gwH27) ∧ (0 ≤ gwH27 ∧ gwH27 ≤ 40000) ∧ (0 ≤ gwB28 ∧ gwB28 ≤ 96 * gwH27) ∧ (gwH27 = wH + ((i25 : Nat) : Int) ∧ ((i25 : Nat) : Int) ≤ p0.toInt)) → ∀ (H : Heap) (locs : List Loc), gH (dC, dI) kA (SHm q (wP wZ0 gwN26 gwH27 gwB28 wC wL wK wU wV) PI im gPM29 gPT30 lS lB lE lN) G H → gF (dC, dI) SKm G ([(0, 0), (0, 9), (2, 0), (5, 0), (6, 0), (7, 0), (8, 0), (9, 0)] : List (Nat × Nat)) s.heap H → va_S A s.heap H locs → el H o0 (dI 15 0) = some (.int u15) → ∀ ls : Array Slot, lv_has ls 3 [(2, .int (nI i25)), (0, .ref o0), (1, .int p0)] → W p l e (headSpec w_s_hoursE ({ frames := 5, cells := 0, slots := 0, locals := 120 })).room s m #[.ref o0, .int p0] below meth c H locs 0 0 (MQ below (va_Qi (fun (r : Int32) (u : Int32 × Int × (Nat → Int) × Int × (Nat → Int → Prop) × (Nat → Int → Prop)) => match u with | (t1, wH1, wN1, wB1, PM1, PT1) => (0 ≤ r.toInt ∧ r.toInt ≤ 40000) ∧ (0 ≤ wH1 ∧ wH1 ≤ 40000) ∧ (∀ i, 6500000 ≤ wN1 i ∧ wN1 i ≤ 6500000 + 340 * wH1) ∧ (0 ≤ wB1 ∧ wB1 ≤ 96 * wH1) ∧ (((0 ≤ p0.toInt ∧ p0.toInt ≤ 240) ∧ t1.toInt = 0 ∧ r.toInt = wH1 ∧ ((wH1 = wH + p0.toInt ∧ wH + p0.toInt ≤ 40000) ∨ (wH1 = 40000 ∧ 40000 ≤ wH + p0.toInt))) ∨ (¬ (0 ≤ p0.toInt ∧ p0.toInt ≤ 240) ∧ t1.toInt = 1 ∧ wH1 = wH))) (fun (u : Int32 × Int × (Nat → Int) × Int × (Nat → Int → Prop) × (Nat → Int → Prop)) (t : State) => match u with | (t1, wH1, wN1, wB1, PM1, PT1) => gH (dC, dI) kA (SHm q (wP wZ0 wN1 wH1 wB1 wC wL wK wU wV) PI im PM1 PT1 lS lB lE lN) G t.heap ∧ gF (dC, dI) SKm G ([(0, 0), (0, 9), (2, 0), (5, 0), (6, 0), (7, 0), (8, 0), (9, 0)] : List (Nat × Nat)) s.heap t.heap ∧ el t.heap o0 (dI 15 0) = some (.int t1)) A) #[.ref o0, .int p0] s 0 0 A) (F0 m 33 ls []) := by
      intro n66
      induction n66 with
      | zero =>
        intro i25 hn66 hlo67 gwN26 gwH27 gwB28 gPM29 gPT30 ⟨hg32, hg33, hg34, hj35⟩ H locs hT hF hS m31 ls hl
        obtain rfl : 240 = i25 := by omega
        have t68 : ∀ i, 6500000 ≤ gwN26 i ∧ gwN26 i ≤ 20200000 := fun i => by have q8 := hg32 i; omega
        refine lv_iload_n hx hb dX12_hours_33 rfl (lv_at hl 0 rfl) ?_
        refine lv_iload_n hx hb dX12_hours_34 rfl (lv_at hl 2 rfl) ?_
        refine lv_icmp_ge (tgt := 57) hx hb dX12_hours_35 (by decide) (fun c69 => ?_) (fun c69 => (by exfalso; have q9 : ((240 : Nat) : Int) < p0.toInt := ti_nle c69 rfl (nI_toInt (by omega)); omega))
        have t70 : p0.toInt ≤ ((240 : Nat) : Int) := ti_le c69 rfl (nI_toInt (by omega))
        refine lv_aload_n hx hb dX12_hours_57 rfl (lv_at hl 1 rfl) ?_
        have hFc := gA_free hG hA hS
        refine va_calli (va_runV (As := []) (rest := []) ⟨hx, hb, hml, hown, hts⟩ (s_hour l dC dI kA adK adV G H q wZ0 gwN26 gwH27 gwB28 wC wL wK wU wV PI im gPM29 gPT30 lS lB lE lN o0 hT hr_o0 (fun _ => Int.le_refl 0) t68 hg33 (by omega) (by omega) (by omega) hgu) (cwV 0 hts (goodIn_app (goodIn_r _ [12, 13, 14, 5] rfl (by decide +kernel)) (goodIn_ca (goodIn_r _ [10, 11] rfl (by decide +kernel)) (bs_in _ _))) rfl rfl rfl (by decide +kernel) ⟨(Nat.le_of_ble_eq_true rfl), (Nat.le_of_ble_eq_true rfl)⟩) ⟨fun a U g mk q => by obtain ⟨q0, q1, qK, qE⟩ := q; exact ⟨q0, q1, va_K.moved (u := U) (U := U.calling g mk a) (Vm.Alike.refl U.vm) qK, EVS.blind g mk a qE⟩, gH_rc hK hT hr_o0 shm_0 rfl, fun U hU hW => ⟨rfl, hU, va_K.moved hW.alike hK, hE.call hS hFc hU hW⟩⟩ rfl rfl hl.1 rfl (lv_room (Nat.le_of_ble_eq_true rfl)) dX12_hours_58 ⟨(Nat.le_of_ble_eq_true rfl), (Nat.le_of_ble_eq_true rfl)⟩) hS (fun q _ h => hFc q h) hFc (fun r71 u t H locs ht hvm hw72 hB _ _ hS => ?_)
        obtain ⟨hT, hF1⟩ := hB
        rw [ht] at hT hF1
        have m73 := (hF1.fld hr_o0 skm_0 (k := 0) (by decide) (by decide)).trans m31
        have hF := hF.more hF1 (by decide)
        try dsimp only at hw72
        obtain ⟨h74, hf75⟩ := hw72
        exact W.iret (v := r71) hx hb hr (fun t ht hW => ⟨⟨r71, (u15, gwH27, gwN26, gwB28, gPM29, gPT30), rfl, (by exact ⟨(by have q8 := ti_all r71; omega), (by omega), hg32, (by omega), (by have q0 : (0 : Int32).toInt = 0 := (by decide); have q1 : (1 : Int32).toInt = 1 := (by decide); omega)⟩), by (try dsimp only); rw [ht]; exact ⟨hT, hF, m73⟩⟩, hS.F ht⟩) hS.2.2 dX12_hours_61
      | succ n66 ih66 =>
        intro i25 hn66 hlo67 gwN26 gwH27 gwB28 gPM29 gPT30 ⟨hg32, hg33, hg34, hj35⟩ H locs hT hF hS m31 ls hl
        have hlt75 : i25 < 240 := by omega
        have t76 : ∀ i, 6500000 ≤ gwN26 i ∧ gwN26 i ≤ 20200000 := fun i => by have q8 := hg32 i; omega
        refine lv_iload_n hx hb dX12_hours_33 rfl (lv_at hl 0 rfl) ?_
        refine lv_iload_n hx hb dX12_hours_34 rfl (lv_at hl 2 rfl) ?_
        refine lv_icmp_ge (tgt := 57) hx hb dX12_hours_35 (by decide) (fun c77 => ?_) (fun c77 => ?_)
        · have t78 : p0.toInt ≤ ((i25 : Nat) : Int) := ti_le c77 rfl (nI_toInt (by omega))
          refine lv_aload_n hx hb dX12_hours_57 rfl (lv_at hl 1 rfl) ?_
          have hFc := gA_free hG hA hS
          refine va_calli (va_runV (As := []) (rest := []) ⟨hx, hb, hml, hown, hts⟩ (s_hour l dC dI kA adK adV G H q wZ0 gwN26 gwH27 gwB28 wC wL wK wU wV PI im gPM29 gPT30 lS lB lE lN o0 hT hr_o0 (fun _ => Int.le_refl 0) t76 hg33 (by omega) (by omega) (by omega) hgu) (cwV 0 hts (goodIn_app (goodIn_r _ [12, 13, 14, 5] rfl (by decide +kernel)) (goodIn_ca (goodIn_r _ [10, 11] rfl (by decide +kernel)) (bs_in _ _))) rfl rfl rfl (by decide +kernel) ⟨(Nat.le_of_ble_eq_true rfl), (Nat.le_of_ble_eq_true rfl)⟩) ⟨fun a U g mk q => by obtain ⟨q0, q1, qK, qE⟩ := q; exact ⟨q0, q1, va_K.moved (u := U) (U := U.calling g mk a) (Vm.Alike.refl U.vm) qK, EVS.blind g mk a qE⟩, gH_rc hK hT hr_o0 shm_0 rfl, fun U hU hW => ⟨rfl, hU, va_K.moved hW.alike hK, hE.call hS hFc hU hW⟩⟩ rfl rfl hl.1 rfl (lv_room (Nat.le_of_ble_eq_true rfl)) dX12_hours_58 ⟨(Nat.le_of_ble_eq_true rfl), (Nat.le_of_ble_eq_true rfl)⟩) hS (fun q _ h => hFc q h) hFc (fun r79 u t H locs ht hvm hw80 hB _ _ hS => ?_)
          obtain ⟨hT, hF1⟩ := hB
          rw [ht] at hT hF1
          have m81 := (hF1.fld hr_o0 skm_0 (k := 0) (by decide) (by decide)).trans m31
          have hF := hF.more hF1 (by decide)
          try dsimp only at hw80
          obtain ⟨h82, hf83⟩ := hw80
          exact W.iret (v := r79) hx hb hr (fun t ht hW => ⟨⟨r79, (u15, gwH27, gwN26, gwB28, gPM29, gPT30), rfl, (by exact ⟨(by have q8 := ti_all r79; omega), (by omega), hg32, (by omega), (by have q0 : (0 : Int32).toInt = 0 := (by decide); have q1 : (1 : Int32).toInt = 1 := (by decide); omega)⟩), by (try dsimp only); rw [ht]; exact ⟨hT, hF, m81⟩⟩, hS.F ht⟩) hS.2.2 dX12_hours_61
        · have t84 : ((i25 : Nat) : Int) < p0.toInt := ti_nle c77 rfl (nI_toInt (by omega))
          refine lv_aload_n hx hb dX12_hours_38 rfl (lv_at hl 1 rfl) ?_
          have hFc := gA_free hG hA hS
          refine va_calli (va_runV (As := []) (rest := []) ⟨hx, hb, hml, hown, hts⟩ (s_hour l dC dI kA adK adV G H q wZ0 gwN26 gwH27 gwB28 wC wL wK wU wV PI im gPM29 gPT30 lS lB lE lN o0 hT hr_o0 (fun _ => Int.le_refl 0) t76 hg33 (by omega) (by omega) (by omega) hgu) (cwV 0 hts (goodIn_app (goodIn_r _ [12, 13, 14, 5] rfl (by decide +kernel)) (goodIn_ca (goodIn_r _ [10, 11] rfl (by decide +kernel)) (bs_in _ _))) rfl rfl rfl (by decide +kernel) ⟨(Nat.le_of_ble_eq_true rfl), (Nat.le_of_ble_eq_true rfl)⟩) ⟨fun a U g mk q => by obtain ⟨q0, q1, qK, qE⟩ := q; exact ⟨q0, q1, va_K.moved (u := U) (U := U.calling g mk a) (Vm.Alike.refl U.vm) qK, EVS.blind g mk a qE⟩, gH_rc hK hT hr_o0 shm_0 rfl, fun U hU hW => ⟨rfl, hU, va_K.moved hW.alike hK, hE.call hS hFc hU hW⟩⟩ rfl rfl hl.1 rfl (lv_room (Nat.le_of_ble_eq_true rfl)) dX12_hours_39 ⟨(Nat.le_of_ble_eq_true rfl), (Nat.le_of_ble_eq_true rfl)⟩) hS (fun q _ h => hFc q h) hFc (fun r85 u t H locs ht hvm hw86 hB _ _ hS => ?_)
          obtain ⟨hT, hF1⟩ := hB
          rw [ht] at hT hF1
          have m87 := (hF1.fld hr_o0 skm_0 (k := 0) (by decide) (by decide)).trans m31
          have hF := hF.more hF1 (by decide)
          try dsimp only at hw86
          obtain ⟨h88, hf89⟩ := hw86
          refine lv_ldc (v := 40000) hx hb hown (ht_at hts 14 rfl) dX12_hours_42 ?_
          refine lv_icmp_ge (tgt := 57) hx hb dX12_hours_44 (by decide) (fun c90 => ?_) (fun c90 => ?_)
          · have t91 : 40000 ≤ r85.toInt := ti_le c90 (by decide) rfl
            refine lv_aload_n hx hb dX12_hours_57 rfl (lv_at hl 1 rfl) ?_
            have hFc := gA_free hG hA hS
            refine va_calli (va_runV (As := []) (rest := []) ⟨hx, hb, hml, hown, hts⟩ (s_hour l dC dI kA adK adV G H q wZ0 gwN26 gwH27 gwB28 wC wL wK wU wV PI im gPM29 gPT30 lS lB lE lN o0 hT hr_o0 (fun _ => Int.le_refl 0) t76 hg33 (by omega) (by omega) (by omega) hgu) (cwV 0 hts (goodIn_app (goodIn_r _ [12, 13, 14, 5] rfl (by decide +kernel)) (goodIn_ca (goodIn_r _ [10, 11] rfl (by decide +kernel)) (bs_in _ _))) rfl rfl rfl (by decide +kernel) ⟨(Nat.le_of_ble_eq_true rfl), (Nat.le_of_ble_eq_true rfl)⟩) ⟨fun a U g mk q => by obtain ⟨q0, q1, qK, qE⟩ := q; exact ⟨q0, q1, va_K.moved (u := U) (U := U.calling g mk a) (Vm.Alike.refl U.vm) qK, EVS.blind g mk a qE⟩, gH_rc hK hT hr_o0 shm_0 rfl, fun U hU hW => ⟨rfl, hU, va_K.moved hW.alike hK, hE.call hS hFc hU hW⟩⟩ rfl rfl hl.1 rfl (lv_room (Nat.le_of_ble_eq_true rfl)) dX12_hours_58 ⟨(Nat.le_of_ble_eq_true rfl), (Nat.le_of_ble_eq_true rfl)⟩) hS (fun q _ h => hFc q h) hFc (fun r92 u t H locs ht hvm hw93 hB _ _ hS => ?_)
            obtain ⟨hT, hF1⟩ := hB
            rw [ht] at hT hF1
            have m94 := (hF1.fld hr_o0 skm_0 (k := 0) (by decide) (by decide)).trans m87
            have hF := hF.more hF1 (by decide)
            try dsimp only at hw93
            obtain ⟨h95, hf96⟩ := hw93
            exact W.iret (v := r92) hx hb hr (fun t ht hW => ⟨⟨r92, (u15, gwH27, gwN26, gwB28, gPM29, gPT30), rfl, (by exact ⟨(by have q8 := ti_all r92; omega), (by omega), hg32, (by omega), (by have q0 : (0 : Int32).toInt = 0 := (by decide); have q1 : (1 : Int32).toInt = 1 := (by decide); omega)⟩), by (try dsimp only); rw [ht]; exact ⟨hT, hF, m94⟩⟩, hS.F ht⟩) hS.2.2 dX12_hours_61
          · have t97 : r85.toInt < 40000 := ti_nle c90 (by decide) rfl
            refine lv_aload_n hx hb dX12_hours_47 rfl (lv_at hl 1 rfl) ?_
            have hFc := gA_free hG hA hS
            refine va_callv (va_runV (As := []) (rest := []) ⟨hx, hb, hml, hown, hts⟩ (s_anHour l dC dI kA adK adV G H q wZ0 gwN26 gwH27 gwB28 wC wL wK wU wV PI im gPM29 gPT30 lS lB lE lN o0 hT hr_o0 (by assumption) hg32 (by omega) (by omega) (fun _ => Int.le_refl 0) t76 hg33 (by omega) (by omega) (by omega) hgu) (cwV 0 hts (goodIn_app (goodIn_r _ [112, 113, 114, 5] rfl (by decide +kernel)) (goodIn_ca (goodIn_r _ [16, 11, 10, 12, 13, 14, 5, 17, 2, 3, 4, 18, 19, 20, 21, 22, 23, 24, 25, 26, 27, 28, 29, 30, 31, 32, 33, 34, 35, 36, 37, 38, 39, 40, 41, 42, 43, 44, 45, 46, 47, 48, 49, 50, 51, 52, 53, 54, 55, 56, 57, 58, 59, 60, 61, 62, 63, 64, 65, 66, 67, 68, 69, 70, 71, 72, 73, 74, 75, 76, 77, 78, 79, 80, 81, 82, 83, 84, 85, 86, 87, 88, 89, 90, 91, 92, 93, 94, 95, 96, 97, 98, 99, 100, 101, 102, 103, 104, 105, 106, 107, 108, 109, 110, 111] rfl (by decide +kernel)) (bs_in _ _))) rfl rfl rfl (by decide +kernel) ⟨(Nat.le_of_ble_eq_true rfl), (Nat.le_of_ble_eq_true rfl)⟩) ⟨fun a U g mk q => by obtain ⟨q0, q1, qK, qE⟩ := q; exact ⟨q0, q1, va_K.moved (u := U) (U := U.calling g mk a) (Vm.Alike.refl U.vm) qK, EVS.blind g mk a qE⟩, gH_rc hK hT hr_o0 shm_0 rfl, fun U hU hW => ⟨rfl, hU, va_K.moved hW.alike hK, hE.call hS hFc hU hW⟩⟩ rfl rfl hl.1 rfl (lv_room (Nat.le_of_ble_eq_true rfl)) dX12_hours_48 ⟨(Nat.le_of_ble_eq_true rfl), (Nat.le_of_ble_eq_true rfl)⟩) hS (fun q _ h => hFc q h) hFc (fun u t H locs ht hvm hw99 hB _ _ hS => ?_)
            obtain ⟨u100, u101, u102, u103⟩ := u
            obtain ⟨hT, hF1⟩ := hB
            rw [ht] at hT hF1
            have m104 := (hF1.fld hr_o0 skm_0 (k := 0) (by decide) (by decide)).trans m87
            have hF := hF.more hF1 (by decide)
            try dsimp only at hw99
            obtain ⟨hf105, hf106⟩ := hw99
            refine lv_iinc (v := nI (i25 + 1)) (lv' := [(2, .int (nI (i25 + 1))), (0, .ref o0), (1, .int p0)]) hx hb dX12_hours_51 hl (k := 0) rfl (nI_add i25 1) (by decide) rfl (fun ls hl => ?_)
            refine lv_goto (tgt := 33) hx hb dX12_hours_54 (by decide) ?_
            exact ih66 (i25 + 1) (by omega) (by omega) u100 (gwH27 + 1) u101 u102 u103 ⟨hf105, (by omega), (by omega), (by omega)⟩ _ _ hT hF hS m104 ls (lv_sub hl [0, 1, 2] rfl)
    exact key66 (240 - 0) 0 (by omega) (Nat.le_refl _) wN wH wB PM PT ⟨hn_, (by omega), (by omega), (by omega)⟩ _ _ hT hF hS m16 ls (lv_sub hl [0, 1, 2] rfl)
  · have t107 : r2.toInt = 0 := ti_eq c8 rfl (by decide)
    have t108 : (0 : Int32).toInt = 0 := by decide
    have t109 : (240 : Int32).toInt = 240 := by decide
    have t110 : p0.toInt < (0 : Int32).toInt ∨ (240 : Int32).toInt < p0.toInt := hi7 c8
    refine lv_iconst (v := 1) hx hb dX12_hours_17 (by decide) ?_
    refine lv_goto (tgt := 22) hx hb dX12_hours_18 (by decide) ?_
    refine lv_iconst (v := 1) hx hb dX12_hours_22 (by decide) ?_
    have hFc := gA_free hG hA hS
    refine va_calli (va_runV (As := [.int 1, .int 1]) (rest := []) ⟨hx, hb, hml, hown, hts⟩ (s_throwsIfP l dC dI kA adK adV G H q wZ0 wN wH wB wC wL wK wU wV PI im PM PT lS lB lE lN o0 1 1 0 hT hr_o0 m4 (rg_t (a := 1) (by decide) (by first | decide | omega) (by first | decide | omega)) (fun _ => Int.le_refl 0) hgn hgh hgb hgc hgi hgu) (cwV 2 hts (goodIn_app (goodIn_r _ [7, 8, 9, 5] rfl (by decide +kernel)) (goodIn_ca (goodIn_r _ [6, 1] rfl (by decide +kernel)) (bs_in _ _))) rfl rfl rfl (by decide +kernel) ⟨(Nat.le_of_ble_eq_true rfl), (Nat.le_of_ble_eq_true rfl)⟩) ⟨fun a U g mk q => by obtain ⟨q0, q1, qK, qE⟩ := q; exact ⟨q0, q1, va_K.moved (u := U) (U := U.calling g mk a) (Vm.Alike.refl U.vm) qK, EVS.blind g mk a qE⟩, gH_rc hK hT hr_o0 shm_0 rfl, fun U hU hW => ⟨rfl, hU, va_K.moved hW.alike hK, hE.call hS hFc hU hW⟩⟩ rfl rfl hl.1 rfl (lv_room (Nat.le_of_ble_eq_true rfl)) dX12_hours_23 ⟨(Nat.le_of_ble_eq_true rfl), (Nat.le_of_ble_eq_true rfl)⟩) hS (fun q _ h => hFc q h) hFc (fun r111 u t H locs ht hvm hw112 hB _ _ hS => ?_)
    obtain ⟨u113, rfl⟩ : ∃ z, z = u := ⟨_, rfl⟩
    obtain ⟨hT, hF1, m114⟩ := hB
    rw [ht] at hT hF1 m114
    have hF := hF.more hF1 (by decide)
    try dsimp only at hw112
    obtain ⟨h116, hf117, hd118⟩ := hw112
    have t119 : (1 : Int32).toInt = 1 := by decide
    have t120 : (1 : Int32).toInt = 1 := by decide
    have t121 : (0 : Int32).toInt = 0 := by decide
    obtain rfl : (1 : Int32) = r111 := hd118.symm
    refine lv_if_eq (tgt := 31) hx hb dX12_hours_26 (by decide) (fun c122 => absurd c122 (by decide)) (fun c122 => ?_)
    refine lv_iconst (v := 0) hx hb dX12_hours_29 (by decide) ?_
    exact W.iret (v := 0) hx hb hr (fun t ht hW => ⟨⟨0, (u113, wH, wN, wB, PM, PT), rfl, (by exact ⟨(rg_t (a := 0) (by decide) (by first | decide | omega) (by first | decide | omega)), (by omega), hn_, (by omega), (by have q0 : (0 : Int32).toInt = 0 := (by decide); have q1 : (1 : Int32).toInt = 1 := (by decide); omega)⟩), by (try dsimp only); rw [ht]; exact ⟨hT, hF, m114⟩⟩, hS.F ht⟩) hS.2.2 dX12_hours_30
def w_s_keepE : List Cond := .code yX12_keep cX12_keep 2 (some .boolean) :: (HAppend.hAppend (α := List Cond) (β := List Cond) (γ := List Cond) [.fieldLink RX12 194 "SeaLandModel" "thrown" "I", .code yX12_hour cX12_hour 1 (some .int), .fieldLink RX12 9 "SeaLandModel" "world" "[I", .methodLink RX12 228 yX12_hour, .instanceMethod yX12_hour, .selects RX12 yX12_hour yX12_hour, .initialized RX12, .fieldLink RX12 325 "SeaLandModel" "hasImage" "Z", .fieldLink RX12 13 "SeaLandModel" "image" "[I"] bs)
set_option maxHeartbeats 4000000 in
set_option maxRecDepth 100000 in
theorem s_keepE (l : Launch) (dC : Nat → ClassId) (dI : Nat → Nat → Nat) (kA : Nat → ClassId) (adK adV : Nat → Nat) (G : gT) (H0 : Heap) (q : Nat → Nat) (wZ wN : Nat → Int) (wH wB wC : Int) (wL wK : Nat → Prop) (wU wV : Nat → Nat) (PI : Nat → Int → Prop) (im : Int) (PM PT : Nat → Int → Prop) (lS lB lE : Nat → Nat → Int → Prop) (lN : Nat → Int) (o0 : Nat) (him : Int32)  (hT : gH (dC, dI) kA (SHm q (wP wZ0 wN wH wB wC wL wK wU wV) PI im PM PT lS lB lE lN) G H0) (hr_o0 : G o0 = some 0) (hm_him : el H0 o0 (dI 15 3) = some (.int him)) (hq0 : 0 ≤ him.toInt ∧ him.toInt ≤ 1) (hgz : ∀ i, 0 ≤ wZ i) (hgn : ∀ i, 6500000 ≤ wN i ∧ wN i ≤ 20200000) (hgh : 0 ≤ wH ∧ wH ≤ 40000) (hgb : 0 ≤ wB ∧ wB ≤ 3850000) (hgc : 0 ≤ wC ∧ wC ≤ 30) (hgi : 0 ≤ im ∧ im ≤ 1) (hgu : ∀ a t, G a = some (t + 1) → a = q t) : Met l yX12_keep w_s_keepE ({ frames := 1, cells := 0, slots := 0, locals := 20 }) (va_Pc [.ref o0] (fun U => U.heap = H0 ∧ va_K (dC, dI) vwCl (tyl kA) U ∧ EVS adK adV (gA G H0.size) U U.heap)) (va_Qi (fun (r : Int32) (u : Int32 × (Nat → Int → Prop)) => match u with | (h1, PI1) => (0 ≤ r.toInt ∧ r.toInt ≤ 1) ∧ ((wH = 0 ∧ r.toInt = 0 ∧ h1.toInt = him.toInt ∧ PI1 = PI) ∨ (wH ≠ 0 ∧ r.toInt = 1 ∧ h1.toInt = 1 ∧ PI1 = (wP wZ0 wN wH wB wC wL wK wU wV)))) (fun (u : Int32 × (Nat → Int → Prop)) (t : State) => match u with | (h1, PI1) => gH (dC, dI) kA (SHm q (wP wZ0 wN wH wB wC wL wK wU wV) PI1 im PM PT lS lB lE lN) G t.heap ∧ gF (dC, dI) SKm G ([(0, 0), (0, 3), (3, 0)] : List (Nat × Nat)) H0 t.heap ∧ el t.heap o0 (dI 15 3) = some (.int h1)) (gA G H0.size)) 0 0 (gA G H0.size) := by
  refine Met.ofW (cc := cX12_keep) (maxL := 2) (ret := (some .boolean)) (by decide) rfl ?_
  intro p e s m args below meth c s₁ B hml hv
  obtain ⟨rfl, hH0, hK, hE⟩ := hv
  have hx := B.exec
  have hb := B.bytes
  have hr := B.returns
  have hts := atoms_spec (ws := w_s_keepE) B.pre
  have hown : s.vm.findClass RX12 = some m.cls := findClass_of_methodNamed B.named
  have hlocks := B.notSynchronized
  subst hH0
  generalize hAe : gA G s.heap.size = A at hE ⊢
  have hA : ∀ q : Nat, s.heap.size ≤ q → A q := fun q h => by rw [← hAe]; exact Or.inr h
  have hG := gA_of hAe
  have hS : va_S A s.heap s.heap [] := va_S.rf
  have hF : gF (dC, dI) SKm G ([(0, 0), (0, 3), (3, 0)] : List (Nat × Nat)) s.heap s.heap := gF.rf
  have hl := lv_entry ([.ref o0]) (n := 2) (Nat.le_of_ble_eq_true rfl)
  rw [lg_entry_eq]
  generalize (lg_sl ([.ref o0]) ++ List.replicate (2 - (lg_sl ([.ref o0])).length) Slot.unset).toArray = ls at hl ⊢
  have hl : lv_has ls 2 [(0, .ref o0)] := hl
  refine lv_aload_n hx hb dX12_keep_0 rfl (lv_at hl 0 rfl) ?_
  refine lv_iconst (v := 0) hx hb dX12_keep_1 (by decide) ?_
  refine tw_put (v := .int 0) (ty := .int) hx hb hts bF_X12 tyX12 tyX12_ok nmX12 hown hK hT hG hS hr_o0 shm_0 rfl 0 (by decide) (ht_at hts 0 rfl) (fun _ h9 => h9) rfl (by decide +kernel) rfl rfl (gl_at rfl (gi_all _)) dX12_keep_2 (fun H locs hT oq m1 oj hS => ?_)
  have hF := hF.put hr_o0 skm_0 oq oj (by decide)
  have m2 := (oj 3 (by decide) (by decide)).trans hm_him
  refine lv_aload_n hx hb dX12_keep_5 rfl (lv_at hl 0 rfl) ?_
  have hFc := gA_free hG hA hS
  refine va_calli (va_runV (As := []) (rest := []) ⟨hx, hb, hml, hown, hts⟩ (s_hour l dC dI kA adK adV G H q wZ0 wN wH wB wC wL wK wU wV PI im PM PT lS lB lE lN o0 hT hr_o0 (fun _ => Int.le_refl 0) hgn hgh hgb hgc hgi hgu) (cwV 0 hts (goodIn_app (goodIn_r _ [4, 5, 6, 7] rfl (by decide +kernel)) (goodIn_ca (goodIn_r _ [2, 3] rfl (by decide +kernel)) (bs_in _ _))) rfl rfl rfl (by decide +kernel) ⟨(Nat.le_of_ble_eq_true rfl), (Nat.le_of_ble_eq_true rfl)⟩) ⟨fun a U g mk q => by obtain ⟨q0, q1, qK, qE⟩ := q; exact ⟨q0, q1, va_K.moved (u := U) (U := U.calling g mk a) (Vm.Alike.refl U.vm) qK, EVS.blind g mk a qE⟩, gH_rc hK hT hr_o0 shm_0 rfl, fun U hU hW => ⟨rfl, hU, va_K.moved hW.alike hK, hE.call hS hFc hU hW⟩⟩ rfl rfl hl.1 rfl (lv_room (Nat.le_of_ble_eq_true rfl)) dX12_keep_6 ⟨(Nat.le_of_ble_eq_true rfl), (Nat.le_of_ble_eq_true rfl)⟩) hS (fun q _ h => hFc q h) hFc (fun r3 u t H locs ht hvm hw4 hB _ _ hS => ?_)
  obtain ⟨hT, hF1⟩ := hB
  rw [ht] at hT hF1
  have m5 := (hF1.fld hr_o0 skm_0 (k := 3) (by decide) (by decide)).trans m2
  have m6 := (hF1.fld hr_o0 skm_0 (k := 0) (by decide) (by decide)).trans m1
  have hF := hF.more hF1 (by decide)
  try dsimp only at hw4
  obtain ⟨h7, hf8⟩ := hw4
  refine lv_if_ne (tgt := 14) hx hb dX12_keep_9 (by decide) (fun c9 => ?_) (fun c9 => ?_)
  · have t10 : r3.toInt ≠ 0 := ti_ne c9 rfl (by decide)
    refine lv_iconst (v := 0) hx hb dX12_keep_14 (by decide) ?_
    refine lv_istore_n (lv' := [(1, .int 0), (0, .ref o0)]) hx hb dX12_keep_15 rfl hl (by decide) rfl (fun ls hl => ?_)
    have key27 : ∀ (n27 i11 : Nat), i11 + n27 = 1749 → 0 ≤ i11 → ∀ (H : Heap) (locs : List Loc), gH (dC, dI) kA (SHm q (wP wZ0 wN wH wB wC wL wK wU wV) (pcP (wP wZ0 wN wH wB wC wL wK wU wV) PI i11) im PM PT lS lB lE lN) G H → gF (dC, dI) SKm G ([(0, 0), (0, 3), (3, 0)] : List (Nat × Nat)) s.heap H → va_S A s.heap H locs → el H o0 (dI 15 3) = some (.int him) → el H o0 (dI 15 0) = some (.int 0) → ∀ ls : Array Slot, lv_has ls 2 [(1, .int (nI i11)), (0, .ref o0)] → W p l e (headSpec w_s_keepE ({ frames := 1, cells := 0, slots := 0, locals := 20 })).room s m #[.ref o0] below meth c H locs 0 0 (MQ below (va_Qi (fun (r : Int32) (u : Int32 × (Nat → Int → Prop)) => match u with | (h1, PI1) => (0 ≤ r.toInt ∧ r.toInt ≤ 1) ∧ ((wH = 0 ∧ r.toInt = 0 ∧ h1.toInt = him.toInt ∧ PI1 = PI) ∨ (wH ≠ 0 ∧ r.toInt = 1 ∧ h1.toInt = 1 ∧ PI1 = (wP wZ0 wN wH wB wC wL wK wU wV)))) (fun (u : Int32 × (Nat → Int → Prop)) (t : State) => match u with | (h1, PI1) => gH (dC, dI) kA (SHm q (wP wZ0 wN wH wB wC wL wK wU wV) PI1 im PM PT lS lB lE lN) G t.heap ∧ gF (dC, dI) SKm G ([(0, 0), (0, 3), (3, 0)] : List (Nat × Nat)) s.heap t.heap ∧ el t.heap o0 (dI 15 3) = some (.int h1)) A) #[.ref o0] s 0 0 A) (F0 m 16 ls []) := by
      intro n27
      induction n27 with
      | zero =>
        intro i11 hn27 hlo28  H locs hT hF hS m12 m13 ls hl
        obtain rfl : 1749 = i11 := by omega
        refine lv_iload_n hx hb dX12_keep_16 rfl (lv_at hl 0 rfl) ?_
        refine lv_sipush (v := 1749) hx hb dX12_keep_17 (by decide) ?_
        refine lv_icmp_ge (tgt := 41) hx hb dX12_keep_20 (by decide) (fun c29 => ?_) (fun c29 => (by exfalso; have q9 : ((1749 : Nat) : Int) < 1749 := ti_nle c29 (by decide) (nI_toInt (by omega)); omega))
        have t30 : 1749 ≤ ((1749 : Nat) : Int) := ti_le c29 (by decide) (nI_toInt (by omega))
        have hT : gH (dC, dI) kA (SHm q (wP wZ0 wN wH wB wC wL wK wU wV) (wP wZ0 wN wH wB wC wL wK wU wV) im PM PT lS lB lE lN) G H := SHm_mono hT (fun _ _ _ z => z) (fun _ hi _ p => pc_all hi p) (fun _ _ z => z) (fun _ _ z => z) (fun _ _ _ _ z => z) (fun _ _ _ _ z => z) (fun _ _ _ _ z => z) (fun _ => Int.le_refl _)
        refine lv_aload_n hx hb dX12_keep_41 rfl (lv_at hl 1 rfl) ?_
        refine lv_iconst (v := 1) hx hb dX12_keep_42 (by decide) ?_
        refine tw_put (v := .int 1) (ty := .boolean) hx hb hts bF_X12 tyX12 tyX12_ok nmX12 hown hK hT hG hS hr_o0 shm_0 rfl 3 (by decide) (ht_at hts 7 rfl) (fun _ h9 => h9) rfl (by decide +kernel) rfl rfl (gl_at rfl (gi_of (show (1 : Int32).toInt = 1 from (by decide)) (by first | decide | omega) (by first | decide | omega))) dX12_keep_43 (fun H locs hT oq m31 oj hS => ?_)
        have hF := hF.put hr_o0 skm_0 oq oj (by decide)
        refine lv_iconst (v := 1) hx hb dX12_keep_46 (by decide) ?_
        exact W.zret (v := 1) hx hb hr (by decide) (fun t ht hW => ⟨⟨1, ((1 : Int32), (wP wZ0 wN wH wB wC wL wK wU wV)), rfl, (by exact ⟨(rg_t (a := 1) (by decide) (by first | decide | omega) (by first | decide | omega)), (Or.inr ⟨by omega, by decide, by decide, rfl⟩)⟩), by (try dsimp only); rw [ht]; exact ⟨hT, hF, m31⟩⟩, hS.F ht⟩) hS.2.2 dX12_keep_47
      | succ n27 ih27 =>
        intro i11 hn27 hlo28  H locs hT hF hS m12 m13 ls hl
        have hlt32 : i11 < 1749 := by omega
        refine lv_iload_n hx hb dX12_keep_16 rfl (lv_at hl 0 rfl) ?_
        refine lv_sipush (v := 1749) hx hb dX12_keep_17 (by decide) ?_
        refine lv_icmp_ge (tgt := 41) hx hb dX12_keep_20 (by decide) (fun c33 => (by exfalso; have q9 : 1749 ≤ ((i11 : Nat) : Int) := ti_le c33 (by decide) (nI_toInt (by omega)); omega)) (fun c33 => ?_)
        have t34 : ((i11 : Nat) : Int) < 1749 := ti_nle c33 (by decide) (nI_toInt (by omega))
        refine lv_aload_n hx hb dX12_keep_23 rfl (lv_at hl 1 rfl) ?_
        refine tw_get hx hb hts bF_X12 hown hK hT hr_o0 shm_0 rfl 2 (by decide) (ht_at hts 8 rfl) (fun _ h9 => h9) dX12_keep_24 (fun v9 m35 h9 => ?_)
        obtain ⟨rfl, hg36⟩ := h9 _ rfl
        refine lv_iload_n hx hb dX12_keep_27 rfl (lv_at hl 0 rfl) ?_
        refine lv_aload_n hx hb dX12_keep_28 rfl (lv_at hl 1 rfl) ?_
        refine tw_get hx hb hts bF_X12 hown hK hT hr_o0 shm_0 rfl 1 (by decide) (ht_at hts 2 rfl) (fun _ h9 => h9) dX12_keep_29 (fun v9 m37 h9 => ?_)
        obtain ⟨rfl, hg38⟩ := h9 _ rfl
        refine lv_iload_n hx hb dX12_keep_32 rfl (lv_at hl 0 rfl) ?_
        refine tw_iald (i := (nI i11)) hx hb hK hT hg38 shm_2 rfl (vp_in_nI (by omega) (by decide)) dX12_keep_33 (fun v9 m39 h9 => ?_)
        obtain ⟨x40, rfl, gx40, kx40⟩ := (gp_any h9)
        have t41 : (nI i11).toNatClampNeg = i11 := tn_nI (by omega)
        refine tw_iast2 (Sg1 := (SHm q (wP wZ0 wN wH wB wC wL wK wU wV) (pcP (wP wZ0 wN wH wB wC wL wK wU wV) PI (i11 + 1)) im PM PT lS lB lE lN)) (i := (nI i11)) (x := x40) hx hb hK hT hG hS hg36 shm_3 rfl shm_3 shm_o3 (fun b9 h9 => hgu b9 2 h9) (vp_in_nI (by omega) (by decide)) (⟨_, rfl, by rw [show (nI i11).toNatClampNeg = i11 from tn_nI (by omega)]; exact pc_at (by have q8 := wq_l hT hg38 (by have q9 := tn_of (show (nI i11).toInt = ((i11 : Nat) : Int) from (nI_toInt (by omega))) (by omega); omega) m39; rw [show (nI i11).toNatClampNeg = i11 from tn_nI (by omega)] at q8; exact q8)⟩) (fun k9 hk9 hne9 v9 hv9 he9 => by obtain ⟨x9, rfl, p9⟩ := he9; exact ⟨x9, rfl, pc_st (by omega) p9⟩) dX12_keep_34 (fun H locs hT oq m42 oi hS => ?_)
        have hF := hF.ast hg36 skm_3 oq (by decide)
        have m43 := (el_kept (oq _ (gne hr_o0 hg36 (by decide)))).trans m12
        have m44 := (el_kept (oq _ (gne hr_o0 hg36 (by decide)))).trans m13
        refine lv_iinc (v := nI (i11 + 1)) (lv' := [(1, .int (nI (i11 + 1))), (0, .ref o0)]) hx hb dX12_keep_35 hl (k := 0) rfl (nI_add i11 1) (by decide) rfl (fun ls hl => ?_)
        refine lv_goto (tgt := 16) hx hb dX12_keep_38 (by decide) ?_
        exact ih27 (i11 + 1) (by omega) (by omega) _ _ hT hF hS m43 m44 ls (lv_sub hl [0, 1] rfl)
    have hT : gH (dC, dI) kA (SHm q (wP wZ0 wN wH wB wC wL wK wU wV) (pcP (wP wZ0 wN wH wB wC wL wK wU wV) PI 0) im PM PT lS lB lE lN) G H := SHm_mono hT (fun _ _ _ z => z) (fun _ _ _ p => pc_0 p) (fun _ _ z => z) (fun _ _ z => z) (fun _ _ _ _ z => z) (fun _ _ _ _ z => z) (fun _ _ _ _ z => z) (fun _ => Int.le_refl _)
    exact key27 (1749 - 0) 0 (by omega) (Nat.le_refl _) _ _ hT hF hS m5 m6 ls (lv_sub hl [0, 1] rfl)
  · have t46 : r3.toInt = 0 := ti_eq c9 rfl (by decide)
    refine lv_iconst (v := 0) hx hb dX12_keep_12 (by decide) ?_
    exact W.zret (v := 0) hx hb hr (by decide) (fun t ht hW => ⟨⟨0, (him, PI), rfl, (by exact ⟨(rg_t (a := 0) (by decide) (by first | decide | omega) (by first | decide | omega)), (Or.inl ⟨by omega, by decide, by omega, rfl⟩)⟩), by (try dsimp only); rw [ht]; exact ⟨hT, hF, m5⟩⟩, hS.F ht⟩) hS.2.2 dX12_keep_13
def w_s_backE : List Cond := .code yX12_back cX12_back 2 (some .boolean) :: (HAppend.hAppend (α := List Cond) (β := List Cond) (γ := List Cond) [.fieldLink RX12 194 "SeaLandModel" "thrown" "I", .fieldLink RX12 325 "SeaLandModel" "hasImage" "Z", .fieldLink RX12 13 "SeaLandModel" "image" "[I", .code yX12_hour cX12_hour 1 (some .int), .fieldLink RX12 9 "SeaLandModel" "world" "[I", .methodLink RX12 228 yX12_hour, .instanceMethod yX12_hour, .selects RX12 yX12_hour yX12_hour, .initialized RX12, .fieldLink RX12 238 "SeaLandModel" "rows" "I"] bs)
set_option maxHeartbeats 4000000 in
set_option maxRecDepth 100000 in
theorem s_backE (l : Launch) (dC : Nat → ClassId) (dI : Nat → Nat → Nat) (kA : Nat → ClassId) (adK adV : Nat → Nat) (G : gT) (H0 : Heap) (q : Nat → Nat) (wZ wN : Nat → Int) (wH wB wC : Int) (wL wK : Nat → Prop) (wU wV : Nat → Nat) (PI : Nat → Int → Prop) (im : Int) (PM PT : Nat → Int → Prop) (lS lB lE : Nat → Nat → Int → Prop) (lN : Nat → Int) (o0 : Nat) (him : Int32) (vN : Nat → Int) (vH vB vC : Int) (vL vK : Nat → Prop) (vU vV : Nat → Nat) (hT : gH (dC, dI) kA (SHm q (wP wZ0 wN wH wB wC wL wK wU wV) (wP wZ0 vN vH vB vC vL vK vU vV) im PM PT lS lB lE lN) G H0) (hr_o0 : G o0 = some 0) (hm_him : el H0 o0 (dI 15 3) = some (.int him)) (hq0 : 0 ≤ him.toInt ∧ him.toInt ≤ 1) (hgz : ∀ i, 0 ≤ wZ i) (hgn : ∀ i, 6500000 ≤ wN i ∧ wN i ≤ 20200000) (hgh : 0 ≤ wH ∧ wH ≤ 40000) (hgb : 0 ≤ wB ∧ wB ≤ 3850000) (hgc : 0 ≤ wC ∧ wC ≤ 30) (hgi : 0 ≤ im ∧ im ≤ 1) (hgu : ∀ a t, G a = some (t + 1) → a = q t) : Met l yX12_back w_s_backE ({ frames := 1, cells := 0, slots := 0, locals := 20 }) (va_Pc [.ref o0] (fun U => U.heap = H0 ∧ va_K (dC, dI) vwCl (tyl kA) U ∧ EVS adK adV (gA G H0.size) U U.heap)) (va_Qi (fun (r : Int32) (u : (Nat → Int) × Int × Int × Int × (Nat → Prop) × (Nat → Prop) × (Nat → Nat) × (Nat → Nat)) => match u with | (wN1, wH1, wB1, wC1, wL1, wK1, wU1, wV1) => (0 ≤ r.toInt ∧ r.toInt ≤ 1) ∧ (((him.toInt = 0 ∨ wH < vH) ∧ r.toInt = 0 ∧ wN1 = wN ∧ wH1 = wH ∧ wB1 = wB ∧ wC1 = wC ∧ wL1 = wL ∧ wK1 = wK ∧ wU1 = wU ∧ wV1 = wV) ∨ (him.toInt = 1 ∧ vH ≤ wH ∧ r.toInt = 1 ∧ wN1 = vN ∧ wH1 = vH ∧ wB1 = vB ∧ wC1 = vC ∧ wL1 = vL ∧ wK1 = vK ∧ wU1 = vU ∧ wV1 = vV))) (fun (u : (Nat → Int) × Int × Int × Int × (Nat → Prop) × (Nat → Prop) × (Nat → Nat) × (Nat → Nat)) (t : State) => match u with | (wN1, wH1, wB1, wC1, wL1, wK1, wU1, wV1) => gH (dC, dI) kA (SHm q (wP wZ0 wN1 wH1 wB1 wC1 wL1 wK1 wU1 wV1) (wP wZ0 vN vH vB vC vL vK vU vV) im PM PT lS lB lE lN) G t.heap ∧ gF (dC, dI) SKm G ([(0, 0), (0, 9), (2, 0)] : List (Nat × Nat)) H0 t.heap) (gA G H0.size)) 0 0 (gA G H0.size) := by
  refine Met.ofW (cc := cX12_back) (maxL := 2) (ret := (some .boolean)) (by decide) rfl ?_
  intro p e s m args below meth c s₁ B hml hv
  obtain ⟨rfl, hH0, hK, hE⟩ := hv
  have hx := B.exec
  have hb := B.bytes
  have hr := B.returns
  have hts := atoms_spec (ws := w_s_backE) B.pre
  have hown : s.vm.findClass RX12 = some m.cls := findClass_of_methodNamed B.named
  have hlocks := B.notSynchronized
  subst hH0
  generalize hAe : gA G s.heap.size = A at hE ⊢
  have hA : ∀ q : Nat, s.heap.size ≤ q → A q := fun q h => by rw [← hAe]; exact Or.inr h
  have hG := gA_of hAe
  have hS : va_S A s.heap s.heap [] := va_S.rf
  have hF : gF (dC, dI) SKm G ([(0, 0), (0, 9), (2, 0)] : List (Nat × Nat)) s.heap s.heap := gF.rf
  have hl := lv_entry ([.ref o0]) (n := 2) (Nat.le_of_ble_eq_true rfl)
  rw [lg_entry_eq]
  generalize (lg_sl ([.ref o0]) ++ List.replicate (2 - (lg_sl ([.ref o0])).length) Slot.unset).toArray = ls at hl ⊢
  have hl : lv_has ls 2 [(0, .ref o0)] := hl
  refine lv_aload_n hx hb dX12_back_0 rfl (lv_at hl 0 rfl) ?_
  refine lv_iconst (v := 0) hx hb dX12_back_1 (by decide) ?_
  refine tw_put (v := .int 0) (ty := .int) hx hb hts bF_X12 tyX12 tyX12_ok nmX12 hown hK hT hG hS hr_o0 shm_0 rfl 0 (by decide) (ht_at hts 0 rfl) (fun _ h9 => h9) rfl (by decide +kernel) rfl rfl (gl_at rfl (gi_all _)) dX12_back_2 (fun H locs hT oq m1 oj hS => ?_)
  have hF := hF.put hr_o0 skm_0 oq oj (by decide)
  have m2 := (oj 3 (by decide) (by decide)).trans hm_him
  refine lv_aload_n hx hb dX12_back_5 rfl (lv_at hl 0 rfl) ?_
  refine tw_getM (v := .int him) hx hb hts bF_X12 hown hK hT hr_o0 shm_0 rfl 3 (by decide) (ht_at hts 1 rfl) (fun _ h9 => h9) m2 dX12_back_6 ?_
  refine lv_if_eq (tgt := 27) hx hb dX12_back_9 (by decide) (fun c3 => ?_) (fun c3 => ?_)
  · have t4 : him.toInt = 0 := ti_eq c3 rfl (by decide)
    refine lv_iconst (v := 0) hx hb dX12_back_27 (by decide) ?_
    exact W.zret (v := 0) hx hb hr (by decide) (fun t ht hW => ⟨⟨0, (wN, wH, wB, wC, wL, wK, wU, wV), rfl, (by exact ⟨(rg_t (a := 0) (by decide) (by first | decide | omega) (by first | decide | omega)), (Or.inl ⟨by omega, by decide, rfl, rfl, rfl, rfl, rfl, rfl, rfl, rfl⟩)⟩), by (try dsimp only); rw [ht]; exact ⟨hT, hF⟩⟩, hS.F ht⟩) hS.2.2 dX12_back_28
  · have t5 : him.toInt ≠ 0 := ti_ne c3 rfl (by decide)
    refine lv_aload_n hx hb dX12_back_12 rfl (lv_at hl 0 rfl) ?_
    refine tw_get hx hb hts bF_X12 hown hK hT hr_o0 shm_0 rfl 2 (by decide) (ht_at hts 2 rfl) (fun _ h9 => h9) dX12_back_13 (fun v9 m6 h9 => ?_)
    obtain ⟨rfl, hg7⟩ := h9 _ rfl
    refine lv_sipush (v := 1429) hx hb dX12_back_16 (by decide) ?_
    refine tw_iald (i := 1429) hx hb hK hT hg7 shm_3 rfl (by unfold vp_in; decide) dX12_back_19 (fun v9 m8 h9 => ?_)
    obtain ⟨x9, rfl, gx9, kx9⟩ := (gp_any h9)
    have q7 := gq_at hT hg7 shm_3 (by decide) m8
    have q6 := w_hou (z := wZ0) (n := vN) (h := vH) (b := vB) (c := vC) (i := (1429 : Int32).toNatClampNeg) (by decide)
    have t10 : vH ≤ x9.toInt ∧ x9.toInt ≤ vH := ⟨by rw [← q6.1]; exact q7.1, by rw [← q6.2]; exact q7.2.1⟩
    refine lv_aload_n hx hb dX12_back_20 rfl (lv_at hl 0 rfl) ?_
    have hFc := gA_free hG hA hS
    refine va_calli (va_runV (As := []) (rest := [.int x9]) ⟨hx, hb, hml, hown, hts⟩ (s_hour l dC dI kA adK adV G H q wZ0 wN wH wB wC wL wK wU wV (wP wZ0 vN vH vB vC vL vK vU vV) im PM PT lS lB lE lN o0 hT hr_o0 (fun _ => Int.le_refl 0) hgn hgh hgb hgc hgi hgu) (cwV 0 hts (goodIn_app (goodIn_r _ [6, 7, 8, 9] rfl (by decide +kernel)) (goodIn_ca (goodIn_r _ [4, 5] rfl (by decide +kernel)) (bs_in _ _))) rfl rfl rfl (by decide +kernel) ⟨(Nat.le_of_ble_eq_true rfl), (Nat.le_of_ble_eq_true rfl)⟩) ⟨fun a U g mk q => by obtain ⟨q0, q1, qK, qE⟩ := q; exact ⟨q0, q1, va_K.moved (u := U) (U := U.calling g mk a) (Vm.Alike.refl U.vm) qK, EVS.blind g mk a qE⟩, gH_rc hK hT hr_o0 shm_0 rfl, fun U hU hW => ⟨rfl, hU, va_K.moved hW.alike hK, hE.call hS hFc hU hW⟩⟩ rfl rfl hl.1 rfl (lv_room (Nat.le_of_ble_eq_true rfl)) dX12_back_21 ⟨(Nat.le_of_ble_eq_true rfl), (Nat.le_of_ble_eq_true rfl)⟩) hS (fun q _ h => hFc q h) hFc (fun r11 u t H locs ht hvm hw12 hB _ _ hS => ?_)
    obtain ⟨hT, hF1⟩ := hB
    rw [ht] at hT hF1
    have m13 := (hF1.fld hr_o0 skm_0 (k := 3) (by decide) (by decide)).trans m2
    have m14 := (hF1.fld hr_o0 skm_0 (k := 0) (by decide) (by decide)).trans m1
    have m15 := (el_kept (hF1.arr hg7 skm_3 (by decide))).trans m8
    have hF := hF.more hF1 (by decide)
    try dsimp only at hw12
    obtain ⟨h16, hf17⟩ := hw12
    refine lv_icmp_le (tgt := 29) hx hb dX12_back_24 (by decide) (fun c18 => ?_) (fun c18 => ?_)
    · have t19 : x9.toInt ≤ r11.toInt := ti_le c18 rfl rfl
      refine lv_iconst (v := 0) hx hb dX12_back_29 (by decide) ?_
      refine lv_istore_n (lv' := [(1, .int 0), (0, .ref o0)]) hx hb dX12_back_30 rfl hl (by decide) rfl (fun ls hl => ?_)
      have key38 : ∀ (n38 i20 : Nat), i20 + n38 = 1749 → 0 ≤ i20 → ∀ (H : Heap) (locs : List Loc), gH (dC, dI) kA (SHm q (pcP (wP wZ0 vN vH vB vC vL vK vU vV) (wP wZ0 wN wH wB wC wL wK wU wV) i20) (wP wZ0 vN vH vB vC vL vK vU vV) im PM PT lS lB lE lN) G H → gF (dC, dI) SKm G ([(0, 0), (0, 9), (2, 0)] : List (Nat × Nat)) s.heap H → va_S A s.heap H locs → el H o0 (dI 15 3) = some (.int him) → el H o0 (dI 15 0) = some (.int 0) → el H (q 2) (1429 : Int32).toNatClampNeg = some (.int x9) → ∀ ls : Array Slot, lv_has ls 2 [(1, .int (nI i20)), (0, .ref o0)] → W p l e (headSpec w_s_backE ({ frames := 1, cells := 0, slots := 0, locals := 20 })).room s m #[.ref o0] below meth c H locs 0 0 (MQ below (va_Qi (fun (r : Int32) (u : (Nat → Int) × Int × Int × Int × (Nat → Prop) × (Nat → Prop) × (Nat → Nat) × (Nat → Nat)) => match u with | (wN1, wH1, wB1, wC1, wL1, wK1, wU1, wV1) => (0 ≤ r.toInt ∧ r.toInt ≤ 1) ∧ (((him.toInt = 0 ∨ wH < vH) ∧ r.toInt = 0 ∧ wN1 = wN ∧ wH1 = wH ∧ wB1 = wB ∧ wC1 = wC ∧ wL1 = wL ∧ wK1 = wK ∧ wU1 = wU ∧ wV1 = wV) ∨ (him.toInt = 1 ∧ vH ≤ wH ∧ r.toInt = 1 ∧ wN1 = vN ∧ wH1 = vH ∧ wB1 = vB ∧ wC1 = vC ∧ wL1 = vL ∧ wK1 = vK ∧ wU1 = vU ∧ wV1 = vV))) (fun (u : (Nat → Int) × Int × Int × Int × (Nat → Prop) × (Nat → Prop) × (Nat → Nat) × (Nat → Nat)) (t : State) => match u with | (wN1, wH1, wB1, wC1, wL1, wK1, wU1, wV1) => gH (dC, dI) kA (SHm q (wP wZ0 wN1 wH1 wB1 wC1 wL1 wK1 wU1 wV1) (wP wZ0 vN vH vB vC vL vK vU vV) im PM PT lS lB lE lN) G t.heap ∧ gF (dC, dI) SKm G ([(0, 0), (0, 9), (2, 0)] : List (Nat × Nat)) s.heap t.heap) A) #[.ref o0] s 0 0 A) (F0 m 31 ls []) := by
        intro n38
        induction n38 with
        | zero =>
          intro i20 hn38 hlo39  H locs hT hF hS m21 m22 m23 ls hl
          obtain rfl : 1749 = i20 := by omega
          refine lv_iload_n hx hb dX12_back_31 rfl (lv_at hl 0 rfl) ?_
          refine lv_sipush (v := 1749) hx hb dX12_back_32 (by decide) ?_
          refine lv_icmp_ge (tgt := 56) hx hb dX12_back_35 (by decide) (fun c40 => ?_) (fun c40 => (by exfalso; have q9 : ((1749 : Nat) : Int) < 1749 := ti_nle c40 (by decide) (nI_toInt (by omega)); omega))
          have t41 : 1749 ≤ ((1749 : Nat) : Int) := ti_le c40 (by decide) (nI_toInt (by omega))
          have hT : gH (dC, dI) kA (SHm q (wP wZ0 vN vH vB vC vL vK vU vV) (wP wZ0 vN vH vB vC vL vK vU vV) im PM PT lS lB lE lN) G H := SHm_w hT (fun _ hi _ p => pc_all hi p)
          refine lv_aload_n hx hb dX12_back_56 rfl (lv_at hl 1 rfl) ?_
          refine lv_iconst (v := 0) hx hb dX12_back_57 (by decide) ?_
          refine tw_put (v := .int 0) (ty := .int) hx hb hts bF_X12 tyX12 tyX12_ok nmX12 hown hK hT hG hS hr_o0 shm_0 rfl 9 (by decide) (ht_at hts 9 rfl) (fun _ h9 => h9) rfl (by decide +kernel) rfl rfl (gl_at rfl (gi_of (show (0 : Int32).toInt = 0 from (by decide)) (by first | decide | omega) (by first | decide | omega))) dX12_back_58 (fun H locs hT oq m42 oj hS => ?_)
          have hF := hF.put hr_o0 skm_0 oq oj (by decide)
          refine lv_iconst (v := 1) hx hb dX12_back_61 (by decide) ?_
          exact W.zret (v := 1) hx hb hr (by decide) (fun t ht hW => ⟨⟨1, (vN, vH, vB, vC, vL, vK, vU, vV), rfl, (by exact ⟨(rg_t (a := 1) (by decide) (by first | decide | omega) (by first | decide | omega)), (Or.inr ⟨by omega, by omega, by decide, rfl, rfl, rfl, rfl, rfl, rfl, rfl, rfl⟩)⟩), by (try dsimp only); rw [ht]; exact ⟨hT, hF⟩⟩, hS.F ht⟩) hS.2.2 dX12_back_62
        | succ n38 ih38 =>
          intro i20 hn38 hlo39  H locs hT hF hS m21 m22 m23 ls hl
          have hlt45 : i20 < 1749 := by omega
          refine lv_iload_n hx hb dX12_back_31 rfl (lv_at hl 0 rfl) ?_
          refine lv_sipush (v := 1749) hx hb dX12_back_32 (by decide) ?_
          refine lv_icmp_ge (tgt := 56) hx hb dX12_back_35 (by decide) (fun c46 => (by exfalso; have q9 : 1749 ≤ ((i20 : Nat) : Int) := ti_le c46 (by decide) (nI_toInt (by omega)); omega)) (fun c46 => ?_)
          have t47 : ((i20 : Nat) : Int) < 1749 := ti_nle c46 (by decide) (nI_toInt (by omega))
          refine lv_aload_n hx hb dX12_back_38 rfl (lv_at hl 1 rfl) ?_
          refine tw_get hx hb hts bF_X12 hown hK hT hr_o0 shm_0 rfl 1 (by decide) (ht_at hts 4 rfl) (fun _ h9 => h9) dX12_back_39 (fun v9 m48 h9 => ?_)
          obtain ⟨rfl, hg49⟩ := h9 _ rfl
          refine lv_iload_n hx hb dX12_back_42 rfl (lv_at hl 0 rfl) ?_
          refine lv_aload_n hx hb dX12_back_43 rfl (lv_at hl 1 rfl) ?_
          refine tw_get hx hb hts bF_X12 hown hK hT hr_o0 shm_0 rfl 2 (by decide) (ht_at hts 2 rfl) (fun _ h9 => h9) dX12_back_44 (fun v9 m50 h9 => ?_)
          obtain ⟨rfl, hg51⟩ := h9 _ rfl
          refine lv_iload_n hx hb dX12_back_47 rfl (lv_at hl 0 rfl) ?_
          refine tw_iald (i := (nI i20)) hx hb hK hT hg7 shm_3 rfl (vp_in_nI (by omega) (by decide)) dX12_back_48 (fun v9 m52 h9 => ?_)
          obtain ⟨x53, rfl, gx53, kx53⟩ := (gp_any h9)
          have t54 : (nI i20).toNatClampNeg = i20 := tn_nI (by omega)
          refine tw_iast2 (Sg1 := (SHm q (pcP (wP wZ0 vN vH vB vC vL vK vU vV) (wP wZ0 wN wH wB wC wL wK wU wV) (i20 + 1)) (wP wZ0 vN vH vB vC vL vK vU vV) im PM PT lS lB lE lN)) (i := (nI i20)) (x := x53) hx hb hK hT hG hS hg49 shm_2 rfl shm_2 shm_o2 (fun b9 h9 => hgu b9 1 h9) (vp_in_nI (by omega) (by decide)) (⟨_, rfl, by rw [show (nI i20).toNatClampNeg = i20 from tn_nI (by omega)]; exact pc_at (by have q8 := gq_at hT hg7 shm_3 (by have q9 := tn_of (show (nI i20).toInt = ((i20 : Nat) : Int) from (nI_toInt (by omega))) (by omega); omega) m52; rw [show (nI i20).toNatClampNeg = i20 from tn_nI (by omega)] at q8; exact q8)⟩) (fun k9 hk9 hne9 v9 hv9 he9 => by obtain ⟨x9, rfl, p9⟩ := he9; exact ⟨x9, rfl, pc_st (by omega) p9⟩) dX12_back_49 (fun H locs hT oq m55 oi hS => ?_)
          have hF := hF.ast hg49 skm_2 oq (by decide)
          have m56 := (el_kept (oq _ (gne hr_o0 hg49 (by decide)))).trans m21
          have m57 := (el_kept (oq _ (gne hr_o0 hg49 (by decide)))).trans m22
          have m58 := (el_kept (oq _ (gne hg7 hg49 (by decide)))).trans m23
          refine lv_iinc (v := nI (i20 + 1)) (lv' := [(1, .int (nI (i20 + 1))), (0, .ref o0)]) hx hb dX12_back_50 hl (k := 0) rfl (nI_add i20 1) (by decide) rfl (fun ls hl => ?_)
          refine lv_goto (tgt := 31) hx hb dX12_back_53 (by decide) ?_
          exact ih38 (i20 + 1) (by omega) (by omega) _ _ hT hF hS m56 m57 m58 ls (lv_sub hl [0, 1] rfl)
      have hT : gH (dC, dI) kA (SHm q (pcP (wP wZ0 vN vH vB vC vL vK vU vV) (wP wZ0 wN wH wB wC wL wK wU wV) 0) (wP wZ0 vN vH vB vC vL vK vU vV) im PM PT lS lB lE lN) G H := SHm_w hT (fun _ _ _ p => pc_0 p)
      exact key38 (1749 - 0) 0 (by omega) (Nat.le_refl _) _ _ hT hF hS m13 m14 m15 ls (lv_sub hl [0, 1] rfl)
    · have t60 : r11.toInt < x9.toInt := ti_nle c18 rfl rfl
      refine lv_iconst (v := 0) hx hb dX12_back_27 (by decide) ?_
      exact W.zret (v := 0) hx hb hr (by decide) (fun t ht hW => ⟨⟨0, (wN, wH, wB, wC, wL, wK, wU, wV), rfl, (by exact ⟨(rg_t (a := 0) (by decide) (by first | decide | omega) (by first | decide | omega)), (Or.inl ⟨by omega, by decide, rfl, rfl, rfl, rfl, rfl, rfl, rfl, rfl⟩)⟩), by (try dsimp only); rw [ht]; exact ⟨hT, hF⟩⟩, hS.F ht⟩) hS.2.2 dX12_back_28
def w_s_tideY : List Cond := .code yX12_tide cX12_tide 3 none :: (HAppend.hAppend (α := List Cond) (β := List Cond) (γ := List Cond) [.fieldLink RX12 194 "SeaLandModel" "thrown" "I", .code yX12_in cX12_in 3 (some .boolean), .methodLink RX12 197 yX12_in, .static yX12_in, .initialized RX12, .code yX12_throwsIf cX12_throwsIf 3 (some .boolean), .methodLink RX12 224 yX12_throwsIf, .instanceMethod yX12_throwsIf, .selects RX12 yX12_throwsIf yX12_throwsIf, .fieldLink RX12 9 "SeaLandModel" "world" "[I", .fieldLink RX12 238 "SeaLandModel" "rows" "I"] bs)
set_option maxHeartbeats 4000000 in
set_option maxRecDepth 100000 in
theorem s_tideY (l : Launch) (dC : Nat → ClassId) (dI : Nat → Nat → Nat) (kA : Nat → ClassId) (adK adV : Nat → Nat) (G : gT) (H0 : Heap) (q : Nat → Nat) (wZ wN : Nat → Int) (wH wB wC : Int) (wL wK : Nat → Prop) (wU wV : Nat → Nat) (PI : Nat → Int → Prop) (im : Int) (PM PT : Nat → Int → Prop) (lS lB lE : Nat → Nat → Int → Prop) (lN : Nat → Int) (o0 : Nat) (p0 : Int32) (p1 : Int32)  (hT : gH (dC, dI) kA (SHm q (wP wZ wN wH wB wC wL wK wU wV) PI im PM PT lS lB lE lN) G H0) (hr_o0 : G o0 = some 0) (hgz : ∀ i, 0 ≤ wZ i) (hgn : ∀ i, 6500000 ≤ wN i ∧ wN i ≤ 20200000) (hgh : 0 ≤ wH ∧ wH ≤ 40000) (hgb : 0 ≤ wB ∧ wB ≤ 3850000) (hgc : 0 ≤ wC ∧ wC ≤ 30) (hgi : 0 ≤ im ∧ im ≤ 1) (hgu : ∀ a t, G a = some (t + 1) → a = q t) : Met l yX12_tide w_s_tideY ({ frames := 1, cells := 0, slots := 0, locals := 22 }) (va_Pc [.ref o0, .int p0, .int p1] (fun U => U.heap = H0 ∧ va_K (dC, dI) vwCl (tyl kA) U ∧ EVS adK adV (gA G H0.size) U U.heap)) (va_Qv (fun (u : Int32 × (Nat → Nat)) => match u with | (t1, wU1) => (∀ w, w < 30 → wU1 w = wU w) ∧ ((tiC p0.toInt p1.toInt = 0 ∧ t1.toInt = 0 ∧ SU wU1 (30 + p0.toNatClampNeg) = p1.toInt ∧ ∀ j, 30 ≤ j → j ≠ 30 + p0.toNatClampNeg → SU wU1 j = SU wU j) ∨ (tiC p0.toInt p1.toInt ≠ 0 ∧ t1.toInt = tiC p0.toInt p1.toInt ∧ wU1 = wU))) (fun (u : Int32 × (Nat → Nat)) (t : State) => match u with | (t1, wU1) => gH (dC, dI) kA (SHm q (wP wZ wN wH wB wC wL wK wU1 wV) PI im PM PT lS lB lE lN) G t.heap ∧ gF (dC, dI) SKm G ([(0, 0), (0, 9), (2, 0)] : List (Nat × Nat)) H0 t.heap ∧ el t.heap o0 (dI 15 0) = some (.int t1)) (gA G H0.size)) 0 0 (gA G H0.size) := by
  refine Met.ofW (cc := cX12_tide) (maxL := 3) (ret := none) (by decide) rfl ?_
  intro p e s m args below meth c s₁ B hml hv
  obtain ⟨rfl, hH0, hK, hE⟩ := hv
  have hx := B.exec
  have hb := B.bytes
  have hr := B.returns
  have hts := atoms_spec (ws := w_s_tideY) B.pre
  have hown : s.vm.findClass RX12 = some m.cls := findClass_of_methodNamed B.named
  have hlocks := B.notSynchronized
  subst hH0
  generalize hAe : gA G s.heap.size = A at hE ⊢
  have hA : ∀ q : Nat, s.heap.size ≤ q → A q := fun q h => by rw [← hAe]; exact Or.inr h
  have hG := gA_of hAe
  have hS : va_S A s.heap s.heap [] := va_S.rf
  have hF : gF (dC, dI) SKm G ([(0, 0), (0, 9), (2, 0)] : List (Nat × Nat)) s.heap s.heap := gF.rf
  have hl := lv_entry ([.ref o0, .int p0, .int p1]) (n := 3) (Nat.le_of_ble_eq_true rfl)
  rw [lg_entry_eq]
  generalize (lg_sl ([.ref o0, .int p0, .int p1]) ++ List.replicate (3 - (lg_sl ([.ref o0, .int p0, .int p1])).length) Slot.unset).toArray = ls at hl ⊢
  have hl : lv_has ls 3 [(0, .ref o0), (1, .int p0), (2, .int p1)] := hl
  refine lv_aload_n hx hb dX12_tide_0 rfl (lv_at hl 0 rfl) ?_
  refine lv_iconst (v := 0) hx hb dX12_tide_1 (by decide) ?_
  refine tw_put (v := .int 0) (ty := .int) hx hb hts bF_X12 tyX12 tyX12_ok nmX12 hown hK hT hG hS hr_o0 shm_0 rfl 0 (by decide) (ht_at hts 0 rfl) (fun _ h9 => h9) rfl (by decide +kernel) rfl rfl (gl_at rfl (gi_all _)) dX12_tide_2 (fun H locs hT oq m1 oj hS => ?_)
  have hF := hF.put hr_o0 skm_0 oq oj (by decide)
  refine lv_aload_n hx hb dX12_tide_5 rfl (lv_at hl 0 rfl) ?_
  refine lv_iload_n hx hb dX12_tide_6 rfl (lv_at hl 1 rfl) ?_
  refine lv_iconst (v := 0) hx hb dX12_tide_7 (by decide) ?_
  refine lv_bipush (v := 11) hx hb dX12_tide_8 (by decide) ?_
  have hFc := gA_free hG hA hS
  refine va_calli (va_runS (As := [.int p0, .int 0, .int 11]) (rest := [.ref o0]) ⟨hx, hb, hml, hown, hts⟩ (s_in l dC dI kA adK adV G H q wZ wN wH wB wC wL wK wU wV PI im PM PT lS lB lE lN p0 0 11 hT hgz hgn hgh hgb hgc hgi hgu) (va_cwS 3 hts (goodIn_app (goodIn_r _ [3, 4, 5] rfl (by decide +kernel)) (goodIn_ca (goodIn_r _ [2] rfl (by decide +kernel)) (bs_in _ _))) rfl rfl rfl (by decide +kernel) ⟨(Nat.le_of_ble_eq_true rfl), (Nat.le_of_ble_eq_true rfl)⟩) ⟨fun a U g mk q => by obtain ⟨q0, q1, qK, qE⟩ := q; exact ⟨q0, q1, va_K.moved (u := U) (U := U.calling g mk a) (Vm.Alike.refl U.vm) qK, EVS.blind g mk a qE⟩, fun U hU hW => ⟨rfl, hU, va_K.moved hW.alike hK, hE.call hS hFc hU hW⟩⟩ rfl rfl hl.1 rfl (lv_room (Nat.le_of_ble_eq_true rfl)) dX12_tide_10 ⟨(Nat.le_of_ble_eq_true rfl), (Nat.le_of_ble_eq_true rfl)⟩) hS (fun q _ h => hFc q h) hFc (fun r2 u t H locs ht hvm hw3 hB _ _ hS => ?_)
  obtain ⟨hT, hF1⟩ := hB
  rw [ht] at hT hF1
  have m4 := (hF1.fld hr_o0 skm_0 (k := 0) (by decide) (by decide)).trans m1
  have hF := hF.more hF1 (by decide)
  try dsimp only at hw3
  obtain ⟨h5, hi6, hi7⟩ := hw3
  refine lv_if_eq (tgt := 29) hx hb dX12_tide_13 (by decide) (fun c8 => ?_) (fun c8 => ?_)
  · have t9 : r2.toInt = 0 := ti_eq c8 rfl (by decide)
    have t10 : (0 : Int32).toInt = 0 := by decide
    have t11 : (11 : Int32).toInt = 11 := by decide
    have t12 : p0.toInt < (0 : Int32).toInt ∨ (11 : Int32).toInt < p0.toInt := hi7 c8
    refine lv_iconst (v := 1) hx hb dX12_tide_29 (by decide) ?_
    refine lv_goto (tgt := 34) hx hb dX12_tide_30 (by decide) ?_
    refine lv_iconst (v := 1) hx hb dX12_tide_34 (by decide) ?_
    have hFc := gA_free hG hA hS
    refine va_calli (va_runV (As := [.int 1, .int 1]) (rest := []) ⟨hx, hb, hml, hown, hts⟩ (s_throwsIfP l dC dI kA adK adV G H q wZ wN wH wB wC wL wK wU wV PI im PM PT lS lB lE lN o0 1 1 0 hT hr_o0 m4 (rg_t (a := 1) (by decide) (by first | decide | omega) (by first | decide | omega)) hgz hgn hgh hgb hgc hgi hgu) (cwV 2 hts (goodIn_app (goodIn_r _ [7, 8, 9, 5] rfl (by decide +kernel)) (goodIn_ca (goodIn_r _ [6, 1] rfl (by decide +kernel)) (bs_in _ _))) rfl rfl rfl (by decide +kernel) ⟨(Nat.le_of_ble_eq_true rfl), (Nat.le_of_ble_eq_true rfl)⟩) ⟨fun a U g mk q => by obtain ⟨q0, q1, qK, qE⟩ := q; exact ⟨q0, q1, va_K.moved (u := U) (U := U.calling g mk a) (Vm.Alike.refl U.vm) qK, EVS.blind g mk a qE⟩, gH_rc hK hT hr_o0 shm_0 rfl, fun U hU hW => ⟨rfl, hU, va_K.moved hW.alike hK, hE.call hS hFc hU hW⟩⟩ rfl rfl hl.1 rfl (lv_room (Nat.le_of_ble_eq_true rfl)) dX12_tide_35 ⟨(Nat.le_of_ble_eq_true rfl), (Nat.le_of_ble_eq_true rfl)⟩) hS (fun q _ h => hFc q h) hFc (fun r13 u t H locs ht hvm hw14 hB _ _ hS => ?_)
    obtain ⟨u15, rfl⟩ : ∃ z, z = u := ⟨_, rfl⟩
    obtain ⟨hT, hF1, m16⟩ := hB
    rw [ht] at hT hF1 m16
    have hF := hF.more hF1 (by decide)
    try dsimp only at hw14
    obtain ⟨h18, hf19, hd20⟩ := hw14
    have t21 : (1 : Int32).toInt = 1 := by decide
    have t22 : (1 : Int32).toInt = 1 := by decide
    have t23 : (0 : Int32).toInt = 0 := by decide
    obtain rfl : (1 : Int32) = r13 := hd20.symm
    refine lv_if_eq (tgt := 42) hx hb dX12_tide_38 (by decide) (fun c24 => absurd c24 (by decide)) (fun c24 => ?_)
    exact W.vret hx hb hr (fun t ht hW => ⟨⟨(u15, wU), rfl, (by exact ⟨(fun _ _ => rfl), (Or.inr ⟨by have := tiC_s p0.toInt p1.toInt; have q0 : (0 : Int32).toInt = 0 := (by decide); have q1 : (1 : Int32).toInt = 1 := (by decide); have qm : (-1 : Int32).toInt = -1 := (by decide); omega, by have := tiC_s p0.toInt p1.toInt; have q0 : (0 : Int32).toInt = 0 := (by decide); have q1 : (1 : Int32).toInt = 1 := (by decide); have qm : (-1 : Int32).toInt = -1 := (by decide); omega, rfl⟩)⟩), by (try dsimp only); rw [ht]; exact ⟨hT, hF, m16⟩⟩, hS.F ht⟩) hS.2.2 dX12_tide_41
  · have t25 : r2.toInt ≠ 0 := ti_ne c8 rfl (by decide)
    have t26 : (0 : Int32).toInt = 0 := by decide
    have t27 : (11 : Int32).toInt = 11 := by decide
    have t28 : (0 : Int32).toInt ≤ p0.toInt ∧ p0.toInt ≤ (11 : Int32).toInt := hi6 ((bit_of ⟨by omega, by omega⟩).resolve_left c8)
    refine lv_iload_n hx hb dX12_tide_16 rfl (lv_at hl 2 rfl) ?_
    refine lv_sipush (v := (-400)) hx hb dX12_tide_17 (by decide) ?_
    refine lv_sipush (v := 400) hx hb dX12_tide_20 (by decide) ?_
    have hFc := gA_free hG hA hS
    refine va_calli (va_runS (As := [.int p1, .int (-400), .int 400]) (rest := [.ref o0]) ⟨hx, hb, hml, hown, hts⟩ (s_in l dC dI kA adK adV G H q wZ wN wH wB wC wL wK wU wV PI im PM PT lS lB lE lN p1 (-400) 400 hT hgz hgn hgh hgb hgc hgi hgu) (va_cwS 3 hts (goodIn_app (goodIn_r _ [3, 4, 5] rfl (by decide +kernel)) (goodIn_ca (goodIn_r _ [2] rfl (by decide +kernel)) (bs_in _ _))) rfl rfl rfl (by decide +kernel) ⟨(Nat.le_of_ble_eq_true rfl), (Nat.le_of_ble_eq_true rfl)⟩) ⟨fun a U g mk q => by obtain ⟨q0, q1, qK, qE⟩ := q; exact ⟨q0, q1, va_K.moved (u := U) (U := U.calling g mk a) (Vm.Alike.refl U.vm) qK, EVS.blind g mk a qE⟩, fun U hU hW => ⟨rfl, hU, va_K.moved hW.alike hK, hE.call hS hFc hU hW⟩⟩ rfl rfl hl.1 rfl (lv_room (Nat.le_of_ble_eq_true rfl)) dX12_tide_23 ⟨(Nat.le_of_ble_eq_true rfl), (Nat.le_of_ble_eq_true rfl)⟩) hS (fun q _ h => hFc q h) hFc (fun r29 u t H locs ht hvm hw30 hB _ _ hS => ?_)
    obtain ⟨hT, hF1⟩ := hB
    rw [ht] at hT hF1
    have m31 := (hF1.fld hr_o0 skm_0 (k := 0) (by decide) (by decide)).trans m4
    have hF := hF.more hF1 (by decide)
    try dsimp only at hw30
    obtain ⟨h32, hi33, hi34⟩ := hw30
    refine lv_if_ne (tgt := 33) hx hb dX12_tide_26 (by decide) (fun c35 => ?_) (fun c35 => ?_)
    · have t36 : r29.toInt ≠ 0 := ti_ne c35 rfl (by decide)
      have t37 : (-400 : Int32).toInt = (-400) := by decide
      have t38 : (400 : Int32).toInt = 400 := by decide
      have t39 : (-400 : Int32).toInt ≤ p1.toInt ∧ p1.toInt ≤ (400 : Int32).toInt := hi33 ((bit_of ⟨by omega, by omega⟩).resolve_left c35)
      refine lv_iconst (v := 0) hx hb dX12_tide_33 (by decide) ?_
      refine lv_iconst (v := 1) hx hb dX12_tide_34 (by decide) ?_
      have hFc := gA_free hG hA hS
      refine va_calli (va_runV (As := [.int 0, .int 1]) (rest := []) ⟨hx, hb, hml, hown, hts⟩ (s_throwsIfP l dC dI kA adK adV G H q wZ wN wH wB wC wL wK wU wV PI im PM PT lS lB lE lN o0 0 1 0 hT hr_o0 m31 (rg_t (a := 0) (by decide) (by first | decide | omega) (by first | decide | omega)) hgz hgn hgh hgb hgc hgi hgu) (cwV 2 hts (goodIn_app (goodIn_r _ [7, 8, 9, 5] rfl (by decide +kernel)) (goodIn_ca (goodIn_r _ [6, 1] rfl (by decide +kernel)) (bs_in _ _))) rfl rfl rfl (by decide +kernel) ⟨(Nat.le_of_ble_eq_true rfl), (Nat.le_of_ble_eq_true rfl)⟩) ⟨fun a U g mk q => by obtain ⟨q0, q1, qK, qE⟩ := q; exact ⟨q0, q1, va_K.moved (u := U) (U := U.calling g mk a) (Vm.Alike.refl U.vm) qK, EVS.blind g mk a qE⟩, gH_rc hK hT hr_o0 shm_0 rfl, fun U hU hW => ⟨rfl, hU, va_K.moved hW.alike hK, hE.call hS hFc hU hW⟩⟩ rfl rfl hl.1 rfl (lv_room (Nat.le_of_ble_eq_true rfl)) dX12_tide_35 ⟨(Nat.le_of_ble_eq_true rfl), (Nat.le_of_ble_eq_true rfl)⟩) hS (fun q _ h => hFc q h) hFc (fun r40 u t H locs ht hvm hw41 hB _ _ hS => ?_)
      obtain ⟨u42, rfl⟩ : ∃ z, z = u := ⟨_, rfl⟩
      obtain ⟨hT, hF1, m43⟩ := hB
      rw [ht] at hT hF1 m43
      have hF := hF.more hF1 (by decide)
      try dsimp only at hw41
      obtain ⟨h45, hf46, hd47⟩ := hw41
      have t48 : (0 : Int32).toInt = 0 := by decide
      have t49 : (1 : Int32).toInt = 1 := by decide
      have t50 : (0 : Int32).toInt = 0 := by decide
      obtain rfl : (0 : Int32) = r40 := hd47.symm
      refine lv_if_eq (tgt := 42) hx hb dX12_tide_38 (by decide) (fun c51 => ?_) (fun c51 => absurd c51 (by decide))
      refine lv_aload_n hx hb dX12_tide_42 rfl (lv_at hl 0 rfl) ?_
      refine tw_get hx hb hts bF_X12 hown hK hT hr_o0 shm_0 rfl 1 (by decide) (ht_at hts 9 rfl) (fun _ h9 => h9) dX12_tide_43 (fun v9 m52 h9 => ?_)
      obtain ⟨rfl, hg53⟩ := h9 _ rfl
      refine lv_sipush (v := 1430) hx hb dX12_tide_46 (by decide) ?_
      refine lv_iload_n hx hb dX12_tide_49 rfl (lv_at hl 1 rfl) ?_
      refine lv_iadd hx hb dX12_tide_50 ?_
      refine lv_topi (fun x54 ex54 => ?_)
      have t55 : x54.toInt = 1430 + p0.toInt := ti_add ex54 (by decide) rfl (by omega) (by omega)
      refine lv_iload_n hx hb dX12_tide_51 rfl (lv_at hl 2 rfl) ?_
      refine tw_iast2 (Sg1 := (SHm q (wP wZ wN wH wB wC wL wK (sU wU (x54.toNatClampNeg - 1400) (p1.toInt + 1000).toNat) wV) PI im PM PT lS lB lE lN)) (i := x54) (x := p1) hx hb hK hT hG hS hg53 shm_2 rfl shm_2 shm_o2 (fun b9 h9 => hgu b9 1 h9) (vin_t (a := x54.toInt) rfl (by omega) (by omega)) (gp_of (gi_of (show p1.toInt = p1.toInt from rfl) (by omega) (by omega)) (w_tid (by have q9 := tn_of (show x54.toInt = x54.toInt from rfl) (show (0 : Int) ≤ x54.toInt from by omega); omega)) (wX_s (k := x54.toNatClampNeg - 1400) (v := (p1.toInt + 1000).toNat) ⟨by have q9 := tn_of (show x54.toInt = x54.toInt from rfl) (show (0 : Int) ≤ x54.toInt from by omega); omega, by have q9 := tn_of (show x54.toInt = x54.toInt from rfl) (show (0 : Int) ≤ x54.toInt from by omega); omega⟩ (by omega) (by have := (show p1.toInt = p1.toInt from rfl); omega))) (fun k9 hk9 hne9 v9 hv9 he9 => by obtain ⟨x9, rfl, p9⟩ := he9; exact ⟨x9, rfl, wP_U (by omega) (pl := x54.toNatClampNeg) ⟨by have q9 := tn_of (show x54.toInt = x54.toInt from rfl) (show (0 : Int) ≤ x54.toInt from by omega); omega, by have q9 := tn_of (show x54.toInt = x54.toInt from rfl) (show (0 : Int) ≤ x54.toInt from by omega); omega⟩ hne9 p9⟩) dX12_tide_52 (fun H locs hT oq m56 oi hS => ?_)
      have hF := hF.ast hg53 skm_2 oq (by decide)
      have m57 := (el_kept (oq _ (gne hr_o0 hg53 (by decide)))).trans m43
      refine lv_aload_n hx hb dX12_tide_53 rfl (lv_at hl 0 rfl) ?_
      refine lv_iconst (v := 0) hx hb dX12_tide_54 (by decide) ?_
      refine tw_put (v := .int 0) (ty := .int) hx hb hts bF_X12 tyX12 tyX12_ok nmX12 hown hK hT hG hS hr_o0 shm_0 rfl 9 (by decide) (ht_at hts 10 rfl) (fun _ h9 => h9) rfl (by decide +kernel) rfl rfl (gl_at rfl (gi_of (show (0 : Int32).toInt = 0 from (by decide)) (by first | decide | omega) (by first | decide | omega))) dX12_tide_55 (fun H locs hT oq m58 oj hS => ?_)
      have hF := hF.put hr_o0 skm_0 oq oj (by decide)
      have m59 := (oj 0 (by decide) (by decide)).trans m57
      exact W.vret hx hb hr (fun t ht hW => ⟨⟨(u42, (sU wU (x54.toNatClampNeg - 1400) (p1.toInt + 1000).toNat)), rfl, (by exact ⟨(fun w9 h9 => by have := tn_of (show x54.toInt = x54.toInt from rfl) (by omega); rw [sU_o (by omega)]), (Or.inl ⟨by have := tiC_s p0.toInt p1.toInt; omega, by have q0 : (0 : Int32).toInt = 0 := (by decide); have q1 : (1 : Int32).toInt = 1 := (by decide); have qm : (-1 : Int32).toInt = -1 := (by decide); omega, (by have q8 := tn_of (i := p0) rfl (by omega); have := tn_of (show x54.toInt = x54.toInt from rfl) (by omega); unfold SU sU; (repeat' split) <;> omega), (fun j9 h9 n9 => by have q8 := tn_of (i := p0) rfl (by omega); have := tn_of (show x54.toInt = x54.toInt from rfl) (by omega); unfold SU sU; (repeat' split) <;> omega)⟩)⟩), by (try dsimp only); rw [ht]; exact ⟨hT, hF, m59⟩⟩, hS.F ht⟩) hS.2.2 dX12_tide_58
    · have t61 : r29.toInt = 0 := ti_eq c35 rfl (by decide)
      have t62 : (-400 : Int32).toInt = (-400) := by decide
      have t63 : (400 : Int32).toInt = 400 := by decide
      have t64 : p1.toInt < (-400 : Int32).toInt ∨ (400 : Int32).toInt < p1.toInt := hi34 c35
      refine lv_iconst (v := 1) hx hb dX12_tide_29 (by decide) ?_
      refine lv_goto (tgt := 34) hx hb dX12_tide_30 (by decide) ?_
      refine lv_iconst (v := 1) hx hb dX12_tide_34 (by decide) ?_
      have hFc := gA_free hG hA hS
      refine va_calli (va_runV (As := [.int 1, .int 1]) (rest := []) ⟨hx, hb, hml, hown, hts⟩ (s_throwsIfP l dC dI kA adK adV G H q wZ wN wH wB wC wL wK wU wV PI im PM PT lS lB lE lN o0 1 1 0 hT hr_o0 m31 (rg_t (a := 1) (by decide) (by first | decide | omega) (by first | decide | omega)) hgz hgn hgh hgb hgc hgi hgu) (cwV 2 hts (goodIn_app (goodIn_r _ [7, 8, 9, 5] rfl (by decide +kernel)) (goodIn_ca (goodIn_r _ [6, 1] rfl (by decide +kernel)) (bs_in _ _))) rfl rfl rfl (by decide +kernel) ⟨(Nat.le_of_ble_eq_true rfl), (Nat.le_of_ble_eq_true rfl)⟩) ⟨fun a U g mk q => by obtain ⟨q0, q1, qK, qE⟩ := q; exact ⟨q0, q1, va_K.moved (u := U) (U := U.calling g mk a) (Vm.Alike.refl U.vm) qK, EVS.blind g mk a qE⟩, gH_rc hK hT hr_o0 shm_0 rfl, fun U hU hW => ⟨rfl, hU, va_K.moved hW.alike hK, hE.call hS hFc hU hW⟩⟩ rfl rfl hl.1 rfl (lv_room (Nat.le_of_ble_eq_true rfl)) dX12_tide_35 ⟨(Nat.le_of_ble_eq_true rfl), (Nat.le_of_ble_eq_true rfl)⟩) hS (fun q _ h => hFc q h) hFc (fun r65 u t H locs ht hvm hw66 hB _ _ hS => ?_)
      obtain ⟨u67, rfl⟩ : ∃ z, z = u := ⟨_, rfl⟩
      obtain ⟨hT, hF1, m68⟩ := hB
      rw [ht] at hT hF1 m68
      have hF := hF.more hF1 (by decide)
      try dsimp only at hw66
      obtain ⟨h70, hf71, hd72⟩ := hw66
      have t73 : (1 : Int32).toInt = 1 := by decide
      have t74 : (1 : Int32).toInt = 1 := by decide
      have t75 : (0 : Int32).toInt = 0 := by decide
      obtain rfl : (1 : Int32) = r65 := hd72.symm
      refine lv_if_eq (tgt := 42) hx hb dX12_tide_38 (by decide) (fun c76 => absurd c76 (by decide)) (fun c76 => ?_)
      exact W.vret hx hb hr (fun t ht hW => ⟨⟨(u67, wU), rfl, (by exact ⟨(fun _ _ => rfl), (Or.inr ⟨by have := tiC_s p0.toInt p1.toInt; have q0 : (0 : Int32).toInt = 0 := (by decide); have q1 : (1 : Int32).toInt = 1 := (by decide); have qm : (-1 : Int32).toInt = -1 := (by decide); omega, by have := tiC_s p0.toInt p1.toInt; have q0 : (0 : Int32).toInt = 0 := (by decide); have q1 : (1 : Int32).toInt = 1 := (by decide); have qm : (-1 : Int32).toInt = -1 := (by decide); omega, rfl⟩)⟩), by (try dsimp only); rw [ht]; exact ⟨hT, hF, m68⟩⟩, hS.F ht⟩) hS.2.2 dX12_tide_41
def w_s_stormY : List Cond := .code yX12_storm cX12_storm 5 (some .int) :: (HAppend.hAppend (α := List Cond) (β := List Cond) (γ := List Cond) [.fieldLink RX12 194 "SeaLandModel" "thrown" "I", .code yX12_throwsIf cX12_throwsIf 3 (some .boolean), .methodLink RX12 224 yX12_throwsIf, .instanceMethod yX12_throwsIf, .selects RX12 yX12_throwsIf yX12_throwsIf, .initialized RX12, .constant RX12 242 40000, .code yX12_in cX12_in 3 (some .boolean), .methodLink RX12 197 yX12_in, .static yX12_in, .fieldLink RX12 9 "SeaLandModel" "world" "[I", .fieldLink RX12 238 "SeaLandModel" "rows" "I"] bs)
set_option maxHeartbeats 4000000 in
set_option maxRecDepth 100000 in
theorem s_stormY (l : Launch) (dC : Nat → ClassId) (dI : Nat → Nat → Nat) (kA : Nat → ClassId) (adK adV : Nat → Nat) (G : gT) (H0 : Heap) (q : Nat → Nat) (wZ wN : Nat → Int) (wH wB wC : Int) (wL wK : Nat → Prop) (wU wV : Nat → Nat) (PI : Nat → Int → Prop) (im : Int) (PM PT : Nat → Int → Prop) (lS lB lE : Nat → Nat → Int → Prop) (lN : Nat → Int) (o0 : Nat) (p0 : Int32) (p1 : Int32) (p2 : Int32)  (hT : gH (dC, dI) kA (SHm q (wP wZ wN wH wB wC wL wK wU wV) PI im PM PT lS lB lE lN) G H0) (hr_o0 : G o0 = some 0) (hgz : ∀ i, 0 ≤ wZ i) (hgn : ∀ i, 6500000 ≤ wN i ∧ wN i ≤ 20200000) (hgh : 0 ≤ wH ∧ wH ≤ 40000) (hgb : 0 ≤ wB ∧ wB ≤ 3850000) (hgc : 0 ≤ wC ∧ wC ≤ 30) (hgi : 0 ≤ im ∧ im ≤ 1) (hgu : ∀ a t, G a = some (t + 1) → a = q t) : Met l yX12_storm w_s_stormY ({ frames := 1, cells := 0, slots := 0, locals := 22 }) (va_Pc [.ref o0, .int p0, .int p1, .int p2] (fun U => U.heap = H0 ∧ va_K (dC, dI) vwCl (tyl kA) U ∧ EVS adK adV (gA G H0.size) U U.heap)) (va_Qi (fun (r : Int32) (u : Int32 × (Nat → Nat)) => match u with | (t1, wU1) => (-1 ≤ r.toInt ∧ r.toInt ≤ 20) ∧ (∀ w, w < 30 → wU1 w = wU w) ∧ ((stC p0.toInt p1.toInt p2.toInt ≠ 0 ∧ t1.toInt = stC p0.toInt p1.toInt p2.toInt ∧ wU1 = wU) ∨ (stC p0.toInt p1.toInt p2.toInt = 0 ∧ t1.toInt = 0 ∧ SU wU 42 = 20 ∧ r.toInt = -1 ∧ wU1 = wU) ∨ (stC p0.toInt p1.toInt p2.toInt = 0 ∧ t1.toInt = 0 ∧ ∃ n : Nat, SU wU 42 = ((n : Nat) : Int) ∧ n < 20 ∧ r.toInt = ((n : Nat) : Int) + 1 ∧ SU wU1 42 = ((n : Nat) : Int) + 1 ∧ SU wU1 (43 + 3 * n) = p0.toInt ∧ SU wU1 (44 + 3 * n) = p1.toInt ∧ SU wU1 (45 + 3 * n) = p2.toInt ∧ ∀ j, 30 ≤ j → j ≠ 42 → j ≠ 43 + 3 * n → j ≠ 44 + 3 * n → j ≠ 45 + 3 * n → SU wU1 j = SU wU j))) (fun (u : Int32 × (Nat → Nat)) (t : State) => match u with | (t1, wU1) => gH (dC, dI) kA (SHm q (wP wZ wN wH wB wC wL wK wU1 wV) PI im PM PT lS lB lE lN) G t.heap ∧ gF (dC, dI) SKm G ([(0, 0), (0, 9), (2, 0)] : List (Nat × Nat)) H0 t.heap ∧ el t.heap o0 (dI 15 0) = some (.int t1)) (gA G H0.size)) 0 0 (gA G H0.size) := by
  refine Met.ofW (cc := cX12_storm) (maxL := 5) (ret := (some .int)) (by decide) rfl ?_
  intro p e s m args below meth c s₁ B hml hv
  obtain ⟨rfl, hH0, hK, hE⟩ := hv
  have hx := B.exec
  have hb := B.bytes
  have hr := B.returns
  have hts := atoms_spec (ws := w_s_stormY) B.pre
  have hown : s.vm.findClass RX12 = some m.cls := findClass_of_methodNamed B.named
  have hlocks := B.notSynchronized
  subst hH0
  generalize hAe : gA G s.heap.size = A at hE ⊢
  have hA : ∀ q : Nat, s.heap.size ≤ q → A q := fun q h => by rw [← hAe]; exact Or.inr h
  have hG := gA_of hAe
  have hS : va_S A s.heap s.heap [] := va_S.rf
  have hF : gF (dC, dI) SKm G ([(0, 0), (0, 9), (2, 0)] : List (Nat × Nat)) s.heap s.heap := gF.rf
  have hl := lv_entry ([.ref o0, .int p0, .int p1, .int p2]) (n := 5) (Nat.le_of_ble_eq_true rfl)
  rw [lg_entry_eq]
  generalize (lg_sl ([.ref o0, .int p0, .int p1, .int p2]) ++ List.replicate (5 - (lg_sl ([.ref o0, .int p0, .int p1, .int p2])).length) Slot.unset).toArray = ls at hl ⊢
  have hl : lv_has ls 5 [(0, .ref o0), (1, .int p0), (2, .int p1), (3, .int p2)] := hl
  refine lv_aload_n hx hb dX12_storm_0 rfl (lv_at hl 0 rfl) ?_
  refine lv_iconst (v := 0) hx hb dX12_storm_1 (by decide) ?_
  refine tw_put (v := .int 0) (ty := .int) hx hb hts bF_X12 tyX12 tyX12_ok nmX12 hown hK hT hG hS hr_o0 shm_0 rfl 0 (by decide) (ht_at hts 0 rfl) (fun _ h9 => h9) rfl (by decide +kernel) rfl rfl (gl_at rfl (gi_all _)) dX12_storm_2 (fun H locs hT oq m1 oj hS => ?_)
  have hF := hF.put hr_o0 skm_0 oq oj (by decide)
  refine lv_aload_n hx hb dX12_storm_5 rfl (lv_at hl 0 rfl) ?_
  refine lv_iload_n hx hb dX12_storm_6 rfl (lv_at hl 1 rfl) ?_
  refine lv_if_lt (tgt := 32) hx hb dX12_storm_7 (by decide) (fun c2 => ?_) (fun c2 => ?_)
  · have t3 : p0.toInt < 0 := ti_lt c2 rfl (by decide)
    refine lv_iconst (v := 1) hx hb dX12_storm_32 (by decide) ?_
    refine lv_goto (tgt := 37) hx hb dX12_storm_33 (by decide) ?_
    refine lv_iconst (v := 1) hx hb dX12_storm_37 (by decide) ?_
    have hFc := gA_free hG hA hS
    refine va_calli (va_runV (As := [.int 1, .int 1]) (rest := []) ⟨hx, hb, hml, hown, hts⟩ (s_throwsIfP l dC dI kA adK adV G H q wZ wN wH wB wC wL wK wU wV PI im PM PT lS lB lE lN o0 1 1 0 hT hr_o0 m1 (rg_t (a := 1) (by decide) (by first | decide | omega) (by first | decide | omega)) hgz hgn hgh hgb hgc hgi hgu) (cwV 2 hts (goodIn_app (goodIn_r _ [3, 4, 5, 6] rfl (by decide +kernel)) (goodIn_ca (goodIn_r _ [2, 1] rfl (by decide +kernel)) (bs_in _ _))) rfl rfl rfl (by decide +kernel) ⟨(Nat.le_of_ble_eq_true rfl), (Nat.le_of_ble_eq_true rfl)⟩) ⟨fun a U g mk q => by obtain ⟨q0, q1, qK, qE⟩ := q; exact ⟨q0, q1, va_K.moved (u := U) (U := U.calling g mk a) (Vm.Alike.refl U.vm) qK, EVS.blind g mk a qE⟩, gH_rc hK hT hr_o0 shm_0 rfl, fun U hU hW => ⟨rfl, hU, va_K.moved hW.alike hK, hE.call hS hFc hU hW⟩⟩ rfl rfl hl.1 rfl (lv_room (Nat.le_of_ble_eq_true rfl)) dX12_storm_38 ⟨(Nat.le_of_ble_eq_true rfl), (Nat.le_of_ble_eq_true rfl)⟩) hS (fun q _ h => hFc q h) hFc (fun r4 u t H locs ht hvm hw5 hB _ _ hS => ?_)
    obtain ⟨u6, rfl⟩ : ∃ z, z = u := ⟨_, rfl⟩
    obtain ⟨hT, hF1, m7⟩ := hB
    rw [ht] at hT hF1 m7
    have hF := hF.more hF1 (by decide)
    try dsimp only at hw5
    obtain ⟨h9, hf10, hd11⟩ := hw5
    have t12 : (1 : Int32).toInt = 1 := by decide
    have t13 : (1 : Int32).toInt = 1 := by decide
    have t14 : (0 : Int32).toInt = 0 := by decide
    obtain rfl : (1 : Int32) = r4 := hd11.symm
    refine lv_if_eq (tgt := 46) hx hb dX12_storm_41 (by decide) (fun c15 => absurd c15 (by decide)) (fun c15 => ?_)
    refine lv_iconst (v := 0) hx hb dX12_storm_44 (by decide) ?_
    exact W.iret (v := 0) hx hb hr (fun t ht hW => ⟨⟨0, (u6, wU), rfl, (by exact ⟨(rg_t (a := 0) (by decide) (by first | decide | omega) (by first | decide | omega)), (fun _ _ => rfl), (by have := stC_s p0.toInt p1.toInt p2.toInt; have q0 : (0 : Int32).toInt = 0 := (by decide); have q1 : (1 : Int32).toInt = 1 := (by decide); have qm : (-1 : Int32).toInt = -1 := (by decide); first | exact Or.inr (Or.inl ⟨by omega, by omega, by unfold SU; omega, by omega, rfl⟩) | exact Or.inl ⟨by omega, by omega, rfl⟩)⟩), by (try dsimp only); rw [ht]; exact ⟨hT, hF, m7⟩⟩, hS.F ht⟩) hS.2.2 dX12_storm_45
  · have t16 : 0 ≤ p0.toInt := ti_nlt c2 rfl (by decide)
    refine lv_iload_n hx hb dX12_storm_10 rfl (lv_at hl 2 rfl) ?_
    refine lv_iload_n hx hb dX12_storm_11 rfl (lv_at hl 1 rfl) ?_
    refine lv_icmp_lt (tgt := 32) hx hb dX12_storm_12 (by decide) (fun c17 => ?_) (fun c17 => ?_)
    · have t18 : p1.toInt < p0.toInt := ti_lt c17 rfl rfl
      refine lv_iconst (v := 1) hx hb dX12_storm_32 (by decide) ?_
      refine lv_goto (tgt := 37) hx hb dX12_storm_33 (by decide) ?_
      refine lv_iconst (v := 1) hx hb dX12_storm_37 (by decide) ?_
      have hFc := gA_free hG hA hS
      refine va_calli (va_runV (As := [.int 1, .int 1]) (rest := []) ⟨hx, hb, hml, hown, hts⟩ (s_throwsIfP l dC dI kA adK adV G H q wZ wN wH wB wC wL wK wU wV PI im PM PT lS lB lE lN o0 1 1 0 hT hr_o0 m1 (rg_t (a := 1) (by decide) (by first | decide | omega) (by first | decide | omega)) hgz hgn hgh hgb hgc hgi hgu) (cwV 2 hts (goodIn_app (goodIn_r _ [3, 4, 5, 6] rfl (by decide +kernel)) (goodIn_ca (goodIn_r _ [2, 1] rfl (by decide +kernel)) (bs_in _ _))) rfl rfl rfl (by decide +kernel) ⟨(Nat.le_of_ble_eq_true rfl), (Nat.le_of_ble_eq_true rfl)⟩) ⟨fun a U g mk q => by obtain ⟨q0, q1, qK, qE⟩ := q; exact ⟨q0, q1, va_K.moved (u := U) (U := U.calling g mk a) (Vm.Alike.refl U.vm) qK, EVS.blind g mk a qE⟩, gH_rc hK hT hr_o0 shm_0 rfl, fun U hU hW => ⟨rfl, hU, va_K.moved hW.alike hK, hE.call hS hFc hU hW⟩⟩ rfl rfl hl.1 rfl (lv_room (Nat.le_of_ble_eq_true rfl)) dX12_storm_38 ⟨(Nat.le_of_ble_eq_true rfl), (Nat.le_of_ble_eq_true rfl)⟩) hS (fun q _ h => hFc q h) hFc (fun r19 u t H locs ht hvm hw20 hB _ _ hS => ?_)
      obtain ⟨u21, rfl⟩ : ∃ z, z = u := ⟨_, rfl⟩
      obtain ⟨hT, hF1, m22⟩ := hB
      rw [ht] at hT hF1 m22
      have hF := hF.more hF1 (by decide)
      try dsimp only at hw20
      obtain ⟨h24, hf25, hd26⟩ := hw20
      have t27 : (1 : Int32).toInt = 1 := by decide
      have t28 : (1 : Int32).toInt = 1 := by decide
      have t29 : (0 : Int32).toInt = 0 := by decide
      obtain rfl : (1 : Int32) = r19 := hd26.symm
      refine lv_if_eq (tgt := 46) hx hb dX12_storm_41 (by decide) (fun c30 => absurd c30 (by decide)) (fun c30 => ?_)
      refine lv_iconst (v := 0) hx hb dX12_storm_44 (by decide) ?_
      exact W.iret (v := 0) hx hb hr (fun t ht hW => ⟨⟨0, (u21, wU), rfl, (by exact ⟨(rg_t (a := 0) (by decide) (by first | decide | omega) (by first | decide | omega)), (fun _ _ => rfl), (by have := stC_s p0.toInt p1.toInt p2.toInt; have q0 : (0 : Int32).toInt = 0 := (by decide); have q1 : (1 : Int32).toInt = 1 := (by decide); have qm : (-1 : Int32).toInt = -1 := (by decide); first | exact Or.inr (Or.inl ⟨by omega, by omega, by unfold SU; omega, by omega, rfl⟩) | exact Or.inl ⟨by omega, by omega, rfl⟩)⟩), by (try dsimp only); rw [ht]; exact ⟨hT, hF, m22⟩⟩, hS.F ht⟩) hS.2.2 dX12_storm_45
    · have t31 : p0.toInt ≤ p1.toInt := ti_nlt c17 rfl rfl
      refine lv_iload_n hx hb dX12_storm_15 rfl (lv_at hl 2 rfl) ?_
      refine lv_ldc (v := 40000) hx hb hown (ht_at hts 6 rfl) dX12_storm_16 ?_
      refine lv_icmp_gt (tgt := 32) hx hb dX12_storm_18 (by decide) (fun c32 => ?_) (fun c32 => ?_)
      · have t33 : 40000 < p1.toInt := ti_lt c32 (by decide) rfl
        refine lv_iconst (v := 1) hx hb dX12_storm_32 (by decide) ?_
        refine lv_goto (tgt := 37) hx hb dX12_storm_33 (by decide) ?_
        refine lv_iconst (v := 1) hx hb dX12_storm_37 (by decide) ?_
        have hFc := gA_free hG hA hS
        refine va_calli (va_runV (As := [.int 1, .int 1]) (rest := []) ⟨hx, hb, hml, hown, hts⟩ (s_throwsIfP l dC dI kA adK adV G H q wZ wN wH wB wC wL wK wU wV PI im PM PT lS lB lE lN o0 1 1 0 hT hr_o0 m1 (rg_t (a := 1) (by decide) (by first | decide | omega) (by first | decide | omega)) hgz hgn hgh hgb hgc hgi hgu) (cwV 2 hts (goodIn_app (goodIn_r _ [3, 4, 5, 6] rfl (by decide +kernel)) (goodIn_ca (goodIn_r _ [2, 1] rfl (by decide +kernel)) (bs_in _ _))) rfl rfl rfl (by decide +kernel) ⟨(Nat.le_of_ble_eq_true rfl), (Nat.le_of_ble_eq_true rfl)⟩) ⟨fun a U g mk q => by obtain ⟨q0, q1, qK, qE⟩ := q; exact ⟨q0, q1, va_K.moved (u := U) (U := U.calling g mk a) (Vm.Alike.refl U.vm) qK, EVS.blind g mk a qE⟩, gH_rc hK hT hr_o0 shm_0 rfl, fun U hU hW => ⟨rfl, hU, va_K.moved hW.alike hK, hE.call hS hFc hU hW⟩⟩ rfl rfl hl.1 rfl (lv_room (Nat.le_of_ble_eq_true rfl)) dX12_storm_38 ⟨(Nat.le_of_ble_eq_true rfl), (Nat.le_of_ble_eq_true rfl)⟩) hS (fun q _ h => hFc q h) hFc (fun r34 u t H locs ht hvm hw35 hB _ _ hS => ?_)
        obtain ⟨u36, rfl⟩ : ∃ z, z = u := ⟨_, rfl⟩
        obtain ⟨hT, hF1, m37⟩ := hB
        rw [ht] at hT hF1 m37
        have hF := hF.more hF1 (by decide)
        try dsimp only at hw35
        obtain ⟨h39, hf40, hd41⟩ := hw35
        have t42 : (1 : Int32).toInt = 1 := by decide
        have t43 : (1 : Int32).toInt = 1 := by decide
        have t44 : (0 : Int32).toInt = 0 := by decide
        obtain rfl : (1 : Int32) = r34 := hd41.symm
        refine lv_if_eq (tgt := 46) hx hb dX12_storm_41 (by decide) (fun c45 => absurd c45 (by decide)) (fun c45 => ?_)
        refine lv_iconst (v := 0) hx hb dX12_storm_44 (by decide) ?_
        exact W.iret (v := 0) hx hb hr (fun t ht hW => ⟨⟨0, (u36, wU), rfl, (by exact ⟨(rg_t (a := 0) (by decide) (by first | decide | omega) (by first | decide | omega)), (fun _ _ => rfl), (by have := stC_s p0.toInt p1.toInt p2.toInt; have q0 : (0 : Int32).toInt = 0 := (by decide); have q1 : (1 : Int32).toInt = 1 := (by decide); have qm : (-1 : Int32).toInt = -1 := (by decide); first | exact Or.inr (Or.inl ⟨by omega, by omega, by unfold SU; omega, by omega, rfl⟩) | exact Or.inl ⟨by omega, by omega, rfl⟩)⟩), by (try dsimp only); rw [ht]; exact ⟨hT, hF, m37⟩⟩, hS.F ht⟩) hS.2.2 dX12_storm_45
      · have t46 : p1.toInt ≤ 40000 := ti_nlt c32 (by decide) rfl
        refine lv_iload_n hx hb dX12_storm_21 rfl (lv_at hl 3 rfl) ?_
        refine lv_iconst (v := 1) hx hb dX12_storm_22 (by decide) ?_
        refine lv_sipush (v := 500) hx hb dX12_storm_23 (by decide) ?_
        have hFc := gA_free hG hA hS
        refine va_calli (va_runS (As := [.int p2, .int 1, .int 500]) (rest := [.ref o0]) ⟨hx, hb, hml, hown, hts⟩ (s_in l dC dI kA adK adV G H q wZ wN wH wB wC wL wK wU wV PI im PM PT lS lB lE lN p2 1 500 hT hgz hgn hgh hgb hgc hgi hgu) (va_cwS 3 hts (goodIn_app (goodIn_r _ [9, 10, 6] rfl (by decide +kernel)) (goodIn_ca (goodIn_r _ [8] rfl (by decide +kernel)) (bs_in _ _))) rfl rfl rfl (by decide +kernel) ⟨(Nat.le_of_ble_eq_true rfl), (Nat.le_of_ble_eq_true rfl)⟩) ⟨fun a U g mk q => by obtain ⟨q0, q1, qK, qE⟩ := q; exact ⟨q0, q1, va_K.moved (u := U) (U := U.calling g mk a) (Vm.Alike.refl U.vm) qK, EVS.blind g mk a qE⟩, fun U hU hW => ⟨rfl, hU, va_K.moved hW.alike hK, hE.call hS hFc hU hW⟩⟩ rfl rfl hl.1 rfl (lv_room (Nat.le_of_ble_eq_true rfl)) dX12_storm_26 ⟨(Nat.le_of_ble_eq_true rfl), (Nat.le_of_ble_eq_true rfl)⟩) hS (fun q _ h => hFc q h) hFc (fun r47 u t H locs ht hvm hw48 hB _ _ hS => ?_)
        obtain ⟨hT, hF1⟩ := hB
        rw [ht] at hT hF1
        have m49 := (hF1.fld hr_o0 skm_0 (k := 0) (by decide) (by decide)).trans m1
        have hF := hF.more hF1 (by decide)
        try dsimp only at hw48
        obtain ⟨h50, hi51, hi52⟩ := hw48
        refine lv_if_ne (tgt := 36) hx hb dX12_storm_29 (by decide) (fun c53 => ?_) (fun c53 => ?_)
        · have t54 : r47.toInt ≠ 0 := ti_ne c53 rfl (by decide)
          have t55 : (1 : Int32).toInt = 1 := by decide
          have t56 : (500 : Int32).toInt = 500 := by decide
          have t57 : (1 : Int32).toInt ≤ p2.toInt ∧ p2.toInt ≤ (500 : Int32).toInt := hi51 ((bit_of ⟨by omega, by omega⟩).resolve_left c53)
          refine lv_iconst (v := 0) hx hb dX12_storm_36 (by decide) ?_
          refine lv_iconst (v := 1) hx hb dX12_storm_37 (by decide) ?_
          have hFc := gA_free hG hA hS
          refine va_calli (va_runV (As := [.int 0, .int 1]) (rest := []) ⟨hx, hb, hml, hown, hts⟩ (s_throwsIfP l dC dI kA adK adV G H q wZ wN wH wB wC wL wK wU wV PI im PM PT lS lB lE lN o0 0 1 0 hT hr_o0 m49 (rg_t (a := 0) (by decide) (by first | decide | omega) (by first | decide | omega)) hgz hgn hgh hgb hgc hgi hgu) (cwV 2 hts (goodIn_app (goodIn_r _ [3, 4, 5, 6] rfl (by decide +kernel)) (goodIn_ca (goodIn_r _ [2, 1] rfl (by decide +kernel)) (bs_in _ _))) rfl rfl rfl (by decide +kernel) ⟨(Nat.le_of_ble_eq_true rfl), (Nat.le_of_ble_eq_true rfl)⟩) ⟨fun a U g mk q => by obtain ⟨q0, q1, qK, qE⟩ := q; exact ⟨q0, q1, va_K.moved (u := U) (U := U.calling g mk a) (Vm.Alike.refl U.vm) qK, EVS.blind g mk a qE⟩, gH_rc hK hT hr_o0 shm_0 rfl, fun U hU hW => ⟨rfl, hU, va_K.moved hW.alike hK, hE.call hS hFc hU hW⟩⟩ rfl rfl hl.1 rfl (lv_room (Nat.le_of_ble_eq_true rfl)) dX12_storm_38 ⟨(Nat.le_of_ble_eq_true rfl), (Nat.le_of_ble_eq_true rfl)⟩) hS (fun q _ h => hFc q h) hFc (fun r58 u t H locs ht hvm hw59 hB _ _ hS => ?_)
          obtain ⟨u60, rfl⟩ : ∃ z, z = u := ⟨_, rfl⟩
          obtain ⟨hT, hF1, m61⟩ := hB
          rw [ht] at hT hF1 m61
          have hF := hF.more hF1 (by decide)
          try dsimp only at hw59
          obtain ⟨h63, hf64, hd65⟩ := hw59
          have t66 : (0 : Int32).toInt = 0 := by decide
          have t67 : (1 : Int32).toInt = 1 := by decide
          have t68 : (0 : Int32).toInt = 0 := by decide
          obtain rfl : (0 : Int32) = r58 := hd65.symm
          refine lv_if_eq (tgt := 46) hx hb dX12_storm_41 (by decide) (fun c69 => ?_) (fun c69 => absurd c69 (by decide))
          refine lv_aload_n hx hb dX12_storm_46 rfl (lv_at hl 0 rfl) ?_
          refine tw_get hx hb hts bF_X12 hown hK hT hr_o0 shm_0 rfl 1 (by decide) (ht_at hts 10 rfl) (fun _ h9 => h9) dX12_storm_47 (fun v9 m70 h9 => ?_)
          obtain ⟨rfl, hg71⟩ := h9 _ rfl
          refine lv_sipush (v := 1442) hx hb dX12_storm_50 (by decide) ?_
          refine tw_iald (i := 1442) hx hb hK hT hg71 shm_2 rfl (by unfold vp_in; decide) dX12_storm_53 (fun v9 m72 h9 => ?_)
          obtain ⟨x73, rfl, gx73, kx73⟩ := (gp_at h9 (w_stc (by have q9 := tn_of (show (1442 : Int32).toInt = 1442 from (by decide)) (show (0 : Int) ≤ 1442 from by omega); omega)))
          have t74 : x73.toInt = ((wU 42 : Nat) : Int) - 1000 := (by have q := (wq_l hT hg71 (by decide) m72).2.2.1.2 ⟨by decide, by decide⟩; rw [show (1442 : Int32).toNatClampNeg - 1400 = 42 from by decide] at q; exact q)
          refine lv_istore (lv' := [(4, .int x73), (0, .ref o0), (1, .int p0), (2, .int p1), (3, .int p2)]) hx hb dX12_storm_54 hl (by decide) rfl (fun ls hl => ?_)
          refine lv_iload hx hb dX12_storm_56 (lv_at hl 0 rfl) ?_
          refine lv_bipush (v := 20) hx hb dX12_storm_58 (by decide) ?_
          refine lv_icmp_ne (tgt := 65) hx hb dX12_storm_60 (by decide) (fun c75 => ?_) (fun c75 => ?_)
          · have t76 : x73.toInt ≠ 20 := ti_ne c75 rfl (by decide)
            refine lv_aload_n hx hb dX12_storm_65 rfl (lv_at hl 1 rfl) ?_
            refine tw_get hx hb hts bF_X12 hown hK hT hr_o0 shm_0 rfl 1 (by decide) (ht_at hts 10 rfl) (fun _ h9 => h9) dX12_storm_66 (fun v9 m77 h9 => ?_)
            obtain ⟨rfl, hg78⟩ := h9 _ rfl
            refine lv_sipush (v := 1443) hx hb dX12_storm_69 (by decide) ?_
            refine lv_iconst (v := 3) hx hb dX12_storm_72 (by decide) ?_
            refine lv_iload hx hb dX12_storm_73 (lv_at hl 0 rfl) ?_
            refine lv_imul hx hb dX12_storm_75 ?_
            refine lv_topi (fun x79 ex79 => ?_)
            have t80 : x79.toInt = 3 * x73.toInt := ti_mul ex79 (by decide) rfl (by omega) (by omega)
            refine lv_iadd hx hb dX12_storm_76 ?_
            refine lv_topi (fun x81 ex81 => ?_)
            have t82 : x81.toInt = 1443 + x79.toInt := ti_add ex81 (by decide) rfl (by omega) (by omega)
            refine lv_iload_n hx hb dX12_storm_77 rfl (lv_at hl 2 rfl) ?_
            refine tw_iast2 (Sg1 := (SHm q (wP wZ wN wH wB wC wL wK (sU wU (x81.toNatClampNeg - 1400) (p0.toInt + 1000).toNat) wV) PI im PM PT lS lB lE lN)) (i := x81) (x := p0) hx hb hK hT hG hS hg71 shm_2 rfl shm_2 shm_o2 (fun b9 h9 => hgu b9 1 h9) (vin_t (a := x81.toInt) rfl (by omega) (by omega)) (gp_of (gi_all _) (w_fre (by have q9 := tn_of (show x81.toInt = x81.toInt from rfl) (show (0 : Int) ≤ x81.toInt from by omega); omega)) (wX_s (k := x81.toNatClampNeg - 1400) (v := (p0.toInt + 1000).toNat) ⟨by have q9 := tn_of (show x81.toInt = x81.toInt from rfl) (show (0 : Int) ≤ x81.toInt from by omega); omega, by have q9 := tn_of (show x81.toInt = x81.toInt from rfl) (show (0 : Int) ≤ x81.toInt from by omega); omega⟩ (by omega) (by have := (show p0.toInt = p0.toInt from rfl); omega))) (fun k9 hk9 hne9 v9 hv9 he9 => by obtain ⟨x9, rfl, p9⟩ := he9; exact ⟨x9, rfl, wP_U (by omega) (pl := x81.toNatClampNeg) ⟨by have q9 := tn_of (show x81.toInt = x81.toInt from rfl) (show (0 : Int) ≤ x81.toInt from by omega); omega, by have q9 := tn_of (show x81.toInt = x81.toInt from rfl) (show (0 : Int) ≤ x81.toInt from by omega); omega⟩ hne9 p9⟩) dX12_storm_78 (fun H locs hT oq m83 oi hS => ?_)
            have hF := hF.ast hg71 skm_2 oq (by decide)
            have m84 := (el_kept (oq _ (gne hr_o0 hg71 (by decide)))).trans m61
            have m85 := (oi _ (tn_ne (show (1442 : Int32).toInt = 1442 from (by decide)) (show x81.toInt = x81.toInt from rfl) (by omega) (by omega) (by omega))).trans m72
            refine lv_aload_n hx hb dX12_storm_79 rfl (lv_at hl 1 rfl) ?_
            refine tw_get hx hb hts bF_X12 hown hK hT hr_o0 shm_0 rfl 1 (by decide) (ht_at hts 10 rfl) (fun _ h9 => h9) dX12_storm_80 (fun v9 m86 h9 => ?_)
            obtain ⟨rfl, hg87⟩ := h9 _ rfl
            refine lv_sipush (v := 1443) hx hb dX12_storm_83 (by decide) ?_
            refine lv_iconst (v := 3) hx hb dX12_storm_86 (by decide) ?_
            refine lv_iload hx hb dX12_storm_87 (lv_at hl 0 rfl) ?_
            refine lv_imul hx hb dX12_storm_89 ?_
            refine lv_topi (fun x88 ex88 => ?_)
            have t89 : x88.toInt = 3 * x73.toInt := ti_mul ex88 (by decide) rfl (by omega) (by omega)
            refine lv_iadd hx hb dX12_storm_90 ?_
            refine lv_topi (fun x90 ex90 => ?_)
            have t91 : x90.toInt = 1443 + x88.toInt := ti_add ex90 (by decide) rfl (by omega) (by omega)
            refine lv_iconst (v := 1) hx hb dX12_storm_91 (by decide) ?_
            refine lv_iadd hx hb dX12_storm_92 ?_
            refine lv_topi (fun x92 ex92 => ?_)
            have t93 : x92.toInt = x90.toInt + 1 := ti_add ex92 rfl (by decide) (by omega) (by omega)
            refine lv_iload_n hx hb dX12_storm_93 rfl (lv_at hl 3 rfl) ?_
            refine tw_iast2 (Sg1 := (SHm q (wP wZ wN wH wB wC wL wK (sU (sU wU (x81.toNatClampNeg - 1400) (p0.toInt + 1000).toNat) (x92.toNatClampNeg - 1400) (p1.toInt + 1000).toNat) wV) PI im PM PT lS lB lE lN)) (i := x92) (x := p1) hx hb hK hT hG hS hg71 shm_2 rfl shm_2 shm_o2 (fun b9 h9 => hgu b9 1 h9) (vin_t (a := x92.toInt) rfl (by omega) (by omega)) (gp_of (gi_all _) (w_fre (by have q9 := tn_of (show x92.toInt = x92.toInt from rfl) (show (0 : Int) ≤ x92.toInt from by omega); omega)) (wX_s (k := x92.toNatClampNeg - 1400) (v := (p1.toInt + 1000).toNat) ⟨by have q9 := tn_of (show x92.toInt = x92.toInt from rfl) (show (0 : Int) ≤ x92.toInt from by omega); omega, by have q9 := tn_of (show x92.toInt = x92.toInt from rfl) (show (0 : Int) ≤ x92.toInt from by omega); omega⟩ (by omega) (by have := (show p1.toInt = p1.toInt from rfl); omega))) (fun k9 hk9 hne9 v9 hv9 he9 => by obtain ⟨x9, rfl, p9⟩ := he9; exact ⟨x9, rfl, wP_U (by omega) (pl := x92.toNatClampNeg) ⟨by have q9 := tn_of (show x92.toInt = x92.toInt from rfl) (show (0 : Int) ≤ x92.toInt from by omega); omega, by have q9 := tn_of (show x92.toInt = x92.toInt from rfl) (show (0 : Int) ≤ x92.toInt from by omega); omega⟩ hne9 p9⟩) dX12_storm_94 (fun H locs hT oq m94 oi hS => ?_)
            have hF := hF.ast hg71 skm_2 oq (by decide)
            have m95 := (el_kept (oq _ (gne hr_o0 hg71 (by decide)))).trans m84
            have m96 := (oi _ (tn_ne (show (1442 : Int32).toInt = 1442 from (by decide)) (show x92.toInt = x92.toInt from rfl) (by omega) (by omega) (by omega))).trans m85
            refine lv_aload_n hx hb dX12_storm_95 rfl (lv_at hl 1 rfl) ?_
            refine tw_get hx hb hts bF_X12 hown hK hT hr_o0 shm_0 rfl 1 (by decide) (ht_at hts 10 rfl) (fun _ h9 => h9) dX12_storm_96 (fun v9 m98 h9 => ?_)
            obtain ⟨rfl, hg99⟩ := h9 _ rfl
            refine lv_sipush (v := 1443) hx hb dX12_storm_99 (by decide) ?_
            refine lv_iconst (v := 3) hx hb dX12_storm_102 (by decide) ?_
            refine lv_iload hx hb dX12_storm_103 (lv_at hl 0 rfl) ?_
            refine lv_imul hx hb dX12_storm_105 ?_
            refine lv_topi (fun x100 ex100 => ?_)
            have t101 : x100.toInt = 3 * x73.toInt := ti_mul ex100 (by decide) rfl (by omega) (by omega)
            refine lv_iadd hx hb dX12_storm_106 ?_
            refine lv_topi (fun x102 ex102 => ?_)
            have t103 : x102.toInt = 1443 + x100.toInt := ti_add ex102 (by decide) rfl (by omega) (by omega)
            refine lv_iconst (v := 2) hx hb dX12_storm_107 (by decide) ?_
            refine lv_iadd hx hb dX12_storm_108 ?_
            refine lv_topi (fun x104 ex104 => ?_)
            have t105 : x104.toInt = x102.toInt + 2 := ti_add ex104 rfl (by decide) (by omega) (by omega)
            refine lv_iload_n hx hb dX12_storm_109 rfl (lv_at hl 4 rfl) ?_
            refine tw_iast2 (Sg1 := (SHm q (wP wZ wN wH wB wC wL wK (sU (sU (sU wU (x81.toNatClampNeg - 1400) (p0.toInt + 1000).toNat) (x92.toNatClampNeg - 1400) (p1.toInt + 1000).toNat) (x104.toNatClampNeg - 1400) (p2.toInt + 1000).toNat) wV) PI im PM PT lS lB lE lN)) (i := x104) (x := p2) hx hb hK hT hG hS hg71 shm_2 rfl shm_2 shm_o2 (fun b9 h9 => hgu b9 1 h9) (vin_t (a := x104.toInt) rfl (by omega) (by omega)) (gp_of (gi_of (show p2.toInt = p2.toInt from rfl) (by omega) (by omega)) (w_stm (by have q9 := tn_of (show x104.toInt = x104.toInt from rfl) (show (0 : Int) ≤ x104.toInt from by omega); omega)) (wX_s (k := x104.toNatClampNeg - 1400) (v := (p2.toInt + 1000).toNat) ⟨by have q9 := tn_of (show x104.toInt = x104.toInt from rfl) (show (0 : Int) ≤ x104.toInt from by omega); omega, by have q9 := tn_of (show x104.toInt = x104.toInt from rfl) (show (0 : Int) ≤ x104.toInt from by omega); omega⟩ (by omega) (by have := (show p2.toInt = p2.toInt from rfl); omega))) (fun k9 hk9 hne9 v9 hv9 he9 => by obtain ⟨x9, rfl, p9⟩ := he9; exact ⟨x9, rfl, wP_U (by omega) (pl := x104.toNatClampNeg) ⟨by have q9 := tn_of (show x104.toInt = x104.toInt from rfl) (show (0 : Int) ≤ x104.toInt from by omega); omega, by have q9 := tn_of (show x104.toInt = x104.toInt from rfl) (show (0 : Int) ≤ x104.toInt from by omega); omega⟩ hne9 p9⟩) dX12_storm_110 (fun H locs hT oq m106 oi hS => ?_)
            have hF := hF.ast hg71 skm_2 oq (by decide)
            have m107 := (el_kept (oq _ (gne hr_o0 hg71 (by decide)))).trans m95
            have m108 := (oi _ (tn_ne (show (1442 : Int32).toInt = 1442 from (by decide)) (show x104.toInt = x104.toInt from rfl) (by omega) (by omega) (by omega))).trans m96
            refine lv_aload_n hx hb dX12_storm_111 rfl (lv_at hl 1 rfl) ?_
            refine tw_get hx hb hts bF_X12 hown hK hT hr_o0 shm_0 rfl 1 (by decide) (ht_at hts 10 rfl) (fun _ h9 => h9) dX12_storm_112 (fun v9 m111 h9 => ?_)
            obtain ⟨rfl, hg112⟩ := h9 _ rfl
            refine lv_sipush (v := 1442) hx hb dX12_storm_115 (by decide) ?_
            refine lv_dup2_11 hx hb dX12_storm_118 rfl rfl ?_
            refine tw_iald (i := 1442) hx hb hK hT hg71 shm_2 rfl (by unfold vp_in; decide) dX12_storm_119 (fun v9 m113 h9 => ?_)
            obtain ⟨x114, rfl, gx114, kx114⟩ := (gp_at h9 (w_stc (by have q9 := tn_of (show (1442 : Int32).toInt = 1442 from (by decide)) (show (0 : Int) ≤ 1442 from by omega); omega)))
            obtain rfl : x73 = x114 := (el_same m113 m108 rfl).symm
            refine lv_iconst (v := 1) hx hb dX12_storm_120 (by decide) ?_
            refine lv_iadd hx hb dX12_storm_121 ?_
            refine lv_topi (fun x115 ex115 => ?_)
            have t116 : x115.toInt = x73.toInt + 1 := ti_add ex115 rfl (by decide) (by omega) (by omega)
            refine tw_iast2 (Sg1 := (SHm q (wP wZ wN wH wB wC wL wK (sU (sU (sU (sU wU (x81.toNatClampNeg - 1400) (p0.toInt + 1000).toNat) (x92.toNatClampNeg - 1400) (p1.toInt + 1000).toNat) (x104.toNatClampNeg - 1400) (p2.toInt + 1000).toNat) ((1442 : Int32).toNatClampNeg - 1400) (x115.toInt + 1000).toNat) wV) PI im PM PT lS lB lE lN)) (i := 1442) (x := x115) hx hb hK hT hG hS hg71 shm_2 rfl shm_2 shm_o2 (fun b9 h9 => hgu b9 1 h9) (by unfold vp_in; decide) (gp_of (gi_of (show x115.toInt = x115.toInt from rfl) (by omega) (by omega)) (w_stc (by have q9 := tn_of (show (1442 : Int32).toInt = 1442 from (by decide)) (show (0 : Int) ≤ 1442 from by omega); omega)) (wX_s (k := (1442 : Int32).toNatClampNeg - 1400) (v := (x115.toInt + 1000).toNat) ⟨by have q9 := tn_of (show (1442 : Int32).toInt = 1442 from (by decide)) (show (0 : Int) ≤ 1442 from by omega); omega, by have q9 := tn_of (show (1442 : Int32).toInt = 1442 from (by decide)) (show (0 : Int) ≤ 1442 from by omega); omega⟩ (by omega) (by have := (show x115.toInt = x115.toInt from rfl); omega))) (fun k9 hk9 hne9 v9 hv9 he9 => by obtain ⟨x9, rfl, p9⟩ := he9; exact ⟨x9, rfl, wP_U (by omega) (pl := (1442 : Int32).toNatClampNeg) ⟨by have q9 := tn_of (show (1442 : Int32).toInt = 1442 from (by decide)) (show (0 : Int) ≤ 1442 from by omega); omega, by have q9 := tn_of (show (1442 : Int32).toInt = 1442 from (by decide)) (show (0 : Int) ≤ 1442 from by omega); omega⟩ hne9 p9⟩) dX12_storm_122 (fun H locs hT oq m117 oi hS => ?_)
            have hF := hF.ast hg71 skm_2 oq (by decide)
            have m118 := (el_kept (oq _ (gne hr_o0 hg71 (by decide)))).trans m107
            refine lv_aload_n hx hb dX12_storm_123 rfl (lv_at hl 1 rfl) ?_
            refine lv_iconst (v := 0) hx hb dX12_storm_124 (by decide) ?_
            refine tw_put (v := .int 0) (ty := .int) hx hb hts bF_X12 tyX12 tyX12_ok nmX12 hown hK hT hG hS hr_o0 shm_0 rfl 9 (by decide) (ht_at hts 11 rfl) (fun _ h9 => h9) rfl (by decide +kernel) rfl rfl (gl_at rfl (gi_of (show (0 : Int32).toInt = 0 from (by decide)) (by first | decide | omega) (by first | decide | omega))) dX12_storm_125 (fun H locs hT oq m122 oj hS => ?_)
            have hF := hF.put hr_o0 skm_0 oq oj (by decide)
            have m123 := (oj 0 (by decide) (by decide)).trans m118
            refine lv_iload hx hb dX12_storm_128 (lv_at hl 0 rfl) ?_
            refine lv_iconst (v := 1) hx hb dX12_storm_130 (by decide) ?_
            refine lv_iadd hx hb dX12_storm_131 ?_
            refine lv_topi (fun x128 ex128 => ?_)
            have t129 : x128.toInt = x73.toInt + 1 := ti_add ex128 rfl (by decide) (by omega) (by omega)
            exact W.iret (v := x128) hx hb hr (fun t ht hW => ⟨⟨x128, (u60, (sU (sU (sU (sU wU (x81.toNatClampNeg - 1400) (p0.toInt + 1000).toNat) (x92.toNatClampNeg - 1400) (p1.toInt + 1000).toNat) (x104.toNatClampNeg - 1400) (p2.toInt + 1000).toNat) ((1442 : Int32).toNatClampNeg - 1400) (x115.toInt + 1000).toNat)), rfl, (by exact ⟨(by have q8 := ti_all x128; omega), (fun w9 h9 => by have := tn_of (show x81.toInt = x81.toInt from rfl) (by omega); have := tn_of (show x92.toInt = x92.toInt from rfl) (by omega); have := tn_of (show x104.toInt = x104.toInt from rfl) (by omega); have : (1442 : Int32).toNatClampNeg = 1442 := (by decide); rw [sU_o (by omega)]; rw [sU_o (by omega)]; rw [sU_o (by omega)]; rw [sU_o (by omega)]), (Or.inr (Or.inr ⟨by have := stC_s p0.toInt p1.toInt p2.toInt; omega, by have q0 : (0 : Int32).toInt = 0 := (by decide); have q1 : (1 : Int32).toInt = 1 := (by decide); have qm : (-1 : Int32).toInt = -1 := (by decide); omega, (SU wU 42).toNat, by unfold SU; omega, by unfold SU; omega, by unfold SU; omega, (by have := tn_of (show x81.toInt = x81.toInt from rfl) (by omega); have := tn_of (show x92.toInt = x92.toInt from rfl) (by omega); have := tn_of (show x104.toInt = x104.toInt from rfl) (by omega); have : (1442 : Int32).toNatClampNeg = 1442 := (by decide); unfold SU sU; (repeat' split) <;> omega), (by have := tn_of (show x81.toInt = x81.toInt from rfl) (by omega); have := tn_of (show x92.toInt = x92.toInt from rfl) (by omega); have := tn_of (show x104.toInt = x104.toInt from rfl) (by omega); have : (1442 : Int32).toNatClampNeg = 1442 := (by decide); unfold SU sU; (repeat' split) <;> omega), (by have := tn_of (show x81.toInt = x81.toInt from rfl) (by omega); have := tn_of (show x92.toInt = x92.toInt from rfl) (by omega); have := tn_of (show x104.toInt = x104.toInt from rfl) (by omega); have : (1442 : Int32).toNatClampNeg = 1442 := (by decide); unfold SU sU; (repeat' split) <;> omega), (by have := tn_of (show x81.toInt = x81.toInt from rfl) (by omega); have := tn_of (show x92.toInt = x92.toInt from rfl) (by omega); have := tn_of (show x104.toInt = x104.toInt from rfl) (by omega); have : (1442 : Int32).toNatClampNeg = 1442 := (by decide); unfold SU sU; (repeat' split) <;> omega), fun j9 a9 b9 c9 d9 e9 => (by unfold SU at c9 d9 e9; have := tn_of (show x81.toInt = x81.toInt from rfl) (by omega); have := tn_of (show x92.toInt = x92.toInt from rfl) (by omega); have := tn_of (show x104.toInt = x104.toInt from rfl) (by omega); have : (1442 : Int32).toNatClampNeg = 1442 := (by decide); unfold SU sU; (repeat' split) <;> omega)⟩))⟩), by (try dsimp only); rw [ht]; exact ⟨hT, hF, m123⟩⟩, hS.F ht⟩) hS.2.2 dX12_storm_132
          · have t130 : x73.toInt = 20 := ti_eq c75 rfl (by decide)
            refine lv_iconst (v := (-1)) hx hb dX12_storm_63 (by decide) ?_
            exact W.iret (v := (-1)) hx hb hr (fun t ht hW => ⟨⟨(-1), (u60, wU), rfl, (by exact ⟨(rg_t (a := (-1)) (by decide) (by first | decide | omega) (by first | decide | omega)), (fun _ _ => rfl), (by have := stC_s p0.toInt p1.toInt p2.toInt; have q0 : (0 : Int32).toInt = 0 := (by decide); have q1 : (1 : Int32).toInt = 1 := (by decide); have qm : (-1 : Int32).toInt = -1 := (by decide); first | exact Or.inr (Or.inl ⟨by omega, by omega, by unfold SU; omega, by omega, rfl⟩) | exact Or.inl ⟨by omega, by omega, rfl⟩)⟩), by (try dsimp only); rw [ht]; exact ⟨hT, hF, m61⟩⟩, hS.F ht⟩) hS.2.2 dX12_storm_64
        · have t131 : r47.toInt = 0 := ti_eq c53 rfl (by decide)
          have t132 : (1 : Int32).toInt = 1 := by decide
          have t133 : (500 : Int32).toInt = 500 := by decide
          have t134 : p2.toInt < (1 : Int32).toInt ∨ (500 : Int32).toInt < p2.toInt := hi52 c53
          refine lv_iconst (v := 1) hx hb dX12_storm_32 (by decide) ?_
          refine lv_goto (tgt := 37) hx hb dX12_storm_33 (by decide) ?_
          refine lv_iconst (v := 1) hx hb dX12_storm_37 (by decide) ?_
          have hFc := gA_free hG hA hS
          refine va_calli (va_runV (As := [.int 1, .int 1]) (rest := []) ⟨hx, hb, hml, hown, hts⟩ (s_throwsIfP l dC dI kA adK adV G H q wZ wN wH wB wC wL wK wU wV PI im PM PT lS lB lE lN o0 1 1 0 hT hr_o0 m49 (rg_t (a := 1) (by decide) (by first | decide | omega) (by first | decide | omega)) hgz hgn hgh hgb hgc hgi hgu) (cwV 2 hts (goodIn_app (goodIn_r _ [3, 4, 5, 6] rfl (by decide +kernel)) (goodIn_ca (goodIn_r _ [2, 1] rfl (by decide +kernel)) (bs_in _ _))) rfl rfl rfl (by decide +kernel) ⟨(Nat.le_of_ble_eq_true rfl), (Nat.le_of_ble_eq_true rfl)⟩) ⟨fun a U g mk q => by obtain ⟨q0, q1, qK, qE⟩ := q; exact ⟨q0, q1, va_K.moved (u := U) (U := U.calling g mk a) (Vm.Alike.refl U.vm) qK, EVS.blind g mk a qE⟩, gH_rc hK hT hr_o0 shm_0 rfl, fun U hU hW => ⟨rfl, hU, va_K.moved hW.alike hK, hE.call hS hFc hU hW⟩⟩ rfl rfl hl.1 rfl (lv_room (Nat.le_of_ble_eq_true rfl)) dX12_storm_38 ⟨(Nat.le_of_ble_eq_true rfl), (Nat.le_of_ble_eq_true rfl)⟩) hS (fun q _ h => hFc q h) hFc (fun r135 u t H locs ht hvm hw136 hB _ _ hS => ?_)
          obtain ⟨u137, rfl⟩ : ∃ z, z = u := ⟨_, rfl⟩
          obtain ⟨hT, hF1, m138⟩ := hB
          rw [ht] at hT hF1 m138
          have hF := hF.more hF1 (by decide)
          try dsimp only at hw136
          obtain ⟨h140, hf141, hd142⟩ := hw136
          have t143 : (1 : Int32).toInt = 1 := by decide
          have t144 : (1 : Int32).toInt = 1 := by decide
          have t145 : (0 : Int32).toInt = 0 := by decide
          obtain rfl : (1 : Int32) = r135 := hd142.symm
          refine lv_if_eq (tgt := 46) hx hb dX12_storm_41 (by decide) (fun c146 => absurd c146 (by decide)) (fun c146 => ?_)
          refine lv_iconst (v := 0) hx hb dX12_storm_44 (by decide) ?_
          exact W.iret (v := 0) hx hb hr (fun t ht hW => ⟨⟨0, (u137, wU), rfl, (by exact ⟨(rg_t (a := 0) (by decide) (by first | decide | omega) (by first | decide | omega)), (fun _ _ => rfl), (by have := stC_s p0.toInt p1.toInt p2.toInt; have q0 : (0 : Int32).toInt = 0 := (by decide); have q1 : (1 : Int32).toInt = 1 := (by decide); have qm : (-1 : Int32).toInt = -1 := (by decide); first | exact Or.inr (Or.inl ⟨by omega, by omega, by unfold SU; omega, by omega, rfl⟩) | exact Or.inl ⟨by omega, by omega, rfl⟩)⟩), by (try dsimp only); rw [ht]; exact ⟨hT, hF, m138⟩⟩, hS.F ht⟩) hS.2.2 dX12_storm_45
def w_s_weatherY : List Cond := .code yX12_weather cX12_weather 6 (some .int) :: (HAppend.hAppend (α := List Cond) (β := List Cond) (γ := List Cond) [.fieldLink RX12 194 "SeaLandModel" "thrown" "I", .constant RX12 242 40000, .code yX12_in cX12_in 3 (some .boolean), .methodLink RX12 197 yX12_in, .static yX12_in, .initialized RX12, .code yX12_throwsIf cX12_throwsIf 3 (some .boolean), .methodLink RX12 224 yX12_throwsIf, .instanceMethod yX12_throwsIf, .selects RX12 yX12_throwsIf yX12_throwsIf, .fieldLink RX12 9 "SeaLandModel" "world" "[I", .fieldLink RX12 238 "SeaLandModel" "rows" "I"] bs)
set_option maxHeartbeats 4000000 in
set_option maxRecDepth 100000 in
theorem s_weatherY (l : Launch) (dC : Nat → ClassId) (dI : Nat → Nat → Nat) (kA : Nat → ClassId) (adK adV : Nat → Nat) (G : gT) (H0 : Heap) (q : Nat → Nat) (wZ wN : Nat → Int) (wH wB wC : Int) (wL wK : Nat → Prop) (wU wV : Nat → Nat) (PI : Nat → Int → Prop) (im : Int) (PM PT : Nat → Int → Prop) (lS lB lE : Nat → Nat → Int → Prop) (lN : Nat → Int) (o0 : Nat) (p0 : Int32) (p1 : Int32) (p2 : Int32)  (hT : gH (dC, dI) kA (SHm q (wP wZ wN wH wB wC wL wK wU wV) PI im PM PT lS lB lE lN) G H0) (hr_o0 : G o0 = some 0) (hq0 : 0 ≤ p0.toInt ∧ p0.toInt ≤ 1) (hgz : ∀ i, 0 ≤ wZ i) (hgn : ∀ i, 6500000 ≤ wN i ∧ wN i ≤ 20200000) (hgh : 0 ≤ wH ∧ wH ≤ 40000) (hgb : 0 ≤ wB ∧ wB ≤ 3850000) (hgc : 0 ≤ wC ∧ wC ≤ 30) (hgi : 0 ≤ im ∧ im ≤ 1) (hgu : ∀ a t, G a = some (t + 1) → a = q t) : Met l yX12_weather w_s_weatherY ({ frames := 1, cells := 0, slots := 0, locals := 22 }) (va_Pc [.ref o0, .int p0, .int p1, .int p2] (fun U => U.heap = H0 ∧ va_K (dC, dI) vwCl (tyl kA) U ∧ EVS adK adV (gA G H0.size) U U.heap)) (va_Qi (fun (r : Int32) (u : Int32 × (Nat → Nat)) => match u with | (t1, wU1) => (-1 ≤ r.toInt ∧ r.toInt ≤ 60) ∧ (∀ w, w < 30 → wU1 w = wU w) ∧ ((weC p0.toInt p1.toInt p2.toInt ≠ 0 ∧ t1.toInt = weC p0.toInt p1.toInt p2.toInt ∧ wU1 = wU) ∨ (weC p0.toInt p1.toInt p2.toInt = 0 ∧ t1.toInt = 0 ∧ ((p0.toInt = 0 ∧ SU wU 103 = 60) ∨ (p0.toInt ≠ 0 ∧ SU wU 224 = 60)) ∧ r.toInt = -1 ∧ wU1 = wU) ∨ (weC p0.toInt p1.toInt p2.toInt = 0 ∧ t1.toInt = 0 ∧ p0.toInt = 0 ∧ ∃ n : Nat, SU wU 103 = ((n : Nat) : Int) ∧ n < 60 ∧ r.toInt = ((n : Nat) : Int) + 1 ∧ SU wU1 103 = ((n : Nat) : Int) + 1 ∧ SU wU1 (104 + 2 * n) = p1.toInt ∧ SU wU1 (105 + 2 * n) = p2.toInt ∧ ∀ j, 30 ≤ j → j ≠ 103 → j ≠ 104 + 2 * n → j ≠ 105 + 2 * n → SU wU1 j = SU wU j) ∨ (weC p0.toInt p1.toInt p2.toInt = 0 ∧ t1.toInt = 0 ∧ p0.toInt ≠ 0 ∧ ∃ n : Nat, SU wU 224 = ((n : Nat) : Int) ∧ n < 60 ∧ r.toInt = ((n : Nat) : Int) + 1 ∧ SU wU1 224 = ((n : Nat) : Int) + 1 ∧ SU wU1 (225 + 2 * n) = p1.toInt ∧ SU wU1 (226 + 2 * n) = p2.toInt ∧ ∀ j, 30 ≤ j → j ≠ 224 → j ≠ 225 + 2 * n → j ≠ 226 + 2 * n → SU wU1 j = SU wU j))) (fun (u : Int32 × (Nat → Nat)) (t : State) => match u with | (t1, wU1) => gH (dC, dI) kA (SHm q (wP wZ wN wH wB wC wL wK wU1 wV) PI im PM PT lS lB lE lN) G t.heap ∧ gF (dC, dI) SKm G ([(0, 0), (0, 9), (2, 0)] : List (Nat × Nat)) H0 t.heap ∧ el t.heap o0 (dI 15 0) = some (.int t1)) (gA G H0.size)) 0 0 (gA G H0.size) := by
  refine Met.ofW (cc := cX12_weather) (maxL := 6) (ret := (some .int)) (by decide) rfl ?_
  intro p e s m args below meth c s₁ B hml hv
  obtain ⟨rfl, hH0, hK, hE⟩ := hv
  have hx := B.exec
  have hb := B.bytes
  have hr := B.returns
  have hts := atoms_spec (ws := w_s_weatherY) B.pre
  have hown : s.vm.findClass RX12 = some m.cls := findClass_of_methodNamed B.named
  have hlocks := B.notSynchronized
  subst hH0
  generalize hAe : gA G s.heap.size = A at hE ⊢
  have hA : ∀ q : Nat, s.heap.size ≤ q → A q := fun q h => by rw [← hAe]; exact Or.inr h
  have hG := gA_of hAe
  have hS : va_S A s.heap s.heap [] := va_S.rf
  have hF : gF (dC, dI) SKm G ([(0, 0), (0, 9), (2, 0)] : List (Nat × Nat)) s.heap s.heap := gF.rf
  have hl := lv_entry ([.ref o0, .int p0, .int p1, .int p2]) (n := 6) (Nat.le_of_ble_eq_true rfl)
  rw [lg_entry_eq]
  generalize (lg_sl ([.ref o0, .int p0, .int p1, .int p2]) ++ List.replicate (6 - (lg_sl ([.ref o0, .int p0, .int p1, .int p2])).length) Slot.unset).toArray = ls at hl ⊢
  have hl : lv_has ls 6 [(0, .ref o0), (1, .int p0), (2, .int p1), (3, .int p2)] := hl
  refine lv_aload_n hx hb dX12_weather_0 rfl (lv_at hl 0 rfl) ?_
  refine lv_iconst (v := 0) hx hb dX12_weather_1 (by decide) ?_
  refine tw_put (v := .int 0) (ty := .int) hx hb hts bF_X12 tyX12 tyX12_ok nmX12 hown hK hT hG hS hr_o0 shm_0 rfl 0 (by decide) (ht_at hts 0 rfl) (fun _ h9 => h9) rfl (by decide +kernel) rfl rfl (gl_at rfl (gi_all _)) dX12_weather_2 (fun H locs hT oq m1 oj hS => ?_)
  have hF := hF.put hr_o0 skm_0 oq oj (by decide)
  refine lv_aload_n hx hb dX12_weather_5 rfl (lv_at hl 0 rfl) ?_
  refine lv_iload_n hx hb dX12_weather_6 rfl (lv_at hl 2 rfl) ?_
  refine lv_iconst (v := 0) hx hb dX12_weather_7 (by decide) ?_
  refine lv_ldc (v := 40000) hx hb hown (ht_at hts 1 rfl) dX12_weather_8 ?_
  have hFc := gA_free hG hA hS
  refine va_calli (va_runS (As := [.int p1, .int 0, .int 40000]) (rest := [.ref o0]) ⟨hx, hb, hml, hown, hts⟩ (s_in l dC dI kA adK adV G H q wZ wN wH wB wC wL wK wU wV PI im PM PT lS lB lE lN p1 0 40000 hT hgz hgn hgh hgb hgc hgi hgu) (va_cwS 3 hts (goodIn_app (goodIn_r _ [4, 5, 6] rfl (by decide +kernel)) (goodIn_ca (goodIn_r _ [3] rfl (by decide +kernel)) (bs_in _ _))) rfl rfl rfl (by decide +kernel) ⟨(Nat.le_of_ble_eq_true rfl), (Nat.le_of_ble_eq_true rfl)⟩) ⟨fun a U g mk q => by obtain ⟨q0, q1, qK, qE⟩ := q; exact ⟨q0, q1, va_K.moved (u := U) (U := U.calling g mk a) (Vm.Alike.refl U.vm) qK, EVS.blind g mk a qE⟩, fun U hU hW => ⟨rfl, hU, va_K.moved hW.alike hK, hE.call hS hFc hU hW⟩⟩ rfl rfl hl.1 rfl (lv_room (Nat.le_of_ble_eq_true rfl)) dX12_weather_10 ⟨(Nat.le_of_ble_eq_true rfl), (Nat.le_of_ble_eq_true rfl)⟩) hS (fun q _ h => hFc q h) hFc (fun r2 u t H locs ht hvm hw3 hB _ _ hS => ?_)
  obtain ⟨hT, hF1⟩ := hB
  rw [ht] at hT hF1
  have m4 := (hF1.fld hr_o0 skm_0 (k := 0) (by decide) (by decide)).trans m1
  have hF := hF.more hF1 (by decide)
  try dsimp only at hw3
  obtain ⟨h5, hi6, hi7⟩ := hw3
  refine lv_if_eq (tgt := 43) hx hb dX12_weather_13 (by decide) (fun c8 => ?_) (fun c8 => ?_)
  · have t9 : r2.toInt = 0 := ti_eq c8 rfl (by decide)
    have t10 : (0 : Int32).toInt = 0 := by decide
    have t11 : (40000 : Int32).toInt = 40000 := by decide
    have t12 : p1.toInt < (0 : Int32).toInt ∨ (40000 : Int32).toInt < p1.toInt := hi7 c8
    refine lv_iconst (v := 1) hx hb dX12_weather_43 (by decide) ?_
    refine lv_goto (tgt := 48) hx hb dX12_weather_44 (by decide) ?_
    refine lv_iconst (v := 1) hx hb dX12_weather_48 (by decide) ?_
    have hFc := gA_free hG hA hS
    refine va_calli (va_runV (As := [.int 1, .int 1]) (rest := []) ⟨hx, hb, hml, hown, hts⟩ (s_throwsIfP l dC dI kA adK adV G H q wZ wN wH wB wC wL wK wU wV PI im PM PT lS lB lE lN o0 1 1 0 hT hr_o0 m4 (rg_t (a := 1) (by decide) (by first | decide | omega) (by first | decide | omega)) hgz hgn hgh hgb hgc hgi hgu) (cwV 2 hts (goodIn_app (goodIn_r _ [8, 9, 10, 6] rfl (by decide +kernel)) (goodIn_ca (goodIn_r _ [7, 1] rfl (by decide +kernel)) (bs_in _ _))) rfl rfl rfl (by decide +kernel) ⟨(Nat.le_of_ble_eq_true rfl), (Nat.le_of_ble_eq_true rfl)⟩) ⟨fun a U g mk q => by obtain ⟨q0, q1, qK, qE⟩ := q; exact ⟨q0, q1, va_K.moved (u := U) (U := U.calling g mk a) (Vm.Alike.refl U.vm) qK, EVS.blind g mk a qE⟩, gH_rc hK hT hr_o0 shm_0 rfl, fun U hU hW => ⟨rfl, hU, va_K.moved hW.alike hK, hE.call hS hFc hU hW⟩⟩ rfl rfl hl.1 rfl (lv_room (Nat.le_of_ble_eq_true rfl)) dX12_weather_49 ⟨(Nat.le_of_ble_eq_true rfl), (Nat.le_of_ble_eq_true rfl)⟩) hS (fun q _ h => hFc q h) hFc (fun r13 u t H locs ht hvm hw14 hB _ _ hS => ?_)
    obtain ⟨u15, rfl⟩ : ∃ z, z = u := ⟨_, rfl⟩
    obtain ⟨hT, hF1, m16⟩ := hB
    rw [ht] at hT hF1 m16
    have hF := hF.more hF1 (by decide)
    try dsimp only at hw14
    obtain ⟨h18, hf19, hd20⟩ := hw14
    have t21 : (1 : Int32).toInt = 1 := by decide
    have t22 : (1 : Int32).toInt = 1 := by decide
    have t23 : (0 : Int32).toInt = 0 := by decide
    obtain rfl : (1 : Int32) = r13 := hd20.symm
    refine lv_if_eq (tgt := 57) hx hb dX12_weather_52 (by decide) (fun c24 => absurd c24 (by decide)) (fun c24 => ?_)
    refine lv_iconst (v := 0) hx hb dX12_weather_55 (by decide) ?_
    exact W.iret (v := 0) hx hb hr (fun t ht hW => ⟨⟨0, (u15, wU), rfl, (by exact ⟨(rg_t (a := 0) (by decide) (by first | decide | omega) (by first | decide | omega)), (fun _ _ => rfl), (by have := weC_s p0.toInt p1.toInt p2.toInt; have q0 : (0 : Int32).toInt = 0 := (by decide); have q1 : (1 : Int32).toInt = 1 := (by decide); have qm : (-1 : Int32).toInt = -1 := (by decide); first | exact Or.inr (Or.inl ⟨by omega, by omega, by unfold SU; omega, by omega, rfl⟩) | exact Or.inl ⟨by omega, by omega, rfl⟩)⟩), by (try dsimp only); rw [ht]; exact ⟨hT, hF, m16⟩⟩, hS.F ht⟩) hS.2.2 dX12_weather_56
  · have t25 : r2.toInt ≠ 0 := ti_ne c8 rfl (by decide)
    have t26 : (0 : Int32).toInt = 0 := by decide
    have t27 : (40000 : Int32).toInt = 40000 := by decide
    have t28 : (0 : Int32).toInt ≤ p1.toInt ∧ p1.toInt ≤ (40000 : Int32).toInt := hi6 ((bit_of ⟨by omega, by omega⟩).resolve_left c8)
    refine lv_iload_n hx hb dX12_weather_16 rfl (lv_at hl 1 rfl) ?_
    refine lv_if_eq (tgt := 33) hx hb dX12_weather_17 (by decide) (fun c29 => ?_) (fun c29 => ?_)
    · have t30 : p0.toInt = 0 := ti_eq c29 rfl (by decide)
      refine lv_iload_n hx hb dX12_weather_33 rfl (lv_at hl 3 rfl) ?_
      refine lv_iconst (v := (-1)) hx hb dX12_weather_34 (by decide) ?_
      refine lv_bipush (v := 9) hx hb dX12_weather_35 (by decide) ?_
      have hFc := gA_free hG hA hS
      refine va_calli (va_runS (As := [.int p2, .int (-1), .int 9]) (rest := [.ref o0]) ⟨hx, hb, hml, hown, hts⟩ (s_in l dC dI kA adK adV G H q wZ wN wH wB wC wL wK wU wV PI im PM PT lS lB lE lN p2 (-1) 9 hT hgz hgn hgh hgb hgc hgi hgu) (va_cwS 3 hts (goodIn_app (goodIn_r _ [4, 5, 6] rfl (by decide +kernel)) (goodIn_ca (goodIn_r _ [3] rfl (by decide +kernel)) (bs_in _ _))) rfl rfl rfl (by decide +kernel) ⟨(Nat.le_of_ble_eq_true rfl), (Nat.le_of_ble_eq_true rfl)⟩) ⟨fun a U g mk q => by obtain ⟨q0, q1, qK, qE⟩ := q; exact ⟨q0, q1, va_K.moved (u := U) (U := U.calling g mk a) (Vm.Alike.refl U.vm) qK, EVS.blind g mk a qE⟩, fun U hU hW => ⟨rfl, hU, va_K.moved hW.alike hK, hE.call hS hFc hU hW⟩⟩ rfl rfl hl.1 rfl (lv_room (Nat.le_of_ble_eq_true rfl)) dX12_weather_37 ⟨(Nat.le_of_ble_eq_true rfl), (Nat.le_of_ble_eq_true rfl)⟩) hS (fun q _ h => hFc q h) hFc (fun r31 u t H locs ht hvm hw32 hB _ _ hS => ?_)
      obtain ⟨hT, hF1⟩ := hB
      rw [ht] at hT hF1
      have m33 := (hF1.fld hr_o0 skm_0 (k := 0) (by decide) (by decide)).trans m4
      have hF := hF.more hF1 (by decide)
      try dsimp only at hw32
      obtain ⟨h34, hi35, hi36⟩ := hw32
      refine lv_if_ne (tgt := 47) hx hb dX12_weather_40 (by decide) (fun c37 => ?_) (fun c37 => ?_)
      · have t38 : r31.toInt ≠ 0 := ti_ne c37 rfl (by decide)
        have t39 : (-1 : Int32).toInt = (-1) := by decide
        have t40 : (9 : Int32).toInt = 9 := by decide
        have t41 : (-1 : Int32).toInt ≤ p2.toInt ∧ p2.toInt ≤ (9 : Int32).toInt := hi35 ((bit_of ⟨by omega, by omega⟩).resolve_left c37)
        refine lv_iconst (v := 0) hx hb dX12_weather_47 (by decide) ?_
        refine lv_iconst (v := 1) hx hb dX12_weather_48 (by decide) ?_
        have hFc := gA_free hG hA hS
        refine va_calli (va_runV (As := [.int 0, .int 1]) (rest := []) ⟨hx, hb, hml, hown, hts⟩ (s_throwsIfP l dC dI kA adK adV G H q wZ wN wH wB wC wL wK wU wV PI im PM PT lS lB lE lN o0 0 1 0 hT hr_o0 m33 (rg_t (a := 0) (by decide) (by first | decide | omega) (by first | decide | omega)) hgz hgn hgh hgb hgc hgi hgu) (cwV 2 hts (goodIn_app (goodIn_r _ [8, 9, 10, 6] rfl (by decide +kernel)) (goodIn_ca (goodIn_r _ [7, 1] rfl (by decide +kernel)) (bs_in _ _))) rfl rfl rfl (by decide +kernel) ⟨(Nat.le_of_ble_eq_true rfl), (Nat.le_of_ble_eq_true rfl)⟩) ⟨fun a U g mk q => by obtain ⟨q0, q1, qK, qE⟩ := q; exact ⟨q0, q1, va_K.moved (u := U) (U := U.calling g mk a) (Vm.Alike.refl U.vm) qK, EVS.blind g mk a qE⟩, gH_rc hK hT hr_o0 shm_0 rfl, fun U hU hW => ⟨rfl, hU, va_K.moved hW.alike hK, hE.call hS hFc hU hW⟩⟩ rfl rfl hl.1 rfl (lv_room (Nat.le_of_ble_eq_true rfl)) dX12_weather_49 ⟨(Nat.le_of_ble_eq_true rfl), (Nat.le_of_ble_eq_true rfl)⟩) hS (fun q _ h => hFc q h) hFc (fun r42 u t H locs ht hvm hw43 hB _ _ hS => ?_)
        obtain ⟨u44, rfl⟩ : ∃ z, z = u := ⟨_, rfl⟩
        obtain ⟨hT, hF1, m45⟩ := hB
        rw [ht] at hT hF1 m45
        have hF := hF.more hF1 (by decide)
        try dsimp only at hw43
        obtain ⟨h47, hf48, hd49⟩ := hw43
        have t50 : (0 : Int32).toInt = 0 := by decide
        have t51 : (1 : Int32).toInt = 1 := by decide
        have t52 : (0 : Int32).toInt = 0 := by decide
        obtain rfl : (0 : Int32) = r42 := hd49.symm
        refine lv_if_eq (tgt := 57) hx hb dX12_weather_52 (by decide) (fun c53 => ?_) (fun c53 => absurd c53 (by decide))
        refine lv_iload_n hx hb dX12_weather_57 rfl (lv_at hl 1 rfl) ?_
        refine lv_if_eq (tgt := 67) hx hb dX12_weather_58 (by decide) (fun c54 => ?_) (fun c54 => (by exfalso; have q9 : p0.toInt ≠ 0 := ti_ne c54 rfl (by decide); omega))
        have t55 : p0.toInt = 0 := ti_eq c54 rfl (by decide)
        refine lv_sipush (v := 1503) hx hb dX12_weather_67 (by decide) ?_
        refine lv_istore (lv' := [(4, .int 1503), (0, .ref o0), (1, .int p0), (2, .int p1), (3, .int p2)]) hx hb dX12_weather_70 hl (by decide) rfl (fun ls hl => ?_)
        refine lv_iload_n hx hb dX12_weather_72 rfl (lv_at hl 2 rfl) ?_
        refine lv_if_eq (tgt := 82) hx hb dX12_weather_73 (by decide) (fun c56 => ?_) (fun c56 => (by exfalso; have q9 : p0.toInt ≠ 0 := ti_ne c56 rfl (by decide); omega))
        have t57 : p0.toInt = 0 := ti_eq c56 rfl (by decide)
        refine lv_sipush (v := 1504) hx hb dX12_weather_82 (by decide) ?_
        refine lv_iconst (v := 2) hx hb dX12_weather_85 (by decide) ?_
        refine lv_aload_n hx hb dX12_weather_86 rfl (lv_at hl 1 rfl) ?_
        refine tw_get hx hb hts bF_X12 hown hK hT hr_o0 shm_0 rfl 1 (by decide) (ht_at hts 10 rfl) (fun _ h9 => h9) dX12_weather_87 (fun v9 m58 h9 => ?_)
        obtain ⟨rfl, hg59⟩ := h9 _ rfl
        refine lv_iload hx hb dX12_weather_90 (lv_at hl 0 rfl) ?_
        refine tw_iald (i := 1503) hx hb hK hT hg59 shm_2 rfl (by unfold vp_in; decide) dX12_weather_92 (fun v9 m60 h9 => ?_)
        obtain ⟨x61, rfl, gx61, kx61⟩ := (gp_at h9 (w_wic (by have q9 := tn_of (show (1503 : Int32).toInt = 1503 from (by decide)) (show (0 : Int) ≤ 1503 from by omega); omega)))
        have t62 : x61.toInt = ((wU 103 : Nat) : Int) - 1000 := (by have q := (wq_l hT hg59 (by decide) m60).2.2.1.2 ⟨by decide, by decide⟩; rw [show (1503 : Int32).toNatClampNeg - 1400 = 103 from by decide] at q; exact q)
        refine lv_imul hx hb dX12_weather_93 ?_
        refine lv_topi (fun x63 ex63 => ?_)
        have t64 : x63.toInt = 2 * x61.toInt := ti_mul ex63 (by decide) rfl (by omega) (by omega)
        refine lv_iadd hx hb dX12_weather_94 ?_
        refine lv_topi (fun x65 ex65 => ?_)
        have t66 : x65.toInt = 1504 + x63.toInt := ti_add ex65 (by decide) rfl (by omega) (by omega)
        refine lv_istore (lv' := [(5, .int x65), (4, .int 1503), (0, .ref o0), (1, .int p0), (2, .int p1), (3, .int p2)]) hx hb dX12_weather_95 hl (by decide) rfl (fun ls hl => ?_)
        refine lv_aload_n hx hb dX12_weather_97 rfl (lv_at hl 2 rfl) ?_
        refine tw_get hx hb hts bF_X12 hown hK hT hr_o0 shm_0 rfl 1 (by decide) (ht_at hts 10 rfl) (fun _ h9 => h9) dX12_weather_98 (fun v9 m67 h9 => ?_)
        obtain ⟨rfl, hg68⟩ := h9 _ rfl
        refine lv_iload hx hb dX12_weather_101 (lv_at hl 1 rfl) ?_
        refine tw_iald (i := 1503) hx hb hK hT hg59 shm_2 rfl (by unfold vp_in; decide) dX12_weather_103 (fun v9 m69 h9 => ?_)
        obtain ⟨x70, rfl, gx70, kx70⟩ := (gp_at h9 (w_wic (by have q9 := tn_of (show (1503 : Int32).toInt = 1503 from (by decide)) (show (0 : Int) ≤ 1503 from by omega); omega)))
        obtain rfl : x61 = x70 := (el_same m69 m60 rfl).symm
        refine lv_bipush (v := 60) hx hb dX12_weather_104 (by decide) ?_
        refine lv_icmp_ne (tgt := 111) hx hb dX12_weather_106 (by decide) (fun c71 => ?_) (fun c71 => ?_)
        · have t72 : x61.toInt ≠ 60 := ti_ne c71 rfl (by decide)
          refine lv_aload_n hx hb dX12_weather_111 rfl (lv_at hl 2 rfl) ?_
          refine tw_get hx hb hts bF_X12 hown hK hT hr_o0 shm_0 rfl 1 (by decide) (ht_at hts 10 rfl) (fun _ h9 => h9) dX12_weather_112 (fun v9 m73 h9 => ?_)
          obtain ⟨rfl, hg74⟩ := h9 _ rfl
          refine lv_iload hx hb dX12_weather_115 (lv_at hl 0 rfl) ?_
          refine lv_iload_n hx hb dX12_weather_117 rfl (lv_at hl 4 rfl) ?_
          refine tw_iast2 (Sg1 := (SHm q (wP wZ wN wH wB wC wL wK (sU wU (x65.toNatClampNeg - 1400) (p1.toInt + 1000).toNat) wV) PI im PM PT lS lB lE lN)) (i := x65) (x := p1) hx hb hK hT hG hS hg59 shm_2 rfl shm_2 shm_o2 (fun b9 h9 => hgu b9 1 h9) (vin_t (a := x65.toInt) rfl (by omega) (by omega)) (gp_of (gi_all _) (w_fre (by have q9 := tn_of (show x65.toInt = x65.toInt from rfl) (show (0 : Int) ≤ x65.toInt from by omega); omega)) (wX_s (k := x65.toNatClampNeg - 1400) (v := (p1.toInt + 1000).toNat) ⟨by have q9 := tn_of (show x65.toInt = x65.toInt from rfl) (show (0 : Int) ≤ x65.toInt from by omega); omega, by have q9 := tn_of (show x65.toInt = x65.toInt from rfl) (show (0 : Int) ≤ x65.toInt from by omega); omega⟩ (by omega) (by have := (show p1.toInt = p1.toInt from rfl); omega))) (fun k9 hk9 hne9 v9 hv9 he9 => by obtain ⟨x9, rfl, p9⟩ := he9; exact ⟨x9, rfl, wP_U (by omega) (pl := x65.toNatClampNeg) ⟨by have q9 := tn_of (show x65.toInt = x65.toInt from rfl) (show (0 : Int) ≤ x65.toInt from by omega); omega, by have q9 := tn_of (show x65.toInt = x65.toInt from rfl) (show (0 : Int) ≤ x65.toInt from by omega); omega⟩ hne9 p9⟩) dX12_weather_118 (fun H locs hT oq m75 oi hS => ?_)
          have hF := hF.ast hg59 skm_2 oq (by decide)
          have m76 := (el_kept (oq _ (gne hr_o0 hg59 (by decide)))).trans m45
          have m77 := (oi _ (tn_ne (show (1503 : Int32).toInt = 1503 from (by decide)) (show x65.toInt = x65.toInt from rfl) (by omega) (by omega) (by omega))).trans m60
          refine lv_aload_n hx hb dX12_weather_119 rfl (lv_at hl 2 rfl) ?_
          refine tw_get hx hb hts bF_X12 hown hK hT hr_o0 shm_0 rfl 1 (by decide) (ht_at hts 10 rfl) (fun _ h9 => h9) dX12_weather_120 (fun v9 m78 h9 => ?_)
          obtain ⟨rfl, hg79⟩ := h9 _ rfl
          refine lv_iload hx hb dX12_weather_123 (lv_at hl 0 rfl) ?_
          refine lv_iconst (v := 1) hx hb dX12_weather_125 (by decide) ?_
          refine lv_iadd hx hb dX12_weather_126 ?_
          refine lv_topi (fun x80 ex80 => ?_)
          have t81 : x80.toInt = x65.toInt + 1 := ti_add ex80 rfl (by decide) (by omega) (by omega)
          refine lv_iload_n hx hb dX12_weather_127 rfl (lv_at hl 5 rfl) ?_
          refine tw_iast2 (Sg1 := (SHm q (wP wZ wN wH wB wC wL wK (sU (sU wU (x65.toNatClampNeg - 1400) (p1.toInt + 1000).toNat) (x80.toNatClampNeg - 1400) (p2.toInt + 1000).toNat) wV) PI im PM PT lS lB lE lN)) (i := x80) (x := p2) hx hb hK hT hG hS hg59 shm_2 rfl shm_2 shm_o2 (fun b9 h9 => hgu b9 1 h9) (vin_t (a := x80.toInt) rfl (by omega) (by omega)) (gp_of (gi_of (show p2.toInt = p2.toInt from rfl) (by omega) (by omega)) (w_wid (by have q9 := tn_of (show x80.toInt = x80.toInt from rfl) (show (0 : Int) ≤ x80.toInt from by omega); omega)) (wX_s (k := x80.toNatClampNeg - 1400) (v := (p2.toInt + 1000).toNat) ⟨by have q9 := tn_of (show x80.toInt = x80.toInt from rfl) (show (0 : Int) ≤ x80.toInt from by omega); omega, by have q9 := tn_of (show x80.toInt = x80.toInt from rfl) (show (0 : Int) ≤ x80.toInt from by omega); omega⟩ (by omega) (by have := (show p2.toInt = p2.toInt from rfl); omega))) (fun k9 hk9 hne9 v9 hv9 he9 => by obtain ⟨x9, rfl, p9⟩ := he9; exact ⟨x9, rfl, wP_U (by omega) (pl := x80.toNatClampNeg) ⟨by have q9 := tn_of (show x80.toInt = x80.toInt from rfl) (show (0 : Int) ≤ x80.toInt from by omega); omega, by have q9 := tn_of (show x80.toInt = x80.toInt from rfl) (show (0 : Int) ≤ x80.toInt from by omega); omega⟩ hne9 p9⟩) dX12_weather_128 (fun H locs hT oq m82 oi hS => ?_)
          have hF := hF.ast hg59 skm_2 oq (by decide)
          have m83 := (el_kept (oq _ (gne hr_o0 hg59 (by decide)))).trans m76
          have m84 := (oi _ (tn_ne (show (1503 : Int32).toInt = 1503 from (by decide)) (show x80.toInt = x80.toInt from rfl) (by omega) (by omega) (by omega))).trans m77
          refine lv_aload_n hx hb dX12_weather_129 rfl (lv_at hl 2 rfl) ?_
          refine tw_get hx hb hts bF_X12 hown hK hT hr_o0 shm_0 rfl 1 (by decide) (ht_at hts 10 rfl) (fun _ h9 => h9) dX12_weather_130 (fun v9 m86 h9 => ?_)
          obtain ⟨rfl, hg87⟩ := h9 _ rfl
          refine lv_iload hx hb dX12_weather_133 (lv_at hl 1 rfl) ?_
          refine lv_dup2_11 hx hb dX12_weather_135 rfl rfl ?_
          refine tw_iald (i := 1503) hx hb hK hT hg59 shm_2 rfl (by unfold vp_in; decide) dX12_weather_136 (fun v9 m88 h9 => ?_)
          obtain ⟨x89, rfl, gx89, kx89⟩ := (gp_at h9 (w_wic (by have q9 := tn_of (show (1503 : Int32).toInt = 1503 from (by decide)) (show (0 : Int) ≤ 1503 from by omega); omega)))
          obtain rfl : x61 = x89 := (el_same m88 m84 rfl).symm
          refine lv_iconst (v := 1) hx hb dX12_weather_137 (by decide) ?_
          refine lv_iadd hx hb dX12_weather_138 ?_
          refine lv_topi (fun x90 ex90 => ?_)
          have t91 : x90.toInt = x61.toInt + 1 := ti_add ex90 rfl (by decide) (by omega) (by omega)
          refine tw_iast2 (Sg1 := (SHm q (wP wZ wN wH wB wC wL wK (sU (sU (sU wU (x65.toNatClampNeg - 1400) (p1.toInt + 1000).toNat) (x80.toNatClampNeg - 1400) (p2.toInt + 1000).toNat) ((1503 : Int32).toNatClampNeg - 1400) (x90.toInt + 1000).toNat) wV) PI im PM PT lS lB lE lN)) (i := 1503) (x := x90) hx hb hK hT hG hS hg59 shm_2 rfl shm_2 shm_o2 (fun b9 h9 => hgu b9 1 h9) (by unfold vp_in; decide) (gp_of (gi_of (show x90.toInt = x90.toInt from rfl) (by omega) (by omega)) (w_wic (by have q9 := tn_of (show (1503 : Int32).toInt = 1503 from (by decide)) (show (0 : Int) ≤ 1503 from by omega); omega)) (wX_s (k := (1503 : Int32).toNatClampNeg - 1400) (v := (x90.toInt + 1000).toNat) ⟨by have q9 := tn_of (show (1503 : Int32).toInt = 1503 from (by decide)) (show (0 : Int) ≤ 1503 from by omega); omega, by have q9 := tn_of (show (1503 : Int32).toInt = 1503 from (by decide)) (show (0 : Int) ≤ 1503 from by omega); omega⟩ (by omega) (by have := (show x90.toInt = x90.toInt from rfl); omega))) (fun k9 hk9 hne9 v9 hv9 he9 => by obtain ⟨x9, rfl, p9⟩ := he9; exact ⟨x9, rfl, wP_U (by omega) (pl := (1503 : Int32).toNatClampNeg) ⟨by have q9 := tn_of (show (1503 : Int32).toInt = 1503 from (by decide)) (show (0 : Int) ≤ 1503 from by omega); omega, by have q9 := tn_of (show (1503 : Int32).toInt = 1503 from (by decide)) (show (0 : Int) ≤ 1503 from by omega); omega⟩ hne9 p9⟩) dX12_weather_139 (fun H locs hT oq m92 oi hS => ?_)
          have hF := hF.ast hg59 skm_2 oq (by decide)
          have m93 := (el_kept (oq _ (gne hr_o0 hg59 (by decide)))).trans m83
          refine lv_aload_n hx hb dX12_weather_140 rfl (lv_at hl 2 rfl) ?_
          refine lv_iconst (v := 0) hx hb dX12_weather_141 (by decide) ?_
          refine tw_put (v := .int 0) (ty := .int) hx hb hts bF_X12 tyX12 tyX12_ok nmX12 hown hK hT hG hS hr_o0 shm_0 rfl 9 (by decide) (ht_at hts 11 rfl) (fun _ h9 => h9) rfl (by decide +kernel) rfl rfl (gl_at rfl (gi_of (show (0 : Int32).toInt = 0 from (by decide)) (by first | decide | omega) (by first | decide | omega))) dX12_weather_142 (fun H locs hT oq m96 oj hS => ?_)
          have hF := hF.put hr_o0 skm_0 oq oj (by decide)
          have m97 := (oj 0 (by decide) (by decide)).trans m93
          have m100 := (el_kept (oq _ (gne hg59 hr_o0 (by decide)))).trans m92
          refine lv_aload_n hx hb dX12_weather_145 rfl (lv_at hl 2 rfl) ?_
          refine tw_get hx hb hts bF_X12 hown hK hT hr_o0 shm_0 rfl 1 (by decide) (ht_at hts 10 rfl) (fun _ h9 => h9) dX12_weather_146 (fun v9 m101 h9 => ?_)
          obtain ⟨rfl, hg102⟩ := h9 _ rfl
          refine lv_iload hx hb dX12_weather_149 (lv_at hl 1 rfl) ?_
          refine tw_iald (i := 1503) hx hb hK hT hg59 shm_2 rfl (by unfold vp_in; decide) dX12_weather_151 (fun v9 m103 h9 => ?_)
          obtain ⟨x104, rfl, gx104, kx104⟩ := (gp_at h9 (w_wic (by have q9 := tn_of (show (1503 : Int32).toInt = 1503 from (by decide)) (show (0 : Int) ≤ 1503 from by omega); omega)))
          obtain rfl : x90 = x104 := (el_same m103 m100 rfl).symm
          exact W.iret (v := x90) hx hb hr (fun t ht hW => ⟨⟨x90, (u44, (sU (sU (sU wU (x65.toNatClampNeg - 1400) (p1.toInt + 1000).toNat) (x80.toNatClampNeg - 1400) (p2.toInt + 1000).toNat) ((1503 : Int32).toNatClampNeg - 1400) (x90.toInt + 1000).toNat)), rfl, (by exact ⟨(by have q8 := ti_all x90; omega), (fun w9 h9 => by have := tn_of (show x65.toInt = x65.toInt from rfl) (by omega); have := tn_of (show x80.toInt = x80.toInt from rfl) (by omega); have : (1503 : Int32).toNatClampNeg = 1503 := (by decide); rw [sU_o (by omega)]; rw [sU_o (by omega)]; rw [sU_o (by omega)]), (Or.inr (Or.inr (Or.inl ⟨by have := weC_s p0.toInt p1.toInt p2.toInt; omega, by have q0 : (0 : Int32).toInt = 0 := (by decide); have q1 : (1 : Int32).toInt = 1 := (by decide); have qm : (-1 : Int32).toInt = -1 := (by decide); omega, by omega, (SU wU 103).toNat, by unfold SU; omega, by unfold SU; omega, by unfold SU; omega, (by have := tn_of (show x65.toInt = x65.toInt from rfl) (by omega); have := tn_of (show x80.toInt = x80.toInt from rfl) (by omega); have : (1503 : Int32).toNatClampNeg = 1503 := (by decide); unfold SU sU; (repeat' split) <;> omega), (by have := tn_of (show x65.toInt = x65.toInt from rfl) (by omega); have := tn_of (show x80.toInt = x80.toInt from rfl) (by omega); have : (1503 : Int32).toNatClampNeg = 1503 := (by decide); unfold SU sU; (repeat' split) <;> omega), (by have := tn_of (show x65.toInt = x65.toInt from rfl) (by omega); have := tn_of (show x80.toInt = x80.toInt from rfl) (by omega); have : (1503 : Int32).toNatClampNeg = 1503 := (by decide); unfold SU sU; (repeat' split) <;> omega), fun j9 a9 b9 c9 d9 => (by unfold SU at c9 d9; have := tn_of (show x65.toInt = x65.toInt from rfl) (by omega); have := tn_of (show x80.toInt = x80.toInt from rfl) (by omega); have : (1503 : Int32).toNatClampNeg = 1503 := (by decide); unfold SU sU; (repeat' split) <;> omega)⟩)))⟩), by (try dsimp only); rw [ht]; exact ⟨hT, hF, m97⟩⟩, hS.F ht⟩) hS.2.2 dX12_weather_152
        · have t105 : x61.toInt = 60 := ti_eq c71 rfl (by decide)
          refine lv_iconst (v := (-1)) hx hb dX12_weather_109 (by decide) ?_
          exact W.iret (v := (-1)) hx hb hr (fun t ht hW => ⟨⟨(-1), (u44, wU), rfl, (by exact ⟨(rg_t (a := (-1)) (by decide) (by first | decide | omega) (by first | decide | omega)), (fun _ _ => rfl), (by have := weC_s p0.toInt p1.toInt p2.toInt; have q0 : (0 : Int32).toInt = 0 := (by decide); have q1 : (1 : Int32).toInt = 1 := (by decide); have qm : (-1 : Int32).toInt = -1 := (by decide); first | exact Or.inr (Or.inl ⟨by omega, by omega, by unfold SU; omega, by omega, rfl⟩) | exact Or.inl ⟨by omega, by omega, rfl⟩)⟩), by (try dsimp only); rw [ht]; exact ⟨hT, hF, m45⟩⟩, hS.F ht⟩) hS.2.2 dX12_weather_110
      · have t106 : r31.toInt = 0 := ti_eq c37 rfl (by decide)
        have t107 : (-1 : Int32).toInt = (-1) := by decide
        have t108 : (9 : Int32).toInt = 9 := by decide
        have t109 : p2.toInt < (-1 : Int32).toInt ∨ (9 : Int32).toInt < p2.toInt := hi36 c37
        refine lv_iconst (v := 1) hx hb dX12_weather_43 (by decide) ?_
        refine lv_goto (tgt := 48) hx hb dX12_weather_44 (by decide) ?_
        refine lv_iconst (v := 1) hx hb dX12_weather_48 (by decide) ?_
        have hFc := gA_free hG hA hS
        refine va_calli (va_runV (As := [.int 1, .int 1]) (rest := []) ⟨hx, hb, hml, hown, hts⟩ (s_throwsIfP l dC dI kA adK adV G H q wZ wN wH wB wC wL wK wU wV PI im PM PT lS lB lE lN o0 1 1 0 hT hr_o0 m33 (rg_t (a := 1) (by decide) (by first | decide | omega) (by first | decide | omega)) hgz hgn hgh hgb hgc hgi hgu) (cwV 2 hts (goodIn_app (goodIn_r _ [8, 9, 10, 6] rfl (by decide +kernel)) (goodIn_ca (goodIn_r _ [7, 1] rfl (by decide +kernel)) (bs_in _ _))) rfl rfl rfl (by decide +kernel) ⟨(Nat.le_of_ble_eq_true rfl), (Nat.le_of_ble_eq_true rfl)⟩) ⟨fun a U g mk q => by obtain ⟨q0, q1, qK, qE⟩ := q; exact ⟨q0, q1, va_K.moved (u := U) (U := U.calling g mk a) (Vm.Alike.refl U.vm) qK, EVS.blind g mk a qE⟩, gH_rc hK hT hr_o0 shm_0 rfl, fun U hU hW => ⟨rfl, hU, va_K.moved hW.alike hK, hE.call hS hFc hU hW⟩⟩ rfl rfl hl.1 rfl (lv_room (Nat.le_of_ble_eq_true rfl)) dX12_weather_49 ⟨(Nat.le_of_ble_eq_true rfl), (Nat.le_of_ble_eq_true rfl)⟩) hS (fun q _ h => hFc q h) hFc (fun r110 u t H locs ht hvm hw111 hB _ _ hS => ?_)
        obtain ⟨u112, rfl⟩ : ∃ z, z = u := ⟨_, rfl⟩
        obtain ⟨hT, hF1, m113⟩ := hB
        rw [ht] at hT hF1 m113
        have hF := hF.more hF1 (by decide)
        try dsimp only at hw111
        obtain ⟨h115, hf116, hd117⟩ := hw111
        have t118 : (1 : Int32).toInt = 1 := by decide
        have t119 : (1 : Int32).toInt = 1 := by decide
        have t120 : (0 : Int32).toInt = 0 := by decide
        obtain rfl : (1 : Int32) = r110 := hd117.symm
        refine lv_if_eq (tgt := 57) hx hb dX12_weather_52 (by decide) (fun c121 => absurd c121 (by decide)) (fun c121 => ?_)
        refine lv_iconst (v := 0) hx hb dX12_weather_55 (by decide) ?_
        exact W.iret (v := 0) hx hb hr (fun t ht hW => ⟨⟨0, (u112, wU), rfl, (by exact ⟨(rg_t (a := 0) (by decide) (by first | decide | omega) (by first | decide | omega)), (fun _ _ => rfl), (by have := weC_s p0.toInt p1.toInt p2.toInt; have q0 : (0 : Int32).toInt = 0 := (by decide); have q1 : (1 : Int32).toInt = 1 := (by decide); have qm : (-1 : Int32).toInt = -1 := (by decide); first | exact Or.inr (Or.inl ⟨by omega, by omega, by unfold SU; omega, by omega, rfl⟩) | exact Or.inl ⟨by omega, by omega, rfl⟩)⟩), by (try dsimp only); rw [ht]; exact ⟨hT, hF, m113⟩⟩, hS.F ht⟩) hS.2.2 dX12_weather_56
    · have t122 : p0.toInt ≠ 0 := ti_ne c29 rfl (by decide)
      refine lv_iload_n hx hb dX12_weather_20 rfl (lv_at hl 3 rfl) ?_
      refine lv_iconst (v := 0) hx hb dX12_weather_21 (by decide) ?_
      refine lv_bipush (v := 20) hx hb dX12_weather_22 (by decide) ?_
      have hFc := gA_free hG hA hS
      refine va_calli (va_runS (As := [.int p2, .int 0, .int 20]) (rest := [.ref o0]) ⟨hx, hb, hml, hown, hts⟩ (s_in l dC dI kA adK adV G H q wZ wN wH wB wC wL wK wU wV PI im PM PT lS lB lE lN p2 0 20 hT hgz hgn hgh hgb hgc hgi hgu) (va_cwS 3 hts (goodIn_app (goodIn_r _ [4, 5, 6] rfl (by decide +kernel)) (goodIn_ca (goodIn_r _ [3] rfl (by decide +kernel)) (bs_in _ _))) rfl rfl rfl (by decide +kernel) ⟨(Nat.le_of_ble_eq_true rfl), (Nat.le_of_ble_eq_true rfl)⟩) ⟨fun a U g mk q => by obtain ⟨q0, q1, qK, qE⟩ := q; exact ⟨q0, q1, va_K.moved (u := U) (U := U.calling g mk a) (Vm.Alike.refl U.vm) qK, EVS.blind g mk a qE⟩, fun U hU hW => ⟨rfl, hU, va_K.moved hW.alike hK, hE.call hS hFc hU hW⟩⟩ rfl rfl hl.1 rfl (lv_room (Nat.le_of_ble_eq_true rfl)) dX12_weather_24 ⟨(Nat.le_of_ble_eq_true rfl), (Nat.le_of_ble_eq_true rfl)⟩) hS (fun q _ h => hFc q h) hFc (fun r123 u t H locs ht hvm hw124 hB _ _ hS => ?_)
      obtain ⟨hT, hF1⟩ := hB
      rw [ht] at hT hF1
      have m125 := (hF1.fld hr_o0 skm_0 (k := 0) (by decide) (by decide)).trans m4
      have hF := hF.more hF1 (by decide)
      try dsimp only at hw124
      obtain ⟨h126, hi127, hi128⟩ := hw124
      refine lv_if_ne (tgt := 47) hx hb dX12_weather_27 (by decide) (fun c129 => ?_) (fun c129 => ?_)
      · have t130 : r123.toInt ≠ 0 := ti_ne c129 rfl (by decide)
        have t131 : (0 : Int32).toInt = 0 := by decide
        have t132 : (20 : Int32).toInt = 20 := by decide
        have t133 : (0 : Int32).toInt ≤ p2.toInt ∧ p2.toInt ≤ (20 : Int32).toInt := hi127 ((bit_of ⟨by omega, by omega⟩).resolve_left c129)
        refine lv_iconst (v := 0) hx hb dX12_weather_47 (by decide) ?_
        refine lv_iconst (v := 1) hx hb dX12_weather_48 (by decide) ?_
        have hFc := gA_free hG hA hS
        refine va_calli (va_runV (As := [.int 0, .int 1]) (rest := []) ⟨hx, hb, hml, hown, hts⟩ (s_throwsIfP l dC dI kA adK adV G H q wZ wN wH wB wC wL wK wU wV PI im PM PT lS lB lE lN o0 0 1 0 hT hr_o0 m125 (rg_t (a := 0) (by decide) (by first | decide | omega) (by first | decide | omega)) hgz hgn hgh hgb hgc hgi hgu) (cwV 2 hts (goodIn_app (goodIn_r _ [8, 9, 10, 6] rfl (by decide +kernel)) (goodIn_ca (goodIn_r _ [7, 1] rfl (by decide +kernel)) (bs_in _ _))) rfl rfl rfl (by decide +kernel) ⟨(Nat.le_of_ble_eq_true rfl), (Nat.le_of_ble_eq_true rfl)⟩) ⟨fun a U g mk q => by obtain ⟨q0, q1, qK, qE⟩ := q; exact ⟨q0, q1, va_K.moved (u := U) (U := U.calling g mk a) (Vm.Alike.refl U.vm) qK, EVS.blind g mk a qE⟩, gH_rc hK hT hr_o0 shm_0 rfl, fun U hU hW => ⟨rfl, hU, va_K.moved hW.alike hK, hE.call hS hFc hU hW⟩⟩ rfl rfl hl.1 rfl (lv_room (Nat.le_of_ble_eq_true rfl)) dX12_weather_49 ⟨(Nat.le_of_ble_eq_true rfl), (Nat.le_of_ble_eq_true rfl)⟩) hS (fun q _ h => hFc q h) hFc (fun r134 u t H locs ht hvm hw135 hB _ _ hS => ?_)
        obtain ⟨u136, rfl⟩ : ∃ z, z = u := ⟨_, rfl⟩
        obtain ⟨hT, hF1, m137⟩ := hB
        rw [ht] at hT hF1 m137
        have hF := hF.more hF1 (by decide)
        try dsimp only at hw135
        obtain ⟨h139, hf140, hd141⟩ := hw135
        have t142 : (0 : Int32).toInt = 0 := by decide
        have t143 : (1 : Int32).toInt = 1 := by decide
        have t144 : (0 : Int32).toInt = 0 := by decide
        obtain rfl : (0 : Int32) = r134 := hd141.symm
        refine lv_if_eq (tgt := 57) hx hb dX12_weather_52 (by decide) (fun c145 => ?_) (fun c145 => absurd c145 (by decide))
        refine lv_iload_n hx hb dX12_weather_57 rfl (lv_at hl 1 rfl) ?_
        refine lv_if_eq (tgt := 67) hx hb dX12_weather_58 (by decide) (fun c146 => (by exfalso; have q9 : p0.toInt = 0 := ti_eq c146 rfl (by decide); omega)) (fun c146 => ?_)
        have t147 : p0.toInt ≠ 0 := ti_ne c146 rfl (by decide)
        refine lv_sipush (v := 1624) hx hb dX12_weather_61 (by decide) ?_
        refine lv_goto (tgt := 70) hx hb dX12_weather_64 (by decide) ?_
        refine lv_istore (lv' := [(4, .int 1624), (0, .ref o0), (1, .int p0), (2, .int p1), (3, .int p2)]) hx hb dX12_weather_70 hl (by decide) rfl (fun ls hl => ?_)
        refine lv_iload_n hx hb dX12_weather_72 rfl (lv_at hl 2 rfl) ?_
        refine lv_if_eq (tgt := 82) hx hb dX12_weather_73 (by decide) (fun c148 => (by exfalso; have q9 : p0.toInt = 0 := ti_eq c148 rfl (by decide); omega)) (fun c148 => ?_)
        have t149 : p0.toInt ≠ 0 := ti_ne c148 rfl (by decide)
        refine lv_sipush (v := 1625) hx hb dX12_weather_76 (by decide) ?_
        refine lv_goto (tgt := 85) hx hb dX12_weather_79 (by decide) ?_
        refine lv_iconst (v := 2) hx hb dX12_weather_85 (by decide) ?_
        refine lv_aload_n hx hb dX12_weather_86 rfl (lv_at hl 1 rfl) ?_
        refine tw_get hx hb hts bF_X12 hown hK hT hr_o0 shm_0 rfl 1 (by decide) (ht_at hts 10 rfl) (fun _ h9 => h9) dX12_weather_87 (fun v9 m150 h9 => ?_)
        obtain ⟨rfl, hg151⟩ := h9 _ rfl
        refine lv_iload hx hb dX12_weather_90 (lv_at hl 0 rfl) ?_
        refine tw_iald (i := 1624) hx hb hK hT hg151 shm_2 rfl (by unfold vp_in; decide) dX12_weather_92 (fun v9 m152 h9 => ?_)
        obtain ⟨x153, rfl, gx153, kx153⟩ := (gp_at h9 (w_rac (by have q9 := tn_of (show (1624 : Int32).toInt = 1624 from (by decide)) (show (0 : Int) ≤ 1624 from by omega); omega)))
        have t154 : x153.toInt = ((wU 224 : Nat) : Int) - 1000 := (by have q := (wq_l hT hg151 (by decide) m152).2.2.1.2 ⟨by decide, by decide⟩; rw [show (1624 : Int32).toNatClampNeg - 1400 = 224 from by decide] at q; exact q)
        refine lv_imul hx hb dX12_weather_93 ?_
        refine lv_topi (fun x155 ex155 => ?_)
        have t156 : x155.toInt = 2 * x153.toInt := ti_mul ex155 (by decide) rfl (by omega) (by omega)
        refine lv_iadd hx hb dX12_weather_94 ?_
        refine lv_topi (fun x157 ex157 => ?_)
        have t158 : x157.toInt = 1625 + x155.toInt := ti_add ex157 (by decide) rfl (by omega) (by omega)
        refine lv_istore (lv' := [(5, .int x157), (4, .int 1624), (0, .ref o0), (1, .int p0), (2, .int p1), (3, .int p2)]) hx hb dX12_weather_95 hl (by decide) rfl (fun ls hl => ?_)
        refine lv_aload_n hx hb dX12_weather_97 rfl (lv_at hl 2 rfl) ?_
        refine tw_get hx hb hts bF_X12 hown hK hT hr_o0 shm_0 rfl 1 (by decide) (ht_at hts 10 rfl) (fun _ h9 => h9) dX12_weather_98 (fun v9 m159 h9 => ?_)
        obtain ⟨rfl, hg160⟩ := h9 _ rfl
        refine lv_iload hx hb dX12_weather_101 (lv_at hl 1 rfl) ?_
        refine tw_iald (i := 1624) hx hb hK hT hg151 shm_2 rfl (by unfold vp_in; decide) dX12_weather_103 (fun v9 m161 h9 => ?_)
        obtain ⟨x162, rfl, gx162, kx162⟩ := (gp_at h9 (w_rac (by have q9 := tn_of (show (1624 : Int32).toInt = 1624 from (by decide)) (show (0 : Int) ≤ 1624 from by omega); omega)))
        obtain rfl : x153 = x162 := (el_same m161 m152 rfl).symm
        refine lv_bipush (v := 60) hx hb dX12_weather_104 (by decide) ?_
        refine lv_icmp_ne (tgt := 111) hx hb dX12_weather_106 (by decide) (fun c163 => ?_) (fun c163 => ?_)
        · have t164 : x153.toInt ≠ 60 := ti_ne c163 rfl (by decide)
          refine lv_aload_n hx hb dX12_weather_111 rfl (lv_at hl 2 rfl) ?_
          refine tw_get hx hb hts bF_X12 hown hK hT hr_o0 shm_0 rfl 1 (by decide) (ht_at hts 10 rfl) (fun _ h9 => h9) dX12_weather_112 (fun v9 m165 h9 => ?_)
          obtain ⟨rfl, hg166⟩ := h9 _ rfl
          refine lv_iload hx hb dX12_weather_115 (lv_at hl 0 rfl) ?_
          refine lv_iload_n hx hb dX12_weather_117 rfl (lv_at hl 4 rfl) ?_
          refine tw_iast2 (Sg1 := (SHm q (wP wZ wN wH wB wC wL wK (sU wU (x157.toNatClampNeg - 1400) (p1.toInt + 1000).toNat) wV) PI im PM PT lS lB lE lN)) (i := x157) (x := p1) hx hb hK hT hG hS hg151 shm_2 rfl shm_2 shm_o2 (fun b9 h9 => hgu b9 1 h9) (vin_t (a := x157.toInt) rfl (by omega) (by omega)) (gp_of (gi_all _) (w_fre (by have q9 := tn_of (show x157.toInt = x157.toInt from rfl) (show (0 : Int) ≤ x157.toInt from by omega); omega)) (wX_s (k := x157.toNatClampNeg - 1400) (v := (p1.toInt + 1000).toNat) ⟨by have q9 := tn_of (show x157.toInt = x157.toInt from rfl) (show (0 : Int) ≤ x157.toInt from by omega); omega, by have q9 := tn_of (show x157.toInt = x157.toInt from rfl) (show (0 : Int) ≤ x157.toInt from by omega); omega⟩ (by omega) (by have := (show p1.toInt = p1.toInt from rfl); omega))) (fun k9 hk9 hne9 v9 hv9 he9 => by obtain ⟨x9, rfl, p9⟩ := he9; exact ⟨x9, rfl, wP_U (by omega) (pl := x157.toNatClampNeg) ⟨by have q9 := tn_of (show x157.toInt = x157.toInt from rfl) (show (0 : Int) ≤ x157.toInt from by omega); omega, by have q9 := tn_of (show x157.toInt = x157.toInt from rfl) (show (0 : Int) ≤ x157.toInt from by omega); omega⟩ hne9 p9⟩) dX12_weather_118 (fun H locs hT oq m167 oi hS => ?_)
          have hF := hF.ast hg151 skm_2 oq (by decide)
          have m168 := (el_kept (oq _ (gne hr_o0 hg151 (by decide)))).trans m137
          have m169 := (oi _ (tn_ne (show (1624 : Int32).toInt = 1624 from (by decide)) (show x157.toInt = x157.toInt from rfl) (by omega) (by omega) (by omega))).trans m152
          refine lv_aload_n hx hb dX12_weather_119 rfl (lv_at hl 2 rfl) ?_
          refine tw_get hx hb hts bF_X12 hown hK hT hr_o0 shm_0 rfl 1 (by decide) (ht_at hts 10 rfl) (fun _ h9 => h9) dX12_weather_120 (fun v9 m170 h9 => ?_)
          obtain ⟨rfl, hg171⟩ := h9 _ rfl
          refine lv_iload hx hb dX12_weather_123 (lv_at hl 0 rfl) ?_
          refine lv_iconst (v := 1) hx hb dX12_weather_125 (by decide) ?_
          refine lv_iadd hx hb dX12_weather_126 ?_
          refine lv_topi (fun x172 ex172 => ?_)
          have t173 : x172.toInt = x157.toInt + 1 := ti_add ex172 rfl (by decide) (by omega) (by omega)
          refine lv_iload_n hx hb dX12_weather_127 rfl (lv_at hl 5 rfl) ?_
          refine tw_iast2 (Sg1 := (SHm q (wP wZ wN wH wB wC wL wK (sU (sU wU (x157.toNatClampNeg - 1400) (p1.toInt + 1000).toNat) (x172.toNatClampNeg - 1400) (p2.toInt + 1000).toNat) wV) PI im PM PT lS lB lE lN)) (i := x172) (x := p2) hx hb hK hT hG hS hg151 shm_2 rfl shm_2 shm_o2 (fun b9 h9 => hgu b9 1 h9) (vin_t (a := x172.toInt) rfl (by omega) (by omega)) (gp_of (gi_of (show p2.toInt = p2.toInt from rfl) (by omega) (by omega)) (w_rai (by have q9 := tn_of (show x172.toInt = x172.toInt from rfl) (show (0 : Int) ≤ x172.toInt from by omega); omega)) (wX_s (k := x172.toNatClampNeg - 1400) (v := (p2.toInt + 1000).toNat) ⟨by have q9 := tn_of (show x172.toInt = x172.toInt from rfl) (show (0 : Int) ≤ x172.toInt from by omega); omega, by have q9 := tn_of (show x172.toInt = x172.toInt from rfl) (show (0 : Int) ≤ x172.toInt from by omega); omega⟩ (by omega) (by have := (show p2.toInt = p2.toInt from rfl); omega))) (fun k9 hk9 hne9 v9 hv9 he9 => by obtain ⟨x9, rfl, p9⟩ := he9; exact ⟨x9, rfl, wP_U (by omega) (pl := x172.toNatClampNeg) ⟨by have q9 := tn_of (show x172.toInt = x172.toInt from rfl) (show (0 : Int) ≤ x172.toInt from by omega); omega, by have q9 := tn_of (show x172.toInt = x172.toInt from rfl) (show (0 : Int) ≤ x172.toInt from by omega); omega⟩ hne9 p9⟩) dX12_weather_128 (fun H locs hT oq m174 oi hS => ?_)
          have hF := hF.ast hg151 skm_2 oq (by decide)
          have m175 := (el_kept (oq _ (gne hr_o0 hg151 (by decide)))).trans m168
          have m176 := (oi _ (tn_ne (show (1624 : Int32).toInt = 1624 from (by decide)) (show x172.toInt = x172.toInt from rfl) (by omega) (by omega) (by omega))).trans m169
          refine lv_aload_n hx hb dX12_weather_129 rfl (lv_at hl 2 rfl) ?_
          refine tw_get hx hb hts bF_X12 hown hK hT hr_o0 shm_0 rfl 1 (by decide) (ht_at hts 10 rfl) (fun _ h9 => h9) dX12_weather_130 (fun v9 m178 h9 => ?_)
          obtain ⟨rfl, hg179⟩ := h9 _ rfl
          refine lv_iload hx hb dX12_weather_133 (lv_at hl 1 rfl) ?_
          refine lv_dup2_11 hx hb dX12_weather_135 rfl rfl ?_
          refine tw_iald (i := 1624) hx hb hK hT hg151 shm_2 rfl (by unfold vp_in; decide) dX12_weather_136 (fun v9 m180 h9 => ?_)
          obtain ⟨x181, rfl, gx181, kx181⟩ := (gp_at h9 (w_rac (by have q9 := tn_of (show (1624 : Int32).toInt = 1624 from (by decide)) (show (0 : Int) ≤ 1624 from by omega); omega)))
          obtain rfl : x153 = x181 := (el_same m180 m176 rfl).symm
          refine lv_iconst (v := 1) hx hb dX12_weather_137 (by decide) ?_
          refine lv_iadd hx hb dX12_weather_138 ?_
          refine lv_topi (fun x182 ex182 => ?_)
          have t183 : x182.toInt = x153.toInt + 1 := ti_add ex182 rfl (by decide) (by omega) (by omega)
          refine tw_iast2 (Sg1 := (SHm q (wP wZ wN wH wB wC wL wK (sU (sU (sU wU (x157.toNatClampNeg - 1400) (p1.toInt + 1000).toNat) (x172.toNatClampNeg - 1400) (p2.toInt + 1000).toNat) ((1624 : Int32).toNatClampNeg - 1400) (x182.toInt + 1000).toNat) wV) PI im PM PT lS lB lE lN)) (i := 1624) (x := x182) hx hb hK hT hG hS hg151 shm_2 rfl shm_2 shm_o2 (fun b9 h9 => hgu b9 1 h9) (by unfold vp_in; decide) (gp_of (gi_of (show x182.toInt = x182.toInt from rfl) (by omega) (by omega)) (w_rac (by have q9 := tn_of (show (1624 : Int32).toInt = 1624 from (by decide)) (show (0 : Int) ≤ 1624 from by omega); omega)) (wX_s (k := (1624 : Int32).toNatClampNeg - 1400) (v := (x182.toInt + 1000).toNat) ⟨by have q9 := tn_of (show (1624 : Int32).toInt = 1624 from (by decide)) (show (0 : Int) ≤ 1624 from by omega); omega, by have q9 := tn_of (show (1624 : Int32).toInt = 1624 from (by decide)) (show (0 : Int) ≤ 1624 from by omega); omega⟩ (by omega) (by have := (show x182.toInt = x182.toInt from rfl); omega))) (fun k9 hk9 hne9 v9 hv9 he9 => by obtain ⟨x9, rfl, p9⟩ := he9; exact ⟨x9, rfl, wP_U (by omega) (pl := (1624 : Int32).toNatClampNeg) ⟨by have q9 := tn_of (show (1624 : Int32).toInt = 1624 from (by decide)) (show (0 : Int) ≤ 1624 from by omega); omega, by have q9 := tn_of (show (1624 : Int32).toInt = 1624 from (by decide)) (show (0 : Int) ≤ 1624 from by omega); omega⟩ hne9 p9⟩) dX12_weather_139 (fun H locs hT oq m184 oi hS => ?_)
          have hF := hF.ast hg151 skm_2 oq (by decide)
          have m185 := (el_kept (oq _ (gne hr_o0 hg151 (by decide)))).trans m175
          refine lv_aload_n hx hb dX12_weather_140 rfl (lv_at hl 2 rfl) ?_
          refine lv_iconst (v := 0) hx hb dX12_weather_141 (by decide) ?_
          refine tw_put (v := .int 0) (ty := .int) hx hb hts bF_X12 tyX12 tyX12_ok nmX12 hown hK hT hG hS hr_o0 shm_0 rfl 9 (by decide) (ht_at hts 11 rfl) (fun _ h9 => h9) rfl (by decide +kernel) rfl rfl (gl_at rfl (gi_of (show (0 : Int32).toInt = 0 from (by decide)) (by first | decide | omega) (by first | decide | omega))) dX12_weather_142 (fun H locs hT oq m188 oj hS => ?_)
          have hF := hF.put hr_o0 skm_0 oq oj (by decide)
          have m189 := (oj 0 (by decide) (by decide)).trans m185
          have m192 := (el_kept (oq _ (gne hg151 hr_o0 (by decide)))).trans m184
          refine lv_aload_n hx hb dX12_weather_145 rfl (lv_at hl 2 rfl) ?_
          refine tw_get hx hb hts bF_X12 hown hK hT hr_o0 shm_0 rfl 1 (by decide) (ht_at hts 10 rfl) (fun _ h9 => h9) dX12_weather_146 (fun v9 m193 h9 => ?_)
          obtain ⟨rfl, hg194⟩ := h9 _ rfl
          refine lv_iload hx hb dX12_weather_149 (lv_at hl 1 rfl) ?_
          refine tw_iald (i := 1624) hx hb hK hT hg151 shm_2 rfl (by unfold vp_in; decide) dX12_weather_151 (fun v9 m195 h9 => ?_)
          obtain ⟨x196, rfl, gx196, kx196⟩ := (gp_at h9 (w_rac (by have q9 := tn_of (show (1624 : Int32).toInt = 1624 from (by decide)) (show (0 : Int) ≤ 1624 from by omega); omega)))
          obtain rfl : x182 = x196 := (el_same m195 m192 rfl).symm
          exact W.iret (v := x182) hx hb hr (fun t ht hW => ⟨⟨x182, (u136, (sU (sU (sU wU (x157.toNatClampNeg - 1400) (p1.toInt + 1000).toNat) (x172.toNatClampNeg - 1400) (p2.toInt + 1000).toNat) ((1624 : Int32).toNatClampNeg - 1400) (x182.toInt + 1000).toNat)), rfl, (by exact ⟨(by have q8 := ti_all x182; omega), (fun w9 h9 => by have := tn_of (show x157.toInt = x157.toInt from rfl) (by omega); have := tn_of (show x172.toInt = x172.toInt from rfl) (by omega); have : (1624 : Int32).toNatClampNeg = 1624 := (by decide); rw [sU_o (by omega)]; rw [sU_o (by omega)]; rw [sU_o (by omega)]), (Or.inr (Or.inr (Or.inr ⟨by have := weC_s p0.toInt p1.toInt p2.toInt; omega, by have q0 : (0 : Int32).toInt = 0 := (by decide); have q1 : (1 : Int32).toInt = 1 := (by decide); have qm : (-1 : Int32).toInt = -1 := (by decide); omega, by omega, (SU wU 224).toNat, by unfold SU; omega, by unfold SU; omega, by unfold SU; omega, (by have := tn_of (show x157.toInt = x157.toInt from rfl) (by omega); have := tn_of (show x172.toInt = x172.toInt from rfl) (by omega); have : (1624 : Int32).toNatClampNeg = 1624 := (by decide); unfold SU sU; (repeat' split) <;> omega), (by have := tn_of (show x157.toInt = x157.toInt from rfl) (by omega); have := tn_of (show x172.toInt = x172.toInt from rfl) (by omega); have : (1624 : Int32).toNatClampNeg = 1624 := (by decide); unfold SU sU; (repeat' split) <;> omega), (by have := tn_of (show x157.toInt = x157.toInt from rfl) (by omega); have := tn_of (show x172.toInt = x172.toInt from rfl) (by omega); have : (1624 : Int32).toNatClampNeg = 1624 := (by decide); unfold SU sU; (repeat' split) <;> omega), fun j9 a9 b9 c9 d9 => (by unfold SU at c9 d9; have := tn_of (show x157.toInt = x157.toInt from rfl) (by omega); have := tn_of (show x172.toInt = x172.toInt from rfl) (by omega); have : (1624 : Int32).toNatClampNeg = 1624 := (by decide); unfold SU sU; (repeat' split) <;> omega)⟩)))⟩), by (try dsimp only); rw [ht]; exact ⟨hT, hF, m189⟩⟩, hS.F ht⟩) hS.2.2 dX12_weather_152
        · have t197 : x153.toInt = 60 := ti_eq c163 rfl (by decide)
          refine lv_iconst (v := (-1)) hx hb dX12_weather_109 (by decide) ?_
          exact W.iret (v := (-1)) hx hb hr (fun t ht hW => ⟨⟨(-1), (u136, wU), rfl, (by exact ⟨(rg_t (a := (-1)) (by decide) (by first | decide | omega) (by first | decide | omega)), (fun _ _ => rfl), (by have := weC_s p0.toInt p1.toInt p2.toInt; have q0 : (0 : Int32).toInt = 0 := (by decide); have q1 : (1 : Int32).toInt = 1 := (by decide); have qm : (-1 : Int32).toInt = -1 := (by decide); first | exact Or.inr (Or.inl ⟨by omega, by omega, by unfold SU; omega, by omega, rfl⟩) | exact Or.inl ⟨by omega, by omega, rfl⟩)⟩), by (try dsimp only); rw [ht]; exact ⟨hT, hF, m137⟩⟩, hS.F ht⟩) hS.2.2 dX12_weather_110
      · have t198 : r123.toInt = 0 := ti_eq c129 rfl (by decide)
        have t199 : (0 : Int32).toInt = 0 := by decide
        have t200 : (20 : Int32).toInt = 20 := by decide
        have t201 : p2.toInt < (0 : Int32).toInt ∨ (20 : Int32).toInt < p2.toInt := hi128 c129
        refine lv_goto (tgt := 43) hx hb dX12_weather_30 (by decide) ?_
        refine lv_iconst (v := 1) hx hb dX12_weather_43 (by decide) ?_
        refine lv_goto (tgt := 48) hx hb dX12_weather_44 (by decide) ?_
        refine lv_iconst (v := 1) hx hb dX12_weather_48 (by decide) ?_
        have hFc := gA_free hG hA hS
        refine va_calli (va_runV (As := [.int 1, .int 1]) (rest := []) ⟨hx, hb, hml, hown, hts⟩ (s_throwsIfP l dC dI kA adK adV G H q wZ wN wH wB wC wL wK wU wV PI im PM PT lS lB lE lN o0 1 1 0 hT hr_o0 m125 (rg_t (a := 1) (by decide) (by first | decide | omega) (by first | decide | omega)) hgz hgn hgh hgb hgc hgi hgu) (cwV 2 hts (goodIn_app (goodIn_r _ [8, 9, 10, 6] rfl (by decide +kernel)) (goodIn_ca (goodIn_r _ [7, 1] rfl (by decide +kernel)) (bs_in _ _))) rfl rfl rfl (by decide +kernel) ⟨(Nat.le_of_ble_eq_true rfl), (Nat.le_of_ble_eq_true rfl)⟩) ⟨fun a U g mk q => by obtain ⟨q0, q1, qK, qE⟩ := q; exact ⟨q0, q1, va_K.moved (u := U) (U := U.calling g mk a) (Vm.Alike.refl U.vm) qK, EVS.blind g mk a qE⟩, gH_rc hK hT hr_o0 shm_0 rfl, fun U hU hW => ⟨rfl, hU, va_K.moved hW.alike hK, hE.call hS hFc hU hW⟩⟩ rfl rfl hl.1 rfl (lv_room (Nat.le_of_ble_eq_true rfl)) dX12_weather_49 ⟨(Nat.le_of_ble_eq_true rfl), (Nat.le_of_ble_eq_true rfl)⟩) hS (fun q _ h => hFc q h) hFc (fun r202 u t H locs ht hvm hw203 hB _ _ hS => ?_)
        obtain ⟨u204, rfl⟩ : ∃ z, z = u := ⟨_, rfl⟩
        obtain ⟨hT, hF1, m205⟩ := hB
        rw [ht] at hT hF1 m205
        have hF := hF.more hF1 (by decide)
        try dsimp only at hw203
        obtain ⟨h207, hf208, hd209⟩ := hw203
        have t210 : (1 : Int32).toInt = 1 := by decide
        have t211 : (1 : Int32).toInt = 1 := by decide
        have t212 : (0 : Int32).toInt = 0 := by decide
        obtain rfl : (1 : Int32) = r202 := hd209.symm
        refine lv_if_eq (tgt := 57) hx hb dX12_weather_52 (by decide) (fun c213 => absurd c213 (by decide)) (fun c213 => ?_)
        refine lv_iconst (v := 0) hx hb dX12_weather_55 (by decide) ?_
        exact W.iret (v := 0) hx hb hr (fun t ht hW => ⟨⟨0, (u204, wU), rfl, (by exact ⟨(rg_t (a := 0) (by decide) (by first | decide | omega) (by first | decide | omega)), (fun _ _ => rfl), (by have := weC_s p0.toInt p1.toInt p2.toInt; have q0 : (0 : Int32).toInt = 0 := (by decide); have q1 : (1 : Int32).toInt = 1 := (by decide); have qm : (-1 : Int32).toInt = -1 := (by decide); first | exact Or.inr (Or.inl ⟨by omega, by omega, by unfold SU; omega, by omega, rfl⟩) | exact Or.inl ⟨by omega, by omega, rfl⟩)⟩), by (try dsimp only); rw [ht]; exact ⟨hT, hF, m205⟩⟩, hS.F ht⟩) hS.2.2 dX12_weather_56
def w_s_outsideY : List Cond := .code yX12_outside cX12_outside 4 (some .int) :: (HAppend.hAppend (α := List Cond) (β := List Cond) (γ := List Cond) [.fieldLink RX12 9 "SeaLandModel" "world" "[I", .code yX12_in cX12_in 3 (some .boolean), .methodLink RX12 197 yX12_in, .static yX12_in, .initialized RX12] bs)
set_option maxHeartbeats 4000000 in
set_option maxRecDepth 100000 in
theorem s_outsideY (l : Launch) (dC : Nat → ClassId) (dI : Nat → Nat → Nat) (kA : Nat → ClassId) (adK adV : Nat → Nat) (G : gT) (H0 : Heap) (q : Nat → Nat) (wZ wN : Nat → Int) (wH wB wC : Int) (wL wK : Nat → Prop) (wU wV : Nat → Nat) (PI : Nat → Int → Prop) (im : Int) (PM PT : Nat → Int → Prop) (lS lB lE : Nat → Nat → Int → Prop) (lN : Nat → Int) (o0 : Nat) (ho : Int32)  (hT : gH (dC, dI) kA (SHm q (wP wZ wN wH wB wC wL wK wU wV) PI im PM PT lS lB lE lN) G H0) (hr_o0 : G o0 = some 0) (hq0 : 0 ≤ ho.toInt ∧ ho.toInt ≤ 40000) (hgz : ∀ i, 0 ≤ wZ i) (hgn : ∀ i, 6500000 ≤ wN i ∧ wN i ≤ 20200000) (hgh : 0 ≤ wH ∧ wH ≤ 40000) (hgb : 0 ≤ wB ∧ wB ≤ 3850000) (hgc : 0 ≤ wC ∧ wC ≤ 30) (hgi : 0 ≤ im ∧ im ≤ 1) (hgu : ∀ a t, G a = some (t + 1) → a = q t) : Met l yX12_outside w_s_outsideY ({ frames := 1, cells := 0, slots := 0, locals := 22 }) (va_Pc [.ref o0, .int ho] (fun U => U.heap = H0 ∧ va_K (dC, dI) vwCl (tyl kA) U ∧ EVS adK adV (gA G H0.size) U U.heap)) (va_Qi (fun (r : Int32) (u : Unit) => (-400 ≤ r.toInt ∧ r.toInt ≤ 10400) ∧ (r.toInt = SU wU (30 + (ho.toInt % 12).toNat) + osm (fun i => SU wU (43 + 3 * i)) (fun i => SU wU (44 + 3 * i)) (fun i => SU wU (45 + 3 * i)) ho.toInt (SU wU 42).toNat) ∧ (0 ≤ SU wU 42 ∧ SU wU 42 ≤ 20)) (fun (_ : Unit) (t : State) => gH (dC, dI) kA (SHm q (wP wZ wN wH wB wC wL wK wU wV) PI im PM PT lS lB lE lN) G t.heap ∧ gF (dC, dI) SKm G ([] : List (Nat × Nat)) H0 t.heap) (gA G H0.size)) 0 0 (gA G H0.size) := by
  refine Met.ofW (cc := cX12_outside) (maxL := 4) (ret := (some .int)) (by decide) rfl ?_
  intro p e s m args below meth c s₁ B hml hv
  obtain ⟨rfl, hH0, hK, hE⟩ := hv
  have hx := B.exec
  have hb := B.bytes
  have hr := B.returns
  have hts := atoms_spec (ws := w_s_outsideY) B.pre
  have hown : s.vm.findClass RX12 = some m.cls := findClass_of_methodNamed B.named
  have hlocks := B.notSynchronized
  subst hH0
  generalize hAe : gA G s.heap.size = A at hE ⊢
  have hA : ∀ q : Nat, s.heap.size ≤ q → A q := fun q h => by rw [← hAe]; exact Or.inr h
  have hG := gA_of hAe
  have hS : va_S A s.heap s.heap [] := va_S.rf
  have hF : gF (dC, dI) SKm G ([] : List (Nat × Nat)) s.heap s.heap := gF.rf
  have hl := lv_entry ([.ref o0, .int ho]) (n := 4) (Nat.le_of_ble_eq_true rfl)
  rw [lg_entry_eq]
  generalize (lg_sl ([.ref o0, .int ho]) ++ List.replicate (4 - (lg_sl ([.ref o0, .int ho])).length) Slot.unset).toArray = ls at hl ⊢
  have hl : lv_has ls 4 [(0, .ref o0), (1, .int ho)] := hl
  refine lv_aload_n hx hb dX12_outside_0 rfl (lv_at hl 0 rfl) ?_
  refine tw_get hx hb hts bF_X12 hown hK hT hr_o0 shm_0 rfl 1 (by decide) (ht_at hts 0 rfl) (fun _ h9 => h9) dX12_outside_1 (fun v9 m1 h9 => ?_)
  obtain ⟨rfl, hg2⟩ := h9 _ rfl
  refine lv_sipush (v := 1430) hx hb dX12_outside_4 (by decide) ?_
  refine lv_iload_n hx hb dX12_outside_7 rfl (lv_at hl 1 rfl) ?_
  refine lv_bipush (v := 12) hx hb dX12_outside_8 (by decide) ?_
  refine lv_irem hx hb dX12_outside_10 (by decide) ?_
  refine lv_topi (fun x3 ex3 => ?_)
  have t4 : x3.toInt = ho.toInt % 12 := ti_rem ex3 rfl (by decide) (by omega) (by omega)
  refine lv_iadd hx hb dX12_outside_11 ?_
  refine lv_topi (fun x5 ex5 => ?_)
  have t6 : x5.toInt = 1430 + x3.toInt := ti_add ex5 (by decide) rfl (by omega) (by omega)
  refine tw_iald (i := x5) hx hb hK hT hg2 shm_2 rfl (vin_t (a := x5.toInt) rfl (by omega) (by omega)) dX12_outside_12 (fun v9 m7 h9 => ?_)
  obtain ⟨x8, rfl, gx8, kx8⟩ := (gp_at h9 (w_tid (by have q9 := tn_of (show x5.toInt = x5.toInt from rfl) (show (0 : Int) ≤ x5.toInt from by omega); omega)))
  have t9 : x8.toInt = SU wU (30 + (ho.toInt % 12).toNat) := (by have qn := tn_of (show x5.toInt = x5.toInt from rfl) (by omega); have q := (wq_l hT hg2 (by omega) m7).2.2.1.2 ⟨by omega, by omega⟩; rw [show x5.toNatClampNeg - 1400 = 30 + (ho.toInt % 12).toNat from by omega] at q; exact q)
  refine lv_istore_n (lv' := [(2, .int x8), (0, .ref o0), (1, .int ho)]) hx hb dX12_outside_13 rfl hl (by decide) rfl (fun ls hl => ?_)
  refine lv_sipush (v := 1443) hx hb dX12_outside_14 (by decide) ?_
  refine lv_istore_n (lv' := [(3, .int 1443), (2, .int x8), (0, .ref o0), (1, .int ho)]) hx hb dX12_outside_17 rfl hl (by decide) rfl (fun ls hl => ?_)
  have key59 : ∀ (n59 i10 : Nat), i10 + n59 = 20 → ∀ (z11 : Int32), ((-400 + 0 * (i10 : Int) ≤ z11.toInt ∧ z11.toInt ≤ 400 + 500 * (i10 : Int)) ∧ (z11.toInt = SU wU (30 + (ho.toInt % 12).toNat) + osm (fun i => SU wU (43 + 3 * i)) (fun i => SU wU (44 + 3 * i)) (fun i => SU wU (45 + 3 * i)) ho.toInt i10) ∧ (((i10 : Nat) : Int) ≤ 0 ∨ ((i10 : Nat) : Int) ≤ SU wU 42)) → ∀ (H : Heap) (locs : List Loc), gH (dC, dI) kA (SHm q (wP wZ wN wH wB wC wL wK wU wV) PI im PM PT lS lB lE lN) G H → gF (dC, dI) SKm G ([] : List (Nat × Nat)) s.heap H → va_S A s.heap H locs → el H (q 1) x5.toNatClampNeg = some (.int x8) → ∀ ls : Array Slot, lv_has ls 4 [(3, .int (nI (1443 + 3 * i10))), (2, .int z11), (0, .ref o0), (1, .int ho)] → W p l e (headSpec w_s_outsideY ({ frames := 1, cells := 0, slots := 0, locals := 22 })).room s m #[.ref o0, .int ho] below meth c H locs 0 0 (MQ below (va_Qi (fun (r : Int32) (u : Unit) => (-400 ≤ r.toInt ∧ r.toInt ≤ 10400) ∧ (r.toInt = SU wU (30 + (ho.toInt % 12).toNat) + osm (fun i => SU wU (43 + 3 * i)) (fun i => SU wU (44 + 3 * i)) (fun i => SU wU (45 + 3 * i)) ho.toInt (SU wU 42).toNat) ∧ (0 ≤ SU wU 42 ∧ SU wU 42 ≤ 20)) (fun (_ : Unit) (t : State) => gH (dC, dI) kA (SHm q (wP wZ wN wH wB wC wL wK wU wV) PI im PM PT lS lB lE lN) G t.heap ∧ gF (dC, dI) SKm G ([] : List (Nat × Nat)) s.heap t.heap) A) #[.ref o0, .int ho] s 0 0 A) (F0 m 18 ls []) := by
    intro n59
    induction n59 with
    | zero =>
      intro i10 hn59 z11 ⟨h12, hj14, hj15⟩ H locs hT hF hS m13 ls hl
      obtain rfl : 20 = i10 := by omega
      refine lv_iload_n hx hb dX12_outside_18 rfl (lv_at hl 0 rfl) ?_
      refine lv_sipush (v := 1443) hx hb dX12_outside_19 (by decide) ?_
      refine lv_iconst (v := 3) hx hb dX12_outside_22 (by decide) ?_
      refine lv_aload_n hx hb dX12_outside_23 rfl (lv_at hl 2 rfl) ?_
      refine tw_get hx hb hts bF_X12 hown hK hT hr_o0 shm_0 rfl 1 (by decide) (ht_at hts 0 rfl) (fun _ h9 => h9) dX12_outside_24 (fun v9 m61 h9 => ?_)
      obtain ⟨rfl, hg62⟩ := h9 _ rfl
      refine lv_sipush (v := 1442) hx hb dX12_outside_27 (by decide) ?_
      refine tw_iald (i := 1442) hx hb hK hT hg2 shm_2 rfl (by unfold vp_in; decide) dX12_outside_30 (fun v9 m63 h9 => ?_)
      obtain ⟨x64, rfl, gx64, kx64⟩ := (gp_at h9 (w_stc (by have q9 := tn_of (show (1442 : Int32).toInt = 1442 from (by decide)) (show (0 : Int) ≤ 1442 from by omega); omega)))
      have t65 : x64.toInt = SU wU 42 := (by have qn := tn_of (show (1442 : Int32).toInt = 1442 from (by decide)) (by omega); have q := (wq_l hT hg2 (by omega) m63).2.2.1.2 ⟨by omega, by omega⟩; rw [show (1442 : Int32).toNatClampNeg - 1400 = 42 from by omega] at q; exact q)
      refine lv_imul hx hb dX12_outside_31 ?_
      refine lv_topi (fun x66 ex66 => ?_)
      have t67 : x66.toInt = 3 * x64.toInt := ti_mul ex66 (by decide) rfl (by omega) (by omega)
      refine lv_iadd hx hb dX12_outside_32 ?_
      refine lv_topi (fun x68 ex68 => ?_)
      have t69 : x68.toInt = 1443 + x66.toInt := ti_add ex68 (by decide) rfl (by omega) (by omega)
      refine lv_icmp_ge (tgt := 78) hx hb dX12_outside_33 (by decide) (fun c70 => ?_) (fun c70 => (by exfalso; have q9 : ((1443 + 3 * 20 : Nat) : Int) < x68.toInt := ti_nle c70 rfl (nI_toInt (by omega)); omega))
      have t71 : x68.toInt ≤ ((1443 + 3 * 20 : Nat) : Int) := ti_le c70 rfl (nI_toInt (by omega))
      refine lv_iload_n hx hb dX12_outside_78 rfl (lv_at hl 1 rfl) ?_
      exact W.iret (v := z11) hx hb hr (fun t ht hW => ⟨⟨z11, (), rfl, (by exact ⟨(by have q8 := ti_all z11; omega), (by have z9 := hj14; rw [show 20 = (SU wU 42).toNat from by omega] at z9; exact z9), (by omega)⟩), by (try dsimp only); rw [ht]; exact ⟨hT, hF⟩⟩, hS.F ht⟩) hS.2.2 dX12_outside_79
    | succ n59 ih59 =>
      intro i10 hn59 z11 ⟨h12, hj14, hj15⟩ H locs hT hF hS m13 ls hl
      have hlt71 : i10 < 20 := by omega
      refine lv_iload_n hx hb dX12_outside_18 rfl (lv_at hl 0 rfl) ?_
      refine lv_sipush (v := 1443) hx hb dX12_outside_19 (by decide) ?_
      refine lv_iconst (v := 3) hx hb dX12_outside_22 (by decide) ?_
      refine lv_aload_n hx hb dX12_outside_23 rfl (lv_at hl 2 rfl) ?_
      refine tw_get hx hb hts bF_X12 hown hK hT hr_o0 shm_0 rfl 1 (by decide) (ht_at hts 0 rfl) (fun _ h9 => h9) dX12_outside_24 (fun v9 m72 h9 => ?_)
      obtain ⟨rfl, hg73⟩ := h9 _ rfl
      refine lv_sipush (v := 1442) hx hb dX12_outside_27 (by decide) ?_
      refine tw_iald (i := 1442) hx hb hK hT hg2 shm_2 rfl (by unfold vp_in; decide) dX12_outside_30 (fun v9 m74 h9 => ?_)
      obtain ⟨x75, rfl, gx75, kx75⟩ := (gp_at h9 (w_stc (by have q9 := tn_of (show (1442 : Int32).toInt = 1442 from (by decide)) (show (0 : Int) ≤ 1442 from by omega); omega)))
      have t76 : x75.toInt = SU wU 42 := (by have qn := tn_of (show (1442 : Int32).toInt = 1442 from (by decide)) (by omega); have q := (wq_l hT hg2 (by omega) m74).2.2.1.2 ⟨by omega, by omega⟩; rw [show (1442 : Int32).toNatClampNeg - 1400 = 42 from by omega] at q; exact q)
      refine lv_imul hx hb dX12_outside_31 ?_
      refine lv_topi (fun x77 ex77 => ?_)
      have t78 : x77.toInt = 3 * x75.toInt := ti_mul ex77 (by decide) rfl (by omega) (by omega)
      refine lv_iadd hx hb dX12_outside_32 ?_
      refine lv_topi (fun x79 ex79 => ?_)
      have t80 : x79.toInt = 1443 + x77.toInt := ti_add ex79 (by decide) rfl (by omega) (by omega)
      refine lv_icmp_ge (tgt := 78) hx hb dX12_outside_33 (by decide) (fun c81 => ?_) (fun c81 => ?_)
      · have t82 : x79.toInt ≤ ((1443 + 3 * i10 : Nat) : Int) := ti_le c81 rfl (nI_toInt (by omega))
        refine lv_iload_n hx hb dX12_outside_78 rfl (lv_at hl 1 rfl) ?_
        exact W.iret (v := z11) hx hb hr (fun t ht hW => ⟨⟨z11, (), rfl, (by exact ⟨(by have q8 := ti_all z11; omega), (by have z9 := hj14; rw [show i10 = (SU wU 42).toNat from by omega] at z9; exact z9), (by omega)⟩), by (try dsimp only); rw [ht]; exact ⟨hT, hF⟩⟩, hS.F ht⟩) hS.2.2 dX12_outside_79
      · have t83 : ((1443 + 3 * i10 : Nat) : Int) < x79.toInt := ti_nle c81 rfl (nI_toInt (by omega))
        refine lv_iload_n hx hb dX12_outside_36 rfl (lv_at hl 1 rfl) ?_
        refine lv_iload_n hx hb dX12_outside_37 rfl (lv_at hl 3 rfl) ?_
        refine lv_aload_n hx hb dX12_outside_38 rfl (lv_at hl 2 rfl) ?_
        refine tw_get hx hb hts bF_X12 hown hK hT hr_o0 shm_0 rfl 1 (by decide) (ht_at hts 0 rfl) (fun _ h9 => h9) dX12_outside_39 (fun v9 m84 h9 => ?_)
        obtain ⟨rfl, hg85⟩ := h9 _ rfl
        refine lv_iload_n hx hb dX12_outside_42 rfl (lv_at hl 0 rfl) ?_
        refine tw_iald (i := (nI (1443 + 3 * i10))) hx hb hK hT hg2 shm_2 rfl (vp_in_nI (by omega) (by decide)) dX12_outside_43 (fun v9 m86 h9 => ?_)
        obtain ⟨x87, rfl, gx87, kx87⟩ := (gp_at h9 (w_fre (by have q9 := tn_of (show (nI (1443 + 3 * i10)).toInt = ((1443 + 3 * i10 : Nat) : Int) from (nI_toInt (by omega))) (show (0 : Int) ≤ ((1443 + 3 * i10 : Nat) : Int) from by omega); omega)))
        have t88 : x87.toInt = SU wU (43 + 3 * i10) := (by have qn := tn_of (show (nI (1443 + 3 * i10)).toInt = ((1443 + 3 * i10 : Nat) : Int) from (nI_toInt (by omega))) (by omega); have q := (wq_l hT hg2 (by omega) m86).2.2.1.2 ⟨by omega, by omega⟩; rw [show (nI (1443 + 3 * i10)).toNatClampNeg - 1400 = 43 + 3 * i10 from by omega] at q; exact q)
        refine lv_aload_n hx hb dX12_outside_44 rfl (lv_at hl 2 rfl) ?_
        refine tw_get hx hb hts bF_X12 hown hK hT hr_o0 shm_0 rfl 1 (by decide) (ht_at hts 0 rfl) (fun _ h9 => h9) dX12_outside_45 (fun v9 m89 h9 => ?_)
        obtain ⟨rfl, hg90⟩ := h9 _ rfl
        refine lv_iload_n hx hb dX12_outside_48 rfl (lv_at hl 0 rfl) ?_
        refine lv_iconst (v := 1) hx hb dX12_outside_49 (by decide) ?_
        refine lv_iadd hx hb dX12_outside_50 ?_
        refine lv_topi (fun x91 ex91 => ?_)
        obtain rfl : nI (1443 + 3 * i10 + 1) = x91 := (ex91.trans (nI_add (1443 + 3 * i10) 1)).symm
        refine tw_iald (i := (nI (1443 + 3 * i10 + 1))) hx hb hK hT hg2 shm_2 rfl (vp_in_nI (by omega) (by decide)) dX12_outside_51 (fun v9 m92 h9 => ?_)
        obtain ⟨x93, rfl, gx93, kx93⟩ := (gp_at h9 (w_fre (by have q9 := tn_of (show (nI (1443 + 3 * i10 + 1)).toInt = ((1443 + 3 * i10 + 1 : Nat) : Int) from (nI_toInt (by omega))) (show (0 : Int) ≤ ((1443 + 3 * i10 + 1 : Nat) : Int) from by omega); omega)))
        have t94 : x93.toInt = SU wU (44 + 3 * i10) := (by have qn := tn_of (show (nI (1443 + 3 * i10 + 1)).toInt = ((1443 + 3 * i10 + 1 : Nat) : Int) from (nI_toInt (by omega))) (by omega); have q := (wq_l hT hg2 (by omega) m92).2.2.1.2 ⟨by omega, by omega⟩; rw [show (nI (1443 + 3 * i10 + 1)).toNatClampNeg - 1400 = 44 + 3 * i10 from by omega] at q; exact q)
        have hFc := gA_free hG hA hS
        refine va_calli (va_runS (As := [.int ho, .int x87, .int x93]) (rest := [.int z11]) ⟨hx, hb, hml, hown, hts⟩ (s_in l dC dI kA adK adV G H q wZ wN wH wB wC wL wK wU wV PI im PM PT lS lB lE lN ho x87 x93 hT hgz hgn hgh hgb hgc hgi hgu) (va_cwS 3 hts (goodIn_app (goodIn_r _ [3, 4, 5] rfl (by decide +kernel)) (goodIn_ca (goodIn_r _ [2] rfl (by decide +kernel)) (bs_in _ _))) rfl rfl rfl (by decide +kernel) ⟨(Nat.le_of_ble_eq_true rfl), (Nat.le_of_ble_eq_true rfl)⟩) ⟨fun a U g mk q => by obtain ⟨q0, q1, qK, qE⟩ := q; exact ⟨q0, q1, va_K.moved (u := U) (U := U.calling g mk a) (Vm.Alike.refl U.vm) qK, EVS.blind g mk a qE⟩, fun U hU hW => ⟨rfl, hU, va_K.moved hW.alike hK, hE.call hS hFc hU hW⟩⟩ rfl rfl hl.1 rfl (lv_room (Nat.le_of_ble_eq_true rfl)) dX12_outside_52 ⟨(Nat.le_of_ble_eq_true rfl), (Nat.le_of_ble_eq_true rfl)⟩) hS (fun q _ h => hFc q h) hFc (fun r95 u t H locs ht hvm hw96 hB _ _ hS => ?_)
        obtain ⟨hT, hF1⟩ := hB
        rw [ht] at hT hF1
        have m97 := (el_kept (hF1.arr hg2 skm_2 (by decide))).trans m13
        have hF := hF.more hF1 (by decide)
        try dsimp only at hw96
        obtain ⟨h101, hi102, hi103⟩ := hw96
        refine lv_if_eq (tgt := 69) hx hb dX12_outside_55 (by decide) (fun c104 => ?_) (fun c104 => ?_)
        · have t105 : r95.toInt = 0 := ti_eq c104 rfl (by decide)
          have t106 : ho.toInt < x87.toInt ∨ x93.toInt < ho.toInt := hi103 c104
          refine lv_iconst (v := 0) hx hb dX12_outside_69 (by decide) ?_
          refine lv_iadd hx hb dX12_outside_70 ?_
          refine lv_topi (fun x107 ex107 => ?_)
          have t108 : x107.toInt = z11.toInt + 0 := ti_add ex107 rfl (by decide) (by omega) (by omega)
          refine lv_istore_n (lv' := [(2, .int x107), (3, .int (nI (1443 + 3 * i10))), (0, .ref o0), (1, .int ho)]) hx hb dX12_outside_71 rfl hl (by decide) rfl (fun ls hl => ?_)
          refine lv_iinc (v := nI (1443 + 3 * i10 + 3)) (lv' := [(3, .int (nI (1443 + 3 * i10 + 3))), (2, .int x107), (0, .ref o0), (1, .int ho)]) hx hb dX12_outside_72 hl (k := 1) rfl (nI_add (1443 + 3 * i10) 3) (by decide) rfl (fun ls hl => ?_)
          refine lv_goto (tgt := 18) hx hb dX12_outside_75 (by decide) ?_
          have hl : lv_has ls 4 [(3, .int (nI (1443 + 3 * (i10 + 1)))), (2, .int x107), (0, .ref o0), (1, .int ho)] := by rw [show nI (1443 + 3 * (i10 + 1)) = nI (1443 + 3 * i10 + 3) from congrArg nI (by omega)]; exact hl
          exact ih59 (i10 + 1) (by omega) x107 ⟨(by have q8 := ti_all x107; omega), (by have := (show x107.toInt = x107.toInt from rfl); first | exact osm_in (k := i10) (show SU wU (43 + 3 * i10) ≤ ho.toInt ∧ ho.toInt ≤ SU wU (44 + 3 * i10) from ⟨by omega, by omega⟩) hj14 (by show _ = _ + SU wU (45 + 3 * i10); omega) | exact osm_nn (k := i10) (fun q9 => by have q8 : SU wU (43 + 3 * i10) ≤ ho.toInt ∧ ho.toInt ≤ SU wU (44 + 3 * i10) := q9; omega) hj14 (by omega)), (by omega)⟩ _ _ hT hF hS m97 ls (lv_sub hl [0, 1, 2, 3] rfl)
        · have t109 : r95.toInt ≠ 0 := ti_ne c104 rfl (by decide)
          have t110 : x87.toInt ≤ ho.toInt ∧ ho.toInt ≤ x93.toInt := hi102 ((bit_of ⟨by omega, by omega⟩).resolve_left c104)
          refine lv_aload_n hx hb dX12_outside_58 rfl (lv_at hl 2 rfl) ?_
          refine tw_get hx hb hts bF_X12 hown hK hT hr_o0 shm_0 rfl 1 (by decide) (ht_at hts 0 rfl) (fun _ h9 => h9) dX12_outside_59 (fun v9 m111 h9 => ?_)
          obtain ⟨rfl, hg112⟩ := h9 _ rfl
          refine lv_iload_n hx hb dX12_outside_62 rfl (lv_at hl 0 rfl) ?_
          refine lv_iconst (v := 2) hx hb dX12_outside_63 (by decide) ?_
          refine lv_iadd hx hb dX12_outside_64 ?_
          refine lv_topi (fun x113 ex113 => ?_)
          obtain rfl : nI (1443 + 3 * i10 + 2) = x113 := (ex113.trans (nI_add (1443 + 3 * i10) 2)).symm
          refine tw_iald (i := (nI (1443 + 3 * i10 + 2))) hx hb hK hT hg2 shm_2 rfl (vp_in_nI (by omega) (by decide)) dX12_outside_65 (fun v9 m114 h9 => ?_)
          obtain ⟨x115, rfl, gx115, kx115⟩ := (gp_at h9 (w_stm (by have q9 := tn_of (show (nI (1443 + 3 * i10 + 2)).toInt = ((1443 + 3 * i10 + 2 : Nat) : Int) from (nI_toInt (by omega))) (show (0 : Int) ≤ ((1443 + 3 * i10 + 2 : Nat) : Int) from by omega); omega)))
          have t116 : x115.toInt = SU wU (45 + 3 * i10) := (by have qn := tn_of (show (nI (1443 + 3 * i10 + 2)).toInt = ((1443 + 3 * i10 + 2 : Nat) : Int) from (nI_toInt (by omega))) (by omega); have q := (wq_l hT hg2 (by omega) m114).2.2.1.2 ⟨by omega, by omega⟩; rw [show (nI (1443 + 3 * i10 + 2)).toNatClampNeg - 1400 = 45 + 3 * i10 from by omega] at q; exact q)
          refine lv_goto (tgt := 70) hx hb dX12_outside_66 (by decide) ?_
          refine lv_iadd hx hb dX12_outside_70 ?_
          refine lv_topi (fun x117 ex117 => ?_)
          have t118 : x117.toInt = z11.toInt + x115.toInt := ti_add ex117 rfl rfl (by omega) (by omega)
          refine lv_istore_n (lv' := [(2, .int x117), (3, .int (nI (1443 + 3 * i10))), (0, .ref o0), (1, .int ho)]) hx hb dX12_outside_71 rfl hl (by decide) rfl (fun ls hl => ?_)
          refine lv_iinc (v := nI (1443 + 3 * i10 + 3)) (lv' := [(3, .int (nI (1443 + 3 * i10 + 3))), (2, .int x117), (0, .ref o0), (1, .int ho)]) hx hb dX12_outside_72 hl (k := 1) rfl (nI_add (1443 + 3 * i10) 3) (by decide) rfl (fun ls hl => ?_)
          refine lv_goto (tgt := 18) hx hb dX12_outside_75 (by decide) ?_
          have hl : lv_has ls 4 [(3, .int (nI (1443 + 3 * (i10 + 1)))), (2, .int x117), (0, .ref o0), (1, .int ho)] := by rw [show nI (1443 + 3 * (i10 + 1)) = nI (1443 + 3 * i10 + 3) from congrArg nI (by omega)]; exact hl
          exact ih59 (i10 + 1) (by omega) x117 ⟨(by have q8 := ti_all x117; omega), (by have := (show x117.toInt = x117.toInt from rfl); first | exact osm_in (k := i10) (show SU wU (43 + 3 * i10) ≤ ho.toInt ∧ ho.toInt ≤ SU wU (44 + 3 * i10) from ⟨by omega, by omega⟩) hj14 (by show _ = _ + SU wU (45 + 3 * i10); omega) | exact osm_nn (k := i10) (fun q9 => by have q8 : SU wU (43 + 3 * i10) ≤ ho.toInt ∧ ho.toInt ≤ SU wU (44 + 3 * i10) := q9; omega) hj14 (by omega)), (by omega)⟩ _ _ hT hF hS m97 ls (lv_sub hl [0, 1, 2, 3] rfl)
  have hl2 : lv_has ls 4 [(3, .int (nI (1443 + 3 * 0))), (2, .int x8), (0, .ref o0), (1, .int ho)] := hl
  exact key59 (20 - 0) 0 (by omega) x8 ⟨(by have q8 := ti_all x8; omega), (by have := (show x8.toInt = x8.toInt from rfl); unfold osm; omega), (by omega)⟩ _ _ hT hF hS m7 ls (lv_sub hl2 [0, 1, 2, 3] rfl)
def w_s_telling1Y : List Cond := .code yX12_telling cX12_telling 6 (some .int) :: (HAppend.hAppend (α := List Cond) (β := List Cond) (γ := List Cond) [.fieldLink RX12 9 "SeaLandModel" "world" "[I"] bs)
set_option maxHeartbeats 4000000 in
set_option maxRecDepth 100000 in
theorem s_telling1Y (l : Launch) (dC : Nat → ClassId) (dI : Nat → Nat → Nat) (kA : Nat → ClassId) (adK adV : Nat → Nat) (G : gT) (H0 : Heap) (q : Nat → Nat) (wZ wN : Nat → Int) (wH wB wC : Int) (wL wK : Nat → Prop) (wU wV : Nat → Nat) (PI : Nat → Int → Prop) (im : Int) (PM PT : Nat → Int → Prop) (lS lB lE : Nat → Nat → Int → Prop) (lN : Nat → Int) (o0 : Nat) (ho : Int32)  (hT : gH (dC, dI) kA (SHm q (wP wZ wN wH wB wC wL wK wU wV) PI im PM PT lS lB lE lN) G H0) (hr_o0 : G o0 = some 0) (hgz : ∀ i, 0 ≤ wZ i) (hgn : ∀ i, 6500000 ≤ wN i ∧ wN i ≤ 20200000) (hgh : 0 ≤ wH ∧ wH ≤ 40000) (hgb : 0 ≤ wB ∧ wB ≤ 3850000) (hgc : 0 ≤ wC ∧ wC ≤ 30) (hgi : 0 ≤ im ∧ im ≤ 1) (hgu : ∀ a t, G a = some (t + 1) → a = q t) : Met l yX12_telling w_s_telling1Y ({ frames := 0, cells := 0, slots := 0, locals := 0 }) (va_Pc [.ref o0, .int 1624, .int 1625, .int ho] (fun U => U.heap = H0 ∧ va_K (dC, dI) vwCl (tyl kA) U ∧ EVS adK adV (gA G H0.size) U U.heap)) (va_Qi (fun (r : Int32) (u : Unit) => (-1 ≤ r.toInt ∧ r.toInt ≤ 1743) ∧ ((r.toInt = -1 ∨ (1625 ≤ r.toInt ∧ r.toInt ≤ 1743 ∧ (r.toInt - 1625) % 2 = 0))) ∧ (teI (fun i => SU wU (225 + 2 * i)) (SU wU 224).toNat 1625 ho.toInt r.toInt) ∧ (0 ≤ SU wU 224 ∧ SU wU 224 ≤ 60)) (fun (_ : Unit) (t : State) => gH (dC, dI) kA (SHm q (wP wZ wN wH wB wC wL wK wU wV) PI im PM PT lS lB lE lN) G t.heap ∧ gF (dC, dI) SKm G ([] : List (Nat × Nat)) H0 t.heap) (gA G H0.size)) 0 0 (gA G H0.size) := by
  refine Met.ofW (cc := cX12_telling) (maxL := 6) (ret := (some .int)) (by decide) rfl ?_
  intro p e s m args below meth c s₁ B hml hv
  obtain ⟨rfl, hH0, hK, hE⟩ := hv
  have hx := B.exec
  have hb := B.bytes
  have hr := B.returns
  have hts := atoms_spec (ws := w_s_telling1Y) B.pre
  have hown : s.vm.findClass RX12 = some m.cls := findClass_of_methodNamed B.named
  have hlocks := B.notSynchronized
  subst hH0
  generalize hAe : gA G s.heap.size = A at hE ⊢
  have hA : ∀ q : Nat, s.heap.size ≤ q → A q := fun q h => by rw [← hAe]; exact Or.inr h
  have hG := gA_of hAe
  have hS : va_S A s.heap s.heap [] := va_S.rf
  have hF : gF (dC, dI) SKm G ([] : List (Nat × Nat)) s.heap s.heap := gF.rf
  have hl := lv_entry ([.ref o0, .int 1624, .int 1625, .int ho]) (n := 6) (Nat.le_of_ble_eq_true rfl)
  rw [lg_entry_eq]
  generalize (lg_sl ([.ref o0, .int 1624, .int 1625, .int ho]) ++ List.replicate (6 - (lg_sl ([.ref o0, .int 1624, .int 1625, .int ho])).length) Slot.unset).toArray = ls at hl ⊢
  have hl : lv_has ls 6 [(0, .ref o0), (1, .int 1624), (2, .int 1625), (3, .int ho)] := hl
  refine lv_iconst (v := (-1)) hx hb dX12_telling_0 (by decide) ?_
  refine lv_istore (lv' := [(4, .int (-1)), (0, .ref o0), (1, .int 1624), (2, .int 1625), (3, .int ho)]) hx hb dX12_telling_1 hl (by decide) rfl (fun ls hl => ?_)
  refine lv_iload_n hx hb dX12_telling_3 rfl (lv_at hl 3 rfl) ?_
  refine lv_istore (lv' := [(5, .int 1625), (4, .int (-1)), (0, .ref o0), (1, .int 1624), (2, .int 1625), (3, .int ho)]) hx hb dX12_telling_4 hl (by decide) rfl (fun ls hl => ?_)
  have key38 : ∀ (n38 i1 : Nat), i1 + n38 = 60 → ∀ (z2 : Int32), (((z2.toInt = -1 ∨ (1625 ≤ z2.toInt ∧ z2.toInt ≤ 1743 ∧ (z2.toInt - 1625) % 2 = 0))) ∧ (teI (fun i => SU wU (225 + 2 * i)) i1 1625 ho.toInt z2.toInt) ∧ (((i1 : Nat) : Int) ≤ 0 ∨ ((i1 : Nat) : Int) ≤ SU wU 224)) → ∀ (H : Heap) (locs : List Loc), gH (dC, dI) kA (SHm q (wP wZ wN wH wB wC wL wK wU wV) PI im PM PT lS lB lE lN) G H → gF (dC, dI) SKm G ([] : List (Nat × Nat)) s.heap H → va_S A s.heap H locs → ∀ ls : Array Slot, lv_has ls 6 [(5, .int (nI (1625 + 2 * i1))), (4, .int z2), (0, .ref o0), (1, .int 1624), (2, .int 1625), (3, .int ho)] → W p l e (headSpec w_s_telling1Y ({ frames := 0, cells := 0, slots := 0, locals := 0 })).room s m #[.ref o0, .int 1624, .int 1625, .int ho] below meth c H locs 0 0 (MQ below (va_Qi (fun (r : Int32) (u : Unit) => (-1 ≤ r.toInt ∧ r.toInt ≤ 1743) ∧ ((r.toInt = -1 ∨ (1625 ≤ r.toInt ∧ r.toInt ≤ 1743 ∧ (r.toInt - 1625) % 2 = 0))) ∧ (teI (fun i => SU wU (225 + 2 * i)) (SU wU 224).toNat 1625 ho.toInt r.toInt) ∧ (0 ≤ SU wU 224 ∧ SU wU 224 ≤ 60)) (fun (_ : Unit) (t : State) => gH (dC, dI) kA (SHm q (wP wZ wN wH wB wC wL wK wU wV) PI im PM PT lS lB lE lN) G t.heap ∧ gF (dC, dI) SKm G ([] : List (Nat × Nat)) s.heap t.heap) A) #[.ref o0, .int 1624, .int 1625, .int ho] s 0 0 A) (F0 m 6 ls []) := by
    intro n38
    induction n38 with
    | zero =>
      intro i1 hn38 z2 ⟨h3, hj4, hj5⟩ H locs hT hF hS  ls hl
      obtain rfl : 60 = i1 := by omega
      refine lv_iload hx hb dX12_telling_6 (lv_at hl 0 rfl) ?_
      refine lv_iload_n hx hb dX12_telling_8 rfl (lv_at hl 4 rfl) ?_
      refine lv_iconst (v := 2) hx hb dX12_telling_9 (by decide) ?_
      refine lv_aload_n hx hb dX12_telling_10 rfl (lv_at hl 2 rfl) ?_
      refine tw_get hx hb hts bF_X12 hown hK hT hr_o0 shm_0 rfl 1 (by decide) (ht_at hts 0 rfl) (fun _ h9 => h9) dX12_telling_11 (fun v9 m40 h9 => ?_)
      obtain ⟨rfl, hg41⟩ := h9 _ rfl
      refine lv_iload_n hx hb dX12_telling_14 rfl (lv_at hl 3 rfl) ?_
      refine tw_iald (i := 1624) hx hb hK hT hg41 shm_2 rfl (by unfold vp_in; decide) dX12_telling_15 (fun v9 m42 h9 => ?_)
      obtain ⟨x43, rfl, gx43, kx43⟩ := (gp_at h9 (w_rac (by have q9 := tn_of (show (1624 : Int32).toInt = 1624 from (by decide)) (show (0 : Int) ≤ 1624 from by omega); omega)))
      have t44 : x43.toInt = SU wU 224 := (by have qn := tn_of (show (1624 : Int32).toInt = 1624 from (by decide)) (by omega); have q := (wq_l hT hg41 (by omega) m42).2.2.1.2 ⟨by omega, by omega⟩; rw [show (1624 : Int32).toNatClampNeg - 1400 = 224 from by omega] at q; exact q)
      refine lv_imul hx hb dX12_telling_16 ?_
      refine lv_topi (fun x45 ex45 => ?_)
      have t46 : x45.toInt = 2 * x43.toInt := ti_mul ex45 (by decide) rfl (by omega) (by omega)
      refine lv_iadd hx hb dX12_telling_17 ?_
      refine lv_topi (fun x47 ex47 => ?_)
      have t48 : x47.toInt = 1625 + x45.toInt := ti_add ex47 (by decide) rfl (by omega) (by omega)
      refine lv_icmp_ge (tgt := 64) hx hb dX12_telling_18 (by decide) (fun c49 => ?_) (fun c49 => (by exfalso; have q9 : ((1625 + 2 * 60 : Nat) : Int) < x47.toInt := ti_nle c49 rfl (nI_toInt (by omega)); omega))
      have t50 : x47.toInt ≤ ((1625 + 2 * 60 : Nat) : Int) := ti_le c49 rfl (nI_toInt (by omega))
      refine lv_iload hx hb dX12_telling_64 (lv_at hl 1 rfl) ?_
      exact W.iret (v := z2) hx hb hr (fun t ht hW => ⟨⟨z2, (), rfl, (by exact ⟨(by have q8 := ti_all z2; omega), (by omega), (by have z9 := hj4; rw [show 60 = (SU wU 224).toNat from by omega] at z9; exact z9), (by omega)⟩), by (try dsimp only); rw [ht]; exact ⟨hT, hF⟩⟩, hS.F ht⟩) hS.2.2 dX12_telling_66
    | succ n38 ih38 =>
      intro i1 hn38 z2 ⟨h3, hj4, hj5⟩ H locs hT hF hS  ls hl
      have hlt50 : i1 < 60 := by omega
      refine lv_iload hx hb dX12_telling_6 (lv_at hl 0 rfl) ?_
      refine lv_iload_n hx hb dX12_telling_8 rfl (lv_at hl 4 rfl) ?_
      refine lv_iconst (v := 2) hx hb dX12_telling_9 (by decide) ?_
      refine lv_aload_n hx hb dX12_telling_10 rfl (lv_at hl 2 rfl) ?_
      refine tw_get hx hb hts bF_X12 hown hK hT hr_o0 shm_0 rfl 1 (by decide) (ht_at hts 0 rfl) (fun _ h9 => h9) dX12_telling_11 (fun v9 m51 h9 => ?_)
      obtain ⟨rfl, hg52⟩ := h9 _ rfl
      refine lv_iload_n hx hb dX12_telling_14 rfl (lv_at hl 3 rfl) ?_
      refine tw_iald (i := 1624) hx hb hK hT hg52 shm_2 rfl (by unfold vp_in; decide) dX12_telling_15 (fun v9 m53 h9 => ?_)
      obtain ⟨x54, rfl, gx54, kx54⟩ := (gp_at h9 (w_rac (by have q9 := tn_of (show (1624 : Int32).toInt = 1624 from (by decide)) (show (0 : Int) ≤ 1624 from by omega); omega)))
      have t55 : x54.toInt = SU wU 224 := (by have qn := tn_of (show (1624 : Int32).toInt = 1624 from (by decide)) (by omega); have q := (wq_l hT hg52 (by omega) m53).2.2.1.2 ⟨by omega, by omega⟩; rw [show (1624 : Int32).toNatClampNeg - 1400 = 224 from by omega] at q; exact q)
      refine lv_imul hx hb dX12_telling_16 ?_
      refine lv_topi (fun x56 ex56 => ?_)
      have t57 : x56.toInt = 2 * x54.toInt := ti_mul ex56 (by decide) rfl (by omega) (by omega)
      refine lv_iadd hx hb dX12_telling_17 ?_
      refine lv_topi (fun x58 ex58 => ?_)
      have t59 : x58.toInt = 1625 + x56.toInt := ti_add ex58 (by decide) rfl (by omega) (by omega)
      refine lv_icmp_ge (tgt := 64) hx hb dX12_telling_18 (by decide) (fun c60 => ?_) (fun c60 => ?_)
      · have t61 : x58.toInt ≤ ((1625 + 2 * i1 : Nat) : Int) := ti_le c60 rfl (nI_toInt (by omega))
        refine lv_iload hx hb dX12_telling_64 (lv_at hl 1 rfl) ?_
        exact W.iret (v := z2) hx hb hr (fun t ht hW => ⟨⟨z2, (), rfl, (by exact ⟨(by have q8 := ti_all z2; omega), (by omega), (by have z9 := hj4; rw [show i1 = (SU wU 224).toNat from by omega] at z9; exact z9), (by omega)⟩), by (try dsimp only); rw [ht]; exact ⟨hT, hF⟩⟩, hS.F ht⟩) hS.2.2 dX12_telling_66
      · have t62 : ((1625 + 2 * i1 : Nat) : Int) < x58.toInt := ti_nle c60 rfl (nI_toInt (by omega))
        refine lv_aload_n hx hb dX12_telling_21 rfl (lv_at hl 2 rfl) ?_
        refine tw_get hx hb hts bF_X12 hown hK hT hr_o0 shm_0 rfl 1 (by decide) (ht_at hts 0 rfl) (fun _ h9 => h9) dX12_telling_22 (fun v9 m63 h9 => ?_)
        obtain ⟨rfl, hg64⟩ := h9 _ rfl
        refine lv_iload hx hb dX12_telling_25 (lv_at hl 0 rfl) ?_
        refine tw_iald (i := (nI (1625 + 2 * i1))) hx hb hK hT hg52 shm_2 rfl (vp_in_nI (by omega) (by decide)) dX12_telling_27 (fun v9 m65 h9 => ?_)
        obtain ⟨x66, rfl, gx66, kx66⟩ := (gp_at h9 (w_fre (by have q9 := tn_of (show (nI (1625 + 2 * i1)).toInt = ((1625 + 2 * i1 : Nat) : Int) from (nI_toInt (by omega))) (show (0 : Int) ≤ ((1625 + 2 * i1 : Nat) : Int) from by omega); omega)))
        have t67 : x66.toInt = SU wU (225 + 2 * i1) := (by have qn := tn_of (show (nI (1625 + 2 * i1)).toInt = ((1625 + 2 * i1 : Nat) : Int) from (nI_toInt (by omega))) (by omega); have q := (wq_l hT hg52 (by omega) m65).2.2.1.2 ⟨by omega, by omega⟩; rw [show (nI (1625 + 2 * i1)).toNatClampNeg - 1400 = 225 + 2 * i1 from by omega] at q; exact q)
        refine lv_iload_n hx hb dX12_telling_28 rfl (lv_at hl 5 rfl) ?_
        refine lv_icmp_gt (tgt := 58) hx hb dX12_telling_29 (by decide) (fun c68 => ?_) (fun c68 => ?_)
        · have t69 : ho.toInt < x66.toInt := ti_lt c68 rfl rfl
          refine lv_iinc (v := nI (1625 + 2 * i1 + 2)) (lv' := [(5, .int (nI (1625 + 2 * i1 + 2))), (4, .int z2), (0, .ref o0), (1, .int 1624), (2, .int 1625), (3, .int ho)]) hx hb dX12_telling_58 hl (k := 0) rfl (nI_add (1625 + 2 * i1) 2) (by decide) rfl (fun ls hl => ?_)
          refine lv_goto (tgt := 6) hx hb dX12_telling_61 (by decide) ?_
          have hl : lv_has ls 6 [(5, .int (nI (1625 + 2 * (i1 + 1)))), (4, .int z2), (0, .ref o0), (1, .int 1624), (2, .int 1625), (3, .int ho)] := by rw [show nI (1625 + 2 * (i1 + 1)) = nI (1625 + 2 * i1 + 2) from congrArg nI (by omega)]; exact hl
          exact ih38 (i1 + 1) (by omega) z2 ⟨(by have q9 := (show z2.toInt = z2.toInt from rfl); (try have q8 := ti_all z2); omega), (by have := (show z2.toInt = z2.toInt from rfl); first | exact te_n hj4 (by show SU wU (225 + 2 * i1) ≤ ho.toInt; omega) (Or.inl (by omega)) (by decide) (by omega) | exact te_o hj4 (by decide) (Or.inl (by show ho.toInt < SU wU (225 + 2 * i1); omega))), (by omega)⟩ _ _ hT hF hS ls (lv_sub hl [0, 1, 2, 3, 4, 5] rfl)
        · have t70 : x66.toInt ≤ ho.toInt := ti_nlt c68 rfl rfl
          refine lv_iload hx hb dX12_telling_32 (lv_at hl 1 rfl) ?_
          refine lv_if_lt (tgt := 54) hx hb dX12_telling_34 (by decide) (fun c71 => ?_) (fun c71 => ?_)
          · have t72 : z2.toInt < 0 := ti_lt c71 rfl (by decide)
            refine lv_iload hx hb dX12_telling_54 (lv_at hl 0 rfl) ?_
            refine lv_istore (lv' := [(4, .int (nI (1625 + 2 * i1))), (5, .int (nI (1625 + 2 * i1))), (0, .ref o0), (1, .int 1624), (2, .int 1625), (3, .int ho)]) hx hb dX12_telling_56 hl (by decide) rfl (fun ls hl => ?_)
            refine lv_iinc (v := nI (1625 + 2 * i1 + 2)) (lv' := [(5, .int (nI (1625 + 2 * i1 + 2))), (4, .int (nI (1625 + 2 * i1))), (0, .ref o0), (1, .int 1624), (2, .int 1625), (3, .int ho)]) hx hb dX12_telling_58 hl (k := 1) rfl (nI_add (1625 + 2 * i1) 2) (by decide) rfl (fun ls hl => ?_)
            refine lv_goto (tgt := 6) hx hb dX12_telling_61 (by decide) ?_
            have hl : lv_has ls 6 [(5, .int (nI (1625 + 2 * (i1 + 1)))), (4, .int (nI (1625 + 2 * i1))), (0, .ref o0), (1, .int 1624), (2, .int 1625), (3, .int ho)] := by rw [show nI (1625 + 2 * (i1 + 1)) = nI (1625 + 2 * i1 + 2) from congrArg nI (by omega)]; exact hl
            exact ih38 (i1 + 1) (by omega) (nI (1625 + 2 * i1)) ⟨(by have q9 := (show (nI (1625 + 2 * i1)).toInt = ((1625 + 2 * i1 : Nat) : Int) from (nI_toInt (by omega))); (try have q8 := ti_all (nI (1625 + 2 * i1))); omega), (by have := (show (nI (1625 + 2 * i1)).toInt = ((1625 + 2 * i1 : Nat) : Int) from (nI_toInt (by omega))); first | exact te_n hj4 (by show SU wU (225 + 2 * i1) ≤ ho.toInt; omega) (Or.inl (by omega)) (by decide) (by omega) | exact te_o hj4 (by decide) (Or.inl (by show ho.toInt < SU wU (225 + 2 * i1); omega))), (by omega)⟩ _ _ hT hF hS ls (lv_sub hl [0, 1, 2, 3, 4, 5] rfl)
          · have t73 : 0 ≤ z2.toInt := ti_nlt c71 rfl (by decide)
            obtain ⟨j74, hj74, ej74⟩ := teI.at hj4 (by decide) (by have := (show z2.toInt = z2.toInt from rfl); omega)
            refine lv_aload_n hx hb dX12_telling_37 rfl (lv_at hl 2 rfl) ?_
            refine tw_get hx hb hts bF_X12 hown hK hT hr_o0 shm_0 rfl 1 (by decide) (ht_at hts 0 rfl) (fun _ h9 => h9) dX12_telling_38 (fun v9 m75 h9 => ?_)
            obtain ⟨rfl, hg76⟩ := h9 _ rfl
            refine lv_iload hx hb dX12_telling_41 (lv_at hl 0 rfl) ?_
            refine tw_iald (i := (nI (1625 + 2 * i1))) hx hb hK hT hg52 shm_2 rfl (vp_in_nI (by omega) (by decide)) dX12_telling_43 (fun v9 m77 h9 => ?_)
            obtain ⟨x78, rfl, gx78, kx78⟩ := (gp_at h9 (w_fre (by have q9 := tn_of (show (nI (1625 + 2 * i1)).toInt = ((1625 + 2 * i1 : Nat) : Int) from (nI_toInt (by omega))) (show (0 : Int) ≤ ((1625 + 2 * i1 : Nat) : Int) from by omega); omega)))
            obtain rfl : x66 = x78 := (el_same m77 m65 rfl).symm
            have t79 : x66.toInt = SU wU (225 + 2 * i1) := (by have qn := tn_of (show (nI (1625 + 2 * i1)).toInt = ((1625 + 2 * i1 : Nat) : Int) from (nI_toInt (by omega))) (by omega); have q := (wq_l hT hg52 (by omega) m65).2.2.1.2 ⟨by omega, by omega⟩; rw [show (nI (1625 + 2 * i1)).toNatClampNeg - 1400 = 225 + 2 * i1 from by omega] at q; exact q)
            refine lv_aload_n hx hb dX12_telling_44 rfl (lv_at hl 2 rfl) ?_
            refine tw_get hx hb hts bF_X12 hown hK hT hr_o0 shm_0 rfl 1 (by decide) (ht_at hts 0 rfl) (fun _ h9 => h9) dX12_telling_45 (fun v9 m80 h9 => ?_)
            obtain ⟨rfl, hg81⟩ := h9 _ rfl
            refine lv_iload hx hb dX12_telling_48 (lv_at hl 1 rfl) ?_
            refine tw_iald (i := z2) hx hb hK hT hg52 shm_2 rfl (vin_t (a := z2.toInt) rfl (by omega) (by omega)) dX12_telling_50 (fun v9 m82 h9 => ?_)
            obtain ⟨x83, rfl, gx83, kx83⟩ := (gp_any h9)
            have t84 : x83.toInt = SU wU (225 + 2 * j74) := (by have qn := tn_of (show z2.toInt = z2.toInt from rfl) (by omega); have q := (wq_l hT hg52 (by omega) m82).2.2.1.2 ⟨by omega, by omega⟩; rw [show z2.toNatClampNeg - 1400 = 225 + 2 * j74 from by omega] at q; exact q)
            refine lv_icmp_lt (tgt := 58) hx hb dX12_telling_51 (by decide) (fun c85 => ?_) (fun c85 => ?_)
            · have t86 : x66.toInt < x83.toInt := ti_lt c85 rfl rfl
              refine lv_iinc (v := nI (1625 + 2 * i1 + 2)) (lv' := [(5, .int (nI (1625 + 2 * i1 + 2))), (4, .int z2), (0, .ref o0), (1, .int 1624), (2, .int 1625), (3, .int ho)]) hx hb dX12_telling_58 hl (k := 0) rfl (nI_add (1625 + 2 * i1) 2) (by decide) rfl (fun ls hl => ?_)
              refine lv_goto (tgt := 6) hx hb dX12_telling_61 (by decide) ?_
              have hl : lv_has ls 6 [(5, .int (nI (1625 + 2 * (i1 + 1)))), (4, .int z2), (0, .ref o0), (1, .int 1624), (2, .int 1625), (3, .int ho)] := by rw [show nI (1625 + 2 * (i1 + 1)) = nI (1625 + 2 * i1 + 2) from congrArg nI (by omega)]; exact hl
              exact ih38 (i1 + 1) (by omega) z2 ⟨(by have q9 := (show z2.toInt = z2.toInt from rfl); (try have q8 := ti_all z2); omega), (by have := (show z2.toInt = z2.toInt from rfl); first | exact te_n hj4 (by show SU wU (225 + 2 * i1) ≤ ho.toInt; omega) (Or.inr ⟨j74, by omega, by show SU wU (225 + 2 * j74) ≤ SU wU (225 + 2 * i1); omega⟩) (by decide) (by omega) | exact te_o hj4 (by decide) (Or.inr ⟨j74, by omega, by show SU wU (225 + 2 * i1) < SU wU (225 + 2 * j74); omega⟩) | exact te_n hj4 (by show SU wU (225 + 2 * i1) ≤ ho.toInt; omega) (Or.inl (by omega)) (by decide) (by omega) | exact te_o hj4 (by decide) (Or.inl (by show ho.toInt < SU wU (225 + 2 * i1); omega))), (by omega)⟩ _ _ hT hF hS ls (lv_sub hl [0, 1, 2, 3, 4, 5] rfl)
            · have t87 : x83.toInt ≤ x66.toInt := ti_nlt c85 rfl rfl
              refine lv_iload hx hb dX12_telling_54 (lv_at hl 0 rfl) ?_
              refine lv_istore (lv' := [(4, .int (nI (1625 + 2 * i1))), (5, .int (nI (1625 + 2 * i1))), (0, .ref o0), (1, .int 1624), (2, .int 1625), (3, .int ho)]) hx hb dX12_telling_56 hl (by decide) rfl (fun ls hl => ?_)
              refine lv_iinc (v := nI (1625 + 2 * i1 + 2)) (lv' := [(5, .int (nI (1625 + 2 * i1 + 2))), (4, .int (nI (1625 + 2 * i1))), (0, .ref o0), (1, .int 1624), (2, .int 1625), (3, .int ho)]) hx hb dX12_telling_58 hl (k := 1) rfl (nI_add (1625 + 2 * i1) 2) (by decide) rfl (fun ls hl => ?_)
              refine lv_goto (tgt := 6) hx hb dX12_telling_61 (by decide) ?_
              have hl : lv_has ls 6 [(5, .int (nI (1625 + 2 * (i1 + 1)))), (4, .int (nI (1625 + 2 * i1))), (0, .ref o0), (1, .int 1624), (2, .int 1625), (3, .int ho)] := by rw [show nI (1625 + 2 * (i1 + 1)) = nI (1625 + 2 * i1 + 2) from congrArg nI (by omega)]; exact hl
              exact ih38 (i1 + 1) (by omega) (nI (1625 + 2 * i1)) ⟨(by have q9 := (show (nI (1625 + 2 * i1)).toInt = ((1625 + 2 * i1 : Nat) : Int) from (nI_toInt (by omega))); (try have q8 := ti_all (nI (1625 + 2 * i1))); omega), (by have := (show (nI (1625 + 2 * i1)).toInt = ((1625 + 2 * i1 : Nat) : Int) from (nI_toInt (by omega))); first | exact te_n hj4 (by show SU wU (225 + 2 * i1) ≤ ho.toInt; omega) (Or.inr ⟨j74, by omega, by show SU wU (225 + 2 * j74) ≤ SU wU (225 + 2 * i1); omega⟩) (by decide) (by omega) | exact te_o hj4 (by decide) (Or.inr ⟨j74, by omega, by show SU wU (225 + 2 * i1) < SU wU (225 + 2 * j74); omega⟩) | exact te_n hj4 (by show SU wU (225 + 2 * i1) ≤ ho.toInt; omega) (Or.inl (by omega)) (by decide) (by omega) | exact te_o hj4 (by decide) (Or.inl (by show ho.toInt < SU wU (225 + 2 * i1); omega))), (by omega)⟩ _ _ hT hF hS ls (lv_sub hl [0, 1, 2, 3, 4, 5] rfl)
  have hl2 : lv_has ls 6 [(5, .int (nI (1625 + 2 * 0))), (4, .int (-1)), (0, .ref o0), (1, .int 1624), (2, .int 1625), (3, .int ho)] := hl
  exact key38 (60 - 0) 0 (by omega) (-1) ⟨(by have q9 := (show (-1 : Int32).toInt = (-1) from (by decide)); (try have q8 := ti_all (-1 : Int32)); omega), (te_00 (by decide)), (by omega)⟩ _ _ hT hF hS ls (lv_sub hl2 [0, 1, 2, 3, 4, 5] rfl)
def w_s_telling2Y : List Cond := .code yX12_telling cX12_telling 6 (some .int) :: (HAppend.hAppend (α := List Cond) (β := List Cond) (γ := List Cond) [.fieldLink RX12 9 "SeaLandModel" "world" "[I"] bs)
set_option maxHeartbeats 4000000 in
set_option maxRecDepth 100000 in
theorem s_telling2Y (l : Launch) (dC : Nat → ClassId) (dI : Nat → Nat → Nat) (kA : Nat → ClassId) (adK adV : Nat → Nat) (G : gT) (H0 : Heap) (q : Nat → Nat) (wZ wN : Nat → Int) (wH wB wC : Int) (wL wK : Nat → Prop) (wU wV : Nat → Nat) (PI : Nat → Int → Prop) (im : Int) (PM PT : Nat → Int → Prop) (lS lB lE : Nat → Nat → Int → Prop) (lN : Nat → Int) (o0 : Nat) (ho : Int32)  (hT : gH (dC, dI) kA (SHm q (wP wZ wN wH wB wC wL wK wU wV) PI im PM PT lS lB lE lN) G H0) (hr_o0 : G o0 = some 0) (hgz : ∀ i, 0 ≤ wZ i) (hgn : ∀ i, 6500000 ≤ wN i ∧ wN i ≤ 20200000) (hgh : 0 ≤ wH ∧ wH ≤ 40000) (hgb : 0 ≤ wB ∧ wB ≤ 3850000) (hgc : 0 ≤ wC ∧ wC ≤ 30) (hgi : 0 ≤ im ∧ im ≤ 1) (hgu : ∀ a t, G a = some (t + 1) → a = q t) : Met l yX12_telling w_s_telling2Y ({ frames := 0, cells := 0, slots := 0, locals := 0 }) (va_Pc [.ref o0, .int 1503, .int 1504, .int ho] (fun U => U.heap = H0 ∧ va_K (dC, dI) vwCl (tyl kA) U ∧ EVS adK adV (gA G H0.size) U U.heap)) (va_Qi (fun (r : Int32) (u : Unit) => (-1 ≤ r.toInt ∧ r.toInt ≤ 1622) ∧ ((r.toInt = -1 ∨ (1504 ≤ r.toInt ∧ r.toInt ≤ 1622 ∧ (r.toInt - 1504) % 2 = 0))) ∧ (teI (fun i => SU wU (104 + 2 * i)) (SU wU 103).toNat 1504 ho.toInt r.toInt) ∧ (0 ≤ SU wU 103 ∧ SU wU 103 ≤ 60)) (fun (_ : Unit) (t : State) => gH (dC, dI) kA (SHm q (wP wZ wN wH wB wC wL wK wU wV) PI im PM PT lS lB lE lN) G t.heap ∧ gF (dC, dI) SKm G ([] : List (Nat × Nat)) H0 t.heap) (gA G H0.size)) 0 0 (gA G H0.size) := by
  refine Met.ofW (cc := cX12_telling) (maxL := 6) (ret := (some .int)) (by decide) rfl ?_
  intro p e s m args below meth c s₁ B hml hv
  obtain ⟨rfl, hH0, hK, hE⟩ := hv
  have hx := B.exec
  have hb := B.bytes
  have hr := B.returns
  have hts := atoms_spec (ws := w_s_telling2Y) B.pre
  have hown : s.vm.findClass RX12 = some m.cls := findClass_of_methodNamed B.named
  have hlocks := B.notSynchronized
  subst hH0
  generalize hAe : gA G s.heap.size = A at hE ⊢
  have hA : ∀ q : Nat, s.heap.size ≤ q → A q := fun q h => by rw [← hAe]; exact Or.inr h
  have hG := gA_of hAe
  have hS : va_S A s.heap s.heap [] := va_S.rf
  have hF : gF (dC, dI) SKm G ([] : List (Nat × Nat)) s.heap s.heap := gF.rf
  have hl := lv_entry ([.ref o0, .int 1503, .int 1504, .int ho]) (n := 6) (Nat.le_of_ble_eq_true rfl)
  rw [lg_entry_eq]
  generalize (lg_sl ([.ref o0, .int 1503, .int 1504, .int ho]) ++ List.replicate (6 - (lg_sl ([.ref o0, .int 1503, .int 1504, .int ho])).length) Slot.unset).toArray = ls at hl ⊢
  have hl : lv_has ls 6 [(0, .ref o0), (1, .int 1503), (2, .int 1504), (3, .int ho)] := hl
  refine lv_iconst (v := (-1)) hx hb dX12_telling_0 (by decide) ?_
  refine lv_istore (lv' := [(4, .int (-1)), (0, .ref o0), (1, .int 1503), (2, .int 1504), (3, .int ho)]) hx hb dX12_telling_1 hl (by decide) rfl (fun ls hl => ?_)
  refine lv_iload_n hx hb dX12_telling_3 rfl (lv_at hl 3 rfl) ?_
  refine lv_istore (lv' := [(5, .int 1504), (4, .int (-1)), (0, .ref o0), (1, .int 1503), (2, .int 1504), (3, .int ho)]) hx hb dX12_telling_4 hl (by decide) rfl (fun ls hl => ?_)
  have key38 : ∀ (n38 i1 : Nat), i1 + n38 = 60 → ∀ (z2 : Int32), (((z2.toInt = -1 ∨ (1504 ≤ z2.toInt ∧ z2.toInt ≤ 1622 ∧ (z2.toInt - 1504) % 2 = 0))) ∧ (teI (fun i => SU wU (104 + 2 * i)) i1 1504 ho.toInt z2.toInt) ∧ (((i1 : Nat) : Int) ≤ 0 ∨ ((i1 : Nat) : Int) ≤ SU wU 103)) → ∀ (H : Heap) (locs : List Loc), gH (dC, dI) kA (SHm q (wP wZ wN wH wB wC wL wK wU wV) PI im PM PT lS lB lE lN) G H → gF (dC, dI) SKm G ([] : List (Nat × Nat)) s.heap H → va_S A s.heap H locs → ∀ ls : Array Slot, lv_has ls 6 [(5, .int (nI (1504 + 2 * i1))), (4, .int z2), (0, .ref o0), (1, .int 1503), (2, .int 1504), (3, .int ho)] → W p l e (headSpec w_s_telling2Y ({ frames := 0, cells := 0, slots := 0, locals := 0 })).room s m #[.ref o0, .int 1503, .int 1504, .int ho] below meth c H locs 0 0 (MQ below (va_Qi (fun (r : Int32) (u : Unit) => (-1 ≤ r.toInt ∧ r.toInt ≤ 1622) ∧ ((r.toInt = -1 ∨ (1504 ≤ r.toInt ∧ r.toInt ≤ 1622 ∧ (r.toInt - 1504) % 2 = 0))) ∧ (teI (fun i => SU wU (104 + 2 * i)) (SU wU 103).toNat 1504 ho.toInt r.toInt) ∧ (0 ≤ SU wU 103 ∧ SU wU 103 ≤ 60)) (fun (_ : Unit) (t : State) => gH (dC, dI) kA (SHm q (wP wZ wN wH wB wC wL wK wU wV) PI im PM PT lS lB lE lN) G t.heap ∧ gF (dC, dI) SKm G ([] : List (Nat × Nat)) s.heap t.heap) A) #[.ref o0, .int 1503, .int 1504, .int ho] s 0 0 A) (F0 m 6 ls []) := by
    intro n38
    induction n38 with
    | zero =>
      intro i1 hn38 z2 ⟨h3, hj4, hj5⟩ H locs hT hF hS  ls hl
      obtain rfl : 60 = i1 := by omega
      refine lv_iload hx hb dX12_telling_6 (lv_at hl 0 rfl) ?_
      refine lv_iload_n hx hb dX12_telling_8 rfl (lv_at hl 4 rfl) ?_
      refine lv_iconst (v := 2) hx hb dX12_telling_9 (by decide) ?_
      refine lv_aload_n hx hb dX12_telling_10 rfl (lv_at hl 2 rfl) ?_
      refine tw_get hx hb hts bF_X12 hown hK hT hr_o0 shm_0 rfl 1 (by decide) (ht_at hts 0 rfl) (fun _ h9 => h9) dX12_telling_11 (fun v9 m40 h9 => ?_)
      obtain ⟨rfl, hg41⟩ := h9 _ rfl
      refine lv_iload_n hx hb dX12_telling_14 rfl (lv_at hl 3 rfl) ?_
      refine tw_iald (i := 1503) hx hb hK hT hg41 shm_2 rfl (by unfold vp_in; decide) dX12_telling_15 (fun v9 m42 h9 => ?_)
      obtain ⟨x43, rfl, gx43, kx43⟩ := (gp_at h9 (w_wic (by have q9 := tn_of (show (1503 : Int32).toInt = 1503 from (by decide)) (show (0 : Int) ≤ 1503 from by omega); omega)))
      have t44 : x43.toInt = SU wU 103 := (by have qn := tn_of (show (1503 : Int32).toInt = 1503 from (by decide)) (by omega); have q := (wq_l hT hg41 (by omega) m42).2.2.1.2 ⟨by omega, by omega⟩; rw [show (1503 : Int32).toNatClampNeg - 1400 = 103 from by omega] at q; exact q)
      refine lv_imul hx hb dX12_telling_16 ?_
      refine lv_topi (fun x45 ex45 => ?_)
      have t46 : x45.toInt = 2 * x43.toInt := ti_mul ex45 (by decide) rfl (by omega) (by omega)
      refine lv_iadd hx hb dX12_telling_17 ?_
      refine lv_topi (fun x47 ex47 => ?_)
      have t48 : x47.toInt = 1504 + x45.toInt := ti_add ex47 (by decide) rfl (by omega) (by omega)
      refine lv_icmp_ge (tgt := 64) hx hb dX12_telling_18 (by decide) (fun c49 => ?_) (fun c49 => (by exfalso; have q9 : ((1504 + 2 * 60 : Nat) : Int) < x47.toInt := ti_nle c49 rfl (nI_toInt (by omega)); omega))
      have t50 : x47.toInt ≤ ((1504 + 2 * 60 : Nat) : Int) := ti_le c49 rfl (nI_toInt (by omega))
      refine lv_iload hx hb dX12_telling_64 (lv_at hl 1 rfl) ?_
      exact W.iret (v := z2) hx hb hr (fun t ht hW => ⟨⟨z2, (), rfl, (by exact ⟨(by have q8 := ti_all z2; omega), (by omega), (by have z9 := hj4; rw [show 60 = (SU wU 103).toNat from by omega] at z9; exact z9), (by omega)⟩), by (try dsimp only); rw [ht]; exact ⟨hT, hF⟩⟩, hS.F ht⟩) hS.2.2 dX12_telling_66
    | succ n38 ih38 =>
      intro i1 hn38 z2 ⟨h3, hj4, hj5⟩ H locs hT hF hS  ls hl
      have hlt50 : i1 < 60 := by omega
      refine lv_iload hx hb dX12_telling_6 (lv_at hl 0 rfl) ?_
      refine lv_iload_n hx hb dX12_telling_8 rfl (lv_at hl 4 rfl) ?_
      refine lv_iconst (v := 2) hx hb dX12_telling_9 (by decide) ?_
      refine lv_aload_n hx hb dX12_telling_10 rfl (lv_at hl 2 rfl) ?_
      refine tw_get hx hb hts bF_X12 hown hK hT hr_o0 shm_0 rfl 1 (by decide) (ht_at hts 0 rfl) (fun _ h9 => h9) dX12_telling_11 (fun v9 m51 h9 => ?_)
      obtain ⟨rfl, hg52⟩ := h9 _ rfl
      refine lv_iload_n hx hb dX12_telling_14 rfl (lv_at hl 3 rfl) ?_
      refine tw_iald (i := 1503) hx hb hK hT hg52 shm_2 rfl (by unfold vp_in; decide) dX12_telling_15 (fun v9 m53 h9 => ?_)
      obtain ⟨x54, rfl, gx54, kx54⟩ := (gp_at h9 (w_wic (by have q9 := tn_of (show (1503 : Int32).toInt = 1503 from (by decide)) (show (0 : Int) ≤ 1503 from by omega); omega)))
      have t55 : x54.toInt = SU wU 103 := (by have qn := tn_of (show (1503 : Int32).toInt = 1503 from (by decide)) (by omega); have q := (wq_l hT hg52 (by omega) m53).2.2.1.2 ⟨by omega, by omega⟩; rw [show (1503 : Int32).toNatClampNeg - 1400 = 103 from by omega] at q; exact q)
      refine lv_imul hx hb dX12_telling_16 ?_
      refine lv_topi (fun x56 ex56 => ?_)
      have t57 : x56.toInt = 2 * x54.toInt := ti_mul ex56 (by decide) rfl (by omega) (by omega)
      refine lv_iadd hx hb dX12_telling_17 ?_
      refine lv_topi (fun x58 ex58 => ?_)
      have t59 : x58.toInt = 1504 + x56.toInt := ti_add ex58 (by decide) rfl (by omega) (by omega)
      refine lv_icmp_ge (tgt := 64) hx hb dX12_telling_18 (by decide) (fun c60 => ?_) (fun c60 => ?_)
      · have t61 : x58.toInt ≤ ((1504 + 2 * i1 : Nat) : Int) := ti_le c60 rfl (nI_toInt (by omega))
        refine lv_iload hx hb dX12_telling_64 (lv_at hl 1 rfl) ?_
        exact W.iret (v := z2) hx hb hr (fun t ht hW => ⟨⟨z2, (), rfl, (by exact ⟨(by have q8 := ti_all z2; omega), (by omega), (by have z9 := hj4; rw [show i1 = (SU wU 103).toNat from by omega] at z9; exact z9), (by omega)⟩), by (try dsimp only); rw [ht]; exact ⟨hT, hF⟩⟩, hS.F ht⟩) hS.2.2 dX12_telling_66
      · have t62 : ((1504 + 2 * i1 : Nat) : Int) < x58.toInt := ti_nle c60 rfl (nI_toInt (by omega))
        refine lv_aload_n hx hb dX12_telling_21 rfl (lv_at hl 2 rfl) ?_
        refine tw_get hx hb hts bF_X12 hown hK hT hr_o0 shm_0 rfl 1 (by decide) (ht_at hts 0 rfl) (fun _ h9 => h9) dX12_telling_22 (fun v9 m63 h9 => ?_)
        obtain ⟨rfl, hg64⟩ := h9 _ rfl
        refine lv_iload hx hb dX12_telling_25 (lv_at hl 0 rfl) ?_
        refine tw_iald (i := (nI (1504 + 2 * i1))) hx hb hK hT hg52 shm_2 rfl (vp_in_nI (by omega) (by decide)) dX12_telling_27 (fun v9 m65 h9 => ?_)
        obtain ⟨x66, rfl, gx66, kx66⟩ := (gp_at h9 (w_fre (by have q9 := tn_of (show (nI (1504 + 2 * i1)).toInt = ((1504 + 2 * i1 : Nat) : Int) from (nI_toInt (by omega))) (show (0 : Int) ≤ ((1504 + 2 * i1 : Nat) : Int) from by omega); omega)))
        have t67 : x66.toInt = SU wU (104 + 2 * i1) := (by have qn := tn_of (show (nI (1504 + 2 * i1)).toInt = ((1504 + 2 * i1 : Nat) : Int) from (nI_toInt (by omega))) (by omega); have q := (wq_l hT hg52 (by omega) m65).2.2.1.2 ⟨by omega, by omega⟩; rw [show (nI (1504 + 2 * i1)).toNatClampNeg - 1400 = 104 + 2 * i1 from by omega] at q; exact q)
        refine lv_iload_n hx hb dX12_telling_28 rfl (lv_at hl 5 rfl) ?_
        refine lv_icmp_gt (tgt := 58) hx hb dX12_telling_29 (by decide) (fun c68 => ?_) (fun c68 => ?_)
        · have t69 : ho.toInt < x66.toInt := ti_lt c68 rfl rfl
          refine lv_iinc (v := nI (1504 + 2 * i1 + 2)) (lv' := [(5, .int (nI (1504 + 2 * i1 + 2))), (4, .int z2), (0, .ref o0), (1, .int 1503), (2, .int 1504), (3, .int ho)]) hx hb dX12_telling_58 hl (k := 0) rfl (nI_add (1504 + 2 * i1) 2) (by decide) rfl (fun ls hl => ?_)
          refine lv_goto (tgt := 6) hx hb dX12_telling_61 (by decide) ?_
          have hl : lv_has ls 6 [(5, .int (nI (1504 + 2 * (i1 + 1)))), (4, .int z2), (0, .ref o0), (1, .int 1503), (2, .int 1504), (3, .int ho)] := by rw [show nI (1504 + 2 * (i1 + 1)) = nI (1504 + 2 * i1 + 2) from congrArg nI (by omega)]; exact hl
          exact ih38 (i1 + 1) (by omega) z2 ⟨(by have q9 := (show z2.toInt = z2.toInt from rfl); (try have q8 := ti_all z2); omega), (by have := (show z2.toInt = z2.toInt from rfl); first | exact te_n hj4 (by show SU wU (104 + 2 * i1) ≤ ho.toInt; omega) (Or.inl (by omega)) (by decide) (by omega) | exact te_o hj4 (by decide) (Or.inl (by show ho.toInt < SU wU (104 + 2 * i1); omega))), (by omega)⟩ _ _ hT hF hS ls (lv_sub hl [0, 1, 2, 3, 4, 5] rfl)
        · have t70 : x66.toInt ≤ ho.toInt := ti_nlt c68 rfl rfl
          refine lv_iload hx hb dX12_telling_32 (lv_at hl 1 rfl) ?_
          refine lv_if_lt (tgt := 54) hx hb dX12_telling_34 (by decide) (fun c71 => ?_) (fun c71 => ?_)
          · have t72 : z2.toInt < 0 := ti_lt c71 rfl (by decide)
            refine lv_iload hx hb dX12_telling_54 (lv_at hl 0 rfl) ?_
            refine lv_istore (lv' := [(4, .int (nI (1504 + 2 * i1))), (5, .int (nI (1504 + 2 * i1))), (0, .ref o0), (1, .int 1503), (2, .int 1504), (3, .int ho)]) hx hb dX12_telling_56 hl (by decide) rfl (fun ls hl => ?_)
            refine lv_iinc (v := nI (1504 + 2 * i1 + 2)) (lv' := [(5, .int (nI (1504 + 2 * i1 + 2))), (4, .int (nI (1504 + 2 * i1))), (0, .ref o0), (1, .int 1503), (2, .int 1504), (3, .int ho)]) hx hb dX12_telling_58 hl (k := 1) rfl (nI_add (1504 + 2 * i1) 2) (by decide) rfl (fun ls hl => ?_)
            refine lv_goto (tgt := 6) hx hb dX12_telling_61 (by decide) ?_
            have hl : lv_has ls 6 [(5, .int (nI (1504 + 2 * (i1 + 1)))), (4, .int (nI (1504 + 2 * i1))), (0, .ref o0), (1, .int 1503), (2, .int 1504), (3, .int ho)] := by rw [show nI (1504 + 2 * (i1 + 1)) = nI (1504 + 2 * i1 + 2) from congrArg nI (by omega)]; exact hl
            exact ih38 (i1 + 1) (by omega) (nI (1504 + 2 * i1)) ⟨(by have q9 := (show (nI (1504 + 2 * i1)).toInt = ((1504 + 2 * i1 : Nat) : Int) from (nI_toInt (by omega))); (try have q8 := ti_all (nI (1504 + 2 * i1))); omega), (by have := (show (nI (1504 + 2 * i1)).toInt = ((1504 + 2 * i1 : Nat) : Int) from (nI_toInt (by omega))); first | exact te_n hj4 (by show SU wU (104 + 2 * i1) ≤ ho.toInt; omega) (Or.inl (by omega)) (by decide) (by omega) | exact te_o hj4 (by decide) (Or.inl (by show ho.toInt < SU wU (104 + 2 * i1); omega))), (by omega)⟩ _ _ hT hF hS ls (lv_sub hl [0, 1, 2, 3, 4, 5] rfl)
          · have t73 : 0 ≤ z2.toInt := ti_nlt c71 rfl (by decide)
            obtain ⟨j74, hj74, ej74⟩ := teI.at hj4 (by decide) (by have := (show z2.toInt = z2.toInt from rfl); omega)
            refine lv_aload_n hx hb dX12_telling_37 rfl (lv_at hl 2 rfl) ?_
            refine tw_get hx hb hts bF_X12 hown hK hT hr_o0 shm_0 rfl 1 (by decide) (ht_at hts 0 rfl) (fun _ h9 => h9) dX12_telling_38 (fun v9 m75 h9 => ?_)
            obtain ⟨rfl, hg76⟩ := h9 _ rfl
            refine lv_iload hx hb dX12_telling_41 (lv_at hl 0 rfl) ?_
            refine tw_iald (i := (nI (1504 + 2 * i1))) hx hb hK hT hg52 shm_2 rfl (vp_in_nI (by omega) (by decide)) dX12_telling_43 (fun v9 m77 h9 => ?_)
            obtain ⟨x78, rfl, gx78, kx78⟩ := (gp_at h9 (w_fre (by have q9 := tn_of (show (nI (1504 + 2 * i1)).toInt = ((1504 + 2 * i1 : Nat) : Int) from (nI_toInt (by omega))) (show (0 : Int) ≤ ((1504 + 2 * i1 : Nat) : Int) from by omega); omega)))
            obtain rfl : x66 = x78 := (el_same m77 m65 rfl).symm
            have t79 : x66.toInt = SU wU (104 + 2 * i1) := (by have qn := tn_of (show (nI (1504 + 2 * i1)).toInt = ((1504 + 2 * i1 : Nat) : Int) from (nI_toInt (by omega))) (by omega); have q := (wq_l hT hg52 (by omega) m65).2.2.1.2 ⟨by omega, by omega⟩; rw [show (nI (1504 + 2 * i1)).toNatClampNeg - 1400 = 104 + 2 * i1 from by omega] at q; exact q)
            refine lv_aload_n hx hb dX12_telling_44 rfl (lv_at hl 2 rfl) ?_
            refine tw_get hx hb hts bF_X12 hown hK hT hr_o0 shm_0 rfl 1 (by decide) (ht_at hts 0 rfl) (fun _ h9 => h9) dX12_telling_45 (fun v9 m80 h9 => ?_)
            obtain ⟨rfl, hg81⟩ := h9 _ rfl
            refine lv_iload hx hb dX12_telling_48 (lv_at hl 1 rfl) ?_
            refine tw_iald (i := z2) hx hb hK hT hg52 shm_2 rfl (vin_t (a := z2.toInt) rfl (by omega) (by omega)) dX12_telling_50 (fun v9 m82 h9 => ?_)
            obtain ⟨x83, rfl, gx83, kx83⟩ := (gp_any h9)
            have t84 : x83.toInt = SU wU (104 + 2 * j74) := (by have qn := tn_of (show z2.toInt = z2.toInt from rfl) (by omega); have q := (wq_l hT hg52 (by omega) m82).2.2.1.2 ⟨by omega, by omega⟩; rw [show z2.toNatClampNeg - 1400 = 104 + 2 * j74 from by omega] at q; exact q)
            refine lv_icmp_lt (tgt := 58) hx hb dX12_telling_51 (by decide) (fun c85 => ?_) (fun c85 => ?_)
            · have t86 : x66.toInt < x83.toInt := ti_lt c85 rfl rfl
              refine lv_iinc (v := nI (1504 + 2 * i1 + 2)) (lv' := [(5, .int (nI (1504 + 2 * i1 + 2))), (4, .int z2), (0, .ref o0), (1, .int 1503), (2, .int 1504), (3, .int ho)]) hx hb dX12_telling_58 hl (k := 0) rfl (nI_add (1504 + 2 * i1) 2) (by decide) rfl (fun ls hl => ?_)
              refine lv_goto (tgt := 6) hx hb dX12_telling_61 (by decide) ?_
              have hl : lv_has ls 6 [(5, .int (nI (1504 + 2 * (i1 + 1)))), (4, .int z2), (0, .ref o0), (1, .int 1503), (2, .int 1504), (3, .int ho)] := by rw [show nI (1504 + 2 * (i1 + 1)) = nI (1504 + 2 * i1 + 2) from congrArg nI (by omega)]; exact hl
              exact ih38 (i1 + 1) (by omega) z2 ⟨(by have q9 := (show z2.toInt = z2.toInt from rfl); (try have q8 := ti_all z2); omega), (by have := (show z2.toInt = z2.toInt from rfl); first | exact te_n hj4 (by show SU wU (104 + 2 * i1) ≤ ho.toInt; omega) (Or.inr ⟨j74, by omega, by show SU wU (104 + 2 * j74) ≤ SU wU (104 + 2 * i1); omega⟩) (by decide) (by omega) | exact te_o hj4 (by decide) (Or.inr ⟨j74, by omega, by show SU wU (104 + 2 * i1) < SU wU (104 + 2 * j74); omega⟩) | exact te_n hj4 (by show SU wU (104 + 2 * i1) ≤ ho.toInt; omega) (Or.inl (by omega)) (by decide) (by omega) | exact te_o hj4 (by decide) (Or.inl (by show ho.toInt < SU wU (104 + 2 * i1); omega))), (by omega)⟩ _ _ hT hF hS ls (lv_sub hl [0, 1, 2, 3, 4, 5] rfl)
            · have t87 : x83.toInt ≤ x66.toInt := ti_nlt c85 rfl rfl
              refine lv_iload hx hb dX12_telling_54 (lv_at hl 0 rfl) ?_
              refine lv_istore (lv' := [(4, .int (nI (1504 + 2 * i1))), (5, .int (nI (1504 + 2 * i1))), (0, .ref o0), (1, .int 1503), (2, .int 1504), (3, .int ho)]) hx hb dX12_telling_56 hl (by decide) rfl (fun ls hl => ?_)
              refine lv_iinc (v := nI (1504 + 2 * i1 + 2)) (lv' := [(5, .int (nI (1504 + 2 * i1 + 2))), (4, .int (nI (1504 + 2 * i1))), (0, .ref o0), (1, .int 1503), (2, .int 1504), (3, .int ho)]) hx hb dX12_telling_58 hl (k := 1) rfl (nI_add (1504 + 2 * i1) 2) (by decide) rfl (fun ls hl => ?_)
              refine lv_goto (tgt := 6) hx hb dX12_telling_61 (by decide) ?_
              have hl : lv_has ls 6 [(5, .int (nI (1504 + 2 * (i1 + 1)))), (4, .int (nI (1504 + 2 * i1))), (0, .ref o0), (1, .int 1503), (2, .int 1504), (3, .int ho)] := by rw [show nI (1504 + 2 * (i1 + 1)) = nI (1504 + 2 * i1 + 2) from congrArg nI (by omega)]; exact hl
              exact ih38 (i1 + 1) (by omega) (nI (1504 + 2 * i1)) ⟨(by have q9 := (show (nI (1504 + 2 * i1)).toInt = ((1504 + 2 * i1 : Nat) : Int) from (nI_toInt (by omega))); (try have q8 := ti_all (nI (1504 + 2 * i1))); omega), (by have := (show (nI (1504 + 2 * i1)).toInt = ((1504 + 2 * i1 : Nat) : Int) from (nI_toInt (by omega))); first | exact te_n hj4 (by show SU wU (104 + 2 * i1) ≤ ho.toInt; omega) (Or.inr ⟨j74, by omega, by show SU wU (104 + 2 * j74) ≤ SU wU (104 + 2 * i1); omega⟩) (by decide) (by omega) | exact te_o hj4 (by decide) (Or.inr ⟨j74, by omega, by show SU wU (104 + 2 * i1) < SU wU (104 + 2 * j74); omega⟩) | exact te_n hj4 (by show SU wU (104 + 2 * i1) ≤ ho.toInt; omega) (Or.inl (by omega)) (by decide) (by omega) | exact te_o hj4 (by decide) (Or.inl (by show ho.toInt < SU wU (104 + 2 * i1); omega))), (by omega)⟩ _ _ hT hF hS ls (lv_sub hl [0, 1, 2, 3, 4, 5] rfl)
  have hl2 : lv_has ls 6 [(5, .int (nI (1504 + 2 * 0))), (4, .int (-1)), (0, .ref o0), (1, .int 1503), (2, .int 1504), (3, .int ho)] := hl
  exact key38 (60 - 0) 0 (by omega) (-1) ⟨(by have q9 := (show (-1 : Int32).toInt = (-1) from (by decide)); (try have q8 := ti_all (-1 : Int32)); omega), (te_00 (by decide)), (by omega)⟩ _ _ hT hF hS ls (lv_sub hl2 [0, 1, 2, 3, 4, 5] rfl)
def w_s_rainY : List Cond := .code yX12_rain cX12_rain 3 (some .int) :: (HAppend.hAppend (α := List Cond) (β := List Cond) (γ := List Cond) [.code yX12_telling cX12_telling 6 (some .int), .fieldLink RX12 9 "SeaLandModel" "world" "[I", .methodLink RX12 243 yX12_telling, .instanceMethod yX12_telling, .selects RX12 yX12_telling yX12_telling, .initialized RX12] bs)
set_option maxHeartbeats 4000000 in
set_option maxRecDepth 100000 in
theorem s_rainY (l : Launch) (dC : Nat → ClassId) (dI : Nat → Nat → Nat) (kA : Nat → ClassId) (adK adV : Nat → Nat) (G : gT) (H0 : Heap) (q : Nat → Nat) (wZ wN : Nat → Int) (wH wB wC : Int) (wL wK : Nat → Prop) (wU wV : Nat → Nat) (PI : Nat → Int → Prop) (im : Int) (PM PT : Nat → Int → Prop) (lS lB lE : Nat → Nat → Int → Prop) (lN : Nat → Int) (o0 : Nat) (ho : Int32)  (hT : gH (dC, dI) kA (SHm q (wP wZ wN wH wB wC wL wK wU wV) PI im PM PT lS lB lE lN) G H0) (hr_o0 : G o0 = some 0) (hgz : ∀ i, 0 ≤ wZ i) (hgn : ∀ i, 6500000 ≤ wN i ∧ wN i ≤ 20200000) (hgh : 0 ≤ wH ∧ wH ≤ 40000) (hgb : 0 ≤ wB ∧ wB ≤ 3850000) (hgc : 0 ≤ wC ∧ wC ≤ 30) (hgi : 0 ≤ im ∧ im ≤ 1) (hgu : ∀ a t, G a = some (t + 1) → a = q t) : Met l yX12_rain w_s_rainY ({ frames := 1, cells := 0, slots := 0, locals := 25 }) (va_Pc [.ref o0, .int ho] (fun U => U.heap = H0 ∧ va_K (dC, dI) vwCl (tyl kA) U ∧ EVS adK adV (gA G H0.size) U U.heap)) (va_Qi (fun (r : Int32) (u : Unit) => (0 ≤ r.toInt ∧ r.toInt ≤ 20) ∧ (RA (fun i => SU wU (225 + 2 * i)) (fun i => SU wU (226 + 2 * i)) (SU wU 224).toNat ho.toInt r.toInt) ∧ (0 ≤ SU wU 224 ∧ SU wU 224 ≤ 60)) (fun (_ : Unit) (t : State) => gH (dC, dI) kA (SHm q (wP wZ wN wH wB wC wL wK wU wV) PI im PM PT lS lB lE lN) G t.heap ∧ gF (dC, dI) SKm G ([] : List (Nat × Nat)) H0 t.heap) (gA G H0.size)) 0 0 (gA G H0.size) := by
  refine Met.ofW (cc := cX12_rain) (maxL := 3) (ret := (some .int)) (by decide) rfl ?_
  intro p e s m args below meth c s₁ B hml hv
  obtain ⟨rfl, hH0, hK, hE⟩ := hv
  have hx := B.exec
  have hb := B.bytes
  have hr := B.returns
  have hts := atoms_spec (ws := w_s_rainY) B.pre
  have hown : s.vm.findClass RX12 = some m.cls := findClass_of_methodNamed B.named
  have hlocks := B.notSynchronized
  subst hH0
  generalize hAe : gA G s.heap.size = A at hE ⊢
  have hA : ∀ q : Nat, s.heap.size ≤ q → A q := fun q h => by rw [← hAe]; exact Or.inr h
  have hG := gA_of hAe
  have hS : va_S A s.heap s.heap [] := va_S.rf
  have hF : gF (dC, dI) SKm G ([] : List (Nat × Nat)) s.heap s.heap := gF.rf
  have hl := lv_entry ([.ref o0, .int ho]) (n := 3) (Nat.le_of_ble_eq_true rfl)
  rw [lg_entry_eq]
  generalize (lg_sl ([.ref o0, .int ho]) ++ List.replicate (3 - (lg_sl ([.ref o0, .int ho])).length) Slot.unset).toArray = ls at hl ⊢
  have hl : lv_has ls 3 [(0, .ref o0), (1, .int ho)] := hl
  refine lv_aload_n hx hb dX12_rain_0 rfl (lv_at hl 0 rfl) ?_
  refine lv_sipush (v := 1624) hx hb dX12_rain_1 (by decide) ?_
  refine lv_sipush (v := 1625) hx hb dX12_rain_4 (by decide) ?_
  refine lv_iload_n hx hb dX12_rain_7 rfl (lv_at hl 1 rfl) ?_
  have hFc := gA_free hG hA hS
  refine va_calli (va_runV (As := [.int 1624, .int 1625, .int ho]) (rest := []) ⟨hx, hb, hml, hown, hts⟩ (s_telling1Y l dC dI kA adK adV G s.heap q wZ wN wH wB wC wL wK wU wV PI im PM PT lS lB lE lN o0 ho hT hr_o0 hgz hgn hgh hgb hgc hgi hgu) (cwV 3 hts (goodIn_app (goodIn_r _ [3, 4, 5, 6] rfl (by decide +kernel)) (goodIn_ca (goodIn_r _ [1, 2] rfl (by decide +kernel)) (bs_in _ _))) rfl rfl rfl (by decide +kernel) ⟨(Nat.le_of_ble_eq_true rfl), (Nat.le_of_ble_eq_true rfl)⟩) ⟨fun a U g mk q => by obtain ⟨q0, q1, qK, qE⟩ := q; exact ⟨q0, q1, va_K.moved (u := U) (U := U.calling g mk a) (Vm.Alike.refl U.vm) qK, EVS.blind g mk a qE⟩, gH_rc hK hT hr_o0 shm_0 rfl, fun U hU hW => ⟨rfl, hU, va_K.moved hW.alike hK, hE.call hS hFc hU hW⟩⟩ rfl rfl hl.1 rfl (lv_room (Nat.le_of_ble_eq_true rfl)) dX12_rain_8 ⟨(Nat.le_of_ble_eq_true rfl), (Nat.le_of_ble_eq_true rfl)⟩) hS (fun q _ h => hFc q h) hFc (fun r1 u t H locs ht hvm hw2 hB _ _ hS => ?_)
  obtain ⟨hT, hF1⟩ := hB
  rw [ht] at hT hF1
  have hF := hF.more hF1 (by decide)
  try dsimp only at hw2
  obtain ⟨h3, hf4, hf5, hf6⟩ := hw2
  refine lv_istore_n (lv' := [(2, .int r1), (0, .ref o0), (1, .int ho)]) hx hb dX12_rain_11 rfl hl (by decide) rfl (fun ls hl => ?_)
  refine lv_iload_n hx hb dX12_rain_12 rfl (lv_at hl 0 rfl) ?_
  refine lv_if_ge (tgt := 20) hx hb dX12_rain_13 (by decide) (fun c7 => ?_) (fun c7 => ?_)
  · have t8 : 0 ≤ r1.toInt := ti_le c7 (by decide) rfl
    obtain ⟨j9, hj9, ej9⟩ := teI.at hf5 (by decide) (by omega)
    refine lv_aload_n hx hb dX12_rain_20 rfl (lv_at hl 1 rfl) ?_
    refine tw_get hx hb hts bF_X12 hown hK hT hr_o0 shm_0 rfl 1 (by decide) (ht_at hts 1 rfl) (fun _ h9 => h9) dX12_rain_21 (fun v9 m10 h9 => ?_)
    obtain ⟨rfl, hg11⟩ := h9 _ rfl
    refine lv_iload_n hx hb dX12_rain_24 rfl (lv_at hl 0 rfl) ?_
    refine lv_iconst (v := 1) hx hb dX12_rain_25 (by decide) ?_
    refine lv_iadd hx hb dX12_rain_26 ?_
    refine lv_topi (fun x12 ex12 => ?_)
    have t13 : x12.toInt = r1.toInt + 1 := ti_add ex12 rfl (by decide) (by omega) (by omega)
    refine tw_iald (i := x12) hx hb hK hT hg11 shm_2 rfl (vin_t (a := x12.toInt) rfl (by omega) (by omega)) dX12_rain_27 (fun v9 m14 h9 => ?_)
    obtain ⟨x15, rfl, gx15, kx15⟩ := (gp_at h9 (w_rai (by have q9 := tn_of (show x12.toInt = x12.toInt from rfl) (show (0 : Int) ≤ x12.toInt from by omega); omega)))
    have t16 : x15.toInt = SU wU (226 + 2 * j9) := (by have qn := tn_of (show x12.toInt = x12.toInt from rfl) (by omega); have q := (wq_l hT hg11 (by omega) m14).2.2.1.2 ⟨by omega, by omega⟩; rw [show x12.toNatClampNeg - 1400 = 226 + 2 * j9 from by omega] at q; exact q)
    exact W.iret (v := x15) hx hb hr (fun t ht hW => ⟨⟨x15, (), rfl, (by exact ⟨(by have q8 := ti_all x15; omega), (hf5.ra (by decide) (Or.inr ⟨j9, by omega, by show _ = SU wU (226 + 2 * j9); omega⟩)), (by omega)⟩), by (try dsimp only); rw [ht]; exact ⟨hT, hF⟩⟩, hS.F ht⟩) hS.2.2 dX12_rain_28
  · have t17 : r1.toInt < 0 := ti_nle c7 (by decide) rfl
    refine lv_iconst (v := 0) hx hb dX12_rain_16 (by decide) ?_
    refine lv_goto (tgt := 28) hx hb dX12_rain_17 (by decide) ?_
    exact W.iret (v := 0) hx hb hr (fun t ht hW => ⟨⟨0, (), rfl, (by exact ⟨(rg_t (a := 0) (by decide) (by first | decide | omega) (by first | decide | omega)), (hf5.ra (by decide) (Or.inl ⟨by omega, by decide⟩)), (by omega)⟩), by (try dsimp only); rw [ht]; exact ⟨hT, hF⟩⟩, hS.F ht⟩) hS.2.2 dX12_rain_28
def w_s_windY : List Cond := .code yX12_wind cX12_wind 7 (some .int) :: (HAppend.hAppend (α := List Cond) (β := List Cond) (γ := List Cond) [.code yX12_telling cX12_telling 6 (some .int), .fieldLink RX12 9 "SeaLandModel" "world" "[I", .methodLink RX12 243 yX12_telling, .instanceMethod yX12_telling, .selects RX12 yX12_telling yX12_telling, .initialized RX12, .methodLink RX12 211 Lib.Math.max.name, .static Lib.Math.max.name, .initialized "java/lang/Math", .code Lib.Math.max.name Lib.Math.max.code 2 (some .int)] bs)
set_option maxHeartbeats 4000000 in
set_option maxRecDepth 100000 in
theorem s_windY (l : Launch) (dC : Nat → ClassId) (dI : Nat → Nat → Nat) (kA : Nat → ClassId) (adK adV : Nat → Nat) (G : gT) (H0 : Heap) (q : Nat → Nat) (wZ wN : Nat → Int) (wH wB wC : Int) (wL wK : Nat → Prop) (wU wV : Nat → Nat) (PI : Nat → Int → Prop) (im : Int) (PM PT : Nat → Int → Prop) (lS lB lE : Nat → Nat → Int → Prop) (lN : Nat → Int) (o0 : Nat) (ho : Int32)  (hT : gH (dC, dI) kA (SHm q (wP wZ wN wH wB wC wL wK wU wV) PI im PM PT lS lB lE lN) G H0) (hr_o0 : G o0 = some 0) (hgz : ∀ i, 0 ≤ wZ i) (hgn : ∀ i, 6500000 ≤ wN i ∧ wN i ≤ 20200000) (hgh : 0 ≤ wH ∧ wH ≤ 40000) (hgb : 0 ≤ wB ∧ wB ≤ 3850000) (hgc : 0 ≤ wC ∧ wC ≤ 30) (hgi : 0 ≤ im ∧ im ≤ 1) (hgu : ∀ a t, G a = some (t + 1) → a = q t) : Met l yX12_wind w_s_windY ({ frames := 1, cells := 0, slots := 0, locals := 40 }) (va_Pc [.ref o0, .int ho] (fun U => U.heap = H0 ∧ va_K (dC, dI) vwCl (tyl kA) U ∧ EVS adK adV (gA G H0.size) U U.heap)) (va_Qi (fun (r : Int32) (u : Unit) => (WA (fun i => SU wU (104 + 2 * i)) (fun i => SU wU (105 + 2 * i)) (SU wU 103).toNat ho.toInt r.toInt) ∧ (0 ≤ SU wU 103 ∧ SU wU 103 ≤ 60)) (fun (_ : Unit) (t : State) => gH (dC, dI) kA (SHm q (wP wZ wN wH wB wC wL wK wU wV) PI im PM PT lS lB lE lN) G t.heap ∧ gF (dC, dI) SKm G ([] : List (Nat × Nat)) H0 t.heap) (gA G H0.size)) 0 0 (gA G H0.size) := by
  refine Met.ofW (cc := cX12_wind) (maxL := 7) (ret := (some .int)) (by decide) rfl ?_
  intro p e s m args below meth c s₁ B hml hv
  obtain ⟨rfl, hH0, hK, hE⟩ := hv
  have hx := B.exec
  have hb := B.bytes
  have hr := B.returns
  have hts := atoms_spec (ws := w_s_windY) B.pre
  have hown : s.vm.findClass RX12 = some m.cls := findClass_of_methodNamed B.named
  have hlocks := B.notSynchronized
  subst hH0
  generalize hAe : gA G s.heap.size = A at hE ⊢
  have hA : ∀ q : Nat, s.heap.size ≤ q → A q := fun q h => by rw [← hAe]; exact Or.inr h
  have hG := gA_of hAe
  have hS : va_S A s.heap s.heap [] := va_S.rf
  have hF : gF (dC, dI) SKm G ([] : List (Nat × Nat)) s.heap s.heap := gF.rf
  have hl := lv_entry ([.ref o0, .int ho]) (n := 7) (Nat.le_of_ble_eq_true rfl)
  rw [lg_entry_eq]
  generalize (lg_sl ([.ref o0, .int ho]) ++ List.replicate (7 - (lg_sl ([.ref o0, .int ho])).length) Slot.unset).toArray = ls at hl ⊢
  have hl : lv_has ls 7 [(0, .ref o0), (1, .int ho)] := hl
  refine lv_aload_n hx hb dX12_wind_0 rfl (lv_at hl 0 rfl) ?_
  refine lv_sipush (v := 1503) hx hb dX12_wind_1 (by decide) ?_
  refine lv_sipush (v := 1504) hx hb dX12_wind_4 (by decide) ?_
  refine lv_iload_n hx hb dX12_wind_7 rfl (lv_at hl 1 rfl) ?_
  have hFc := gA_free hG hA hS
  refine va_calli (va_runV (As := [.int 1503, .int 1504, .int ho]) (rest := []) ⟨hx, hb, hml, hown, hts⟩ (s_telling2Y l dC dI kA adK adV G s.heap q wZ wN wH wB wC wL wK wU wV PI im PM PT lS lB lE lN o0 ho hT hr_o0 hgz hgn hgh hgb hgc hgi hgu) (cwV 3 hts (goodIn_app (goodIn_r _ [3, 4, 5, 6] rfl (by decide +kernel)) (goodIn_ca (goodIn_r _ [1, 2] rfl (by decide +kernel)) (bs_in _ _))) rfl rfl rfl (by decide +kernel) ⟨(Nat.le_of_ble_eq_true rfl), (Nat.le_of_ble_eq_true rfl)⟩) ⟨fun a U g mk q => by obtain ⟨q0, q1, qK, qE⟩ := q; exact ⟨q0, q1, va_K.moved (u := U) (U := U.calling g mk a) (Vm.Alike.refl U.vm) qK, EVS.blind g mk a qE⟩, gH_rc hK hT hr_o0 shm_0 rfl, fun U hU hW => ⟨rfl, hU, va_K.moved hW.alike hK, hE.call hS hFc hU hW⟩⟩ rfl rfl hl.1 rfl (lv_room (Nat.le_of_ble_eq_true rfl)) dX12_wind_8 ⟨(Nat.le_of_ble_eq_true rfl), (Nat.le_of_ble_eq_true rfl)⟩) hS (fun q _ h => hFc q h) hFc (fun r1 u t H locs ht hvm hw2 hB _ _ hS => ?_)
  obtain ⟨hT, hF1⟩ := hB
  rw [ht] at hT hF1
  have hF := hF.more hF1 (by decide)
  try dsimp only at hw2
  obtain ⟨h3, hf4, hf5, hf6⟩ := hw2
  refine lv_istore_n (lv' := [(2, .int r1), (0, .ref o0), (1, .int ho)]) hx hb dX12_wind_11 rfl hl (by decide) rfl (fun ls hl => ?_)
  refine lv_iload_n hx hb dX12_wind_12 rfl (lv_at hl 0 rfl) ?_
  refine lv_if_ge (tgt := 18) hx hb dX12_wind_13 (by decide) (fun c7 => ?_) (fun c7 => ?_)
  · have t8 : 0 ≤ r1.toInt := ti_le c7 (by decide) rfl
    obtain ⟨j9, hj9, ej9⟩ := teI.at hf5 (by decide) (by omega)
    refine lv_aload_n hx hb dX12_wind_18 rfl (lv_at hl 1 rfl) ?_
    refine tw_get hx hb hts bF_X12 hown hK hT hr_o0 shm_0 rfl 1 (by decide) (ht_at hts 1 rfl) (fun _ h9 => h9) dX12_wind_19 (fun v9 m10 h9 => ?_)
    obtain ⟨rfl, hg11⟩ := h9 _ rfl
    refine lv_iload_n hx hb dX12_wind_22 rfl (lv_at hl 0 rfl) ?_
    refine lv_iconst (v := 1) hx hb dX12_wind_23 (by decide) ?_
    refine lv_iadd hx hb dX12_wind_24 ?_
    refine lv_topi (fun x12 ex12 => ?_)
    have t13 : x12.toInt = r1.toInt + 1 := ti_add ex12 rfl (by decide) (by omega) (by omega)
    refine tw_iald (i := x12) hx hb hK hT hg11 shm_2 rfl (vin_t (a := x12.toInt) rfl (by omega) (by omega)) dX12_wind_25 (fun v9 m14 h9 => ?_)
    obtain ⟨x15, rfl, gx15, kx15⟩ := (gp_at h9 (w_wid (by have q9 := tn_of (show x12.toInt = x12.toInt from rfl) (show (0 : Int) ≤ x12.toInt from by omega); omega)))
    have t16 : x15.toInt = SU wU (105 + 2 * j9) := (by have qn := tn_of (show x12.toInt = x12.toInt from rfl) (by omega); have q := (wq_l hT hg11 (by omega) m14).2.2.1.2 ⟨by omega, by omega⟩; rw [show x12.toNatClampNeg - 1400 = 105 + 2 * j9 from by omega] at q; exact q)
    refine lv_if_lt (tgt := 38) hx hb dX12_wind_26 (by decide) (fun c17 => ?_) (fun c17 => ?_)
    · have t18 : x15.toInt < 0 := ti_lt c17 rfl (by decide)
      refine lv_aload_n hx hb dX12_wind_38 rfl (lv_at hl 1 rfl) ?_
      refine tw_get hx hb hts bF_X12 hown hK hT hr_o0 shm_0 rfl 1 (by decide) (ht_at hts 1 rfl) (fun _ h9 => h9) dX12_wind_39 (fun v9 m19 h9 => ?_)
      obtain ⟨rfl, hg20⟩ := h9 _ rfl
      refine lv_iload_n hx hb dX12_wind_42 rfl (lv_at hl 0 rfl) ?_
      refine tw_iald (i := r1) hx hb hK hT hg11 shm_2 rfl (vin_t (a := r1.toInt) rfl (by omega) (by omega)) dX12_wind_43 (fun v9 m21 h9 => ?_)
      obtain ⟨x22, rfl, gx22, kx22⟩ := (gp_any h9)
      have t23 : x22.toInt = SU wU (104 + 2 * j9) := (by have qn := tn_of (show r1.toInt = r1.toInt from rfl) (by omega); have q := (wq_l hT hg11 (by omega) m21).2.2.1.2 ⟨by omega, by omega⟩; rw [show r1.toNatClampNeg - 1400 = 104 + 2 * j9 from by omega] at q; exact q)
      refine lv_istore_n (lv' := [(3, .int x22), (2, .int r1), (0, .ref o0), (1, .int ho)]) hx hb dX12_wind_44 rfl hl (by decide) rfl (fun ls hl => ?_)
      refine lv_iconst (v := (-1)) hx hb dX12_wind_45 (by decide) ?_
      refine lv_istore (lv' := [(4, .int (-1)), (3, .int x22), (2, .int r1), (0, .ref o0), (1, .int ho)]) hx hb dX12_wind_46 hl (by decide) rfl (fun ls hl => ?_)
      refine lv_iconst (v := (-1)) hx hb dX12_wind_48 (by decide) ?_
      refine lv_istore (lv' := [(5, .int (-1)), (4, .int (-1)), (3, .int x22), (2, .int r1), (0, .ref o0), (1, .int ho)]) hx hb dX12_wind_49 hl (by decide) rfl (fun ls hl => ?_)
      refine lv_sipush (v := 1504) hx hb dX12_wind_51 (by decide) ?_
      refine lv_istore (lv' := [(6, .int 1504), (5, .int (-1)), (4, .int (-1)), (3, .int x22), (2, .int r1), (0, .ref o0), (1, .int ho)]) hx hb dX12_wind_54 hl (by decide) rfl (fun ls hl => ?_)
      have key210 : ∀ (n210 i24 : Nat), i24 + n210 = 60 → ∀ (z25 : Int32), ∀ (z27 : Int32), (((z25.toInt = -1 ∨ (1504 ≤ z25.toInt ∧ z25.toInt ≤ 1622 ∧ (z25.toInt - 1504) % 2 = 0))) ∧ ((z27.toInt = -1 ∨ (1504 ≤ z27.toInt ∧ z27.toInt ≤ 1622 ∧ (z27.toInt - 1504) % 2 = 0))) ∧ (bfI (fun i => SU wU (104 + 2 * i)) (fun i => SU wU (105 + 2 * i)) (((SU wU 103).toNat : Nat) : Int) i24 1504 x22.toInt z27.toInt) ∧ (afI (fun i => SU wU (104 + 2 * i)) (fun i => SU wU (105 + 2 * i)) (((SU wU 103).toNat : Nat) : Int) i24 1504 x22.toInt z25.toInt) ∧ (((i24 : Nat) : Int) ≤ 0 ∨ ((i24 : Nat) : Int) ≤ SU wU 103)) → ∀ (H : Heap) (locs : List Loc), gH (dC, dI) kA (SHm q (wP wZ wN wH wB wC wL wK wU wV) PI im PM PT lS lB lE lN) G H → gF (dC, dI) SKm G ([] : List (Nat × Nat)) s.heap H → va_S A s.heap H locs → el H (q 1) x12.toNatClampNeg = some (.int x15) → el H (q 1) r1.toNatClampNeg = some (.int x22) → ∀ ls : Array Slot, lv_has ls 7 [(6, .int (nI (1504 + 2 * i24))), (5, .int z25), (4, .int z27), (3, .int x22), (2, .int r1), (0, .ref o0), (1, .int ho)] → W p l e (headSpec w_s_windY ({ frames := 1, cells := 0, slots := 0, locals := 40 })).room s m #[.ref o0, .int ho] below meth c H locs 0 0 (MQ below (va_Qi (fun (r : Int32) (u : Unit) => (WA (fun i => SU wU (104 + 2 * i)) (fun i => SU wU (105 + 2 * i)) (SU wU 103).toNat ho.toInt r.toInt) ∧ (0 ≤ SU wU 103 ∧ SU wU 103 ≤ 60)) (fun (_ : Unit) (t : State) => gH (dC, dI) kA (SHm q (wP wZ wN wH wB wC wL wK wU wV) PI im PM PT lS lB lE lN) G t.heap ∧ gF (dC, dI) SKm G ([] : List (Nat × Nat)) s.heap t.heap) A) #[.ref o0, .int ho] s 0 0 A) (F0 m 56 ls []) := by
        intro n210
        induction n210 with
        | zero =>
          intro i24 hn210 z25 z27 ⟨h26, h28, hj31, hj32, hj33⟩ H locs hT hF hS m29 m30 ls hl
          obtain rfl : 60 = i24 := by omega
          refine lv_iload hx hb dX12_wind_56 (lv_at hl 0 rfl) ?_
          refine lv_sipush (v := 1504) hx hb dX12_wind_58 (by decide) ?_
          refine lv_iconst (v := 2) hx hb dX12_wind_61 (by decide) ?_
          refine lv_aload_n hx hb dX12_wind_62 rfl (lv_at hl 5 rfl) ?_
          refine tw_get hx hb hts bF_X12 hown hK hT hr_o0 shm_0 rfl 1 (by decide) (ht_at hts 1 rfl) (fun _ h9 => h9) dX12_wind_63 (fun v9 m212 h9 => ?_)
          obtain ⟨rfl, hg213⟩ := h9 _ rfl
          refine lv_sipush (v := 1503) hx hb dX12_wind_66 (by decide) ?_
          refine tw_iald (i := 1503) hx hb hK hT hg11 shm_2 rfl (by unfold vp_in; decide) dX12_wind_69 (fun v9 m214 h9 => ?_)
          obtain ⟨x215, rfl, gx215, kx215⟩ := (gp_at h9 (w_wic (by have q9 := tn_of (show (1503 : Int32).toInt = 1503 from (by decide)) (show (0 : Int) ≤ 1503 from by omega); omega)))
          have t216 : x215.toInt = SU wU 103 := (by have qn := tn_of (show (1503 : Int32).toInt = 1503 from (by decide)) (by omega); have q := (wq_l hT hg11 (by omega) m214).2.2.1.2 ⟨by omega, by omega⟩; rw [show (1503 : Int32).toNatClampNeg - 1400 = 103 from by omega] at q; exact q)
          refine lv_imul hx hb dX12_wind_70 ?_
          refine lv_topi (fun x217 ex217 => ?_)
          have t218 : x217.toInt = 2 * x215.toInt := ti_mul ex217 (by decide) rfl (by omega) (by omega)
          refine lv_iadd hx hb dX12_wind_71 ?_
          refine lv_topi (fun x219 ex219 => ?_)
          have t220 : x219.toInt = 1504 + x217.toInt := ti_add ex219 (by decide) rfl (by omega) (by omega)
          refine lv_icmp_ge (tgt := 192) hx hb dX12_wind_72 (by decide) (fun c221 => ?_) (fun c221 => (by exfalso; have q9 : ((1504 + 2 * 60 : Nat) : Int) < x219.toInt := ti_nle c221 rfl (nI_toInt (by omega)); omega))
          have t222 : x219.toInt ≤ ((1504 + 2 * 60 : Nat) : Int) := ti_le c221 rfl (nI_toInt (by omega))
          refine lv_iload hx hb dX12_wind_192 (lv_at hl 2 rfl) ?_
          refine lv_if_ge (tgt := 201) hx hb dX12_wind_194 (by decide) (fun c223 => ?_) (fun c223 => ?_)
          · have t224 : 0 ≤ z27.toInt := ti_le c223 (by decide) rfl
            obtain ⟨j225, hj225, ej225⟩ := bfI.at hj31 (by have := (show z27.toInt = z27.toInt from rfl); omega)
            refine lv_aload_n hx hb dX12_wind_201 rfl (lv_at hl 5 rfl) ?_
            refine tw_get hx hb hts bF_X12 hown hK hT hr_o0 shm_0 rfl 1 (by decide) (ht_at hts 1 rfl) (fun _ h9 => h9) dX12_wind_202 (fun v9 m226 h9 => ?_)
            obtain ⟨rfl, hg227⟩ := h9 _ rfl
            refine lv_iload hx hb dX12_wind_205 (lv_at hl 2 rfl) ?_
            refine lv_iconst (v := 1) hx hb dX12_wind_207 (by decide) ?_
            refine lv_iadd hx hb dX12_wind_208 ?_
            refine lv_topi (fun x228 ex228 => ?_)
            have t229 : x228.toInt = z27.toInt + 1 := ti_add ex228 rfl (by decide) (by omega) (by omega)
            refine tw_iald (i := x228) hx hb hK hT hg11 shm_2 rfl (vin_t (a := x228.toInt) rfl (by omega) (by omega)) dX12_wind_209 (fun v9 m230 h9 => ?_)
            obtain ⟨x231, rfl, gx231, kx231⟩ := (gp_any h9)
            have t232 : x231.toInt = SU wU (105 + 2 * j225) := (by have qn := tn_of (show x228.toInt = x228.toInt from rfl) (by omega); have q := (wq_l hT hg11 (by omega) m230).2.2.1.2 ⟨by omega, by omega⟩; rw [show x228.toNatClampNeg - 1400 = 105 + 2 * j225 from by omega] at q; exact q)
            refine lv_iload hx hb dX12_wind_210 (lv_at hl 1 rfl) ?_
            refine lv_if_ge (tgt := 219) hx hb dX12_wind_212 (by decide) (fun c233 => ?_) (fun c233 => ?_)
            · have t234 : 0 ≤ z25.toInt := ti_le c233 (by decide) rfl
              obtain ⟨j235, hj235, ej235⟩ := afI.at hj32 (by have := (show z25.toInt = z25.toInt from rfl); omega)
              refine lv_aload_n hx hb dX12_wind_219 rfl (lv_at hl 5 rfl) ?_
              refine tw_get hx hb hts bF_X12 hown hK hT hr_o0 shm_0 rfl 1 (by decide) (ht_at hts 1 rfl) (fun _ h9 => h9) dX12_wind_220 (fun v9 m236 h9 => ?_)
              obtain ⟨rfl, hg237⟩ := h9 _ rfl
              refine lv_iload hx hb dX12_wind_223 (lv_at hl 1 rfl) ?_
              refine lv_iconst (v := 1) hx hb dX12_wind_225 (by decide) ?_
              refine lv_iadd hx hb dX12_wind_226 ?_
              refine lv_topi (fun x238 ex238 => ?_)
              have t239 : x238.toInt = z25.toInt + 1 := ti_add ex238 rfl (by decide) (by omega) (by omega)
              refine tw_iald (i := x238) hx hb hK hT hg11 shm_2 rfl (vin_t (a := x238.toInt) rfl (by omega) (by omega)) dX12_wind_227 (fun v9 m240 h9 => ?_)
              obtain ⟨x241, rfl, gx241, kx241⟩ := (gp_any h9)
              have t242 : x241.toInt = SU wU (105 + 2 * j235) := (by have qn := tn_of (show x238.toInt = x238.toInt from rfl) (by omega); have q := (wq_l hT hg11 (by omega) m240).2.2.1.2 ⟨by omega, by omega⟩; rw [show x238.toNatClampNeg - 1400 = 105 + 2 * j235 from by omega] at q; exact q)
              refine va_mmax hx hb (hml.trans hl.1.symm) hown (ht_at hts 6 rfl) (ht_at hts 7 rfl) (ht_at hts 8 rfl) (ht_at hts 9 rfl) (Nat.le_of_ble_eq_true rfl) (Nat.le_of_ble_eq_true rfl) (Nat.le_of_ble_eq_true rfl) (Nat.le_of_ble_eq_true rfl) dX12_wind_228 ?_
              refine lv_topi (fun x243 ex243 => ?_)
              have t244 : x231.toInt ≤ x243.toInt ∧ x241.toInt ≤ x243.toInt ∧ (x243.toInt = x231.toInt ∨ x243.toInt = x241.toInt) := mx_f ex243 rfl rfl
              exact W.iret (v := x243) hx hb hr (fun t ht hW => ⟨⟨x243, (), rfl, (by exact ⟨(by have := (show x231.toInt = x231.toInt from rfl); have := (show x241.toInt = x241.toInt from rfl); have := (show x243.toInt = x243.toInt from rfl); exact hf5.wa1 (j := j9) (by decide) (by omega) (Or.inr ⟨by show SU wU (105 + 2 * j9) < 0; omega, x231.toInt, x241.toInt, (by have z9 := hj31; rw [show 60 = (SU wU 103).toNat from by omega, show x22.toInt = SU wU (104 + 2 * j9) from by omega] at z9; exact z9.bf (v := x231.toInt) (by decide) (Or.inr ⟨j225, by omega, by show _ = SU wU (105 + 2 * j225); omega⟩)), (by have z9 := hj32; rw [show 60 = (SU wU 103).toNat from by omega, show x22.toInt = SU wU (104 + 2 * j9) from by omega] at z9; exact z9.af (v := x241.toInt) (by decide) (Or.inr ⟨j235, by omega, by show _ = SU wU (105 + 2 * j235); omega⟩)), by omega⟩)), (by omega)⟩), by (try dsimp only); rw [ht]; exact ⟨hT, hF⟩⟩, hS.F ht⟩) hS.2.2 dX12_wind_231
            · have t245 : z25.toInt < 0 := ti_nle c233 (by decide) rfl
              refine lv_iconst (v := 0) hx hb dX12_wind_215 (by decide) ?_
              refine lv_goto (tgt := 228) hx hb dX12_wind_216 (by decide) ?_
              refine va_mmax hx hb (hml.trans hl.1.symm) hown (ht_at hts 6 rfl) (ht_at hts 7 rfl) (ht_at hts 8 rfl) (ht_at hts 9 rfl) (Nat.le_of_ble_eq_true rfl) (Nat.le_of_ble_eq_true rfl) (Nat.le_of_ble_eq_true rfl) (Nat.le_of_ble_eq_true rfl) dX12_wind_228 ?_
              refine lv_topi (fun x246 ex246 => ?_)
              have t247 : x231.toInt ≤ x246.toInt ∧ 0 ≤ x246.toInt ∧ (x246.toInt = x231.toInt ∨ x246.toInt = 0) := mx_f ex246 rfl (by decide)
              exact W.iret (v := x246) hx hb hr (fun t ht hW => ⟨⟨x246, (), rfl, (by exact ⟨(by have := (show x231.toInt = x231.toInt from rfl); have := (show (0 : Int32).toInt = 0 from (by decide)); have := (show x246.toInt = x246.toInt from rfl); exact hf5.wa1 (j := j9) (by decide) (by omega) (Or.inr ⟨by show SU wU (105 + 2 * j9) < 0; omega, x231.toInt, (0 : Int32).toInt, (by have z9 := hj31; rw [show 60 = (SU wU 103).toNat from by omega, show x22.toInt = SU wU (104 + 2 * j9) from by omega] at z9; exact z9.bf (v := x231.toInt) (by decide) (Or.inr ⟨j225, by omega, by show _ = SU wU (105 + 2 * j225); omega⟩)), (by have z9 := hj32; rw [show 60 = (SU wU 103).toNat from by omega, show x22.toInt = SU wU (104 + 2 * j9) from by omega] at z9; exact z9.af (v := (0 : Int32).toInt) (by decide) (Or.inl ⟨by omega, by omega⟩)), by omega⟩)), (by omega)⟩), by (try dsimp only); rw [ht]; exact ⟨hT, hF⟩⟩, hS.F ht⟩) hS.2.2 dX12_wind_231
          · have t248 : z27.toInt < 0 := ti_nle c223 (by decide) rfl
            refine lv_iconst (v := 0) hx hb dX12_wind_197 (by decide) ?_
            refine lv_goto (tgt := 210) hx hb dX12_wind_198 (by decide) ?_
            refine lv_iload hx hb dX12_wind_210 (lv_at hl 1 rfl) ?_
            refine lv_if_ge (tgt := 219) hx hb dX12_wind_212 (by decide) (fun c249 => ?_) (fun c249 => ?_)
            · have t250 : 0 ≤ z25.toInt := ti_le c249 (by decide) rfl
              obtain ⟨j251, hj251, ej251⟩ := afI.at hj32 (by have := (show z25.toInt = z25.toInt from rfl); omega)
              refine lv_aload_n hx hb dX12_wind_219 rfl (lv_at hl 5 rfl) ?_
              refine tw_get hx hb hts bF_X12 hown hK hT hr_o0 shm_0 rfl 1 (by decide) (ht_at hts 1 rfl) (fun _ h9 => h9) dX12_wind_220 (fun v9 m252 h9 => ?_)
              obtain ⟨rfl, hg253⟩ := h9 _ rfl
              refine lv_iload hx hb dX12_wind_223 (lv_at hl 1 rfl) ?_
              refine lv_iconst (v := 1) hx hb dX12_wind_225 (by decide) ?_
              refine lv_iadd hx hb dX12_wind_226 ?_
              refine lv_topi (fun x254 ex254 => ?_)
              have t255 : x254.toInt = z25.toInt + 1 := ti_add ex254 rfl (by decide) (by omega) (by omega)
              refine tw_iald (i := x254) hx hb hK hT hg11 shm_2 rfl (vin_t (a := x254.toInt) rfl (by omega) (by omega)) dX12_wind_227 (fun v9 m256 h9 => ?_)
              obtain ⟨x257, rfl, gx257, kx257⟩ := (gp_any h9)
              have t258 : x257.toInt = SU wU (105 + 2 * j251) := (by have qn := tn_of (show x254.toInt = x254.toInt from rfl) (by omega); have q := (wq_l hT hg11 (by omega) m256).2.2.1.2 ⟨by omega, by omega⟩; rw [show x254.toNatClampNeg - 1400 = 105 + 2 * j251 from by omega] at q; exact q)
              refine va_mmax hx hb (hml.trans hl.1.symm) hown (ht_at hts 6 rfl) (ht_at hts 7 rfl) (ht_at hts 8 rfl) (ht_at hts 9 rfl) (Nat.le_of_ble_eq_true rfl) (Nat.le_of_ble_eq_true rfl) (Nat.le_of_ble_eq_true rfl) (Nat.le_of_ble_eq_true rfl) dX12_wind_228 ?_
              refine lv_topi (fun x259 ex259 => ?_)
              have t260 : 0 ≤ x259.toInt ∧ x257.toInt ≤ x259.toInt ∧ (x259.toInt = 0 ∨ x259.toInt = x257.toInt) := mx_f ex259 (by decide) rfl
              exact W.iret (v := x259) hx hb hr (fun t ht hW => ⟨⟨x259, (), rfl, (by exact ⟨(by have := (show (0 : Int32).toInt = 0 from (by decide)); have := (show x257.toInt = x257.toInt from rfl); have := (show x259.toInt = x259.toInt from rfl); exact hf5.wa1 (j := j9) (by decide) (by omega) (Or.inr ⟨by show SU wU (105 + 2 * j9) < 0; omega, (0 : Int32).toInt, x257.toInt, (by have z9 := hj31; rw [show 60 = (SU wU 103).toNat from by omega, show x22.toInt = SU wU (104 + 2 * j9) from by omega] at z9; exact z9.bf (v := (0 : Int32).toInt) (by decide) (Or.inl ⟨by omega, by omega⟩)), (by have z9 := hj32; rw [show 60 = (SU wU 103).toNat from by omega, show x22.toInt = SU wU (104 + 2 * j9) from by omega] at z9; exact z9.af (v := x257.toInt) (by decide) (Or.inr ⟨j251, by omega, by show _ = SU wU (105 + 2 * j251); omega⟩)), by omega⟩)), (by omega)⟩), by (try dsimp only); rw [ht]; exact ⟨hT, hF⟩⟩, hS.F ht⟩) hS.2.2 dX12_wind_231
            · have t261 : z25.toInt < 0 := ti_nle c249 (by decide) rfl
              refine lv_iconst (v := 0) hx hb dX12_wind_215 (by decide) ?_
              refine lv_goto (tgt := 228) hx hb dX12_wind_216 (by decide) ?_
              refine va_mmax hx hb (hml.trans hl.1.symm) hown (ht_at hts 6 rfl) (ht_at hts 7 rfl) (ht_at hts 8 rfl) (ht_at hts 9 rfl) (Nat.le_of_ble_eq_true rfl) (Nat.le_of_ble_eq_true rfl) (Nat.le_of_ble_eq_true rfl) (Nat.le_of_ble_eq_true rfl) dX12_wind_228 ?_
              refine lv_topi (fun x262 ex262 => ?_)
              obtain rfl : x262 = 0 := ex262.trans (by decide)
              exact W.iret (v := 0) hx hb hr (fun t ht hW => ⟨⟨0, (), rfl, (by exact ⟨(by have := (show (0 : Int32).toInt = 0 from (by decide)); have := (show (0 : Int32).toInt = 0 from (by decide)); have := (show (0 : Int32).toInt = 0 from (by decide)); exact hf5.wa1 (j := j9) (by decide) (by omega) (Or.inr ⟨by show SU wU (105 + 2 * j9) < 0; omega, (0 : Int32).toInt, (0 : Int32).toInt, (by have z9 := hj31; rw [show 60 = (SU wU 103).toNat from by omega, show x22.toInt = SU wU (104 + 2 * j9) from by omega] at z9; exact z9.bf (v := (0 : Int32).toInt) (by decide) (Or.inl ⟨by omega, by omega⟩)), (by have z9 := hj32; rw [show 60 = (SU wU 103).toNat from by omega, show x22.toInt = SU wU (104 + 2 * j9) from by omega] at z9; exact z9.af (v := (0 : Int32).toInt) (by decide) (Or.inl ⟨by omega, by omega⟩)), by omega⟩)), (by omega)⟩), by (try dsimp only); rw [ht]; exact ⟨hT, hF⟩⟩, hS.F ht⟩) hS.2.2 dX12_wind_231
        | succ n210 ih210 =>
          intro i24 hn210 z25 z27 ⟨h26, h28, hj31, hj32, hj33⟩ H locs hT hF hS m29 m30 ls hl
          have hlt262 : i24 < 60 := by omega
          refine lv_iload hx hb dX12_wind_56 (lv_at hl 0 rfl) ?_
          refine lv_sipush (v := 1504) hx hb dX12_wind_58 (by decide) ?_
          refine lv_iconst (v := 2) hx hb dX12_wind_61 (by decide) ?_
          refine lv_aload_n hx hb dX12_wind_62 rfl (lv_at hl 5 rfl) ?_
          refine tw_get hx hb hts bF_X12 hown hK hT hr_o0 shm_0 rfl 1 (by decide) (ht_at hts 1 rfl) (fun _ h9 => h9) dX12_wind_63 (fun v9 m263 h9 => ?_)
          obtain ⟨rfl, hg264⟩ := h9 _ rfl
          refine lv_sipush (v := 1503) hx hb dX12_wind_66 (by decide) ?_
          refine tw_iald (i := 1503) hx hb hK hT hg11 shm_2 rfl (by unfold vp_in; decide) dX12_wind_69 (fun v9 m265 h9 => ?_)
          obtain ⟨x266, rfl, gx266, kx266⟩ := (gp_at h9 (w_wic (by have q9 := tn_of (show (1503 : Int32).toInt = 1503 from (by decide)) (show (0 : Int) ≤ 1503 from by omega); omega)))
          have t267 : x266.toInt = SU wU 103 := (by have qn := tn_of (show (1503 : Int32).toInt = 1503 from (by decide)) (by omega); have q := (wq_l hT hg11 (by omega) m265).2.2.1.2 ⟨by omega, by omega⟩; rw [show (1503 : Int32).toNatClampNeg - 1400 = 103 from by omega] at q; exact q)
          refine lv_imul hx hb dX12_wind_70 ?_
          refine lv_topi (fun x268 ex268 => ?_)
          have t269 : x268.toInt = 2 * x266.toInt := ti_mul ex268 (by decide) rfl (by omega) (by omega)
          refine lv_iadd hx hb dX12_wind_71 ?_
          refine lv_topi (fun x270 ex270 => ?_)
          have t271 : x270.toInt = 1504 + x268.toInt := ti_add ex270 (by decide) rfl (by omega) (by omega)
          refine lv_icmp_ge (tgt := 192) hx hb dX12_wind_72 (by decide) (fun c272 => ?_) (fun c272 => ?_)
          · have t273 : x270.toInt ≤ ((1504 + 2 * i24 : Nat) : Int) := ti_le c272 rfl (nI_toInt (by omega))
            refine lv_iload hx hb dX12_wind_192 (lv_at hl 2 rfl) ?_
            refine lv_if_ge (tgt := 201) hx hb dX12_wind_194 (by decide) (fun c274 => ?_) (fun c274 => ?_)
            · have t275 : 0 ≤ z27.toInt := ti_le c274 (by decide) rfl
              obtain ⟨j276, hj276, ej276⟩ := bfI.at hj31 (by have := (show z27.toInt = z27.toInt from rfl); omega)
              refine lv_aload_n hx hb dX12_wind_201 rfl (lv_at hl 5 rfl) ?_
              refine tw_get hx hb hts bF_X12 hown hK hT hr_o0 shm_0 rfl 1 (by decide) (ht_at hts 1 rfl) (fun _ h9 => h9) dX12_wind_202 (fun v9 m277 h9 => ?_)
              obtain ⟨rfl, hg278⟩ := h9 _ rfl
              refine lv_iload hx hb dX12_wind_205 (lv_at hl 2 rfl) ?_
              refine lv_iconst (v := 1) hx hb dX12_wind_207 (by decide) ?_
              refine lv_iadd hx hb dX12_wind_208 ?_
              refine lv_topi (fun x279 ex279 => ?_)
              have t280 : x279.toInt = z27.toInt + 1 := ti_add ex279 rfl (by decide) (by omega) (by omega)
              refine tw_iald (i := x279) hx hb hK hT hg11 shm_2 rfl (vin_t (a := x279.toInt) rfl (by omega) (by omega)) dX12_wind_209 (fun v9 m281 h9 => ?_)
              obtain ⟨x282, rfl, gx282, kx282⟩ := (gp_any h9)
              have t283 : x282.toInt = SU wU (105 + 2 * j276) := (by have qn := tn_of (show x279.toInt = x279.toInt from rfl) (by omega); have q := (wq_l hT hg11 (by omega) m281).2.2.1.2 ⟨by omega, by omega⟩; rw [show x279.toNatClampNeg - 1400 = 105 + 2 * j276 from by omega] at q; exact q)
              refine lv_iload hx hb dX12_wind_210 (lv_at hl 1 rfl) ?_
              refine lv_if_ge (tgt := 219) hx hb dX12_wind_212 (by decide) (fun c284 => ?_) (fun c284 => ?_)
              · have t285 : 0 ≤ z25.toInt := ti_le c284 (by decide) rfl
                obtain ⟨j286, hj286, ej286⟩ := afI.at hj32 (by have := (show z25.toInt = z25.toInt from rfl); omega)
                refine lv_aload_n hx hb dX12_wind_219 rfl (lv_at hl 5 rfl) ?_
                refine tw_get hx hb hts bF_X12 hown hK hT hr_o0 shm_0 rfl 1 (by decide) (ht_at hts 1 rfl) (fun _ h9 => h9) dX12_wind_220 (fun v9 m287 h9 => ?_)
                obtain ⟨rfl, hg288⟩ := h9 _ rfl
                refine lv_iload hx hb dX12_wind_223 (lv_at hl 1 rfl) ?_
                refine lv_iconst (v := 1) hx hb dX12_wind_225 (by decide) ?_
                refine lv_iadd hx hb dX12_wind_226 ?_
                refine lv_topi (fun x289 ex289 => ?_)
                have t290 : x289.toInt = z25.toInt + 1 := ti_add ex289 rfl (by decide) (by omega) (by omega)
                refine tw_iald (i := x289) hx hb hK hT hg11 shm_2 rfl (vin_t (a := x289.toInt) rfl (by omega) (by omega)) dX12_wind_227 (fun v9 m291 h9 => ?_)
                obtain ⟨x292, rfl, gx292, kx292⟩ := (gp_any h9)
                have t293 : x292.toInt = SU wU (105 + 2 * j286) := (by have qn := tn_of (show x289.toInt = x289.toInt from rfl) (by omega); have q := (wq_l hT hg11 (by omega) m291).2.2.1.2 ⟨by omega, by omega⟩; rw [show x289.toNatClampNeg - 1400 = 105 + 2 * j286 from by omega] at q; exact q)
                refine va_mmax hx hb (hml.trans hl.1.symm) hown (ht_at hts 6 rfl) (ht_at hts 7 rfl) (ht_at hts 8 rfl) (ht_at hts 9 rfl) (Nat.le_of_ble_eq_true rfl) (Nat.le_of_ble_eq_true rfl) (Nat.le_of_ble_eq_true rfl) (Nat.le_of_ble_eq_true rfl) dX12_wind_228 ?_
                refine lv_topi (fun x294 ex294 => ?_)
                have t295 : x282.toInt ≤ x294.toInt ∧ x292.toInt ≤ x294.toInt ∧ (x294.toInt = x282.toInt ∨ x294.toInt = x292.toInt) := mx_f ex294 rfl rfl
                exact W.iret (v := x294) hx hb hr (fun t ht hW => ⟨⟨x294, (), rfl, (by exact ⟨(by have := (show x282.toInt = x282.toInt from rfl); have := (show x292.toInt = x292.toInt from rfl); have := (show x294.toInt = x294.toInt from rfl); exact hf5.wa1 (j := j9) (by decide) (by omega) (Or.inr ⟨by show SU wU (105 + 2 * j9) < 0; omega, x282.toInt, x292.toInt, (by have z9 := hj31; rw [show i24 = (SU wU 103).toNat from by omega, show x22.toInt = SU wU (104 + 2 * j9) from by omega] at z9; exact z9.bf (v := x282.toInt) (by decide) (Or.inr ⟨j276, by omega, by show _ = SU wU (105 + 2 * j276); omega⟩)), (by have z9 := hj32; rw [show i24 = (SU wU 103).toNat from by omega, show x22.toInt = SU wU (104 + 2 * j9) from by omega] at z9; exact z9.af (v := x292.toInt) (by decide) (Or.inr ⟨j286, by omega, by show _ = SU wU (105 + 2 * j286); omega⟩)), by omega⟩)), (by omega)⟩), by (try dsimp only); rw [ht]; exact ⟨hT, hF⟩⟩, hS.F ht⟩) hS.2.2 dX12_wind_231
              · have t296 : z25.toInt < 0 := ti_nle c284 (by decide) rfl
                refine lv_iconst (v := 0) hx hb dX12_wind_215 (by decide) ?_
                refine lv_goto (tgt := 228) hx hb dX12_wind_216 (by decide) ?_
                refine va_mmax hx hb (hml.trans hl.1.symm) hown (ht_at hts 6 rfl) (ht_at hts 7 rfl) (ht_at hts 8 rfl) (ht_at hts 9 rfl) (Nat.le_of_ble_eq_true rfl) (Nat.le_of_ble_eq_true rfl) (Nat.le_of_ble_eq_true rfl) (Nat.le_of_ble_eq_true rfl) dX12_wind_228 ?_
                refine lv_topi (fun x297 ex297 => ?_)
                have t298 : x282.toInt ≤ x297.toInt ∧ 0 ≤ x297.toInt ∧ (x297.toInt = x282.toInt ∨ x297.toInt = 0) := mx_f ex297 rfl (by decide)
                exact W.iret (v := x297) hx hb hr (fun t ht hW => ⟨⟨x297, (), rfl, (by exact ⟨(by have := (show x282.toInt = x282.toInt from rfl); have := (show (0 : Int32).toInt = 0 from (by decide)); have := (show x297.toInt = x297.toInt from rfl); exact hf5.wa1 (j := j9) (by decide) (by omega) (Or.inr ⟨by show SU wU (105 + 2 * j9) < 0; omega, x282.toInt, (0 : Int32).toInt, (by have z9 := hj31; rw [show i24 = (SU wU 103).toNat from by omega, show x22.toInt = SU wU (104 + 2 * j9) from by omega] at z9; exact z9.bf (v := x282.toInt) (by decide) (Or.inr ⟨j276, by omega, by show _ = SU wU (105 + 2 * j276); omega⟩)), (by have z9 := hj32; rw [show i24 = (SU wU 103).toNat from by omega, show x22.toInt = SU wU (104 + 2 * j9) from by omega] at z9; exact z9.af (v := (0 : Int32).toInt) (by decide) (Or.inl ⟨by omega, by omega⟩)), by omega⟩)), (by omega)⟩), by (try dsimp only); rw [ht]; exact ⟨hT, hF⟩⟩, hS.F ht⟩) hS.2.2 dX12_wind_231
            · have t299 : z27.toInt < 0 := ti_nle c274 (by decide) rfl
              refine lv_iconst (v := 0) hx hb dX12_wind_197 (by decide) ?_
              refine lv_goto (tgt := 210) hx hb dX12_wind_198 (by decide) ?_
              refine lv_iload hx hb dX12_wind_210 (lv_at hl 1 rfl) ?_
              refine lv_if_ge (tgt := 219) hx hb dX12_wind_212 (by decide) (fun c300 => ?_) (fun c300 => ?_)
              · have t301 : 0 ≤ z25.toInt := ti_le c300 (by decide) rfl
                obtain ⟨j302, hj302, ej302⟩ := afI.at hj32 (by have := (show z25.toInt = z25.toInt from rfl); omega)
                refine lv_aload_n hx hb dX12_wind_219 rfl (lv_at hl 5 rfl) ?_
                refine tw_get hx hb hts bF_X12 hown hK hT hr_o0 shm_0 rfl 1 (by decide) (ht_at hts 1 rfl) (fun _ h9 => h9) dX12_wind_220 (fun v9 m303 h9 => ?_)
                obtain ⟨rfl, hg304⟩ := h9 _ rfl
                refine lv_iload hx hb dX12_wind_223 (lv_at hl 1 rfl) ?_
                refine lv_iconst (v := 1) hx hb dX12_wind_225 (by decide) ?_
                refine lv_iadd hx hb dX12_wind_226 ?_
                refine lv_topi (fun x305 ex305 => ?_)
                have t306 : x305.toInt = z25.toInt + 1 := ti_add ex305 rfl (by decide) (by omega) (by omega)
                refine tw_iald (i := x305) hx hb hK hT hg11 shm_2 rfl (vin_t (a := x305.toInt) rfl (by omega) (by omega)) dX12_wind_227 (fun v9 m307 h9 => ?_)
                obtain ⟨x308, rfl, gx308, kx308⟩ := (gp_any h9)
                have t309 : x308.toInt = SU wU (105 + 2 * j302) := (by have qn := tn_of (show x305.toInt = x305.toInt from rfl) (by omega); have q := (wq_l hT hg11 (by omega) m307).2.2.1.2 ⟨by omega, by omega⟩; rw [show x305.toNatClampNeg - 1400 = 105 + 2 * j302 from by omega] at q; exact q)
                refine va_mmax hx hb (hml.trans hl.1.symm) hown (ht_at hts 6 rfl) (ht_at hts 7 rfl) (ht_at hts 8 rfl) (ht_at hts 9 rfl) (Nat.le_of_ble_eq_true rfl) (Nat.le_of_ble_eq_true rfl) (Nat.le_of_ble_eq_true rfl) (Nat.le_of_ble_eq_true rfl) dX12_wind_228 ?_
                refine lv_topi (fun x310 ex310 => ?_)
                have t311 : 0 ≤ x310.toInt ∧ x308.toInt ≤ x310.toInt ∧ (x310.toInt = 0 ∨ x310.toInt = x308.toInt) := mx_f ex310 (by decide) rfl
                exact W.iret (v := x310) hx hb hr (fun t ht hW => ⟨⟨x310, (), rfl, (by exact ⟨(by have := (show (0 : Int32).toInt = 0 from (by decide)); have := (show x308.toInt = x308.toInt from rfl); have := (show x310.toInt = x310.toInt from rfl); exact hf5.wa1 (j := j9) (by decide) (by omega) (Or.inr ⟨by show SU wU (105 + 2 * j9) < 0; omega, (0 : Int32).toInt, x308.toInt, (by have z9 := hj31; rw [show i24 = (SU wU 103).toNat from by omega, show x22.toInt = SU wU (104 + 2 * j9) from by omega] at z9; exact z9.bf (v := (0 : Int32).toInt) (by decide) (Or.inl ⟨by omega, by omega⟩)), (by have z9 := hj32; rw [show i24 = (SU wU 103).toNat from by omega, show x22.toInt = SU wU (104 + 2 * j9) from by omega] at z9; exact z9.af (v := x308.toInt) (by decide) (Or.inr ⟨j302, by omega, by show _ = SU wU (105 + 2 * j302); omega⟩)), by omega⟩)), (by omega)⟩), by (try dsimp only); rw [ht]; exact ⟨hT, hF⟩⟩, hS.F ht⟩) hS.2.2 dX12_wind_231
              · have t312 : z25.toInt < 0 := ti_nle c300 (by decide) rfl
                refine lv_iconst (v := 0) hx hb dX12_wind_215 (by decide) ?_
                refine lv_goto (tgt := 228) hx hb dX12_wind_216 (by decide) ?_
                refine va_mmax hx hb (hml.trans hl.1.symm) hown (ht_at hts 6 rfl) (ht_at hts 7 rfl) (ht_at hts 8 rfl) (ht_at hts 9 rfl) (Nat.le_of_ble_eq_true rfl) (Nat.le_of_ble_eq_true rfl) (Nat.le_of_ble_eq_true rfl) (Nat.le_of_ble_eq_true rfl) dX12_wind_228 ?_
                refine lv_topi (fun x313 ex313 => ?_)
                obtain rfl : x313 = 0 := ex313.trans (by decide)
                exact W.iret (v := 0) hx hb hr (fun t ht hW => ⟨⟨0, (), rfl, (by exact ⟨(by have := (show (0 : Int32).toInt = 0 from (by decide)); have := (show (0 : Int32).toInt = 0 from (by decide)); have := (show (0 : Int32).toInt = 0 from (by decide)); exact hf5.wa1 (j := j9) (by decide) (by omega) (Or.inr ⟨by show SU wU (105 + 2 * j9) < 0; omega, (0 : Int32).toInt, (0 : Int32).toInt, (by have z9 := hj31; rw [show i24 = (SU wU 103).toNat from by omega, show x22.toInt = SU wU (104 + 2 * j9) from by omega] at z9; exact z9.bf (v := (0 : Int32).toInt) (by decide) (Or.inl ⟨by omega, by omega⟩)), (by have z9 := hj32; rw [show i24 = (SU wU 103).toNat from by omega, show x22.toInt = SU wU (104 + 2 * j9) from by omega] at z9; exact z9.af (v := (0 : Int32).toInt) (by decide) (Or.inl ⟨by omega, by omega⟩)), by omega⟩)), (by omega)⟩), by (try dsimp only); rw [ht]; exact ⟨hT, hF⟩⟩, hS.F ht⟩) hS.2.2 dX12_wind_231
          · have t314 : ((1504 + 2 * i24 : Nat) : Int) < x270.toInt := ti_nle c272 rfl (nI_toInt (by omega))
            refine lv_aload_n hx hb dX12_wind_75 rfl (lv_at hl 5 rfl) ?_
            refine tw_get hx hb hts bF_X12 hown hK hT hr_o0 shm_0 rfl 1 (by decide) (ht_at hts 1 rfl) (fun _ h9 => h9) dX12_wind_76 (fun v9 m315 h9 => ?_)
            obtain ⟨rfl, hg316⟩ := h9 _ rfl
            refine lv_iload hx hb dX12_wind_79 (lv_at hl 0 rfl) ?_
            refine lv_iconst (v := 1) hx hb dX12_wind_81 (by decide) ?_
            refine lv_iadd hx hb dX12_wind_82 ?_
            refine lv_topi (fun x317 ex317 => ?_)
            obtain rfl : nI (1504 + 2 * i24 + 1) = x317 := (ex317.trans (nI_add (1504 + 2 * i24) 1)).symm
            refine tw_iald (i := (nI (1504 + 2 * i24 + 1))) hx hb hK hT hg11 shm_2 rfl (vp_in_nI (by omega) (by decide)) dX12_wind_83 (fun v9 m318 h9 => ?_)
            obtain ⟨x319, rfl, gx319, kx319⟩ := (gp_at h9 (w_wid (by have q9 := tn_of (show (nI (1504 + 2 * i24 + 1)).toInt = ((1504 + 2 * i24 + 1 : Nat) : Int) from (nI_toInt (by omega))) (show (0 : Int) ≤ ((1504 + 2 * i24 + 1 : Nat) : Int) from by omega); omega)))
            have t320 : x319.toInt = SU wU (105 + 2 * i24) := (by have qn := tn_of (show (nI (1504 + 2 * i24 + 1)).toInt = ((1504 + 2 * i24 + 1 : Nat) : Int) from (nI_toInt (by omega))) (by omega); have q := (wq_l hT hg11 (by omega) m318).2.2.1.2 ⟨by omega, by omega⟩; rw [show (nI (1504 + 2 * i24 + 1)).toNatClampNeg - 1400 = 105 + 2 * i24 from by omega] at q; exact q)
            refine lv_if_lt (tgt := 186) hx hb dX12_wind_84 (by decide) (fun c321 => ?_) (fun c321 => ?_)
            · have t322 : x319.toInt < 0 := ti_lt c321 rfl (by decide)
              refine lv_iinc (v := nI (1504 + 2 * i24 + 2)) (lv' := [(6, .int (nI (1504 + 2 * i24 + 2))), (5, .int z25), (4, .int z27), (3, .int x22), (2, .int r1), (0, .ref o0), (1, .int ho)]) hx hb dX12_wind_186 hl (k := 0) rfl (nI_add (1504 + 2 * i24) 2) (by decide) rfl (fun ls hl => ?_)
              refine lv_goto (tgt := 56) hx hb dX12_wind_189 (by decide) ?_
              have hl : lv_has ls 7 [(6, .int (nI (1504 + 2 * (i24 + 1)))), (5, .int z25), (4, .int z27), (3, .int x22), (2, .int r1), (0, .ref o0), (1, .int ho)] := by rw [show nI (1504 + 2 * (i24 + 1)) = nI (1504 + 2 * i24 + 2) from congrArg nI (by omega)]; exact hl
              exact ih210 (i24 + 1) (by omega) z25 z27 ⟨(by have q9 := (show z25.toInt = z25.toInt from rfl); (try have q8 := ti_all z25); omega), (by have q9 := (show z27.toInt = z27.toInt from rfl); (try have q8 := ti_all z27); omega), (by have := (show z27.toInt = z27.toInt from rfl); first | exact bf_o hj31 (by decide) (Or.inl (by show SU wU (105 + 2 * i24) < 0; omega))), (by have := (show z25.toInt = z25.toInt from rfl); first | exact af_o hj32 (by decide) (Or.inl (by show SU wU (105 + 2 * i24) < 0; omega))), (by omega)⟩ _ _ hT hF hS m29 m30 ls (lv_sub hl [0, 1, 2, 3, 4, 5, 6] rfl)
            · have t323 : 0 ≤ x319.toInt := ti_nlt c321 rfl (by decide)
              refine lv_aload_n hx hb dX12_wind_87 rfl (lv_at hl 5 rfl) ?_
              refine lv_sipush (v := 1503) hx hb dX12_wind_88 (by decide) ?_
              refine lv_sipush (v := 1504) hx hb dX12_wind_91 (by decide) ?_
              refine lv_aload_n hx hb dX12_wind_94 rfl (lv_at hl 5 rfl) ?_
              refine tw_get hx hb hts bF_X12 hown hK hT hr_o0 shm_0 rfl 1 (by decide) (ht_at hts 1 rfl) (fun _ h9 => h9) dX12_wind_95 (fun v9 m324 h9 => ?_)
              obtain ⟨rfl, hg325⟩ := h9 _ rfl
              refine lv_iload hx hb dX12_wind_98 (lv_at hl 0 rfl) ?_
              refine tw_iald (i := (nI (1504 + 2 * i24))) hx hb hK hT hg11 shm_2 rfl (vp_in_nI (by omega) (by decide)) dX12_wind_100 (fun v9 m326 h9 => ?_)
              obtain ⟨x327, rfl, gx327, kx327⟩ := (gp_at h9 (w_fre (by have q9 := tn_of (show (nI (1504 + 2 * i24)).toInt = ((1504 + 2 * i24 : Nat) : Int) from (nI_toInt (by omega))) (show (0 : Int) ≤ ((1504 + 2 * i24 : Nat) : Int) from by omega); omega)))
              have t328 : x327.toInt = SU wU (104 + 2 * i24) := (by have qn := tn_of (show (nI (1504 + 2 * i24)).toInt = ((1504 + 2 * i24 : Nat) : Int) from (nI_toInt (by omega))) (by omega); have q := (wq_l hT hg11 (by omega) m326).2.2.1.2 ⟨by omega, by omega⟩; rw [show (nI (1504 + 2 * i24)).toNatClampNeg - 1400 = 104 + 2 * i24 from by omega] at q; exact q)
              have hFc := gA_free hG hA hS
              refine va_calli (va_runV (As := [.int 1503, .int 1504, .int x327]) (rest := []) ⟨hx, hb, hml, hown, hts⟩ (s_telling2Y l dC dI kA adK adV G H q wZ wN wH wB wC wL wK wU wV PI im PM PT lS lB lE lN o0 x327 hT hr_o0 hgz hgn hgh hgb hgc hgi hgu) (cwV 3 hts (goodIn_app (goodIn_r _ [3, 4, 5, 6] rfl (by decide +kernel)) (goodIn_ca (goodIn_r _ [1, 2] rfl (by decide +kernel)) (bs_in _ _))) rfl rfl rfl (by decide +kernel) ⟨(Nat.le_of_ble_eq_true rfl), (Nat.le_of_ble_eq_true rfl)⟩) ⟨fun a U g mk q => by obtain ⟨q0, q1, qK, qE⟩ := q; exact ⟨q0, q1, va_K.moved (u := U) (U := U.calling g mk a) (Vm.Alike.refl U.vm) qK, EVS.blind g mk a qE⟩, gH_rc hK hT hr_o0 shm_0 rfl, fun U hU hW => ⟨rfl, hU, va_K.moved hW.alike hK, hE.call hS hFc hU hW⟩⟩ rfl rfl hl.1 rfl (lv_room (Nat.le_of_ble_eq_true rfl)) dX12_wind_101 ⟨(Nat.le_of_ble_eq_true rfl), (Nat.le_of_ble_eq_true rfl)⟩) hS (fun q _ h => hFc q h) hFc (fun r329 u t H locs ht hvm hw330 hB _ _ hS => ?_)
              obtain ⟨hT, hF1⟩ := hB
              rw [ht] at hT hF1
              have m331 := (el_kept (hF1.arr hg11 skm_2 (by decide))).trans m29
              have m332 := (el_kept (hF1.arr hg11 skm_2 (by decide))).trans m30
              have m335 := (el_kept (hF1.arr hg11 skm_2 (by decide))).trans m326
              have hF := hF.more hF1 (by decide)
              try dsimp only at hw330
              obtain ⟨h336, hf337, hf338, hf339⟩ := hw330
              have hl340 : r329.toInt = 1504 + 2 * ((i24 : Nat) : Int) ↔ Lst (fun i => SU wU (104 + 2 * i)) (((SU wU 103).toNat : Nat) : Int) i24 := (by have z9 := hf338; exact te_ls (hr := (fun i => SU wU (104 + 2 * i))) (k := i24) (by show teI (fun i => SU wU (104 + 2 * i)) (SU wU 103).toNat 1504 (SU wU (104 + 2 * i24)) r329.toInt; rw [show SU wU (104 + 2 * i24) = x327.toInt from by omega]; exact z9) (by omega) (by decide))
              refine lv_iload hx hb dX12_wind_104 (lv_at hl 0 rfl) ?_
              refine lv_icmp_eq (tgt := 112) hx hb dX12_wind_106 (by decide) (fun c341 => ?_) (fun c341 => ?_)
              · have t342 : r329.toInt = ((1504 + 2 * i24 : Nat) : Int) := ti_eq c341 rfl (nI_toInt (by omega))
                refine lv_aload_n hx hb dX12_wind_112 rfl (lv_at hl 5 rfl) ?_
                refine tw_get hx hb hts bF_X12 hown hK hT hr_o0 shm_0 rfl 1 (by decide) (ht_at hts 1 rfl) (fun _ h9 => h9) dX12_wind_113 (fun v9 m343 h9 => ?_)
                obtain ⟨rfl, hg344⟩ := h9 _ rfl
                refine lv_iload hx hb dX12_wind_116 (lv_at hl 0 rfl) ?_
                refine tw_iald (i := (nI (1504 + 2 * i24))) hx hb hK hT hg11 shm_2 rfl (vp_in_nI (by omega) (by decide)) dX12_wind_118 (fun v9 m345 h9 => ?_)
                obtain ⟨x346, rfl, gx346, kx346⟩ := (gp_at h9 (w_fre (by have q9 := tn_of (show (nI (1504 + 2 * i24)).toInt = ((1504 + 2 * i24 : Nat) : Int) from (nI_toInt (by omega))) (show (0 : Int) ≤ ((1504 + 2 * i24 : Nat) : Int) from by omega); omega)))
                obtain rfl : x327 = x346 := (el_same m345 m335 rfl).symm
                have t347 : x327.toInt = SU wU (104 + 2 * i24) := (by have qn := tn_of (show (nI (1504 + 2 * i24)).toInt = ((1504 + 2 * i24 : Nat) : Int) from (nI_toInt (by omega))) (by omega); have q := (wq_l hT hg11 (by omega) m335).2.2.1.2 ⟨by omega, by omega⟩; rw [show (nI (1504 + 2 * i24)).toNatClampNeg - 1400 = 104 + 2 * i24 from by omega] at q; exact q)
                refine lv_iload_n hx hb dX12_wind_119 rfl (lv_at hl 3 rfl) ?_
                refine lv_icmp_ge (tgt := 149) hx hb dX12_wind_120 (by decide) (fun c348 => ?_) (fun c348 => ?_)
                · have t349 : x22.toInt ≤ x327.toInt := ti_le c348 rfl rfl
                  refine lv_aload_n hx hb dX12_wind_149 rfl (lv_at hl 5 rfl) ?_
                  refine tw_get hx hb hts bF_X12 hown hK hT hr_o0 shm_0 rfl 1 (by decide) (ht_at hts 1 rfl) (fun _ h9 => h9) dX12_wind_150 (fun v9 m350 h9 => ?_)
                  obtain ⟨rfl, hg351⟩ := h9 _ rfl
                  refine lv_iload hx hb dX12_wind_153 (lv_at hl 0 rfl) ?_
                  refine tw_iald (i := (nI (1504 + 2 * i24))) hx hb hK hT hg11 shm_2 rfl (vp_in_nI (by omega) (by decide)) dX12_wind_155 (fun v9 m352 h9 => ?_)
                  obtain ⟨x353, rfl, gx353, kx353⟩ := (gp_at h9 (w_fre (by have q9 := tn_of (show (nI (1504 + 2 * i24)).toInt = ((1504 + 2 * i24 : Nat) : Int) from (nI_toInt (by omega))) (show (0 : Int) ≤ ((1504 + 2 * i24 : Nat) : Int) from by omega); omega)))
                  obtain rfl : x327 = x353 := (el_same m352 m335 rfl).symm
                  have t354 : x327.toInt = SU wU (104 + 2 * i24) := (by have qn := tn_of (show (nI (1504 + 2 * i24)).toInt = ((1504 + 2 * i24 : Nat) : Int) from (nI_toInt (by omega))) (by omega); have q := (wq_l hT hg11 (by omega) m335).2.2.1.2 ⟨by omega, by omega⟩; rw [show (nI (1504 + 2 * i24)).toNatClampNeg - 1400 = 104 + 2 * i24 from by omega] at q; exact q)
                  refine lv_iload_n hx hb dX12_wind_156 rfl (lv_at hl 3 rfl) ?_
                  refine lv_icmp_le (tgt := 186) hx hb dX12_wind_157 (by decide) (fun c355 => ?_) (fun c355 => ?_)
                  · have t356 : x327.toInt ≤ x22.toInt := ti_le c355 rfl rfl
                    refine lv_iinc (v := nI (1504 + 2 * i24 + 2)) (lv' := [(6, .int (nI (1504 + 2 * i24 + 2))), (5, .int z25), (4, .int z27), (3, .int x22), (2, .int r1), (0, .ref o0), (1, .int ho)]) hx hb dX12_wind_186 hl (k := 0) rfl (nI_add (1504 + 2 * i24) 2) (by decide) rfl (fun ls hl => ?_)
                    refine lv_goto (tgt := 56) hx hb dX12_wind_189 (by decide) ?_
                    have hl : lv_has ls 7 [(6, .int (nI (1504 + 2 * (i24 + 1)))), (5, .int z25), (4, .int z27), (3, .int x22), (2, .int r1), (0, .ref o0), (1, .int ho)] := by rw [show nI (1504 + 2 * (i24 + 1)) = nI (1504 + 2 * i24 + 2) from congrArg nI (by omega)]; exact hl
                    exact ih210 (i24 + 1) (by omega) z25 z27 ⟨(by have q9 := (show z25.toInt = z25.toInt from rfl); (try have q8 := ti_all z25); omega), (by have q9 := (show z27.toInt = z27.toInt from rfl); (try have q8 := ti_all z27); omega), (by have := (show z27.toInt = z27.toInt from rfl); first | exact bf_n hj31 (by decide) (by show 0 ≤ SU wU (105 + 2 * i24); omega) (hl340.mp (by omega)) (by show SU wU (104 + 2 * i24) < x22.toInt; omega) (Or.inl (by omega)) (by omega) | exact bf_o hj31 (by decide) (Or.inr (Or.inr (Or.inl (by show x22.toInt ≤ SU wU (104 + 2 * i24); omega)))) | exact bf_o hj31 (by decide) (Or.inr (Or.inl (fun h9 => by have := hl340.mpr h9; omega))) | exact bf_o hj31 (by decide) (Or.inl (by show SU wU (105 + 2 * i24) < 0; omega))), (by have := (show z25.toInt = z25.toInt from rfl); first | exact af_n hj32 (by decide) (by show 0 ≤ SU wU (105 + 2 * i24); omega) (hl340.mp (by omega)) (by show x22.toInt < SU wU (104 + 2 * i24); omega) (Or.inl (by omega)) (by omega) | exact af_o hj32 (by decide) (Or.inr (Or.inr (Or.inl (by show SU wU (104 + 2 * i24) ≤ x22.toInt; omega)))) | exact af_o hj32 (by decide) (Or.inr (Or.inl (fun h9 => by have := hl340.mpr h9; omega))) | exact af_o hj32 (by decide) (Or.inl (by show SU wU (105 + 2 * i24) < 0; omega))), (by omega)⟩ _ _ hT hF hS m331 m332 ls (lv_sub hl [0, 1, 2, 3, 4, 5, 6] rfl)
                  · have t357 : x22.toInt < x327.toInt := ti_nle c355 rfl rfl
                    refine lv_iload hx hb dX12_wind_160 (lv_at hl 1 rfl) ?_
                    refine lv_if_lt (tgt := 182) hx hb dX12_wind_162 (by decide) (fun c358 => ?_) (fun c358 => ?_)
                    · have t359 : z25.toInt < 0 := ti_lt c358 rfl (by decide)
                      refine lv_iload hx hb dX12_wind_182 (lv_at hl 0 rfl) ?_
                      refine lv_istore (lv' := [(5, .int (nI (1504 + 2 * i24))), (6, .int (nI (1504 + 2 * i24))), (4, .int z27), (3, .int x22), (2, .int r1), (0, .ref o0), (1, .int ho)]) hx hb dX12_wind_184 hl (by decide) rfl (fun ls hl => ?_)
                      refine lv_iinc (v := nI (1504 + 2 * i24 + 2)) (lv' := [(6, .int (nI (1504 + 2 * i24 + 2))), (5, .int (nI (1504 + 2 * i24))), (4, .int z27), (3, .int x22), (2, .int r1), (0, .ref o0), (1, .int ho)]) hx hb dX12_wind_186 hl (k := 1) rfl (nI_add (1504 + 2 * i24) 2) (by decide) rfl (fun ls hl => ?_)
                      refine lv_goto (tgt := 56) hx hb dX12_wind_189 (by decide) ?_
                      have hl : lv_has ls 7 [(6, .int (nI (1504 + 2 * (i24 + 1)))), (5, .int (nI (1504 + 2 * i24))), (4, .int z27), (3, .int x22), (2, .int r1), (0, .ref o0), (1, .int ho)] := by rw [show nI (1504 + 2 * (i24 + 1)) = nI (1504 + 2 * i24 + 2) from congrArg nI (by omega)]; exact hl
                      exact ih210 (i24 + 1) (by omega) (nI (1504 + 2 * i24)) z27 ⟨(by have q9 := (show (nI (1504 + 2 * i24)).toInt = ((1504 + 2 * i24 : Nat) : Int) from (nI_toInt (by omega))); (try have q8 := ti_all (nI (1504 + 2 * i24))); omega), (by have q9 := (show z27.toInt = z27.toInt from rfl); (try have q8 := ti_all z27); omega), (by have := (show z27.toInt = z27.toInt from rfl); first | exact bf_n hj31 (by decide) (by show 0 ≤ SU wU (105 + 2 * i24); omega) (hl340.mp (by omega)) (by show SU wU (104 + 2 * i24) < x22.toInt; omega) (Or.inl (by omega)) (by omega) | exact bf_o hj31 (by decide) (Or.inr (Or.inr (Or.inl (by show x22.toInt ≤ SU wU (104 + 2 * i24); omega)))) | exact bf_o hj31 (by decide) (Or.inr (Or.inl (fun h9 => by have := hl340.mpr h9; omega))) | exact bf_o hj31 (by decide) (Or.inl (by show SU wU (105 + 2 * i24) < 0; omega))), (by have := (show (nI (1504 + 2 * i24)).toInt = ((1504 + 2 * i24 : Nat) : Int) from (nI_toInt (by omega))); first | exact af_n hj32 (by decide) (by show 0 ≤ SU wU (105 + 2 * i24); omega) (hl340.mp (by omega)) (by show x22.toInt < SU wU (104 + 2 * i24); omega) (Or.inl (by omega)) (by omega) | exact af_o hj32 (by decide) (Or.inr (Or.inr (Or.inl (by show SU wU (104 + 2 * i24) ≤ x22.toInt; omega)))) | exact af_o hj32 (by decide) (Or.inr (Or.inl (fun h9 => by have := hl340.mpr h9; omega))) | exact af_o hj32 (by decide) (Or.inl (by show SU wU (105 + 2 * i24) < 0; omega))), (by omega)⟩ _ _ hT hF hS m331 m332 ls (lv_sub hl [0, 1, 2, 3, 4, 5, 6] rfl)
                    · have t360 : 0 ≤ z25.toInt := ti_nlt c358 rfl (by decide)
                      obtain ⟨j361, hj361, ej361⟩ := afI.at hj32 (by have := (show z25.toInt = z25.toInt from rfl); omega)
                      refine lv_aload_n hx hb dX12_wind_165 rfl (lv_at hl 5 rfl) ?_
                      refine tw_get hx hb hts bF_X12 hown hK hT hr_o0 shm_0 rfl 1 (by decide) (ht_at hts 1 rfl) (fun _ h9 => h9) dX12_wind_166 (fun v9 m362 h9 => ?_)
                      obtain ⟨rfl, hg363⟩ := h9 _ rfl
                      refine lv_iload hx hb dX12_wind_169 (lv_at hl 0 rfl) ?_
                      refine tw_iald (i := (nI (1504 + 2 * i24))) hx hb hK hT hg11 shm_2 rfl (vp_in_nI (by omega) (by decide)) dX12_wind_171 (fun v9 m364 h9 => ?_)
                      obtain ⟨x365, rfl, gx365, kx365⟩ := (gp_at h9 (w_fre (by have q9 := tn_of (show (nI (1504 + 2 * i24)).toInt = ((1504 + 2 * i24 : Nat) : Int) from (nI_toInt (by omega))) (show (0 : Int) ≤ ((1504 + 2 * i24 : Nat) : Int) from by omega); omega)))
                      obtain rfl : x327 = x365 := (el_same m364 m335 rfl).symm
                      have t366 : x327.toInt = SU wU (104 + 2 * i24) := (by have qn := tn_of (show (nI (1504 + 2 * i24)).toInt = ((1504 + 2 * i24 : Nat) : Int) from (nI_toInt (by omega))) (by omega); have q := (wq_l hT hg11 (by omega) m335).2.2.1.2 ⟨by omega, by omega⟩; rw [show (nI (1504 + 2 * i24)).toNatClampNeg - 1400 = 104 + 2 * i24 from by omega] at q; exact q)
                      refine lv_aload_n hx hb dX12_wind_172 rfl (lv_at hl 5 rfl) ?_
                      refine tw_get hx hb hts bF_X12 hown hK hT hr_o0 shm_0 rfl 1 (by decide) (ht_at hts 1 rfl) (fun _ h9 => h9) dX12_wind_173 (fun v9 m367 h9 => ?_)
                      obtain ⟨rfl, hg368⟩ := h9 _ rfl
                      refine lv_iload hx hb dX12_wind_176 (lv_at hl 1 rfl) ?_
                      refine tw_iald (i := z25) hx hb hK hT hg11 shm_2 rfl (vin_t (a := z25.toInt) rfl (by omega) (by omega)) dX12_wind_178 (fun v9 m369 h9 => ?_)
                      obtain ⟨x370, rfl, gx370, kx370⟩ := (gp_any h9)
                      have t371 : x370.toInt = SU wU (104 + 2 * j361) := (by have qn := tn_of (show z25.toInt = z25.toInt from rfl) (by omega); have q := (wq_l hT hg11 (by omega) m369).2.2.1.2 ⟨by omega, by omega⟩; rw [show z25.toNatClampNeg - 1400 = 104 + 2 * j361 from by omega] at q; exact q)
                      refine lv_icmp_ge (tgt := 186) hx hb dX12_wind_179 (by decide) (fun c372 => ?_) (fun c372 => ?_)
                      · have t373 : x370.toInt ≤ x327.toInt := ti_le c372 rfl rfl
                        refine lv_iinc (v := nI (1504 + 2 * i24 + 2)) (lv' := [(6, .int (nI (1504 + 2 * i24 + 2))), (5, .int z25), (4, .int z27), (3, .int x22), (2, .int r1), (0, .ref o0), (1, .int ho)]) hx hb dX12_wind_186 hl (k := 0) rfl (nI_add (1504 + 2 * i24) 2) (by decide) rfl (fun ls hl => ?_)
                        refine lv_goto (tgt := 56) hx hb dX12_wind_189 (by decide) ?_
                        have hl : lv_has ls 7 [(6, .int (nI (1504 + 2 * (i24 + 1)))), (5, .int z25), (4, .int z27), (3, .int x22), (2, .int r1), (0, .ref o0), (1, .int ho)] := by rw [show nI (1504 + 2 * (i24 + 1)) = nI (1504 + 2 * i24 + 2) from congrArg nI (by omega)]; exact hl
                        exact ih210 (i24 + 1) (by omega) z25 z27 ⟨(by have q9 := (show z25.toInt = z25.toInt from rfl); (try have q8 := ti_all z25); omega), (by have q9 := (show z27.toInt = z27.toInt from rfl); (try have q8 := ti_all z27); omega), (by have := (show z27.toInt = z27.toInt from rfl); first | exact bf_n hj31 (by decide) (by show 0 ≤ SU wU (105 + 2 * i24); omega) (hl340.mp (by omega)) (by show SU wU (104 + 2 * i24) < x22.toInt; omega) (Or.inl (by omega)) (by omega) | exact bf_o hj31 (by decide) (Or.inr (Or.inr (Or.inl (by show x22.toInt ≤ SU wU (104 + 2 * i24); omega)))) | exact bf_o hj31 (by decide) (Or.inr (Or.inl (fun h9 => by have := hl340.mpr h9; omega))) | exact bf_o hj31 (by decide) (Or.inl (by show SU wU (105 + 2 * i24) < 0; omega))), (by have := (show z25.toInt = z25.toInt from rfl); first | exact af_n hj32 (by decide) (by show 0 ≤ SU wU (105 + 2 * i24); omega) (hl340.mp (by omega)) (by show x22.toInt < SU wU (104 + 2 * i24); omega) (Or.inr ⟨j361, by omega, by show SU wU (104 + 2 * i24) < SU wU (104 + 2 * j361); omega⟩) (by omega) | exact af_o hj32 (by decide) (Or.inr (Or.inr (Or.inr ⟨j361, by omega, by show SU wU (104 + 2 * j361) ≤ SU wU (104 + 2 * i24); omega⟩))) | exact af_n hj32 (by decide) (by show 0 ≤ SU wU (105 + 2 * i24); omega) (hl340.mp (by omega)) (by show x22.toInt < SU wU (104 + 2 * i24); omega) (Or.inl (by omega)) (by omega) | exact af_o hj32 (by decide) (Or.inr (Or.inr (Or.inl (by show SU wU (104 + 2 * i24) ≤ x22.toInt; omega)))) | exact af_o hj32 (by decide) (Or.inr (Or.inl (fun h9 => by have := hl340.mpr h9; omega))) | exact af_o hj32 (by decide) (Or.inl (by show SU wU (105 + 2 * i24) < 0; omega))), (by omega)⟩ _ _ hT hF hS m331 m332 ls (lv_sub hl [0, 1, 2, 3, 4, 5, 6] rfl)
                      · have t374 : x327.toInt < x370.toInt := ti_nle c372 rfl rfl
                        refine lv_iload hx hb dX12_wind_182 (lv_at hl 0 rfl) ?_
                        refine lv_istore (lv' := [(5, .int (nI (1504 + 2 * i24))), (6, .int (nI (1504 + 2 * i24))), (4, .int z27), (3, .int x22), (2, .int r1), (0, .ref o0), (1, .int ho)]) hx hb dX12_wind_184 hl (by decide) rfl (fun ls hl => ?_)
                        refine lv_iinc (v := nI (1504 + 2 * i24 + 2)) (lv' := [(6, .int (nI (1504 + 2 * i24 + 2))), (5, .int (nI (1504 + 2 * i24))), (4, .int z27), (3, .int x22), (2, .int r1), (0, .ref o0), (1, .int ho)]) hx hb dX12_wind_186 hl (k := 1) rfl (nI_add (1504 + 2 * i24) 2) (by decide) rfl (fun ls hl => ?_)
                        refine lv_goto (tgt := 56) hx hb dX12_wind_189 (by decide) ?_
                        have hl : lv_has ls 7 [(6, .int (nI (1504 + 2 * (i24 + 1)))), (5, .int (nI (1504 + 2 * i24))), (4, .int z27), (3, .int x22), (2, .int r1), (0, .ref o0), (1, .int ho)] := by rw [show nI (1504 + 2 * (i24 + 1)) = nI (1504 + 2 * i24 + 2) from congrArg nI (by omega)]; exact hl
                        exact ih210 (i24 + 1) (by omega) (nI (1504 + 2 * i24)) z27 ⟨(by have q9 := (show (nI (1504 + 2 * i24)).toInt = ((1504 + 2 * i24 : Nat) : Int) from (nI_toInt (by omega))); (try have q8 := ti_all (nI (1504 + 2 * i24))); omega), (by have q9 := (show z27.toInt = z27.toInt from rfl); (try have q8 := ti_all z27); omega), (by have := (show z27.toInt = z27.toInt from rfl); first | exact bf_n hj31 (by decide) (by show 0 ≤ SU wU (105 + 2 * i24); omega) (hl340.mp (by omega)) (by show SU wU (104 + 2 * i24) < x22.toInt; omega) (Or.inl (by omega)) (by omega) | exact bf_o hj31 (by decide) (Or.inr (Or.inr (Or.inl (by show x22.toInt ≤ SU wU (104 + 2 * i24); omega)))) | exact bf_o hj31 (by decide) (Or.inr (Or.inl (fun h9 => by have := hl340.mpr h9; omega))) | exact bf_o hj31 (by decide) (Or.inl (by show SU wU (105 + 2 * i24) < 0; omega))), (by have := (show (nI (1504 + 2 * i24)).toInt = ((1504 + 2 * i24 : Nat) : Int) from (nI_toInt (by omega))); first | exact af_n hj32 (by decide) (by show 0 ≤ SU wU (105 + 2 * i24); omega) (hl340.mp (by omega)) (by show x22.toInt < SU wU (104 + 2 * i24); omega) (Or.inr ⟨j361, by omega, by show SU wU (104 + 2 * i24) < SU wU (104 + 2 * j361); omega⟩) (by omega) | exact af_o hj32 (by decide) (Or.inr (Or.inr (Or.inr ⟨j361, by omega, by show SU wU (104 + 2 * j361) ≤ SU wU (104 + 2 * i24); omega⟩))) | exact af_n hj32 (by decide) (by show 0 ≤ SU wU (105 + 2 * i24); omega) (hl340.mp (by omega)) (by show x22.toInt < SU wU (104 + 2 * i24); omega) (Or.inl (by omega)) (by omega) | exact af_o hj32 (by decide) (Or.inr (Or.inr (Or.inl (by show SU wU (104 + 2 * i24) ≤ x22.toInt; omega)))) | exact af_o hj32 (by decide) (Or.inr (Or.inl (fun h9 => by have := hl340.mpr h9; omega))) | exact af_o hj32 (by decide) (Or.inl (by show SU wU (105 + 2 * i24) < 0; omega))), (by omega)⟩ _ _ hT hF hS m331 m332 ls (lv_sub hl [0, 1, 2, 3, 4, 5, 6] rfl)
                · have t375 : x327.toInt < x22.toInt := ti_nle c348 rfl rfl
                  refine lv_iload hx hb dX12_wind_123 (lv_at hl 2 rfl) ?_
                  refine lv_if_lt (tgt := 145) hx hb dX12_wind_125 (by decide) (fun c376 => ?_) (fun c376 => ?_)
                  · have t377 : z27.toInt < 0 := ti_lt c376 rfl (by decide)
                    refine lv_iload hx hb dX12_wind_145 (lv_at hl 0 rfl) ?_
                    refine lv_istore (lv' := [(4, .int (nI (1504 + 2 * i24))), (6, .int (nI (1504 + 2 * i24))), (5, .int z25), (3, .int x22), (2, .int r1), (0, .ref o0), (1, .int ho)]) hx hb dX12_wind_147 hl (by decide) rfl (fun ls hl => ?_)
                    refine lv_aload_n hx hb dX12_wind_149 rfl (lv_at hl 5 rfl) ?_
                    refine tw_get hx hb hts bF_X12 hown hK hT hr_o0 shm_0 rfl 1 (by decide) (ht_at hts 1 rfl) (fun _ h9 => h9) dX12_wind_150 (fun v9 m378 h9 => ?_)
                    obtain ⟨rfl, hg379⟩ := h9 _ rfl
                    refine lv_iload hx hb dX12_wind_153 (lv_at hl 1 rfl) ?_
                    refine tw_iald (i := (nI (1504 + 2 * i24))) hx hb hK hT hg11 shm_2 rfl (vp_in_nI (by omega) (by decide)) dX12_wind_155 (fun v9 m380 h9 => ?_)
                    obtain ⟨x381, rfl, gx381, kx381⟩ := (gp_at h9 (w_fre (by have q9 := tn_of (show (nI (1504 + 2 * i24)).toInt = ((1504 + 2 * i24 : Nat) : Int) from (nI_toInt (by omega))) (show (0 : Int) ≤ ((1504 + 2 * i24 : Nat) : Int) from by omega); omega)))
                    obtain rfl : x327 = x381 := (el_same m380 m335 rfl).symm
                    have t382 : x327.toInt = SU wU (104 + 2 * i24) := (by have qn := tn_of (show (nI (1504 + 2 * i24)).toInt = ((1504 + 2 * i24 : Nat) : Int) from (nI_toInt (by omega))) (by omega); have q := (wq_l hT hg11 (by omega) m335).2.2.1.2 ⟨by omega, by omega⟩; rw [show (nI (1504 + 2 * i24)).toNatClampNeg - 1400 = 104 + 2 * i24 from by omega] at q; exact q)
                    refine lv_iload_n hx hb dX12_wind_156 rfl (lv_at hl 3 rfl) ?_
                    refine lv_icmp_le (tgt := 186) hx hb dX12_wind_157 (by decide) (fun c383 => ?_) (fun c383 => ?_)
                    · have t384 : x327.toInt ≤ x22.toInt := ti_le c383 rfl rfl
                      refine lv_iinc (v := nI (1504 + 2 * i24 + 2)) (lv' := [(6, .int (nI (1504 + 2 * i24 + 2))), (4, .int (nI (1504 + 2 * i24))), (5, .int z25), (3, .int x22), (2, .int r1), (0, .ref o0), (1, .int ho)]) hx hb dX12_wind_186 hl (k := 1) rfl (nI_add (1504 + 2 * i24) 2) (by decide) rfl (fun ls hl => ?_)
                      refine lv_goto (tgt := 56) hx hb dX12_wind_189 (by decide) ?_
                      have hl : lv_has ls 7 [(6, .int (nI (1504 + 2 * (i24 + 1)))), (4, .int (nI (1504 + 2 * i24))), (5, .int z25), (3, .int x22), (2, .int r1), (0, .ref o0), (1, .int ho)] := by rw [show nI (1504 + 2 * (i24 + 1)) = nI (1504 + 2 * i24 + 2) from congrArg nI (by omega)]; exact hl
                      exact ih210 (i24 + 1) (by omega) z25 (nI (1504 + 2 * i24)) ⟨(by have q9 := (show z25.toInt = z25.toInt from rfl); (try have q8 := ti_all z25); omega), (by have q9 := (show (nI (1504 + 2 * i24)).toInt = ((1504 + 2 * i24 : Nat) : Int) from (nI_toInt (by omega))); (try have q8 := ti_all (nI (1504 + 2 * i24))); omega), (by have := (show (nI (1504 + 2 * i24)).toInt = ((1504 + 2 * i24 : Nat) : Int) from (nI_toInt (by omega))); first | exact bf_n hj31 (by decide) (by show 0 ≤ SU wU (105 + 2 * i24); omega) (hl340.mp (by omega)) (by show SU wU (104 + 2 * i24) < x22.toInt; omega) (Or.inl (by omega)) (by omega) | exact bf_o hj31 (by decide) (Or.inr (Or.inr (Or.inl (by show x22.toInt ≤ SU wU (104 + 2 * i24); omega)))) | exact bf_o hj31 (by decide) (Or.inr (Or.inl (fun h9 => by have := hl340.mpr h9; omega))) | exact bf_o hj31 (by decide) (Or.inl (by show SU wU (105 + 2 * i24) < 0; omega))), (by have := (show z25.toInt = z25.toInt from rfl); first | exact af_n hj32 (by decide) (by show 0 ≤ SU wU (105 + 2 * i24); omega) (hl340.mp (by omega)) (by show x22.toInt < SU wU (104 + 2 * i24); omega) (Or.inl (by omega)) (by omega) | exact af_o hj32 (by decide) (Or.inr (Or.inr (Or.inl (by show SU wU (104 + 2 * i24) ≤ x22.toInt; omega)))) | exact af_o hj32 (by decide) (Or.inr (Or.inl (fun h9 => by have := hl340.mpr h9; omega))) | exact af_o hj32 (by decide) (Or.inl (by show SU wU (105 + 2 * i24) < 0; omega))), (by omega)⟩ _ _ hT hF hS m331 m332 ls (lv_sub hl [0, 2, 1, 3, 4, 5, 6] rfl)
                    · have t385 : x22.toInt < x327.toInt := ti_nle c383 rfl rfl
                      refine lv_iload hx hb dX12_wind_160 (lv_at hl 2 rfl) ?_
                      refine lv_if_lt (tgt := 182) hx hb dX12_wind_162 (by decide) (fun c386 => ?_) (fun c386 => ?_)
                      · have t387 : z25.toInt < 0 := ti_lt c386 rfl (by decide)
                        refine lv_iload hx hb dX12_wind_182 (lv_at hl 1 rfl) ?_
                        refine lv_istore (lv' := [(5, .int (nI (1504 + 2 * i24))), (4, .int (nI (1504 + 2 * i24))), (6, .int (nI (1504 + 2 * i24))), (3, .int x22), (2, .int r1), (0, .ref o0), (1, .int ho)]) hx hb dX12_wind_184 hl (by decide) rfl (fun ls hl => ?_)
                        refine lv_iinc (v := nI (1504 + 2 * i24 + 2)) (lv' := [(6, .int (nI (1504 + 2 * i24 + 2))), (5, .int (nI (1504 + 2 * i24))), (4, .int (nI (1504 + 2 * i24))), (3, .int x22), (2, .int r1), (0, .ref o0), (1, .int ho)]) hx hb dX12_wind_186 hl (k := 2) rfl (nI_add (1504 + 2 * i24) 2) (by decide) rfl (fun ls hl => ?_)
                        refine lv_goto (tgt := 56) hx hb dX12_wind_189 (by decide) ?_
                        have hl : lv_has ls 7 [(6, .int (nI (1504 + 2 * (i24 + 1)))), (5, .int (nI (1504 + 2 * i24))), (4, .int (nI (1504 + 2 * i24))), (3, .int x22), (2, .int r1), (0, .ref o0), (1, .int ho)] := by rw [show nI (1504 + 2 * (i24 + 1)) = nI (1504 + 2 * i24 + 2) from congrArg nI (by omega)]; exact hl
                        exact ih210 (i24 + 1) (by omega) (nI (1504 + 2 * i24)) (nI (1504 + 2 * i24)) ⟨(by have q9 := (show (nI (1504 + 2 * i24)).toInt = ((1504 + 2 * i24 : Nat) : Int) from (nI_toInt (by omega))); (try have q8 := ti_all (nI (1504 + 2 * i24))); omega), (by have q9 := (show (nI (1504 + 2 * i24)).toInt = ((1504 + 2 * i24 : Nat) : Int) from (nI_toInt (by omega))); (try have q8 := ti_all (nI (1504 + 2 * i24))); omega), (by have := (show (nI (1504 + 2 * i24)).toInt = ((1504 + 2 * i24 : Nat) : Int) from (nI_toInt (by omega))); first | exact bf_n hj31 (by decide) (by show 0 ≤ SU wU (105 + 2 * i24); omega) (hl340.mp (by omega)) (by show SU wU (104 + 2 * i24) < x22.toInt; omega) (Or.inl (by omega)) (by omega) | exact bf_o hj31 (by decide) (Or.inr (Or.inr (Or.inl (by show x22.toInt ≤ SU wU (104 + 2 * i24); omega)))) | exact bf_o hj31 (by decide) (Or.inr (Or.inl (fun h9 => by have := hl340.mpr h9; omega))) | exact bf_o hj31 (by decide) (Or.inl (by show SU wU (105 + 2 * i24) < 0; omega))), (by have := (show (nI (1504 + 2 * i24)).toInt = ((1504 + 2 * i24 : Nat) : Int) from (nI_toInt (by omega))); first | exact af_n hj32 (by decide) (by show 0 ≤ SU wU (105 + 2 * i24); omega) (hl340.mp (by omega)) (by show x22.toInt < SU wU (104 + 2 * i24); omega) (Or.inl (by omega)) (by omega) | exact af_o hj32 (by decide) (Or.inr (Or.inr (Or.inl (by show SU wU (104 + 2 * i24) ≤ x22.toInt; omega)))) | exact af_o hj32 (by decide) (Or.inr (Or.inl (fun h9 => by have := hl340.mpr h9; omega))) | exact af_o hj32 (by decide) (Or.inl (by show SU wU (105 + 2 * i24) < 0; omega))), (by omega)⟩ _ _ hT hF hS m331 m332 ls (lv_sub hl [0, 1, 2, 3, 4, 5, 6] rfl)
                      · have t388 : 0 ≤ z25.toInt := ti_nlt c386 rfl (by decide)
                        obtain ⟨j389, hj389, ej389⟩ := afI.at hj32 (by have := (show z25.toInt = z25.toInt from rfl); omega)
                        refine lv_aload_n hx hb dX12_wind_165 rfl (lv_at hl 5 rfl) ?_
                        refine tw_get hx hb hts bF_X12 hown hK hT hr_o0 shm_0 rfl 1 (by decide) (ht_at hts 1 rfl) (fun _ h9 => h9) dX12_wind_166 (fun v9 m390 h9 => ?_)
                        obtain ⟨rfl, hg391⟩ := h9 _ rfl
                        refine lv_iload hx hb dX12_wind_169 (lv_at hl 1 rfl) ?_
                        refine tw_iald (i := (nI (1504 + 2 * i24))) hx hb hK hT hg11 shm_2 rfl (vp_in_nI (by omega) (by decide)) dX12_wind_171 (fun v9 m392 h9 => ?_)
                        obtain ⟨x393, rfl, gx393, kx393⟩ := (gp_at h9 (w_fre (by have q9 := tn_of (show (nI (1504 + 2 * i24)).toInt = ((1504 + 2 * i24 : Nat) : Int) from (nI_toInt (by omega))) (show (0 : Int) ≤ ((1504 + 2 * i24 : Nat) : Int) from by omega); omega)))
                        obtain rfl : x327 = x393 := (el_same m392 m335 rfl).symm
                        have t394 : x327.toInt = SU wU (104 + 2 * i24) := (by have qn := tn_of (show (nI (1504 + 2 * i24)).toInt = ((1504 + 2 * i24 : Nat) : Int) from (nI_toInt (by omega))) (by omega); have q := (wq_l hT hg11 (by omega) m335).2.2.1.2 ⟨by omega, by omega⟩; rw [show (nI (1504 + 2 * i24)).toNatClampNeg - 1400 = 104 + 2 * i24 from by omega] at q; exact q)
                        refine lv_aload_n hx hb dX12_wind_172 rfl (lv_at hl 5 rfl) ?_
                        refine tw_get hx hb hts bF_X12 hown hK hT hr_o0 shm_0 rfl 1 (by decide) (ht_at hts 1 rfl) (fun _ h9 => h9) dX12_wind_173 (fun v9 m395 h9 => ?_)
                        obtain ⟨rfl, hg396⟩ := h9 _ rfl
                        refine lv_iload hx hb dX12_wind_176 (lv_at hl 2 rfl) ?_
                        refine tw_iald (i := z25) hx hb hK hT hg11 shm_2 rfl (vin_t (a := z25.toInt) rfl (by omega) (by omega)) dX12_wind_178 (fun v9 m397 h9 => ?_)
                        obtain ⟨x398, rfl, gx398, kx398⟩ := (gp_any h9)
                        have t399 : x398.toInt = SU wU (104 + 2 * j389) := (by have qn := tn_of (show z25.toInt = z25.toInt from rfl) (by omega); have q := (wq_l hT hg11 (by omega) m397).2.2.1.2 ⟨by omega, by omega⟩; rw [show z25.toNatClampNeg - 1400 = 104 + 2 * j389 from by omega] at q; exact q)
                        refine lv_icmp_ge (tgt := 186) hx hb dX12_wind_179 (by decide) (fun c400 => ?_) (fun c400 => ?_)
                        · have t401 : x398.toInt ≤ x327.toInt := ti_le c400 rfl rfl
                          refine lv_iinc (v := nI (1504 + 2 * i24 + 2)) (lv' := [(6, .int (nI (1504 + 2 * i24 + 2))), (4, .int (nI (1504 + 2 * i24))), (5, .int z25), (3, .int x22), (2, .int r1), (0, .ref o0), (1, .int ho)]) hx hb dX12_wind_186 hl (k := 1) rfl (nI_add (1504 + 2 * i24) 2) (by decide) rfl (fun ls hl => ?_)
                          refine lv_goto (tgt := 56) hx hb dX12_wind_189 (by decide) ?_
                          have hl : lv_has ls 7 [(6, .int (nI (1504 + 2 * (i24 + 1)))), (4, .int (nI (1504 + 2 * i24))), (5, .int z25), (3, .int x22), (2, .int r1), (0, .ref o0), (1, .int ho)] := by rw [show nI (1504 + 2 * (i24 + 1)) = nI (1504 + 2 * i24 + 2) from congrArg nI (by omega)]; exact hl
                          exact ih210 (i24 + 1) (by omega) z25 (nI (1504 + 2 * i24)) ⟨(by have q9 := (show z25.toInt = z25.toInt from rfl); (try have q8 := ti_all z25); omega), (by have q9 := (show (nI (1504 + 2 * i24)).toInt = ((1504 + 2 * i24 : Nat) : Int) from (nI_toInt (by omega))); (try have q8 := ti_all (nI (1504 + 2 * i24))); omega), (by have := (show (nI (1504 + 2 * i24)).toInt = ((1504 + 2 * i24 : Nat) : Int) from (nI_toInt (by omega))); first | exact bf_n hj31 (by decide) (by show 0 ≤ SU wU (105 + 2 * i24); omega) (hl340.mp (by omega)) (by show SU wU (104 + 2 * i24) < x22.toInt; omega) (Or.inl (by omega)) (by omega) | exact bf_o hj31 (by decide) (Or.inr (Or.inr (Or.inl (by show x22.toInt ≤ SU wU (104 + 2 * i24); omega)))) | exact bf_o hj31 (by decide) (Or.inr (Or.inl (fun h9 => by have := hl340.mpr h9; omega))) | exact bf_o hj31 (by decide) (Or.inl (by show SU wU (105 + 2 * i24) < 0; omega))), (by have := (show z25.toInt = z25.toInt from rfl); first | exact af_n hj32 (by decide) (by show 0 ≤ SU wU (105 + 2 * i24); omega) (hl340.mp (by omega)) (by show x22.toInt < SU wU (104 + 2 * i24); omega) (Or.inr ⟨j389, by omega, by show SU wU (104 + 2 * i24) < SU wU (104 + 2 * j389); omega⟩) (by omega) | exact af_o hj32 (by decide) (Or.inr (Or.inr (Or.inr ⟨j389, by omega, by show SU wU (104 + 2 * j389) ≤ SU wU (104 + 2 * i24); omega⟩))) | exact af_n hj32 (by decide) (by show 0 ≤ SU wU (105 + 2 * i24); omega) (hl340.mp (by omega)) (by show x22.toInt < SU wU (104 + 2 * i24); omega) (Or.inl (by omega)) (by omega) | exact af_o hj32 (by decide) (Or.inr (Or.inr (Or.inl (by show SU wU (104 + 2 * i24) ≤ x22.toInt; omega)))) | exact af_o hj32 (by decide) (Or.inr (Or.inl (fun h9 => by have := hl340.mpr h9; omega))) | exact af_o hj32 (by decide) (Or.inl (by show SU wU (105 + 2 * i24) < 0; omega))), (by omega)⟩ _ _ hT hF hS m331 m332 ls (lv_sub hl [0, 2, 1, 3, 4, 5, 6] rfl)
                        · have t402 : x327.toInt < x398.toInt := ti_nle c400 rfl rfl
                          refine lv_iload hx hb dX12_wind_182 (lv_at hl 1 rfl) ?_
                          refine lv_istore (lv' := [(5, .int (nI (1504 + 2 * i24))), (4, .int (nI (1504 + 2 * i24))), (6, .int (nI (1504 + 2 * i24))), (3, .int x22), (2, .int r1), (0, .ref o0), (1, .int ho)]) hx hb dX12_wind_184 hl (by decide) rfl (fun ls hl => ?_)
                          refine lv_iinc (v := nI (1504 + 2 * i24 + 2)) (lv' := [(6, .int (nI (1504 + 2 * i24 + 2))), (5, .int (nI (1504 + 2 * i24))), (4, .int (nI (1504 + 2 * i24))), (3, .int x22), (2, .int r1), (0, .ref o0), (1, .int ho)]) hx hb dX12_wind_186 hl (k := 2) rfl (nI_add (1504 + 2 * i24) 2) (by decide) rfl (fun ls hl => ?_)
                          refine lv_goto (tgt := 56) hx hb dX12_wind_189 (by decide) ?_
                          have hl : lv_has ls 7 [(6, .int (nI (1504 + 2 * (i24 + 1)))), (5, .int (nI (1504 + 2 * i24))), (4, .int (nI (1504 + 2 * i24))), (3, .int x22), (2, .int r1), (0, .ref o0), (1, .int ho)] := by rw [show nI (1504 + 2 * (i24 + 1)) = nI (1504 + 2 * i24 + 2) from congrArg nI (by omega)]; exact hl
                          exact ih210 (i24 + 1) (by omega) (nI (1504 + 2 * i24)) (nI (1504 + 2 * i24)) ⟨(by have q9 := (show (nI (1504 + 2 * i24)).toInt = ((1504 + 2 * i24 : Nat) : Int) from (nI_toInt (by omega))); (try have q8 := ti_all (nI (1504 + 2 * i24))); omega), (by have q9 := (show (nI (1504 + 2 * i24)).toInt = ((1504 + 2 * i24 : Nat) : Int) from (nI_toInt (by omega))); (try have q8 := ti_all (nI (1504 + 2 * i24))); omega), (by have := (show (nI (1504 + 2 * i24)).toInt = ((1504 + 2 * i24 : Nat) : Int) from (nI_toInt (by omega))); first | exact bf_n hj31 (by decide) (by show 0 ≤ SU wU (105 + 2 * i24); omega) (hl340.mp (by omega)) (by show SU wU (104 + 2 * i24) < x22.toInt; omega) (Or.inl (by omega)) (by omega) | exact bf_o hj31 (by decide) (Or.inr (Or.inr (Or.inl (by show x22.toInt ≤ SU wU (104 + 2 * i24); omega)))) | exact bf_o hj31 (by decide) (Or.inr (Or.inl (fun h9 => by have := hl340.mpr h9; omega))) | exact bf_o hj31 (by decide) (Or.inl (by show SU wU (105 + 2 * i24) < 0; omega))), (by have := (show (nI (1504 + 2 * i24)).toInt = ((1504 + 2 * i24 : Nat) : Int) from (nI_toInt (by omega))); first | exact af_n hj32 (by decide) (by show 0 ≤ SU wU (105 + 2 * i24); omega) (hl340.mp (by omega)) (by show x22.toInt < SU wU (104 + 2 * i24); omega) (Or.inr ⟨j389, by omega, by show SU wU (104 + 2 * i24) < SU wU (104 + 2 * j389); omega⟩) (by omega) | exact af_o hj32 (by decide) (Or.inr (Or.inr (Or.inr ⟨j389, by omega, by show SU wU (104 + 2 * j389) ≤ SU wU (104 + 2 * i24); omega⟩))) | exact af_n hj32 (by decide) (by show 0 ≤ SU wU (105 + 2 * i24); omega) (hl340.mp (by omega)) (by show x22.toInt < SU wU (104 + 2 * i24); omega) (Or.inl (by omega)) (by omega) | exact af_o hj32 (by decide) (Or.inr (Or.inr (Or.inl (by show SU wU (104 + 2 * i24) ≤ x22.toInt; omega)))) | exact af_o hj32 (by decide) (Or.inr (Or.inl (fun h9 => by have := hl340.mpr h9; omega))) | exact af_o hj32 (by decide) (Or.inl (by show SU wU (105 + 2 * i24) < 0; omega))), (by omega)⟩ _ _ hT hF hS m331 m332 ls (lv_sub hl [0, 1, 2, 3, 4, 5, 6] rfl)
                  · have t403 : 0 ≤ z27.toInt := ti_nlt c376 rfl (by decide)
                    obtain ⟨j404, hj404, ej404⟩ := bfI.at hj31 (by have := (show z27.toInt = z27.toInt from rfl); omega)
                    refine lv_aload_n hx hb dX12_wind_128 rfl (lv_at hl 5 rfl) ?_
                    refine tw_get hx hb hts bF_X12 hown hK hT hr_o0 shm_0 rfl 1 (by decide) (ht_at hts 1 rfl) (fun _ h9 => h9) dX12_wind_129 (fun v9 m405 h9 => ?_)
                    obtain ⟨rfl, hg406⟩ := h9 _ rfl
                    refine lv_iload hx hb dX12_wind_132 (lv_at hl 0 rfl) ?_
                    refine tw_iald (i := (nI (1504 + 2 * i24))) hx hb hK hT hg11 shm_2 rfl (vp_in_nI (by omega) (by decide)) dX12_wind_134 (fun v9 m407 h9 => ?_)
                    obtain ⟨x408, rfl, gx408, kx408⟩ := (gp_at h9 (w_fre (by have q9 := tn_of (show (nI (1504 + 2 * i24)).toInt = ((1504 + 2 * i24 : Nat) : Int) from (nI_toInt (by omega))) (show (0 : Int) ≤ ((1504 + 2 * i24 : Nat) : Int) from by omega); omega)))
                    obtain rfl : x327 = x408 := (el_same m407 m335 rfl).symm
                    have t409 : x327.toInt = SU wU (104 + 2 * i24) := (by have qn := tn_of (show (nI (1504 + 2 * i24)).toInt = ((1504 + 2 * i24 : Nat) : Int) from (nI_toInt (by omega))) (by omega); have q := (wq_l hT hg11 (by omega) m335).2.2.1.2 ⟨by omega, by omega⟩; rw [show (nI (1504 + 2 * i24)).toNatClampNeg - 1400 = 104 + 2 * i24 from by omega] at q; exact q)
                    refine lv_aload_n hx hb dX12_wind_135 rfl (lv_at hl 5 rfl) ?_
                    refine tw_get hx hb hts bF_X12 hown hK hT hr_o0 shm_0 rfl 1 (by decide) (ht_at hts 1 rfl) (fun _ h9 => h9) dX12_wind_136 (fun v9 m410 h9 => ?_)
                    obtain ⟨rfl, hg411⟩ := h9 _ rfl
                    refine lv_iload hx hb dX12_wind_139 (lv_at hl 2 rfl) ?_
                    refine tw_iald (i := z27) hx hb hK hT hg11 shm_2 rfl (vin_t (a := z27.toInt) rfl (by omega) (by omega)) dX12_wind_141 (fun v9 m412 h9 => ?_)
                    obtain ⟨x413, rfl, gx413, kx413⟩ := (gp_any h9)
                    have t414 : x413.toInt = SU wU (104 + 2 * j404) := (by have qn := tn_of (show z27.toInt = z27.toInt from rfl) (by omega); have q := (wq_l hT hg11 (by omega) m412).2.2.1.2 ⟨by omega, by omega⟩; rw [show z27.toNatClampNeg - 1400 = 104 + 2 * j404 from by omega] at q; exact q)
                    refine lv_icmp_le (tgt := 149) hx hb dX12_wind_142 (by decide) (fun c415 => ?_) (fun c415 => ?_)
                    · have t416 : x327.toInt ≤ x413.toInt := ti_le c415 rfl rfl
                      refine lv_aload_n hx hb dX12_wind_149 rfl (lv_at hl 5 rfl) ?_
                      refine tw_get hx hb hts bF_X12 hown hK hT hr_o0 shm_0 rfl 1 (by decide) (ht_at hts 1 rfl) (fun _ h9 => h9) dX12_wind_150 (fun v9 m417 h9 => ?_)
                      obtain ⟨rfl, hg418⟩ := h9 _ rfl
                      refine lv_iload hx hb dX12_wind_153 (lv_at hl 0 rfl) ?_
                      refine tw_iald (i := (nI (1504 + 2 * i24))) hx hb hK hT hg11 shm_2 rfl (vp_in_nI (by omega) (by decide)) dX12_wind_155 (fun v9 m419 h9 => ?_)
                      obtain ⟨x420, rfl, gx420, kx420⟩ := (gp_at h9 (w_fre (by have q9 := tn_of (show (nI (1504 + 2 * i24)).toInt = ((1504 + 2 * i24 : Nat) : Int) from (nI_toInt (by omega))) (show (0 : Int) ≤ ((1504 + 2 * i24 : Nat) : Int) from by omega); omega)))
                      obtain rfl : x327 = x420 := (el_same m419 m335 rfl).symm
                      have t421 : x327.toInt = SU wU (104 + 2 * i24) := (by have qn := tn_of (show (nI (1504 + 2 * i24)).toInt = ((1504 + 2 * i24 : Nat) : Int) from (nI_toInt (by omega))) (by omega); have q := (wq_l hT hg11 (by omega) m335).2.2.1.2 ⟨by omega, by omega⟩; rw [show (nI (1504 + 2 * i24)).toNatClampNeg - 1400 = 104 + 2 * i24 from by omega] at q; exact q)
                      refine lv_iload_n hx hb dX12_wind_156 rfl (lv_at hl 3 rfl) ?_
                      refine lv_icmp_le (tgt := 186) hx hb dX12_wind_157 (by decide) (fun c422 => ?_) (fun c422 => ?_)
                      · have t423 : x327.toInt ≤ x22.toInt := ti_le c422 rfl rfl
                        refine lv_iinc (v := nI (1504 + 2 * i24 + 2)) (lv' := [(6, .int (nI (1504 + 2 * i24 + 2))), (5, .int z25), (4, .int z27), (3, .int x22), (2, .int r1), (0, .ref o0), (1, .int ho)]) hx hb dX12_wind_186 hl (k := 0) rfl (nI_add (1504 + 2 * i24) 2) (by decide) rfl (fun ls hl => ?_)
                        refine lv_goto (tgt := 56) hx hb dX12_wind_189 (by decide) ?_
                        have hl : lv_has ls 7 [(6, .int (nI (1504 + 2 * (i24 + 1)))), (5, .int z25), (4, .int z27), (3, .int x22), (2, .int r1), (0, .ref o0), (1, .int ho)] := by rw [show nI (1504 + 2 * (i24 + 1)) = nI (1504 + 2 * i24 + 2) from congrArg nI (by omega)]; exact hl
                        exact ih210 (i24 + 1) (by omega) z25 z27 ⟨(by have q9 := (show z25.toInt = z25.toInt from rfl); (try have q8 := ti_all z25); omega), (by have q9 := (show z27.toInt = z27.toInt from rfl); (try have q8 := ti_all z27); omega), (by have := (show z27.toInt = z27.toInt from rfl); first | exact bf_n hj31 (by decide) (by show 0 ≤ SU wU (105 + 2 * i24); omega) (hl340.mp (by omega)) (by show SU wU (104 + 2 * i24) < x22.toInt; omega) (Or.inr ⟨j404, by omega, by show SU wU (104 + 2 * j404) < SU wU (104 + 2 * i24); omega⟩) (by omega) | exact bf_o hj31 (by decide) (Or.inr (Or.inr (Or.inr ⟨j404, by omega, by show SU wU (104 + 2 * i24) ≤ SU wU (104 + 2 * j404); omega⟩))) | exact bf_n hj31 (by decide) (by show 0 ≤ SU wU (105 + 2 * i24); omega) (hl340.mp (by omega)) (by show SU wU (104 + 2 * i24) < x22.toInt; omega) (Or.inl (by omega)) (by omega) | exact bf_o hj31 (by decide) (Or.inr (Or.inr (Or.inl (by show x22.toInt ≤ SU wU (104 + 2 * i24); omega)))) | exact bf_o hj31 (by decide) (Or.inr (Or.inl (fun h9 => by have := hl340.mpr h9; omega))) | exact bf_o hj31 (by decide) (Or.inl (by show SU wU (105 + 2 * i24) < 0; omega))), (by have := (show z25.toInt = z25.toInt from rfl); first | exact af_n hj32 (by decide) (by show 0 ≤ SU wU (105 + 2 * i24); omega) (hl340.mp (by omega)) (by show x22.toInt < SU wU (104 + 2 * i24); omega) (Or.inl (by omega)) (by omega) | exact af_o hj32 (by decide) (Or.inr (Or.inr (Or.inl (by show SU wU (104 + 2 * i24) ≤ x22.toInt; omega)))) | exact af_o hj32 (by decide) (Or.inr (Or.inl (fun h9 => by have := hl340.mpr h9; omega))) | exact af_o hj32 (by decide) (Or.inl (by show SU wU (105 + 2 * i24) < 0; omega))), (by omega)⟩ _ _ hT hF hS m331 m332 ls (lv_sub hl [0, 1, 2, 3, 4, 5, 6] rfl)
                      · have t424 : x22.toInt < x327.toInt := ti_nle c422 rfl rfl
                        refine lv_iload hx hb dX12_wind_160 (lv_at hl 1 rfl) ?_
                        refine lv_if_lt (tgt := 182) hx hb dX12_wind_162 (by decide) (fun c425 => ?_) (fun c425 => ?_)
                        · have t426 : z25.toInt < 0 := ti_lt c425 rfl (by decide)
                          refine lv_iload hx hb dX12_wind_182 (lv_at hl 0 rfl) ?_
                          refine lv_istore (lv' := [(5, .int (nI (1504 + 2 * i24))), (6, .int (nI (1504 + 2 * i24))), (4, .int z27), (3, .int x22), (2, .int r1), (0, .ref o0), (1, .int ho)]) hx hb dX12_wind_184 hl (by decide) rfl (fun ls hl => ?_)
                          refine lv_iinc (v := nI (1504 + 2 * i24 + 2)) (lv' := [(6, .int (nI (1504 + 2 * i24 + 2))), (5, .int (nI (1504 + 2 * i24))), (4, .int z27), (3, .int x22), (2, .int r1), (0, .ref o0), (1, .int ho)]) hx hb dX12_wind_186 hl (k := 1) rfl (nI_add (1504 + 2 * i24) 2) (by decide) rfl (fun ls hl => ?_)
                          refine lv_goto (tgt := 56) hx hb dX12_wind_189 (by decide) ?_
                          have hl : lv_has ls 7 [(6, .int (nI (1504 + 2 * (i24 + 1)))), (5, .int (nI (1504 + 2 * i24))), (4, .int z27), (3, .int x22), (2, .int r1), (0, .ref o0), (1, .int ho)] := by rw [show nI (1504 + 2 * (i24 + 1)) = nI (1504 + 2 * i24 + 2) from congrArg nI (by omega)]; exact hl
                          exact ih210 (i24 + 1) (by omega) (nI (1504 + 2 * i24)) z27 ⟨(by have q9 := (show (nI (1504 + 2 * i24)).toInt = ((1504 + 2 * i24 : Nat) : Int) from (nI_toInt (by omega))); (try have q8 := ti_all (nI (1504 + 2 * i24))); omega), (by have q9 := (show z27.toInt = z27.toInt from rfl); (try have q8 := ti_all z27); omega), (by have := (show z27.toInt = z27.toInt from rfl); first | exact bf_n hj31 (by decide) (by show 0 ≤ SU wU (105 + 2 * i24); omega) (hl340.mp (by omega)) (by show SU wU (104 + 2 * i24) < x22.toInt; omega) (Or.inr ⟨j404, by omega, by show SU wU (104 + 2 * j404) < SU wU (104 + 2 * i24); omega⟩) (by omega) | exact bf_o hj31 (by decide) (Or.inr (Or.inr (Or.inr ⟨j404, by omega, by show SU wU (104 + 2 * i24) ≤ SU wU (104 + 2 * j404); omega⟩))) | exact bf_n hj31 (by decide) (by show 0 ≤ SU wU (105 + 2 * i24); omega) (hl340.mp (by omega)) (by show SU wU (104 + 2 * i24) < x22.toInt; omega) (Or.inl (by omega)) (by omega) | exact bf_o hj31 (by decide) (Or.inr (Or.inr (Or.inl (by show x22.toInt ≤ SU wU (104 + 2 * i24); omega)))) | exact bf_o hj31 (by decide) (Or.inr (Or.inl (fun h9 => by have := hl340.mpr h9; omega))) | exact bf_o hj31 (by decide) (Or.inl (by show SU wU (105 + 2 * i24) < 0; omega))), (by have := (show (nI (1504 + 2 * i24)).toInt = ((1504 + 2 * i24 : Nat) : Int) from (nI_toInt (by omega))); first | exact af_n hj32 (by decide) (by show 0 ≤ SU wU (105 + 2 * i24); omega) (hl340.mp (by omega)) (by show x22.toInt < SU wU (104 + 2 * i24); omega) (Or.inl (by omega)) (by omega) | exact af_o hj32 (by decide) (Or.inr (Or.inr (Or.inl (by show SU wU (104 + 2 * i24) ≤ x22.toInt; omega)))) | exact af_o hj32 (by decide) (Or.inr (Or.inl (fun h9 => by have := hl340.mpr h9; omega))) | exact af_o hj32 (by decide) (Or.inl (by show SU wU (105 + 2 * i24) < 0; omega))), (by omega)⟩ _ _ hT hF hS m331 m332 ls (lv_sub hl [0, 1, 2, 3, 4, 5, 6] rfl)
                        · have t427 : 0 ≤ z25.toInt := ti_nlt c425 rfl (by decide)
                          obtain ⟨j428, hj428, ej428⟩ := afI.at hj32 (by have := (show z25.toInt = z25.toInt from rfl); omega)
                          refine lv_aload_n hx hb dX12_wind_165 rfl (lv_at hl 5 rfl) ?_
                          refine tw_get hx hb hts bF_X12 hown hK hT hr_o0 shm_0 rfl 1 (by decide) (ht_at hts 1 rfl) (fun _ h9 => h9) dX12_wind_166 (fun v9 m429 h9 => ?_)
                          obtain ⟨rfl, hg430⟩ := h9 _ rfl
                          refine lv_iload hx hb dX12_wind_169 (lv_at hl 0 rfl) ?_
                          refine tw_iald (i := (nI (1504 + 2 * i24))) hx hb hK hT hg11 shm_2 rfl (vp_in_nI (by omega) (by decide)) dX12_wind_171 (fun v9 m431 h9 => ?_)
                          obtain ⟨x432, rfl, gx432, kx432⟩ := (gp_at h9 (w_fre (by have q9 := tn_of (show (nI (1504 + 2 * i24)).toInt = ((1504 + 2 * i24 : Nat) : Int) from (nI_toInt (by omega))) (show (0 : Int) ≤ ((1504 + 2 * i24 : Nat) : Int) from by omega); omega)))
                          obtain rfl : x327 = x432 := (el_same m431 m335 rfl).symm
                          have t433 : x327.toInt = SU wU (104 + 2 * i24) := (by have qn := tn_of (show (nI (1504 + 2 * i24)).toInt = ((1504 + 2 * i24 : Nat) : Int) from (nI_toInt (by omega))) (by omega); have q := (wq_l hT hg11 (by omega) m335).2.2.1.2 ⟨by omega, by omega⟩; rw [show (nI (1504 + 2 * i24)).toNatClampNeg - 1400 = 104 + 2 * i24 from by omega] at q; exact q)
                          refine lv_aload_n hx hb dX12_wind_172 rfl (lv_at hl 5 rfl) ?_
                          refine tw_get hx hb hts bF_X12 hown hK hT hr_o0 shm_0 rfl 1 (by decide) (ht_at hts 1 rfl) (fun _ h9 => h9) dX12_wind_173 (fun v9 m434 h9 => ?_)
                          obtain ⟨rfl, hg435⟩ := h9 _ rfl
                          refine lv_iload hx hb dX12_wind_176 (lv_at hl 1 rfl) ?_
                          refine tw_iald (i := z25) hx hb hK hT hg11 shm_2 rfl (vin_t (a := z25.toInt) rfl (by omega) (by omega)) dX12_wind_178 (fun v9 m436 h9 => ?_)
                          obtain ⟨x437, rfl, gx437, kx437⟩ := (gp_any h9)
                          have t438 : x437.toInt = SU wU (104 + 2 * j428) := (by have qn := tn_of (show z25.toInt = z25.toInt from rfl) (by omega); have q := (wq_l hT hg11 (by omega) m436).2.2.1.2 ⟨by omega, by omega⟩; rw [show z25.toNatClampNeg - 1400 = 104 + 2 * j428 from by omega] at q; exact q)
                          refine lv_icmp_ge (tgt := 186) hx hb dX12_wind_179 (by decide) (fun c439 => ?_) (fun c439 => ?_)
                          · have t440 : x437.toInt ≤ x327.toInt := ti_le c439 rfl rfl
                            refine lv_iinc (v := nI (1504 + 2 * i24 + 2)) (lv' := [(6, .int (nI (1504 + 2 * i24 + 2))), (5, .int z25), (4, .int z27), (3, .int x22), (2, .int r1), (0, .ref o0), (1, .int ho)]) hx hb dX12_wind_186 hl (k := 0) rfl (nI_add (1504 + 2 * i24) 2) (by decide) rfl (fun ls hl => ?_)
                            refine lv_goto (tgt := 56) hx hb dX12_wind_189 (by decide) ?_
                            have hl : lv_has ls 7 [(6, .int (nI (1504 + 2 * (i24 + 1)))), (5, .int z25), (4, .int z27), (3, .int x22), (2, .int r1), (0, .ref o0), (1, .int ho)] := by rw [show nI (1504 + 2 * (i24 + 1)) = nI (1504 + 2 * i24 + 2) from congrArg nI (by omega)]; exact hl
                            exact ih210 (i24 + 1) (by omega) z25 z27 ⟨(by have q9 := (show z25.toInt = z25.toInt from rfl); (try have q8 := ti_all z25); omega), (by have q9 := (show z27.toInt = z27.toInt from rfl); (try have q8 := ti_all z27); omega), (by have := (show z27.toInt = z27.toInt from rfl); first | exact bf_n hj31 (by decide) (by show 0 ≤ SU wU (105 + 2 * i24); omega) (hl340.mp (by omega)) (by show SU wU (104 + 2 * i24) < x22.toInt; omega) (Or.inr ⟨j404, by omega, by show SU wU (104 + 2 * j404) < SU wU (104 + 2 * i24); omega⟩) (by omega) | exact bf_o hj31 (by decide) (Or.inr (Or.inr (Or.inr ⟨j404, by omega, by show SU wU (104 + 2 * i24) ≤ SU wU (104 + 2 * j404); omega⟩))) | exact bf_n hj31 (by decide) (by show 0 ≤ SU wU (105 + 2 * i24); omega) (hl340.mp (by omega)) (by show SU wU (104 + 2 * i24) < x22.toInt; omega) (Or.inl (by omega)) (by omega) | exact bf_o hj31 (by decide) (Or.inr (Or.inr (Or.inl (by show x22.toInt ≤ SU wU (104 + 2 * i24); omega)))) | exact bf_o hj31 (by decide) (Or.inr (Or.inl (fun h9 => by have := hl340.mpr h9; omega))) | exact bf_o hj31 (by decide) (Or.inl (by show SU wU (105 + 2 * i24) < 0; omega))), (by have := (show z25.toInt = z25.toInt from rfl); first | exact af_n hj32 (by decide) (by show 0 ≤ SU wU (105 + 2 * i24); omega) (hl340.mp (by omega)) (by show x22.toInt < SU wU (104 + 2 * i24); omega) (Or.inr ⟨j428, by omega, by show SU wU (104 + 2 * i24) < SU wU (104 + 2 * j428); omega⟩) (by omega) | exact af_o hj32 (by decide) (Or.inr (Or.inr (Or.inr ⟨j428, by omega, by show SU wU (104 + 2 * j428) ≤ SU wU (104 + 2 * i24); omega⟩))) | exact af_n hj32 (by decide) (by show 0 ≤ SU wU (105 + 2 * i24); omega) (hl340.mp (by omega)) (by show x22.toInt < SU wU (104 + 2 * i24); omega) (Or.inl (by omega)) (by omega) | exact af_o hj32 (by decide) (Or.inr (Or.inr (Or.inl (by show SU wU (104 + 2 * i24) ≤ x22.toInt; omega)))) | exact af_o hj32 (by decide) (Or.inr (Or.inl (fun h9 => by have := hl340.mpr h9; omega))) | exact af_o hj32 (by decide) (Or.inl (by show SU wU (105 + 2 * i24) < 0; omega))), (by omega)⟩ _ _ hT hF hS m331 m332 ls (lv_sub hl [0, 1, 2, 3, 4, 5, 6] rfl)
                          · have t441 : x327.toInt < x437.toInt := ti_nle c439 rfl rfl
                            refine lv_iload hx hb dX12_wind_182 (lv_at hl 0 rfl) ?_
                            refine lv_istore (lv' := [(5, .int (nI (1504 + 2 * i24))), (6, .int (nI (1504 + 2 * i24))), (4, .int z27), (3, .int x22), (2, .int r1), (0, .ref o0), (1, .int ho)]) hx hb dX12_wind_184 hl (by decide) rfl (fun ls hl => ?_)
                            refine lv_iinc (v := nI (1504 + 2 * i24 + 2)) (lv' := [(6, .int (nI (1504 + 2 * i24 + 2))), (5, .int (nI (1504 + 2 * i24))), (4, .int z27), (3, .int x22), (2, .int r1), (0, .ref o0), (1, .int ho)]) hx hb dX12_wind_186 hl (k := 1) rfl (nI_add (1504 + 2 * i24) 2) (by decide) rfl (fun ls hl => ?_)
                            refine lv_goto (tgt := 56) hx hb dX12_wind_189 (by decide) ?_
                            have hl : lv_has ls 7 [(6, .int (nI (1504 + 2 * (i24 + 1)))), (5, .int (nI (1504 + 2 * i24))), (4, .int z27), (3, .int x22), (2, .int r1), (0, .ref o0), (1, .int ho)] := by rw [show nI (1504 + 2 * (i24 + 1)) = nI (1504 + 2 * i24 + 2) from congrArg nI (by omega)]; exact hl
                            exact ih210 (i24 + 1) (by omega) (nI (1504 + 2 * i24)) z27 ⟨(by have q9 := (show (nI (1504 + 2 * i24)).toInt = ((1504 + 2 * i24 : Nat) : Int) from (nI_toInt (by omega))); (try have q8 := ti_all (nI (1504 + 2 * i24))); omega), (by have q9 := (show z27.toInt = z27.toInt from rfl); (try have q8 := ti_all z27); omega), (by have := (show z27.toInt = z27.toInt from rfl); first | exact bf_n hj31 (by decide) (by show 0 ≤ SU wU (105 + 2 * i24); omega) (hl340.mp (by omega)) (by show SU wU (104 + 2 * i24) < x22.toInt; omega) (Or.inr ⟨j404, by omega, by show SU wU (104 + 2 * j404) < SU wU (104 + 2 * i24); omega⟩) (by omega) | exact bf_o hj31 (by decide) (Or.inr (Or.inr (Or.inr ⟨j404, by omega, by show SU wU (104 + 2 * i24) ≤ SU wU (104 + 2 * j404); omega⟩))) | exact bf_n hj31 (by decide) (by show 0 ≤ SU wU (105 + 2 * i24); omega) (hl340.mp (by omega)) (by show SU wU (104 + 2 * i24) < x22.toInt; omega) (Or.inl (by omega)) (by omega) | exact bf_o hj31 (by decide) (Or.inr (Or.inr (Or.inl (by show x22.toInt ≤ SU wU (104 + 2 * i24); omega)))) | exact bf_o hj31 (by decide) (Or.inr (Or.inl (fun h9 => by have := hl340.mpr h9; omega))) | exact bf_o hj31 (by decide) (Or.inl (by show SU wU (105 + 2 * i24) < 0; omega))), (by have := (show (nI (1504 + 2 * i24)).toInt = ((1504 + 2 * i24 : Nat) : Int) from (nI_toInt (by omega))); first | exact af_n hj32 (by decide) (by show 0 ≤ SU wU (105 + 2 * i24); omega) (hl340.mp (by omega)) (by show x22.toInt < SU wU (104 + 2 * i24); omega) (Or.inr ⟨j428, by omega, by show SU wU (104 + 2 * i24) < SU wU (104 + 2 * j428); omega⟩) (by omega) | exact af_o hj32 (by decide) (Or.inr (Or.inr (Or.inr ⟨j428, by omega, by show SU wU (104 + 2 * j428) ≤ SU wU (104 + 2 * i24); omega⟩))) | exact af_n hj32 (by decide) (by show 0 ≤ SU wU (105 + 2 * i24); omega) (hl340.mp (by omega)) (by show x22.toInt < SU wU (104 + 2 * i24); omega) (Or.inl (by omega)) (by omega) | exact af_o hj32 (by decide) (Or.inr (Or.inr (Or.inl (by show SU wU (104 + 2 * i24) ≤ x22.toInt; omega)))) | exact af_o hj32 (by decide) (Or.inr (Or.inl (fun h9 => by have := hl340.mpr h9; omega))) | exact af_o hj32 (by decide) (Or.inl (by show SU wU (105 + 2 * i24) < 0; omega))), (by omega)⟩ _ _ hT hF hS m331 m332 ls (lv_sub hl [0, 1, 2, 3, 4, 5, 6] rfl)
                    · have t442 : x413.toInt < x327.toInt := ti_nle c415 rfl rfl
                      refine lv_iload hx hb dX12_wind_145 (lv_at hl 0 rfl) ?_
                      refine lv_istore (lv' := [(4, .int (nI (1504 + 2 * i24))), (6, .int (nI (1504 + 2 * i24))), (5, .int z25), (3, .int x22), (2, .int r1), (0, .ref o0), (1, .int ho)]) hx hb dX12_wind_147 hl (by decide) rfl (fun ls hl => ?_)
                      refine lv_aload_n hx hb dX12_wind_149 rfl (lv_at hl 5 rfl) ?_
                      refine tw_get hx hb hts bF_X12 hown hK hT hr_o0 shm_0 rfl 1 (by decide) (ht_at hts 1 rfl) (fun _ h9 => h9) dX12_wind_150 (fun v9 m443 h9 => ?_)
                      obtain ⟨rfl, hg444⟩ := h9 _ rfl
                      refine lv_iload hx hb dX12_wind_153 (lv_at hl 1 rfl) ?_
                      refine tw_iald (i := (nI (1504 + 2 * i24))) hx hb hK hT hg11 shm_2 rfl (vp_in_nI (by omega) (by decide)) dX12_wind_155 (fun v9 m445 h9 => ?_)
                      obtain ⟨x446, rfl, gx446, kx446⟩ := (gp_at h9 (w_fre (by have q9 := tn_of (show (nI (1504 + 2 * i24)).toInt = ((1504 + 2 * i24 : Nat) : Int) from (nI_toInt (by omega))) (show (0 : Int) ≤ ((1504 + 2 * i24 : Nat) : Int) from by omega); omega)))
                      obtain rfl : x327 = x446 := (el_same m445 m335 rfl).symm
                      have t447 : x327.toInt = SU wU (104 + 2 * i24) := (by have qn := tn_of (show (nI (1504 + 2 * i24)).toInt = ((1504 + 2 * i24 : Nat) : Int) from (nI_toInt (by omega))) (by omega); have q := (wq_l hT hg11 (by omega) m335).2.2.1.2 ⟨by omega, by omega⟩; rw [show (nI (1504 + 2 * i24)).toNatClampNeg - 1400 = 104 + 2 * i24 from by omega] at q; exact q)
                      refine lv_iload_n hx hb dX12_wind_156 rfl (lv_at hl 3 rfl) ?_
                      refine lv_icmp_le (tgt := 186) hx hb dX12_wind_157 (by decide) (fun c448 => ?_) (fun c448 => ?_)
                      · have t449 : x327.toInt ≤ x22.toInt := ti_le c448 rfl rfl
                        refine lv_iinc (v := nI (1504 + 2 * i24 + 2)) (lv' := [(6, .int (nI (1504 + 2 * i24 + 2))), (4, .int (nI (1504 + 2 * i24))), (5, .int z25), (3, .int x22), (2, .int r1), (0, .ref o0), (1, .int ho)]) hx hb dX12_wind_186 hl (k := 1) rfl (nI_add (1504 + 2 * i24) 2) (by decide) rfl (fun ls hl => ?_)
                        refine lv_goto (tgt := 56) hx hb dX12_wind_189 (by decide) ?_
                        have hl : lv_has ls 7 [(6, .int (nI (1504 + 2 * (i24 + 1)))), (4, .int (nI (1504 + 2 * i24))), (5, .int z25), (3, .int x22), (2, .int r1), (0, .ref o0), (1, .int ho)] := by rw [show nI (1504 + 2 * (i24 + 1)) = nI (1504 + 2 * i24 + 2) from congrArg nI (by omega)]; exact hl
                        exact ih210 (i24 + 1) (by omega) z25 (nI (1504 + 2 * i24)) ⟨(by have q9 := (show z25.toInt = z25.toInt from rfl); (try have q8 := ti_all z25); omega), (by have q9 := (show (nI (1504 + 2 * i24)).toInt = ((1504 + 2 * i24 : Nat) : Int) from (nI_toInt (by omega))); (try have q8 := ti_all (nI (1504 + 2 * i24))); omega), (by have := (show (nI (1504 + 2 * i24)).toInt = ((1504 + 2 * i24 : Nat) : Int) from (nI_toInt (by omega))); first | exact bf_n hj31 (by decide) (by show 0 ≤ SU wU (105 + 2 * i24); omega) (hl340.mp (by omega)) (by show SU wU (104 + 2 * i24) < x22.toInt; omega) (Or.inr ⟨j404, by omega, by show SU wU (104 + 2 * j404) < SU wU (104 + 2 * i24); omega⟩) (by omega) | exact bf_o hj31 (by decide) (Or.inr (Or.inr (Or.inr ⟨j404, by omega, by show SU wU (104 + 2 * i24) ≤ SU wU (104 + 2 * j404); omega⟩))) | exact bf_n hj31 (by decide) (by show 0 ≤ SU wU (105 + 2 * i24); omega) (hl340.mp (by omega)) (by show SU wU (104 + 2 * i24) < x22.toInt; omega) (Or.inl (by omega)) (by omega) | exact bf_o hj31 (by decide) (Or.inr (Or.inr (Or.inl (by show x22.toInt ≤ SU wU (104 + 2 * i24); omega)))) | exact bf_o hj31 (by decide) (Or.inr (Or.inl (fun h9 => by have := hl340.mpr h9; omega))) | exact bf_o hj31 (by decide) (Or.inl (by show SU wU (105 + 2 * i24) < 0; omega))), (by have := (show z25.toInt = z25.toInt from rfl); first | exact af_n hj32 (by decide) (by show 0 ≤ SU wU (105 + 2 * i24); omega) (hl340.mp (by omega)) (by show x22.toInt < SU wU (104 + 2 * i24); omega) (Or.inl (by omega)) (by omega) | exact af_o hj32 (by decide) (Or.inr (Or.inr (Or.inl (by show SU wU (104 + 2 * i24) ≤ x22.toInt; omega)))) | exact af_o hj32 (by decide) (Or.inr (Or.inl (fun h9 => by have := hl340.mpr h9; omega))) | exact af_o hj32 (by decide) (Or.inl (by show SU wU (105 + 2 * i24) < 0; omega))), (by omega)⟩ _ _ hT hF hS m331 m332 ls (lv_sub hl [0, 2, 1, 3, 4, 5, 6] rfl)
                      · have t450 : x22.toInt < x327.toInt := ti_nle c448 rfl rfl
                        refine lv_iload hx hb dX12_wind_160 (lv_at hl 2 rfl) ?_
                        refine lv_if_lt (tgt := 182) hx hb dX12_wind_162 (by decide) (fun c451 => ?_) (fun c451 => ?_)
                        · have t452 : z25.toInt < 0 := ti_lt c451 rfl (by decide)
                          refine lv_iload hx hb dX12_wind_182 (lv_at hl 1 rfl) ?_
                          refine lv_istore (lv' := [(5, .int (nI (1504 + 2 * i24))), (4, .int (nI (1504 + 2 * i24))), (6, .int (nI (1504 + 2 * i24))), (3, .int x22), (2, .int r1), (0, .ref o0), (1, .int ho)]) hx hb dX12_wind_184 hl (by decide) rfl (fun ls hl => ?_)
                          refine lv_iinc (v := nI (1504 + 2 * i24 + 2)) (lv' := [(6, .int (nI (1504 + 2 * i24 + 2))), (5, .int (nI (1504 + 2 * i24))), (4, .int (nI (1504 + 2 * i24))), (3, .int x22), (2, .int r1), (0, .ref o0), (1, .int ho)]) hx hb dX12_wind_186 hl (k := 2) rfl (nI_add (1504 + 2 * i24) 2) (by decide) rfl (fun ls hl => ?_)
                          refine lv_goto (tgt := 56) hx hb dX12_wind_189 (by decide) ?_
                          have hl : lv_has ls 7 [(6, .int (nI (1504 + 2 * (i24 + 1)))), (5, .int (nI (1504 + 2 * i24))), (4, .int (nI (1504 + 2 * i24))), (3, .int x22), (2, .int r1), (0, .ref o0), (1, .int ho)] := by rw [show nI (1504 + 2 * (i24 + 1)) = nI (1504 + 2 * i24 + 2) from congrArg nI (by omega)]; exact hl
                          exact ih210 (i24 + 1) (by omega) (nI (1504 + 2 * i24)) (nI (1504 + 2 * i24)) ⟨(by have q9 := (show (nI (1504 + 2 * i24)).toInt = ((1504 + 2 * i24 : Nat) : Int) from (nI_toInt (by omega))); (try have q8 := ti_all (nI (1504 + 2 * i24))); omega), (by have q9 := (show (nI (1504 + 2 * i24)).toInt = ((1504 + 2 * i24 : Nat) : Int) from (nI_toInt (by omega))); (try have q8 := ti_all (nI (1504 + 2 * i24))); omega), (by have := (show (nI (1504 + 2 * i24)).toInt = ((1504 + 2 * i24 : Nat) : Int) from (nI_toInt (by omega))); first | exact bf_n hj31 (by decide) (by show 0 ≤ SU wU (105 + 2 * i24); omega) (hl340.mp (by omega)) (by show SU wU (104 + 2 * i24) < x22.toInt; omega) (Or.inr ⟨j404, by omega, by show SU wU (104 + 2 * j404) < SU wU (104 + 2 * i24); omega⟩) (by omega) | exact bf_o hj31 (by decide) (Or.inr (Or.inr (Or.inr ⟨j404, by omega, by show SU wU (104 + 2 * i24) ≤ SU wU (104 + 2 * j404); omega⟩))) | exact bf_n hj31 (by decide) (by show 0 ≤ SU wU (105 + 2 * i24); omega) (hl340.mp (by omega)) (by show SU wU (104 + 2 * i24) < x22.toInt; omega) (Or.inl (by omega)) (by omega) | exact bf_o hj31 (by decide) (Or.inr (Or.inr (Or.inl (by show x22.toInt ≤ SU wU (104 + 2 * i24); omega)))) | exact bf_o hj31 (by decide) (Or.inr (Or.inl (fun h9 => by have := hl340.mpr h9; omega))) | exact bf_o hj31 (by decide) (Or.inl (by show SU wU (105 + 2 * i24) < 0; omega))), (by have := (show (nI (1504 + 2 * i24)).toInt = ((1504 + 2 * i24 : Nat) : Int) from (nI_toInt (by omega))); first | exact af_n hj32 (by decide) (by show 0 ≤ SU wU (105 + 2 * i24); omega) (hl340.mp (by omega)) (by show x22.toInt < SU wU (104 + 2 * i24); omega) (Or.inl (by omega)) (by omega) | exact af_o hj32 (by decide) (Or.inr (Or.inr (Or.inl (by show SU wU (104 + 2 * i24) ≤ x22.toInt; omega)))) | exact af_o hj32 (by decide) (Or.inr (Or.inl (fun h9 => by have := hl340.mpr h9; omega))) | exact af_o hj32 (by decide) (Or.inl (by show SU wU (105 + 2 * i24) < 0; omega))), (by omega)⟩ _ _ hT hF hS m331 m332 ls (lv_sub hl [0, 1, 2, 3, 4, 5, 6] rfl)
                        · have t453 : 0 ≤ z25.toInt := ti_nlt c451 rfl (by decide)
                          obtain ⟨j454, hj454, ej454⟩ := afI.at hj32 (by have := (show z25.toInt = z25.toInt from rfl); omega)
                          refine lv_aload_n hx hb dX12_wind_165 rfl (lv_at hl 5 rfl) ?_
                          refine tw_get hx hb hts bF_X12 hown hK hT hr_o0 shm_0 rfl 1 (by decide) (ht_at hts 1 rfl) (fun _ h9 => h9) dX12_wind_166 (fun v9 m455 h9 => ?_)
                          obtain ⟨rfl, hg456⟩ := h9 _ rfl
                          refine lv_iload hx hb dX12_wind_169 (lv_at hl 1 rfl) ?_
                          refine tw_iald (i := (nI (1504 + 2 * i24))) hx hb hK hT hg11 shm_2 rfl (vp_in_nI (by omega) (by decide)) dX12_wind_171 (fun v9 m457 h9 => ?_)
                          obtain ⟨x458, rfl, gx458, kx458⟩ := (gp_at h9 (w_fre (by have q9 := tn_of (show (nI (1504 + 2 * i24)).toInt = ((1504 + 2 * i24 : Nat) : Int) from (nI_toInt (by omega))) (show (0 : Int) ≤ ((1504 + 2 * i24 : Nat) : Int) from by omega); omega)))
                          obtain rfl : x327 = x458 := (el_same m457 m335 rfl).symm
                          have t459 : x327.toInt = SU wU (104 + 2 * i24) := (by have qn := tn_of (show (nI (1504 + 2 * i24)).toInt = ((1504 + 2 * i24 : Nat) : Int) from (nI_toInt (by omega))) (by omega); have q := (wq_l hT hg11 (by omega) m335).2.2.1.2 ⟨by omega, by omega⟩; rw [show (nI (1504 + 2 * i24)).toNatClampNeg - 1400 = 104 + 2 * i24 from by omega] at q; exact q)
                          refine lv_aload_n hx hb dX12_wind_172 rfl (lv_at hl 5 rfl) ?_
                          refine tw_get hx hb hts bF_X12 hown hK hT hr_o0 shm_0 rfl 1 (by decide) (ht_at hts 1 rfl) (fun _ h9 => h9) dX12_wind_173 (fun v9 m460 h9 => ?_)
                          obtain ⟨rfl, hg461⟩ := h9 _ rfl
                          refine lv_iload hx hb dX12_wind_176 (lv_at hl 2 rfl) ?_
                          refine tw_iald (i := z25) hx hb hK hT hg11 shm_2 rfl (vin_t (a := z25.toInt) rfl (by omega) (by omega)) dX12_wind_178 (fun v9 m462 h9 => ?_)
                          obtain ⟨x463, rfl, gx463, kx463⟩ := (gp_any h9)
                          have t464 : x463.toInt = SU wU (104 + 2 * j454) := (by have qn := tn_of (show z25.toInt = z25.toInt from rfl) (by omega); have q := (wq_l hT hg11 (by omega) m462).2.2.1.2 ⟨by omega, by omega⟩; rw [show z25.toNatClampNeg - 1400 = 104 + 2 * j454 from by omega] at q; exact q)
                          refine lv_icmp_ge (tgt := 186) hx hb dX12_wind_179 (by decide) (fun c465 => ?_) (fun c465 => ?_)
                          · have t466 : x463.toInt ≤ x327.toInt := ti_le c465 rfl rfl
                            refine lv_iinc (v := nI (1504 + 2 * i24 + 2)) (lv' := [(6, .int (nI (1504 + 2 * i24 + 2))), (4, .int (nI (1504 + 2 * i24))), (5, .int z25), (3, .int x22), (2, .int r1), (0, .ref o0), (1, .int ho)]) hx hb dX12_wind_186 hl (k := 1) rfl (nI_add (1504 + 2 * i24) 2) (by decide) rfl (fun ls hl => ?_)
                            refine lv_goto (tgt := 56) hx hb dX12_wind_189 (by decide) ?_
                            have hl : lv_has ls 7 [(6, .int (nI (1504 + 2 * (i24 + 1)))), (4, .int (nI (1504 + 2 * i24))), (5, .int z25), (3, .int x22), (2, .int r1), (0, .ref o0), (1, .int ho)] := by rw [show nI (1504 + 2 * (i24 + 1)) = nI (1504 + 2 * i24 + 2) from congrArg nI (by omega)]; exact hl
                            exact ih210 (i24 + 1) (by omega) z25 (nI (1504 + 2 * i24)) ⟨(by have q9 := (show z25.toInt = z25.toInt from rfl); (try have q8 := ti_all z25); omega), (by have q9 := (show (nI (1504 + 2 * i24)).toInt = ((1504 + 2 * i24 : Nat) : Int) from (nI_toInt (by omega))); (try have q8 := ti_all (nI (1504 + 2 * i24))); omega), (by have := (show (nI (1504 + 2 * i24)).toInt = ((1504 + 2 * i24 : Nat) : Int) from (nI_toInt (by omega))); first | exact bf_n hj31 (by decide) (by show 0 ≤ SU wU (105 + 2 * i24); omega) (hl340.mp (by omega)) (by show SU wU (104 + 2 * i24) < x22.toInt; omega) (Or.inr ⟨j404, by omega, by show SU wU (104 + 2 * j404) < SU wU (104 + 2 * i24); omega⟩) (by omega) | exact bf_o hj31 (by decide) (Or.inr (Or.inr (Or.inr ⟨j404, by omega, by show SU wU (104 + 2 * i24) ≤ SU wU (104 + 2 * j404); omega⟩))) | exact bf_n hj31 (by decide) (by show 0 ≤ SU wU (105 + 2 * i24); omega) (hl340.mp (by omega)) (by show SU wU (104 + 2 * i24) < x22.toInt; omega) (Or.inl (by omega)) (by omega) | exact bf_o hj31 (by decide) (Or.inr (Or.inr (Or.inl (by show x22.toInt ≤ SU wU (104 + 2 * i24); omega)))) | exact bf_o hj31 (by decide) (Or.inr (Or.inl (fun h9 => by have := hl340.mpr h9; omega))) | exact bf_o hj31 (by decide) (Or.inl (by show SU wU (105 + 2 * i24) < 0; omega))), (by have := (show z25.toInt = z25.toInt from rfl); first | exact af_n hj32 (by decide) (by show 0 ≤ SU wU (105 + 2 * i24); omega) (hl340.mp (by omega)) (by show x22.toInt < SU wU (104 + 2 * i24); omega) (Or.inr ⟨j454, by omega, by show SU wU (104 + 2 * i24) < SU wU (104 + 2 * j454); omega⟩) (by omega) | exact af_o hj32 (by decide) (Or.inr (Or.inr (Or.inr ⟨j454, by omega, by show SU wU (104 + 2 * j454) ≤ SU wU (104 + 2 * i24); omega⟩))) | exact af_n hj32 (by decide) (by show 0 ≤ SU wU (105 + 2 * i24); omega) (hl340.mp (by omega)) (by show x22.toInt < SU wU (104 + 2 * i24); omega) (Or.inl (by omega)) (by omega) | exact af_o hj32 (by decide) (Or.inr (Or.inr (Or.inl (by show SU wU (104 + 2 * i24) ≤ x22.toInt; omega)))) | exact af_o hj32 (by decide) (Or.inr (Or.inl (fun h9 => by have := hl340.mpr h9; omega))) | exact af_o hj32 (by decide) (Or.inl (by show SU wU (105 + 2 * i24) < 0; omega))), (by omega)⟩ _ _ hT hF hS m331 m332 ls (lv_sub hl [0, 2, 1, 3, 4, 5, 6] rfl)
                          · have t467 : x327.toInt < x463.toInt := ti_nle c465 rfl rfl
                            refine lv_iload hx hb dX12_wind_182 (lv_at hl 1 rfl) ?_
                            refine lv_istore (lv' := [(5, .int (nI (1504 + 2 * i24))), (4, .int (nI (1504 + 2 * i24))), (6, .int (nI (1504 + 2 * i24))), (3, .int x22), (2, .int r1), (0, .ref o0), (1, .int ho)]) hx hb dX12_wind_184 hl (by decide) rfl (fun ls hl => ?_)
                            refine lv_iinc (v := nI (1504 + 2 * i24 + 2)) (lv' := [(6, .int (nI (1504 + 2 * i24 + 2))), (5, .int (nI (1504 + 2 * i24))), (4, .int (nI (1504 + 2 * i24))), (3, .int x22), (2, .int r1), (0, .ref o0), (1, .int ho)]) hx hb dX12_wind_186 hl (k := 2) rfl (nI_add (1504 + 2 * i24) 2) (by decide) rfl (fun ls hl => ?_)
                            refine lv_goto (tgt := 56) hx hb dX12_wind_189 (by decide) ?_
                            have hl : lv_has ls 7 [(6, .int (nI (1504 + 2 * (i24 + 1)))), (5, .int (nI (1504 + 2 * i24))), (4, .int (nI (1504 + 2 * i24))), (3, .int x22), (2, .int r1), (0, .ref o0), (1, .int ho)] := by rw [show nI (1504 + 2 * (i24 + 1)) = nI (1504 + 2 * i24 + 2) from congrArg nI (by omega)]; exact hl
                            exact ih210 (i24 + 1) (by omega) (nI (1504 + 2 * i24)) (nI (1504 + 2 * i24)) ⟨(by have q9 := (show (nI (1504 + 2 * i24)).toInt = ((1504 + 2 * i24 : Nat) : Int) from (nI_toInt (by omega))); (try have q8 := ti_all (nI (1504 + 2 * i24))); omega), (by have q9 := (show (nI (1504 + 2 * i24)).toInt = ((1504 + 2 * i24 : Nat) : Int) from (nI_toInt (by omega))); (try have q8 := ti_all (nI (1504 + 2 * i24))); omega), (by have := (show (nI (1504 + 2 * i24)).toInt = ((1504 + 2 * i24 : Nat) : Int) from (nI_toInt (by omega))); first | exact bf_n hj31 (by decide) (by show 0 ≤ SU wU (105 + 2 * i24); omega) (hl340.mp (by omega)) (by show SU wU (104 + 2 * i24) < x22.toInt; omega) (Or.inr ⟨j404, by omega, by show SU wU (104 + 2 * j404) < SU wU (104 + 2 * i24); omega⟩) (by omega) | exact bf_o hj31 (by decide) (Or.inr (Or.inr (Or.inr ⟨j404, by omega, by show SU wU (104 + 2 * i24) ≤ SU wU (104 + 2 * j404); omega⟩))) | exact bf_n hj31 (by decide) (by show 0 ≤ SU wU (105 + 2 * i24); omega) (hl340.mp (by omega)) (by show SU wU (104 + 2 * i24) < x22.toInt; omega) (Or.inl (by omega)) (by omega) | exact bf_o hj31 (by decide) (Or.inr (Or.inr (Or.inl (by show x22.toInt ≤ SU wU (104 + 2 * i24); omega)))) | exact bf_o hj31 (by decide) (Or.inr (Or.inl (fun h9 => by have := hl340.mpr h9; omega))) | exact bf_o hj31 (by decide) (Or.inl (by show SU wU (105 + 2 * i24) < 0; omega))), (by have := (show (nI (1504 + 2 * i24)).toInt = ((1504 + 2 * i24 : Nat) : Int) from (nI_toInt (by omega))); first | exact af_n hj32 (by decide) (by show 0 ≤ SU wU (105 + 2 * i24); omega) (hl340.mp (by omega)) (by show x22.toInt < SU wU (104 + 2 * i24); omega) (Or.inr ⟨j454, by omega, by show SU wU (104 + 2 * i24) < SU wU (104 + 2 * j454); omega⟩) (by omega) | exact af_o hj32 (by decide) (Or.inr (Or.inr (Or.inr ⟨j454, by omega, by show SU wU (104 + 2 * j454) ≤ SU wU (104 + 2 * i24); omega⟩))) | exact af_n hj32 (by decide) (by show 0 ≤ SU wU (105 + 2 * i24); omega) (hl340.mp (by omega)) (by show x22.toInt < SU wU (104 + 2 * i24); omega) (Or.inl (by omega)) (by omega) | exact af_o hj32 (by decide) (Or.inr (Or.inr (Or.inl (by show SU wU (104 + 2 * i24) ≤ x22.toInt; omega)))) | exact af_o hj32 (by decide) (Or.inr (Or.inl (fun h9 => by have := hl340.mpr h9; omega))) | exact af_o hj32 (by decide) (Or.inl (by show SU wU (105 + 2 * i24) < 0; omega))), (by omega)⟩ _ _ hT hF hS m331 m332 ls (lv_sub hl [0, 1, 2, 3, 4, 5, 6] rfl)
              · have t468 : r329.toInt ≠ ((1504 + 2 * i24 : Nat) : Int) := ti_ne c341 rfl (nI_toInt (by omega))
                refine lv_goto (tgt := 186) hx hb dX12_wind_109 (by decide) ?_
                refine lv_iinc (v := nI (1504 + 2 * i24 + 2)) (lv' := [(6, .int (nI (1504 + 2 * i24 + 2))), (5, .int z25), (4, .int z27), (3, .int x22), (2, .int r1), (0, .ref o0), (1, .int ho)]) hx hb dX12_wind_186 hl (k := 0) rfl (nI_add (1504 + 2 * i24) 2) (by decide) rfl (fun ls hl => ?_)
                refine lv_goto (tgt := 56) hx hb dX12_wind_189 (by decide) ?_
                have hl : lv_has ls 7 [(6, .int (nI (1504 + 2 * (i24 + 1)))), (5, .int z25), (4, .int z27), (3, .int x22), (2, .int r1), (0, .ref o0), (1, .int ho)] := by rw [show nI (1504 + 2 * (i24 + 1)) = nI (1504 + 2 * i24 + 2) from congrArg nI (by omega)]; exact hl
                exact ih210 (i24 + 1) (by omega) z25 z27 ⟨(by have q9 := (show z25.toInt = z25.toInt from rfl); (try have q8 := ti_all z25); omega), (by have q9 := (show z27.toInt = z27.toInt from rfl); (try have q8 := ti_all z27); omega), (by have := (show z27.toInt = z27.toInt from rfl); first | exact bf_n hj31 (by decide) (by show 0 ≤ SU wU (105 + 2 * i24); omega) (hl340.mp (by omega)) (by show SU wU (104 + 2 * i24) < x22.toInt; omega) (Or.inl (by omega)) (by omega) | exact bf_o hj31 (by decide) (Or.inr (Or.inr (Or.inl (by show x22.toInt ≤ SU wU (104 + 2 * i24); omega)))) | exact bf_o hj31 (by decide) (Or.inr (Or.inl (fun h9 => by have := hl340.mpr h9; omega))) | exact bf_o hj31 (by decide) (Or.inl (by show SU wU (105 + 2 * i24) < 0; omega))), (by have := (show z25.toInt = z25.toInt from rfl); first | exact af_n hj32 (by decide) (by show 0 ≤ SU wU (105 + 2 * i24); omega) (hl340.mp (by omega)) (by show x22.toInt < SU wU (104 + 2 * i24); omega) (Or.inl (by omega)) (by omega) | exact af_o hj32 (by decide) (Or.inr (Or.inr (Or.inl (by show SU wU (104 + 2 * i24) ≤ x22.toInt; omega)))) | exact af_o hj32 (by decide) (Or.inr (Or.inl (fun h9 => by have := hl340.mpr h9; omega))) | exact af_o hj32 (by decide) (Or.inl (by show SU wU (105 + 2 * i24) < 0; omega))), (by omega)⟩ _ _ hT hF hS m331 m332 ls (lv_sub hl [0, 1, 2, 3, 4, 5, 6] rfl)
      have hl2 : lv_has ls 7 [(6, .int (nI (1504 + 2 * 0))), (5, .int (-1)), (4, .int (-1)), (3, .int x22), (2, .int r1), (0, .ref o0), (1, .int ho)] := hl
      exact key210 (60 - 0) 0 (by omega) (-1) (-1) ⟨(by have q9 := (show (-1 : Int32).toInt = (-1) from (by decide)); (try have q8 := ti_all (-1 : Int32)); omega), (by have q9 := (show (-1 : Int32).toInt = (-1) from (by decide)); (try have q8 := ti_all (-1 : Int32)); omega), (bf_00 (by decide)), (af_00 (by decide)), (by omega)⟩ _ _ hT hF hS m14 m21 ls (lv_sub hl2 [0, 1, 2, 3, 4, 5, 6] rfl)
    · have t469 : 0 ≤ x15.toInt := ti_nlt c17 rfl (by decide)
      refine lv_aload_n hx hb dX12_wind_29 rfl (lv_at hl 1 rfl) ?_
      refine tw_get hx hb hts bF_X12 hown hK hT hr_o0 shm_0 rfl 1 (by decide) (ht_at hts 1 rfl) (fun _ h9 => h9) dX12_wind_30 (fun v9 m470 h9 => ?_)
      obtain ⟨rfl, hg471⟩ := h9 _ rfl
      refine lv_iload_n hx hb dX12_wind_33 rfl (lv_at hl 0 rfl) ?_
      refine lv_iconst (v := 1) hx hb dX12_wind_34 (by decide) ?_
      refine lv_iadd hx hb dX12_wind_35 ?_
      refine lv_topi (fun x472 ex472 => ?_)
      have t473 : x472.toInt = r1.toInt + 1 := ti_add ex472 rfl (by decide) (by omega) (by omega)
      refine tw_iald (i := x472) hx hb hK hT hg11 shm_2 rfl (vin_t (a := x472.toInt) rfl (by omega) (by omega)) dX12_wind_36 (fun v9 m474 h9 => ?_)
      obtain ⟨x475, rfl, gx475, kx475⟩ := (gp_at h9 (w_wid (by have q9 := tn_of (show x472.toInt = x472.toInt from rfl) (show (0 : Int) ≤ x472.toInt from by omega); omega)))
      obtain rfl : x15 = x475 := (el_same m474 m14 (show x472.toInt = x12.toInt from by rw []; try omega)).symm
      have t476 : x15.toInt = SU wU (105 + 2 * j9) := (by have qn := tn_of (show x12.toInt = x12.toInt from rfl) (by omega); have q := (wq_l hT hg11 (by omega) m14).2.2.1.2 ⟨by omega, by omega⟩; rw [show x12.toNatClampNeg - 1400 = 105 + 2 * j9 from by omega] at q; exact q)
      exact W.iret (v := x15) hx hb hr (fun t ht hW => ⟨⟨x15, (), rfl, (by exact ⟨(hf5.wa1 (j := j9) (by decide) (by omega) (Or.inl ⟨by show 0 ≤ SU wU (105 + 2 * j9); omega, by show _ = SU wU (105 + 2 * j9); omega⟩)), (by omega)⟩), by (try dsimp only); rw [ht]; exact ⟨hT, hF⟩⟩, hS.F ht⟩) hS.2.2 dX12_wind_37
  · have t477 : r1.toInt < 0 := ti_nle c7 (by decide) rfl
    refine lv_iconst (v := 0) hx hb dX12_wind_16 (by decide) ?_
    exact W.iret (v := 0) hx hb hr (fun t ht hW => ⟨⟨0, (), rfl, (by exact ⟨(hf5.wa0 (by decide) ⟨by omega, by decide⟩), (by omega)⟩), by (try dsimp only); rw [ht]; exact ⟨hT, hF⟩⟩, hS.F ht⟩) hS.2.2 dX12_wind_17
def w_s_skyY : List Cond := .code yX12_sky cX12_sky 3 (some .int) :: (HAppend.hAppend (α := List Cond) (β := List Cond) (γ := List Cond) [.fieldLink RX12 194 "SeaLandModel" "thrown" "I", .constant RX12 242 40000, .code yX12_in cX12_in 3 (some .boolean), .methodLink RX12 197 yX12_in, .static yX12_in, .initialized RX12, .code yX12_throwsIf cX12_throwsIf 3 (some .boolean), .methodLink RX12 224 yX12_throwsIf, .instanceMethod yX12_throwsIf, .selects RX12 yX12_throwsIf yX12_throwsIf, .code yX12_rain cX12_rain 3 (some .int), .code yX12_telling cX12_telling 6 (some .int), .fieldLink RX12 9 "SeaLandModel" "world" "[I", .methodLink RX12 243 yX12_telling, .instanceMethod yX12_telling, .selects RX12 yX12_telling yX12_telling, .methodLink RX12 253 yX12_rain, .instanceMethod yX12_rain, .selects RX12 yX12_rain yX12_rain, .code yX12_wind cX12_wind 7 (some .int), .methodLink RX12 211 Lib.Math.max.name, .static Lib.Math.max.name, .initialized "java/lang/Math", .code Lib.Math.max.name Lib.Math.max.code 2 (some .int), .methodLink RX12 250 yX12_wind, .instanceMethod yX12_wind, .selects RX12 yX12_wind yX12_wind, .code yX12_outside cX12_outside 4 (some .int), .methodLink RX12 247 yX12_outside, .instanceMethod yX12_outside, .selects RX12 yX12_outside yX12_outside] bs)
set_option maxHeartbeats 4000000 in
set_option maxRecDepth 100000 in
theorem s_skyY (l : Launch) (dC : Nat → ClassId) (dI : Nat → Nat → Nat) (kA : Nat → ClassId) (adK adV : Nat → Nat) (G : gT) (H0 : Heap) (q : Nat → Nat) (wZ wN : Nat → Int) (wH wB wC : Int) (wL wK : Nat → Prop) (wU wV : Nat → Nat) (PI : Nat → Int → Prop) (im : Int) (PM PT : Nat → Int → Prop) (lS lB lE : Nat → Nat → Int → Prop) (lN : Nat → Int) (o0 : Nat) (p0 : Int32) (p1 : Int32)  (hT : gH (dC, dI) kA (SHm q (wP wZ wN wH wB wC wL wK wU wV) PI im PM PT lS lB lE lN) G H0) (hr_o0 : G o0 = some 0) (hgz : ∀ i, 0 ≤ wZ i) (hgn : ∀ i, 6500000 ≤ wN i ∧ wN i ≤ 20200000) (hgh : 0 ≤ wH ∧ wH ≤ 40000) (hgb : 0 ≤ wB ∧ wB ≤ 3850000) (hgc : 0 ≤ wC ∧ wC ≤ 30) (hgi : 0 ≤ im ∧ im ≤ 1) (hgu : ∀ a t, G a = some (t + 1) → a = q t) : Met l yX12_sky w_s_skyY ({ frames := 2, cells := 0, slots := 0, locals := 66 }) (va_Pc [.ref o0, .int p0, .int p1] (fun U => U.heap = H0 ∧ va_K (dC, dI) vwCl (tyl kA) U ∧ EVS adK adV (gA G H0.size) U U.heap)) (va_Qi (fun (r : Int32) (u : Int32) => ((skC p0.toInt p1.toInt ≠ 0 ∧ u.toInt = skC p0.toInt p1.toInt) ∨ (skC p0.toInt p1.toInt = 0 ∧ u.toInt = 0 ∧ ((p1.toInt = 0 ∧ (0 ≤ SU wU 42 ∧ SU wU 42 ≤ 20) ∧ r.toInt = SU wU (30 + (p0.toInt % 12).toNat) + osm (fun i => SU wU (43 + 3 * i)) (fun i => SU wU (44 + 3 * i)) (fun i => SU wU (45 + 3 * i)) p0.toInt (SU wU 42).toNat) ∨ (p1.toInt = 1 ∧ (0 ≤ SU wU 103 ∧ SU wU 103 ≤ 60) ∧ WA (fun i => SU wU (104 + 2 * i)) (fun i => SU wU (105 + 2 * i)) (SU wU 103).toNat p0.toInt r.toInt) ∨ (p1.toInt = 2 ∧ (0 ≤ SU wU 224 ∧ SU wU 224 ≤ 60) ∧ RA (fun i => SU wU (225 + 2 * i)) (fun i => SU wU (226 + 2 * i)) (SU wU 224).toNat p0.toInt r.toInt))))) (fun (t1 : Int32) (t : State) => gH (dC, dI) kA (SHm q (wP wZ wN wH wB wC wL wK wU wV) PI im PM PT lS lB lE lN) G t.heap ∧ gF (dC, dI) SKm G ([(0, 0)] : List (Nat × Nat)) H0 t.heap ∧ el t.heap o0 (dI 15 0) = some (.int t1)) (gA G H0.size)) 0 0 (gA G H0.size) := by
  refine Met.ofW (cc := cX12_sky) (maxL := 3) (ret := (some .int)) (by decide) rfl ?_
  intro p e s m args below meth c s₁ B hml hv
  obtain ⟨rfl, hH0, hK, hE⟩ := hv
  have hx := B.exec
  have hb := B.bytes
  have hr := B.returns
  have hts := atoms_spec (ws := w_s_skyY) B.pre
  have hown : s.vm.findClass RX12 = some m.cls := findClass_of_methodNamed B.named
  have hlocks := B.notSynchronized
  subst hH0
  generalize hAe : gA G s.heap.size = A at hE ⊢
  have hA : ∀ q : Nat, s.heap.size ≤ q → A q := fun q h => by rw [← hAe]; exact Or.inr h
  have hG := gA_of hAe
  have hS : va_S A s.heap s.heap [] := va_S.rf
  have hF : gF (dC, dI) SKm G ([(0, 0)] : List (Nat × Nat)) s.heap s.heap := gF.rf
  have hl := lv_entry ([.ref o0, .int p0, .int p1]) (n := 3) (Nat.le_of_ble_eq_true rfl)
  rw [lg_entry_eq]
  generalize (lg_sl ([.ref o0, .int p0, .int p1]) ++ List.replicate (3 - (lg_sl ([.ref o0, .int p0, .int p1])).length) Slot.unset).toArray = ls at hl ⊢
  have hl : lv_has ls 3 [(0, .ref o0), (1, .int p0), (2, .int p1)] := hl
  refine lv_aload_n hx hb dX12_sky_0 rfl (lv_at hl 0 rfl) ?_
  refine lv_iconst (v := 0) hx hb dX12_sky_1 (by decide) ?_
  refine tw_put (v := .int 0) (ty := .int) hx hb hts bF_X12 tyX12 tyX12_ok nmX12 hown hK hT hG hS hr_o0 shm_0 rfl 0 (by decide) (ht_at hts 0 rfl) (fun _ h9 => h9) rfl (by decide +kernel) rfl rfl (gl_at rfl (gi_all _)) dX12_sky_2 (fun H locs hT oq m1 oj hS => ?_)
  have hF := hF.put hr_o0 skm_0 oq oj (by decide)
  refine lv_aload_n hx hb dX12_sky_5 rfl (lv_at hl 0 rfl) ?_
  refine lv_iload_n hx hb dX12_sky_6 rfl (lv_at hl 1 rfl) ?_
  refine lv_iconst (v := 0) hx hb dX12_sky_7 (by decide) ?_
  refine lv_ldc (v := 40000) hx hb hown (ht_at hts 1 rfl) dX12_sky_8 ?_
  have hFc := gA_free hG hA hS
  refine va_calli (va_runS (As := [.int p0, .int 0, .int 40000]) (rest := [.ref o0]) ⟨hx, hb, hml, hown, hts⟩ (s_in l dC dI kA adK adV G H q wZ wN wH wB wC wL wK wU wV PI im PM PT lS lB lE lN p0 0 40000 hT hgz hgn hgh hgb hgc hgi hgu) (va_cwS 3 hts (goodIn_app (goodIn_r _ [4, 5, 6] rfl (by decide +kernel)) (goodIn_ca (goodIn_r _ [3] rfl (by decide +kernel)) (bs_in _ _))) rfl rfl rfl (by decide +kernel) ⟨(Nat.le_of_ble_eq_true rfl), (Nat.le_of_ble_eq_true rfl)⟩) ⟨fun a U g mk q => by obtain ⟨q0, q1, qK, qE⟩ := q; exact ⟨q0, q1, va_K.moved (u := U) (U := U.calling g mk a) (Vm.Alike.refl U.vm) qK, EVS.blind g mk a qE⟩, fun U hU hW => ⟨rfl, hU, va_K.moved hW.alike hK, hE.call hS hFc hU hW⟩⟩ rfl rfl hl.1 rfl (lv_room (Nat.le_of_ble_eq_true rfl)) dX12_sky_10 ⟨(Nat.le_of_ble_eq_true rfl), (Nat.le_of_ble_eq_true rfl)⟩) hS (fun q _ h => hFc q h) hFc (fun r2 u t H locs ht hvm hw3 hB _ _ hS => ?_)
  obtain ⟨hT, hF1⟩ := hB
  rw [ht] at hT hF1
  have m4 := (hF1.fld hr_o0 skm_0 (k := 0) (by decide) (by decide)).trans m1
  have hF := hF.more hF1 (by decide)
  try dsimp only at hw3
  obtain ⟨h5, hi6, hi7⟩ := hw3
  refine lv_if_eq (tgt := 25) hx hb dX12_sky_13 (by decide) (fun c8 => ?_) (fun c8 => ?_)
  · have t9 : r2.toInt = 0 := ti_eq c8 rfl (by decide)
    have t10 : (0 : Int32).toInt = 0 := by decide
    have t11 : (40000 : Int32).toInt = 40000 := by decide
    have t12 : p0.toInt < (0 : Int32).toInt ∨ (40000 : Int32).toInt < p0.toInt := hi7 c8
    refine lv_iconst (v := 1) hx hb dX12_sky_25 (by decide) ?_
    refine lv_goto (tgt := 30) hx hb dX12_sky_26 (by decide) ?_
    refine lv_iconst (v := 1) hx hb dX12_sky_30 (by decide) ?_
    have hFc := gA_free hG hA hS
    refine va_calli (va_runV (As := [.int 1, .int 1]) (rest := []) ⟨hx, hb, hml, hown, hts⟩ (s_throwsIfP l dC dI kA adK adV G H q wZ wN wH wB wC wL wK wU wV PI im PM PT lS lB lE lN o0 1 1 0 hT hr_o0 m4 (rg_t (a := 1) (by decide) (by first | decide | omega) (by first | decide | omega)) hgz hgn hgh hgb hgc hgi hgu) (cwV 2 hts (goodIn_app (goodIn_r _ [8, 9, 10, 6] rfl (by decide +kernel)) (goodIn_ca (goodIn_r _ [7, 1] rfl (by decide +kernel)) (bs_in _ _))) rfl rfl rfl (by decide +kernel) ⟨(Nat.le_of_ble_eq_true rfl), (Nat.le_of_ble_eq_true rfl)⟩) ⟨fun a U g mk q => by obtain ⟨q0, q1, qK, qE⟩ := q; exact ⟨q0, q1, va_K.moved (u := U) (U := U.calling g mk a) (Vm.Alike.refl U.vm) qK, EVS.blind g mk a qE⟩, gH_rc hK hT hr_o0 shm_0 rfl, fun U hU hW => ⟨rfl, hU, va_K.moved hW.alike hK, hE.call hS hFc hU hW⟩⟩ rfl rfl hl.1 rfl (lv_room (Nat.le_of_ble_eq_true rfl)) dX12_sky_31 ⟨(Nat.le_of_ble_eq_true rfl), (Nat.le_of_ble_eq_true rfl)⟩) hS (fun q _ h => hFc q h) hFc (fun r13 u t H locs ht hvm hw14 hB _ _ hS => ?_)
    obtain ⟨u15, rfl⟩ : ∃ z, z = u := ⟨_, rfl⟩
    obtain ⟨hT, hF1, m16⟩ := hB
    rw [ht] at hT hF1 m16
    have hF := hF.more hF1 (by decide)
    try dsimp only at hw14
    obtain ⟨h18, hf19, hd20⟩ := hw14
    have t21 : (1 : Int32).toInt = 1 := by decide
    have t22 : (1 : Int32).toInt = 1 := by decide
    have t23 : (0 : Int32).toInt = 0 := by decide
    obtain rfl : (1 : Int32) = r13 := hd20.symm
    refine lv_if_eq (tgt := 39) hx hb dX12_sky_34 (by decide) (fun c24 => absurd c24 (by decide)) (fun c24 => ?_)
    refine lv_iconst (v := 0) hx hb dX12_sky_37 (by decide) ?_
    exact W.iret (v := 0) hx hb hr (fun t ht hW => ⟨⟨0, u15, rfl, (by exact (Or.inl ⟨by have := skC_s p0.toInt p1.toInt; omega, by have := skC_s p0.toInt p1.toInt; have q0 : (0 : Int32).toInt = 0 := (by decide); have q1 : (1 : Int32).toInt = 1 := (by decide); have qm : (-1 : Int32).toInt = -1 := (by decide); omega⟩)), by (try dsimp only); rw [ht]; exact ⟨hT, hF, m16⟩⟩, hS.F ht⟩) hS.2.2 dX12_sky_38
  · have t25 : r2.toInt ≠ 0 := ti_ne c8 rfl (by decide)
    have t26 : (0 : Int32).toInt = 0 := by decide
    have t27 : (40000 : Int32).toInt = 40000 := by decide
    have t28 : (0 : Int32).toInt ≤ p0.toInt ∧ p0.toInt ≤ (40000 : Int32).toInt := hi6 ((bit_of ⟨by omega, by omega⟩).resolve_left c8)
    refine lv_iload_n hx hb dX12_sky_16 rfl (lv_at hl 2 rfl) ?_
    refine lv_iconst (v := 0) hx hb dX12_sky_17 (by decide) ?_
    refine lv_iconst (v := 2) hx hb dX12_sky_18 (by decide) ?_
    have hFc := gA_free hG hA hS
    refine va_calli (va_runS (As := [.int p1, .int 0, .int 2]) (rest := [.ref o0]) ⟨hx, hb, hml, hown, hts⟩ (s_in l dC dI kA adK adV G H q wZ wN wH wB wC wL wK wU wV PI im PM PT lS lB lE lN p1 0 2 hT hgz hgn hgh hgb hgc hgi hgu) (va_cwS 3 hts (goodIn_app (goodIn_r _ [4, 5, 6] rfl (by decide +kernel)) (goodIn_ca (goodIn_r _ [3] rfl (by decide +kernel)) (bs_in _ _))) rfl rfl rfl (by decide +kernel) ⟨(Nat.le_of_ble_eq_true rfl), (Nat.le_of_ble_eq_true rfl)⟩) ⟨fun a U g mk q => by obtain ⟨q0, q1, qK, qE⟩ := q; exact ⟨q0, q1, va_K.moved (u := U) (U := U.calling g mk a) (Vm.Alike.refl U.vm) qK, EVS.blind g mk a qE⟩, fun U hU hW => ⟨rfl, hU, va_K.moved hW.alike hK, hE.call hS hFc hU hW⟩⟩ rfl rfl hl.1 rfl (lv_room (Nat.le_of_ble_eq_true rfl)) dX12_sky_19 ⟨(Nat.le_of_ble_eq_true rfl), (Nat.le_of_ble_eq_true rfl)⟩) hS (fun q _ h => hFc q h) hFc (fun r29 u t H locs ht hvm hw30 hB _ _ hS => ?_)
    obtain ⟨hT, hF1⟩ := hB
    rw [ht] at hT hF1
    have m31 := (hF1.fld hr_o0 skm_0 (k := 0) (by decide) (by decide)).trans m4
    have hF := hF.more hF1 (by decide)
    try dsimp only at hw30
    obtain ⟨h32, hi33, hi34⟩ := hw30
    refine lv_if_ne (tgt := 29) hx hb dX12_sky_22 (by decide) (fun c35 => ?_) (fun c35 => ?_)
    · have t36 : r29.toInt ≠ 0 := ti_ne c35 rfl (by decide)
      have t37 : (0 : Int32).toInt = 0 := by decide
      have t38 : (2 : Int32).toInt = 2 := by decide
      have t39 : (0 : Int32).toInt ≤ p1.toInt ∧ p1.toInt ≤ (2 : Int32).toInt := hi33 ((bit_of ⟨by omega, by omega⟩).resolve_left c35)
      refine lv_iconst (v := 0) hx hb dX12_sky_29 (by decide) ?_
      refine lv_iconst (v := 1) hx hb dX12_sky_30 (by decide) ?_
      have hFc := gA_free hG hA hS
      refine va_calli (va_runV (As := [.int 0, .int 1]) (rest := []) ⟨hx, hb, hml, hown, hts⟩ (s_throwsIfP l dC dI kA adK adV G H q wZ wN wH wB wC wL wK wU wV PI im PM PT lS lB lE lN o0 0 1 0 hT hr_o0 m31 (rg_t (a := 0) (by decide) (by first | decide | omega) (by first | decide | omega)) hgz hgn hgh hgb hgc hgi hgu) (cwV 2 hts (goodIn_app (goodIn_r _ [8, 9, 10, 6] rfl (by decide +kernel)) (goodIn_ca (goodIn_r _ [7, 1] rfl (by decide +kernel)) (bs_in _ _))) rfl rfl rfl (by decide +kernel) ⟨(Nat.le_of_ble_eq_true rfl), (Nat.le_of_ble_eq_true rfl)⟩) ⟨fun a U g mk q => by obtain ⟨q0, q1, qK, qE⟩ := q; exact ⟨q0, q1, va_K.moved (u := U) (U := U.calling g mk a) (Vm.Alike.refl U.vm) qK, EVS.blind g mk a qE⟩, gH_rc hK hT hr_o0 shm_0 rfl, fun U hU hW => ⟨rfl, hU, va_K.moved hW.alike hK, hE.call hS hFc hU hW⟩⟩ rfl rfl hl.1 rfl (lv_room (Nat.le_of_ble_eq_true rfl)) dX12_sky_31 ⟨(Nat.le_of_ble_eq_true rfl), (Nat.le_of_ble_eq_true rfl)⟩) hS (fun q _ h => hFc q h) hFc (fun r40 u t H locs ht hvm hw41 hB _ _ hS => ?_)
      obtain ⟨u42, rfl⟩ : ∃ z, z = u := ⟨_, rfl⟩
      obtain ⟨hT, hF1, m43⟩ := hB
      rw [ht] at hT hF1 m43
      have hF := hF.more hF1 (by decide)
      try dsimp only at hw41
      obtain ⟨h45, hf46, hd47⟩ := hw41
      have t48 : (0 : Int32).toInt = 0 := by decide
      have t49 : (1 : Int32).toInt = 1 := by decide
      have t50 : (0 : Int32).toInt = 0 := by decide
      obtain rfl : (0 : Int32) = r40 := hd47.symm
      refine lv_if_eq (tgt := 39) hx hb dX12_sky_34 (by decide) (fun c51 => ?_) (fun c51 => absurd c51 (by decide))
      refine lv_iload_n hx hb dX12_sky_39 rfl (lv_at hl 2 rfl) ?_
      refine lv_if_ne (tgt := 51) hx hb dX12_sky_40 (by decide) (fun c52 => ?_) (fun c52 => ?_)
      · have t53 : p1.toInt ≠ 0 := ti_ne c52 rfl (by decide)
        refine lv_iload_n hx hb dX12_sky_51 rfl (lv_at hl 2 rfl) ?_
        refine lv_iconst (v := 1) hx hb dX12_sky_52 (by decide) ?_
        refine lv_icmp_ne (tgt := 64) hx hb dX12_sky_53 (by decide) (fun c54 => ?_) (fun c54 => ?_)
        · have t55 : p1.toInt ≠ 1 := ti_ne c54 rfl (by decide)
          refine lv_aload_n hx hb dX12_sky_64 rfl (lv_at hl 0 rfl) ?_
          refine lv_iload_n hx hb dX12_sky_65 rfl (lv_at hl 1 rfl) ?_
          have hFc := gA_free hG hA hS
          refine va_calli (va_runV (As := [.int p0]) (rest := []) ⟨hx, hb, hml, hown, hts⟩ (s_rainY l dC dI kA adK adV G H q wZ wN wH wB wC wL wK wU wV PI im PM PT lS lB lE lN o0 p0 hT hr_o0 hgz hgn hgh hgb hgc hgi hgu) (cwV 1 hts (goodIn_app (goodIn_r _ [17, 18, 19, 6] rfl (by decide +kernel)) (goodIn_ca (goodIn_r _ [11, 12, 13, 14, 15, 16, 6] rfl (by decide +kernel)) (bs_in _ _))) rfl rfl rfl (by decide +kernel) ⟨(Nat.le_of_ble_eq_true rfl), (Nat.le_of_ble_eq_true rfl)⟩) ⟨fun a U g mk q => by obtain ⟨q0, q1, qK, qE⟩ := q; exact ⟨q0, q1, va_K.moved (u := U) (U := U.calling g mk a) (Vm.Alike.refl U.vm) qK, EVS.blind g mk a qE⟩, gH_rc hK hT hr_o0 shm_0 rfl, fun U hU hW => ⟨rfl, hU, va_K.moved hW.alike hK, hE.call hS hFc hU hW⟩⟩ rfl rfl hl.1 rfl (lv_room (Nat.le_of_ble_eq_true rfl)) dX12_sky_66 ⟨(Nat.le_of_ble_eq_true rfl), (Nat.le_of_ble_eq_true rfl)⟩) hS (fun q _ h => hFc q h) hFc (fun r56 u t H locs ht hvm hw57 hB _ _ hS => ?_)
          obtain ⟨hT, hF1⟩ := hB
          rw [ht] at hT hF1
          have m58 := (hF1.fld hr_o0 skm_0 (k := 0) (by decide) (by decide)).trans m43
          have hF := hF.more hF1 (by decide)
          try dsimp only at hw57
          obtain ⟨h59, hf60, hf61⟩ := hw57
          exact W.iret (v := r56) hx hb hr (fun t ht hW => ⟨⟨r56, u42, rfl, (by exact (Or.inr ⟨by have := skC_s p0.toInt p1.toInt; omega, by have q0 : (0 : Int32).toInt = 0 := (by decide); have q1 : (1 : Int32).toInt = 1 := (by decide); have qm : (-1 : Int32).toInt = -1 := (by decide); omega, Or.inr (Or.inr ⟨by omega, by omega, hf60⟩)⟩)), by (try dsimp only); rw [ht]; exact ⟨hT, hF, m58⟩⟩, hS.F ht⟩) hS.2.2 dX12_sky_69
        · have t62 : p1.toInt = 1 := ti_eq c54 rfl (by decide)
          refine lv_aload_n hx hb dX12_sky_56 rfl (lv_at hl 0 rfl) ?_
          refine lv_iload_n hx hb dX12_sky_57 rfl (lv_at hl 1 rfl) ?_
          have hFc := gA_free hG hA hS
          refine va_calli (va_runV (As := [.int p0]) (rest := []) ⟨hx, hb, hml, hown, hts⟩ (s_windY l dC dI kA adK adV G H q wZ wN wH wB wC wL wK wU wV PI im PM PT lS lB lE lN o0 p0 hT hr_o0 hgz hgn hgh hgb hgc hgi hgu) (cwV 1 hts (goodIn_app (goodIn_r _ [25, 26, 27, 6] rfl (by decide +kernel)) (goodIn_ca (goodIn_r _ [20, 12, 13, 14, 15, 16, 6, 21, 22, 23, 24] rfl (by decide +kernel)) (bs_in _ _))) rfl rfl rfl (by decide +kernel) ⟨(Nat.le_of_ble_eq_true rfl), (Nat.le_of_ble_eq_true rfl)⟩) ⟨fun a U g mk q => by obtain ⟨q0, q1, qK, qE⟩ := q; exact ⟨q0, q1, va_K.moved (u := U) (U := U.calling g mk a) (Vm.Alike.refl U.vm) qK, EVS.blind g mk a qE⟩, gH_rc hK hT hr_o0 shm_0 rfl, fun U hU hW => ⟨rfl, hU, va_K.moved hW.alike hK, hE.call hS hFc hU hW⟩⟩ rfl rfl hl.1 rfl (lv_room (Nat.le_of_ble_eq_true rfl)) dX12_sky_58 ⟨(Nat.le_of_ble_eq_true rfl), (Nat.le_of_ble_eq_true rfl)⟩) hS (fun q _ h => hFc q h) hFc (fun r63 u t H locs ht hvm hw64 hB _ _ hS => ?_)
          obtain ⟨hT, hF1⟩ := hB
          rw [ht] at hT hF1
          have m65 := (hF1.fld hr_o0 skm_0 (k := 0) (by decide) (by decide)).trans m43
          have hF := hF.more hF1 (by decide)
          try dsimp only at hw64
          obtain ⟨hf66, hf67⟩ := hw64
          refine lv_goto (tgt := 69) hx hb dX12_sky_61 (by decide) ?_
          exact W.iret (v := r63) hx hb hr (fun t ht hW => ⟨⟨r63, u42, rfl, (by exact (Or.inr ⟨by have := skC_s p0.toInt p1.toInt; omega, by have q0 : (0 : Int32).toInt = 0 := (by decide); have q1 : (1 : Int32).toInt = 1 := (by decide); have qm : (-1 : Int32).toInt = -1 := (by decide); omega, Or.inr (Or.inl ⟨by omega, by omega, hf66⟩)⟩)), by (try dsimp only); rw [ht]; exact ⟨hT, hF, m65⟩⟩, hS.F ht⟩) hS.2.2 dX12_sky_69
      · have t68 : p1.toInt = 0 := ti_eq c52 rfl (by decide)
        refine lv_aload_n hx hb dX12_sky_43 rfl (lv_at hl 0 rfl) ?_
        refine lv_iload_n hx hb dX12_sky_44 rfl (lv_at hl 1 rfl) ?_
        have hFc := gA_free hG hA hS
        refine va_calli (va_runV (As := [.int p0]) (rest := []) ⟨hx, hb, hml, hown, hts⟩ (s_outsideY l dC dI kA adK adV G H q wZ wN wH wB wC wL wK wU wV PI im PM PT lS lB lE lN o0 p0 hT hr_o0 (by have q8 := ti_all p0; omega) hgz hgn hgh hgb hgc hgi hgu) (cwV 1 hts (goodIn_app (goodIn_r _ [29, 30, 31, 6] rfl (by decide +kernel)) (goodIn_ca (goodIn_r _ [28, 13, 3, 4, 5, 6] rfl (by decide +kernel)) (bs_in _ _))) rfl rfl rfl (by decide +kernel) ⟨(Nat.le_of_ble_eq_true rfl), (Nat.le_of_ble_eq_true rfl)⟩) ⟨fun a U g mk q => by obtain ⟨q0, q1, qK, qE⟩ := q; exact ⟨q0, q1, va_K.moved (u := U) (U := U.calling g mk a) (Vm.Alike.refl U.vm) qK, EVS.blind g mk a qE⟩, gH_rc hK hT hr_o0 shm_0 rfl, fun U hU hW => ⟨rfl, hU, va_K.moved hW.alike hK, hE.call hS hFc hU hW⟩⟩ rfl rfl hl.1 rfl (lv_room (Nat.le_of_ble_eq_true rfl)) dX12_sky_45 ⟨(Nat.le_of_ble_eq_true rfl), (Nat.le_of_ble_eq_true rfl)⟩) hS (fun q _ h => hFc q h) hFc (fun r69 u t H locs ht hvm hw70 hB _ _ hS => ?_)
        obtain ⟨hT, hF1⟩ := hB
        rw [ht] at hT hF1
        have m71 := (hF1.fld hr_o0 skm_0 (k := 0) (by decide) (by decide)).trans m43
        have hF := hF.more hF1 (by decide)
        try dsimp only at hw70
        obtain ⟨h72, hf73, hf74⟩ := hw70
        refine lv_goto (tgt := 69) hx hb dX12_sky_48 (by decide) ?_
        exact W.iret (v := r69) hx hb hr (fun t ht hW => ⟨⟨r69, u42, rfl, (by exact (Or.inr ⟨by have := skC_s p0.toInt p1.toInt; omega, by have q0 : (0 : Int32).toInt = 0 := (by decide); have q1 : (1 : Int32).toInt = 1 := (by decide); have qm : (-1 : Int32).toInt = -1 := (by decide); omega, Or.inl ⟨by omega, by omega, hf73⟩⟩)), by (try dsimp only); rw [ht]; exact ⟨hT, hF, m71⟩⟩, hS.F ht⟩) hS.2.2 dX12_sky_69
    · have t75 : r29.toInt = 0 := ti_eq c35 rfl (by decide)
      have t76 : (0 : Int32).toInt = 0 := by decide
      have t77 : (2 : Int32).toInt = 2 := by decide
      have t78 : p1.toInt < (0 : Int32).toInt ∨ (2 : Int32).toInt < p1.toInt := hi34 c35
      refine lv_iconst (v := 1) hx hb dX12_sky_25 (by decide) ?_
      refine lv_goto (tgt := 30) hx hb dX12_sky_26 (by decide) ?_
      refine lv_iconst (v := 1) hx hb dX12_sky_30 (by decide) ?_
      have hFc := gA_free hG hA hS
      refine va_calli (va_runV (As := [.int 1, .int 1]) (rest := []) ⟨hx, hb, hml, hown, hts⟩ (s_throwsIfP l dC dI kA adK adV G H q wZ wN wH wB wC wL wK wU wV PI im PM PT lS lB lE lN o0 1 1 0 hT hr_o0 m31 (rg_t (a := 1) (by decide) (by first | decide | omega) (by first | decide | omega)) hgz hgn hgh hgb hgc hgi hgu) (cwV 2 hts (goodIn_app (goodIn_r _ [8, 9, 10, 6] rfl (by decide +kernel)) (goodIn_ca (goodIn_r _ [7, 1] rfl (by decide +kernel)) (bs_in _ _))) rfl rfl rfl (by decide +kernel) ⟨(Nat.le_of_ble_eq_true rfl), (Nat.le_of_ble_eq_true rfl)⟩) ⟨fun a U g mk q => by obtain ⟨q0, q1, qK, qE⟩ := q; exact ⟨q0, q1, va_K.moved (u := U) (U := U.calling g mk a) (Vm.Alike.refl U.vm) qK, EVS.blind g mk a qE⟩, gH_rc hK hT hr_o0 shm_0 rfl, fun U hU hW => ⟨rfl, hU, va_K.moved hW.alike hK, hE.call hS hFc hU hW⟩⟩ rfl rfl hl.1 rfl (lv_room (Nat.le_of_ble_eq_true rfl)) dX12_sky_31 ⟨(Nat.le_of_ble_eq_true rfl), (Nat.le_of_ble_eq_true rfl)⟩) hS (fun q _ h => hFc q h) hFc (fun r79 u t H locs ht hvm hw80 hB _ _ hS => ?_)
      obtain ⟨u81, rfl⟩ : ∃ z, z = u := ⟨_, rfl⟩
      obtain ⟨hT, hF1, m82⟩ := hB
      rw [ht] at hT hF1 m82
      have hF := hF.more hF1 (by decide)
      try dsimp only at hw80
      obtain ⟨h84, hf85, hd86⟩ := hw80
      have t87 : (1 : Int32).toInt = 1 := by decide
      have t88 : (1 : Int32).toInt = 1 := by decide
      have t89 : (0 : Int32).toInt = 0 := by decide
      obtain rfl : (1 : Int32) = r79 := hd86.symm
      refine lv_if_eq (tgt := 39) hx hb dX12_sky_34 (by decide) (fun c90 => absurd c90 (by decide)) (fun c90 => ?_)
      refine lv_iconst (v := 0) hx hb dX12_sky_37 (by decide) ?_
      exact W.iret (v := 0) hx hb hr (fun t ht hW => ⟨⟨0, u81, rfl, (by exact (Or.inl ⟨by have := skC_s p0.toInt p1.toInt; omega, by have := skC_s p0.toInt p1.toInt; have q0 : (0 : Int32).toInt = 0 := (by decide); have q1 : (1 : Int32).toInt = 1 := (by decide); have qm : (-1 : Int32).toInt = -1 := (by decide); omega⟩)), by (try dsimp only); rw [ht]; exact ⟨hT, hF, m82⟩⟩, hS.F ht⟩) hS.2.2 dX12_sky_38
