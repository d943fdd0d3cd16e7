def w_s_mayBuild : List Cond := .code yX12_mayBuild cX12_mayBuild 2 (some .boolean) :: ([.fieldLink RX12 194 "SeaLandModel" "thrown" "I", .code yX12_noSquare cX12_noSquare 1 (some .boolean), .code yX12_in cX12_in 3 (some .boolean), .methodLink RX12 197 yX12_in, .static yX12_in, .initialized RX12, .methodLink RX12 220 yX12_noSquare, .static yX12_noSquare, .code yX12_throwsIf cX12_throwsIf 3 (some .boolean), .methodLink RX12 224 yX12_throwsIf, .instanceMethod yX12_throwsIf, .selects RX12 yX12_throwsIf yX12_throwsIf, .code yX12_mayBuildOn cX12_mayBuildOn 5 (some .boolean), .code yX12_lastOf cX12_lastOf 5 (some .int), .fieldLink RX12 42 "SeaLandModel" "lines" "[I", .fieldLink RX12 45 "SeaLandModel" "sort" "[I", .fieldLink RX12 48 "SeaLandModel" "told" "[I", .methodLink RX12 492 yX12_lastOf, .instanceMethod yX12_lastOf, .selects RX12 yX12_lastOf yX12_lastOf, .fieldLink RX12 9 "SeaLandModel" "world" "[I", .code yX12_isDike cX12_isDike 2 (some .boolean), .code yX12_of cX12_of 3 (some .int), .code yX12_at cX12_at 2 (some .int), .methodLink RX12 214 yX12_at, .static yX12_at, .methodLink RX12 217 yX12_of, .instanceMethod yX12_of, .selects RX12 yX12_of yX12_of, .methodLink RX12 272 yX12_isDike, .instanceMethod yX12_isDike, .selects RX12 yX12_isDike yX12_isDike, .code yX12_steps cX12_steps 2 (some .int), .methodLink RX12 201 Lib.Math.abs.name, .static Lib.Math.abs.name, .initialized "java/lang/Math", .code Lib.Math.abs.name Lib.Math.abs.code 1 (some .int), .methodLink RX12 262 yX12_steps, .static yX12_steps, .methodLink RX12 279 yX12_mayBuildOn, .instanceMethod yX12_mayBuildOn, .selects RX12 yX12_mayBuildOn yX12_mayBuildOn] ++ bs)
set_option maxHeartbeats 4000000 in
set_option maxRecDepth 100000 in
theorem s_mayBuild (l : Launch) (dC : Nat → ClassId) (dI : Nat → Nat → Nat) (kA : Nat → ClassId) (G : gT) (H0 : Heap) (q : Nat → Nat) (wN wH wB wC : Int) (wL wK : Nat → Prop) (PI : Nat → Int → Prop) (o0 : Nat) (p0 : Int32) (hT : gH (dC, dI) kA (SHm q (wP wN wH wB wC wC wL wK) PI) G H0) (hr_o0 : G o0 = some 0) (hgn : 6500000 ≤ wN ∧ wN ≤ 400000000) (hgh : 0 ≤ wH ∧ wH ≤ 40000) (hgb : 0 ≤ wB ∧ wB ≤ 3850000) (hgc : 0 ≤ wC ∧ wC ≤ 30) : Met l yX12_mayBuild w_s_mayBuild ({ frames := 4, cells := 0, slots := 0, locals := 88 }) (va_Pc [.ref o0, .int p0] (fun U => U.heap = H0 ∧ va_K (dC, dI) vwCl (tyl kA) U ∧ EV (gA G H0.size) U U.heap)) (va_Qi (fun (r : Int32) (u : Unit) => (0 ≤ r.toInt ∧ r.toInt ≤ 1)) (fun (_ : Unit) (t : State) => gH (dC, dI) kA (SHm q (wP wN wH wB wC wC wL wK) PI) G t.heap ∧ gF (dC, dI) SKm G ([(0, 0)] : List (Nat × Nat)) H0 t.heap) (gA G H0.size)) 0 0 (gA G H0.size) := by
  refine Met.ofW (cc := cX12_mayBuild) (maxL := 2) (ret := (some .boolean)) (by decide) rfl ?_
  intro p e s m args below meth c s₁ B hml hv
  obtain ⟨rfl, hH0, hK, hE⟩ := hv
  have hx := B.exec
  have hb := B.bytes
  have hr := B.returns
  have hts := atoms_spec (ws := w_s_mayBuild) B.pre
  have hown : s.vm.findClass RX12 = some m.cls := findClass_of_methodNamed B.named
  have hlocks := B.notSynchronized
  subst hH0
  generalize hAe : gA G s.heap.size = A at hE ⊢
  have hA : ∀ q : Nat, s.heap.size ≤ q → A q := fun q h => by rw [← hAe]; exact Or.inr h
  have hG := gA_of hAe
  have hS : va_S A s.heap s.heap [] := va_S.rf
  have hF : gF (dC, dI) SKm G ([(0, 0)] : List (Nat × Nat)) s.heap s.heap := gF.rf
  have hl := lv_entry ([.ref o0, .int p0]) (n := 2) (Nat.le_of_ble_eq_true rfl)
  rw [lg_entry_eq]
  generalize (lg_sl ([.ref o0, .int p0]) ++ List.replicate (2 - (lg_sl ([.ref o0, .int p0])).length) Slot.unset).toArray = ls at hl ⊢
  have hl : lv_has ls 2 [(0, .ref o0), (1, .int p0)] := hl
  refine lv_aload_n hx hb dX12_mayBuild_0 rfl (lv_at hl 0 rfl) ?_
  refine lv_iconst (v := 0) hx hb dX12_mayBuild_1 (by decide) ?_
  refine tw_put (v := .int 0) (ty := .int) hx hb hts bF_X12 tyX12 tyX12_ok nmX12 hown hK hT hG hS hr_o0 shm_0 rfl 0 (by decide) (ht_at hts 0 rfl) (fun _ h9 => h9) rfl (by decide +kernel) rfl rfl (gl_at rfl (gi_all _)) dX12_mayBuild_2 (fun H locs hT oq m1 oj hS => ?_)
  have hF := hF.put hr_o0 skm_0 oq oj (by decide)
  refine lv_aload_n hx hb dX12_mayBuild_5 rfl (lv_at hl 0 rfl) ?_
  refine lv_iload_n hx hb dX12_mayBuild_6 rfl (lv_at hl 1 rfl) ?_
  have hFc := gA_free hG hA hS
  refine va_calli (va_runS (As := [.int p0]) (rest := [.ref o0]) ⟨hx, hb, hml, hown, hts⟩ (s_noSquare l dC dI kA G H q wN wH wB wC wL wK PI p0 hT (by omega) (by omega) (by omega) (by omega)) (va_cwS 1 hts (goodIn_app (goodIn_r _ [7, 8, 6] (by decide +kernel) (by decide +kernel)) (goodIn_ca (goodIn_r _ [2, 3, 4, 5, 6] (by decide +kernel) (by decide +kernel)) (bs_in _ _))) rfl rfl rfl (by decide +kernel) ⟨(Nat.le_of_ble_eq_true rfl), (Nat.le_of_ble_eq_true rfl)⟩) ⟨fun a U g mk q => by obtain ⟨q0, q1, qK, qE⟩ := q; exact ⟨q0, q1, va_K.moved (u := U) (U := U.calling g mk a) (Vm.Alike.refl U.vm) qK, EV.blind g mk a qE⟩, fun U hU hW => ⟨rfl, hU, va_K.moved hW.alike hK, hE.call hS hFc hU hW⟩⟩ rfl rfl hl.1 rfl (lv_room (Nat.le_of_ble_eq_true rfl)) dX12_mayBuild_7 ⟨(Nat.le_of_ble_eq_true rfl), (Nat.le_of_ble_eq_true rfl)⟩) hS (fun q _ h => hFc q h) hFc (fun r2 u t H locs ht hvm hw3 hB _ _ hS => ?_)
  obtain ⟨hT, hF1⟩ := hB
  rw [ht] at hT hF1
  have m4 := (hF1.fld hr_o0 skm_0 (k := 0) (by decide) (by decide)).trans m1
  have hF := hF.more hF1 (by decide)
  try dsimp only at hw3
  obtain ⟨h5, hi6⟩ := hw3
  refine lv_iconst (v := 1) hx hb dX12_mayBuild_10 (by decide) ?_
  have hFc := gA_free hG hA hS
  refine va_calli (va_runV (As := [.int r2, .int 1]) (rest := []) ⟨hx, hb, hml, hown, hts⟩ (s_throwsIf l dC dI kA G H q wN wH wB wC wL wK PI o0 r2 1 hT hr_o0 (rg_t (a := r2.toInt) rfl (by have q8 := ti_all r2; omega) (by have q8 := ti_all r2; omega)) (by omega) (by omega) (by omega) (by omega)) (cwV 2 hts (goodIn_app (goodIn_r _ [10, 11, 12, 6] (by decide +kernel) (by decide +kernel)) (goodIn_ca (goodIn_r _ [9, 1] (by decide +kernel) (by decide +kernel)) (bs_in _ _))) rfl rfl rfl (by decide +kernel) ⟨(Nat.le_of_ble_eq_true rfl), (Nat.le_of_ble_eq_true rfl)⟩) ⟨fun a U g mk q => by obtain ⟨q0, q1, qK, qE⟩ := q; exact ⟨q0, q1, va_K.moved (u := U) (U := U.calling g mk a) (Vm.Alike.refl U.vm) qK, EV.blind g mk a qE⟩, gH_recv hK hT hr_o0 shm_0 rfl, fun U hU hW => ⟨rfl, hU, va_K.moved hW.alike hK, hE.call hS hFc hU hW⟩⟩ rfl rfl hl.1 rfl (lv_room (Nat.le_of_ble_eq_true rfl)) dX12_mayBuild_11 ⟨(Nat.le_of_ble_eq_true rfl), (Nat.le_of_ble_eq_true rfl)⟩) hS (fun q _ h => hFc q h) hFc (fun r7 u t H locs ht hvm hw8 hB _ _ hS => ?_)
  obtain ⟨hT, hF1⟩ := hB
  rw [ht] at hT hF1
  have hF := hF.more hF1 (by decide)
  try dsimp only at hw8
  obtain ⟨h10, hd11⟩ := hw8
  obtain rfl : r2 = r7 := hd11.symm
  refine lv_if_ne (tgt := 29) hx hb dX12_mayBuild_14 (by decide) (fun c12 => ?_) (fun c12 => ?_)
  · have t13 : r2.toInt ≠ 0 := ti_ne c12 rfl (by decide)
    refine lv_iconst (v := 0) hx hb dX12_mayBuild_29 (by decide) ?_
    exact W.zret (v := 0) hx hb hr (by decide) (fun t ht hW => ⟨⟨0, (), rfl, (by exact (rg_t (a := 0) (by decide) (by omega) (by omega))), by (try dsimp only); rw [ht]; exact ⟨hT, hF⟩⟩, hS.F ht⟩) hS.2.2 dX12_mayBuild_30
  · have t14 : r2.toInt = 0 := ti_eq c12 rfl (by decide)
    have t15 : 0 ≤ p0.toInt ∧ p0.toInt ≤ 95 := hi6 c12
    refine lv_aload_n hx hb dX12_mayBuild_17 rfl (lv_at hl 0 rfl) ?_
    refine lv_iload_n hx hb dX12_mayBuild_18 rfl (lv_at hl 1 rfl) ?_
    have hFc := gA_free hG hA hS
    refine va_calli (va_runV (As := [.int p0]) (rest := []) ⟨hx, hb, hml, hown, hts⟩ (s_mayBuildOn l dC dI kA G H q wN wH wB wC wL wK PI o0 p0 hT hr_o0 (by omega) (by omega) (by omega) (by omega)) (cwV 1 hts (goodIn_app (goodIn_r _ [40, 41, 42, 6] (by decide +kernel) (by decide +kernel)) (goodIn_ca (goodIn_r _ [13, 14, 15, 16, 17, 18, 19, 20, 6, 21, 22, 23, 24, 25, 26, 27, 28, 29, 30, 31, 32, 33, 34, 35, 36, 37, 38, 39] (by decide +kernel) (by decide +kernel)) (bs_in _ _))) rfl rfl rfl (by decide +kernel) ⟨(Nat.le_of_ble_eq_true rfl), (Nat.le_of_ble_eq_true rfl)⟩) ⟨fun a U g mk q => by obtain ⟨q0, q1, qK, qE⟩ := q; exact ⟨q0, q1, va_K.moved (u := U) (U := U.calling g mk a) (Vm.Alike.refl U.vm) qK, EV.blind g mk a qE⟩, gH_recv hK hT hr_o0 shm_0 rfl, fun U hU hW => ⟨rfl, hU, va_K.moved hW.alike hK, hE.call hS hFc hU hW⟩⟩ rfl rfl hl.1 rfl (lv_room (Nat.le_of_ble_eq_true rfl)) dX12_mayBuild_19 ⟨(Nat.le_of_ble_eq_true rfl), (Nat.le_of_ble_eq_true rfl)⟩) hS (fun q _ h => hFc q h) hFc (fun r16 u t H locs ht hvm hw17 hB _ _ hS => ?_)
    obtain ⟨hT, hF1⟩ := hB
    rw [ht] at hT hF1
    have hF := hF.more hF1 (by decide)
    try dsimp only at hw17
    have h18 := hw17
    refine lv_if_eq (tgt := 29) hx hb dX12_mayBuild_22 (by decide) (fun c19 => ?_) (fun c19 => ?_)
    · have t20 : r16.toInt = 0 := ti_eq c19 rfl (by decide)
      refine lv_iconst (v := 0) hx hb dX12_mayBuild_29 (by decide) ?_
      exact W.zret (v := 0) hx hb hr (by decide) (fun t ht hW => ⟨⟨0, (), rfl, (by exact (rg_t (a := 0) (by decide) (by omega) (by omega))), by (try dsimp only); rw [ht]; exact ⟨hT, hF⟩⟩, hS.F ht⟩) hS.2.2 dX12_mayBuild_30
    · have t21 : r16.toInt ≠ 0 := ti_ne c19 rfl (by decide)
      refine lv_iconst (v := 1) hx hb dX12_mayBuild_25 (by decide) ?_
      refine lv_goto (tgt := 30) hx hb dX12_mayBuild_26 (by decide) ?_
      exact W.zret (v := 1) hx hb hr (by decide) (fun t ht hW => ⟨⟨1, (), rfl, (by exact (rg_t (a := 1) (by decide) (by omega) (by omega))), by (try dsimp only); rw [ht]; exact ⟨hT, hF⟩⟩, hS.F ht⟩) hS.2.2 dX12_mayBuild_30
def w_s_farm : List Cond := .code yX12_farm cX12_farm 4 (some .int) :: ([.fieldLink RX12 194 "SeaLandModel" "thrown" "I", .code yX12_noSquare cX12_noSquare 1 (some .boolean), .code yX12_in cX12_in 3 (some .boolean), .methodLink RX12 197 yX12_in, .static yX12_in, .initialized RX12, .methodLink RX12 220 yX12_noSquare, .static yX12_noSquare, .code yX12_throwsIf cX12_throwsIf 3 (some .boolean), .methodLink RX12 224 yX12_throwsIf, .instanceMethod yX12_throwsIf, .selects RX12 yX12_throwsIf yX12_throwsIf, .fieldLink RX12 498 "SeaLandModel" "farms" "I", .fieldLink RX12 113 "SeaLandModel" "farmFrom" "[I", .fieldLink RX12 116 "SeaLandModel" "farmTo" "[I", .fieldLink RX12 122 "SeaLandModel" "holder" "[I", .code yX12_isIn cX12_isIn 5 (some .boolean), .methodLink RX12 207 Lib.Math.min.name, .static Lib.Math.min.name, .initialized "java/lang/Math", .code Lib.Math.min.name Lib.Math.min.code 2 (some .int), .methodLink RX12 211 Lib.Math.max.name, .static Lib.Math.max.name, .code Lib.Math.max.name Lib.Math.max.code 2 (some .int), .methodLink RX12 232 yX12_isIn, .static yX12_isIn, .code yX12_isLand cX12_isLand 2 (some .boolean), .fieldLink RX12 9 "SeaLandModel" "world" "[I", .methodLink RX12 235 yX12_isLand, .instanceMethod yX12_isLand, .selects RX12 yX12_isLand yX12_isLand, .code yX12_farmOf cX12_farmOf 3 (some .int), .methodLink RX12 329 yX12_farmOf, .instanceMethod yX12_farmOf, .selects RX12 yX12_farmOf yX12_farmOf] ++ bs)
set_option maxHeartbeats 4000000 in
set_option maxRecDepth 100000 in
theorem s_farm (l : Launch) (dC : Nat → ClassId) (dI : Nat → Nat → Nat) (kA : Nat → ClassId) (G : gT) (H0 : Heap) (q : Nat → Nat) (wN wH wB wC : Int) (wL wK : Nat → Prop) (PI : Nat → Int → Prop) (o0 : Nat) (p0 : Int32) (p1 : Int32) (hT : gH (dC, dI) kA (SHm q (wP wN wH wB wC wC wL wK) PI) G H0) (hr_o0 : G o0 = some 0) (hgn : 6500000 ≤ wN ∧ wN ≤ 400000000) (hgh : 0 ≤ wH ∧ wH ≤ 40000) (hgb : 0 ≤ wB ∧ wB ≤ 3850000) (hgc : 0 ≤ wC ∧ wC ≤ 30) : Met l yX12_farm w_s_farm ({ frames := 3, cells := 0, slots := 0, locals := 86 }) (va_Pc [.ref o0, .int p0, .int p1] (fun U => U.heap = H0 ∧ va_K (dC, dI) vwCl (tyl kA) U ∧ EV (gA G H0.size) U U.heap)) (va_Qi (fun (r : Int32) (u : Unit) => (-1 ≤ r.toInt ∧ r.toInt ≤ 29)) (fun (_ : Unit) (t : State) => gH (dC, dI) kA (SHm q (wP wN wH wB wC wC wL wK) PI) G t.heap ∧ gF (dC, dI) SKm G ([(0, 0), (0, 47), (44, 0), (45, 0), (47, 0)] : List (Nat × Nat)) H0 t.heap) (gA G H0.size)) 0 0 (gA G H0.size) := by
  refine Met.ofW (cc := cX12_farm) (maxL := 4) (ret := (some .int)) (by decide) rfl ?_
  intro p e s m args below meth c s₁ B hml hv
  obtain ⟨rfl, hH0, hK, hE⟩ := hv
  have hx := B.exec
  have hb := B.bytes
  have hr := B.returns
  have hts := atoms_spec (ws := w_s_farm) B.pre
  have hown : s.vm.findClass RX12 = some m.cls := findClass_of_methodNamed B.named
  have hlocks := B.notSynchronized
  subst hH0
  generalize hAe : gA G s.heap.size = A at hE ⊢
  have hA : ∀ q : Nat, s.heap.size ≤ q → A q := fun q h => by rw [← hAe]; exact Or.inr h
  have hG := gA_of hAe
  have hS : va_S A s.heap s.heap [] := va_S.rf
  have hF : gF (dC, dI) SKm G ([(0, 0), (0, 47), (44, 0), (45, 0), (47, 0)] : List (Nat × Nat)) s.heap s.heap := gF.rf
  have hl := lv_entry ([.ref o0, .int p0, .int p1]) (n := 4) (Nat.le_of_ble_eq_true rfl)
  rw [lg_entry_eq]
  generalize (lg_sl ([.ref o0, .int p0, .int p1]) ++ List.replicate (4 - (lg_sl ([.ref o0, .int p0, .int p1])).length) Slot.unset).toArray = ls at hl ⊢
  have hl : lv_has ls 4 [(0, .ref o0), (1, .int p0), (2, .int p1)] := hl
  refine lv_aload_n hx hb dX12_farm_0 rfl (lv_at hl 0 rfl) ?_
  refine lv_iconst (v := 0) hx hb dX12_farm_1 (by decide) ?_
  refine tw_put (v := .int 0) (ty := .int) hx hb hts bF_X12 tyX12 tyX12_ok nmX12 hown hK hT hG hS hr_o0 shm_0 rfl 0 (by decide) (ht_at hts 0 rfl) (fun _ h9 => h9) rfl (by decide +kernel) rfl rfl (gl_at rfl (gi_all _)) dX12_farm_2 (fun H locs hT oq m1 oj hS => ?_)
  have hF := hF.put hr_o0 skm_0 oq oj (by decide)
  refine lv_aload_n hx hb dX12_farm_5 rfl (lv_at hl 0 rfl) ?_
  refine lv_iload_n hx hb dX12_farm_6 rfl (lv_at hl 1 rfl) ?_
  have hFc := gA_free hG hA hS
  refine va_calli (va_runS (As := [.int p0]) (rest := [.ref o0]) ⟨hx, hb, hml, hown, hts⟩ (s_noSquare l dC dI kA G H q wN wH wB wC wL wK PI p0 hT (by omega) (by omega) (by omega) (by omega)) (va_cwS 1 hts (goodIn_app (goodIn_r _ [7, 8, 6] (by decide +kernel) (by decide +kernel)) (goodIn_ca (goodIn_r _ [2, 3, 4, 5, 6] (by decide +kernel) (by decide +kernel)) (bs_in _ _))) rfl rfl rfl (by decide +kernel) ⟨(Nat.le_of_ble_eq_true rfl), (Nat.le_of_ble_eq_true rfl)⟩) ⟨fun a U g mk q => by obtain ⟨q0, q1, qK, qE⟩ := q; exact ⟨q0, q1, va_K.moved (u := U) (U := U.calling g mk a) (Vm.Alike.refl U.vm) qK, EV.blind g mk a qE⟩, fun U hU hW => ⟨rfl, hU, va_K.moved hW.alike hK, hE.call hS hFc hU hW⟩⟩ rfl rfl hl.1 rfl (lv_room (Nat.le_of_ble_eq_true rfl)) dX12_farm_7 ⟨(Nat.le_of_ble_eq_true rfl), (Nat.le_of_ble_eq_true rfl)⟩) hS (fun q _ h => hFc q h) hFc (fun r2 u t H locs ht hvm hw3 hB _ _ hS => ?_)
  obtain ⟨hT, hF1⟩ := hB
  rw [ht] at hT hF1
  have m4 := (hF1.fld hr_o0 skm_0 (k := 0) (by decide) (by decide)).trans m1
  have hF := hF.more hF1 (by decide)
  try dsimp only at hw3
  obtain ⟨h5, hi6⟩ := hw3
  refine lv_if_ne (tgt := 20) hx hb dX12_farm_10 (by decide) (fun c7 => ?_) (fun c7 => ?_)
  · have t8 : r2.toInt ≠ 0 := ti_ne c7 rfl (by decide)
    refine lv_iconst (v := 1) hx hb dX12_farm_20 (by decide) ?_
    refine lv_goto (tgt := 25) hx hb dX12_farm_21 (by decide) ?_
    refine lv_iconst (v := 1) hx hb dX12_farm_25 (by decide) ?_
    have hFc := gA_free hG hA hS
    refine va_calli (va_runV (As := [.int 1, .int 1]) (rest := []) ⟨hx, hb, hml, hown, hts⟩ (s_throwsIf l dC dI kA G H q wN wH wB wC wL wK PI o0 1 1 hT hr_o0 (rg_t (a := 1) (by decide) (by omega) (by omega)) (by omega) (by omega) (by omega) (by omega)) (cwV 2 hts (goodIn_app (goodIn_r _ [10, 11, 12, 6] (by decide +kernel) (by decide +kernel)) (goodIn_ca (goodIn_r _ [9, 1] (by decide +kernel) (by decide +kernel)) (bs_in _ _))) rfl rfl rfl (by decide +kernel) ⟨(Nat.le_of_ble_eq_true rfl), (Nat.le_of_ble_eq_true rfl)⟩) ⟨fun a U g mk q => by obtain ⟨q0, q1, qK, qE⟩ := q; exact ⟨q0, q1, va_K.moved (u := U) (U := U.calling g mk a) (Vm.Alike.refl U.vm) qK, EV.blind g mk a qE⟩, gH_recv hK hT hr_o0 shm_0 rfl, fun U hU hW => ⟨rfl, hU, va_K.moved hW.alike hK, hE.call hS hFc hU hW⟩⟩ rfl rfl hl.1 rfl (lv_room (Nat.le_of_ble_eq_true rfl)) dX12_farm_26 ⟨(Nat.le_of_ble_eq_true rfl), (Nat.le_of_ble_eq_true rfl)⟩) hS (fun q _ h => hFc q h) hFc (fun r9 u t H locs ht hvm hw10 hB _ _ hS => ?_)
    obtain ⟨hT, hF1⟩ := hB
    rw [ht] at hT hF1
    have hF := hF.more hF1 (by decide)
    try dsimp only at hw10
    obtain ⟨h12, hd13⟩ := hw10
    obtain rfl : (1 : Int32) = r9 := hd13.symm
    refine lv_if_ne (tgt := 41) hx hb dX12_farm_29 (by decide) (fun c14 => ?_) (fun c14 => absurd c14 (by decide))
    refine lv_aload_n hx hb dX12_farm_41 rfl (lv_at hl 0 rfl) ?_
    refine tw_get hx hb hts bF_X12 hown hK hT hr_o0 shm_0 rfl 0 (by decide) (ht_at hts 0 rfl) (fun _ h9 => h9) dX12_farm_42 (fun v9 m15 h9 => ?_)
    obtain ⟨x16, rfl, gx16, kx16⟩ := h9 _ rfl
    refine lv_if_eq (tgt := 52) hx hb dX12_farm_45 (by decide) (fun c17 => ?_) (fun c17 => ?_)
    · have t18 : x16.toInt = 0 := ti_eq c17 rfl (by decide)
      refine lv_iconst (v := (-1)) hx hb dX12_farm_52 (by decide) ?_
      exact W.iret (v := (-1)) hx hb hr (fun t ht hW => ⟨⟨(-1), (), rfl, (by exact (rg_t (a := (-1)) (by decide) (by omega) (by omega))), by (try dsimp only); rw [ht]; exact ⟨hT, hF⟩⟩, hS.F ht⟩) hS.2.2 dX12_farm_53
    · have t19 : x16.toInt ≠ 0 := ti_ne c17 rfl (by decide)
      refine lv_iconst (v := 0) hx hb dX12_farm_48 (by decide) ?_
      refine lv_goto (tgt := 53) hx hb dX12_farm_49 (by decide) ?_
      exact W.iret (v := 0) hx hb hr (fun t ht hW => ⟨⟨0, (), rfl, (by exact (rg_t (a := 0) (by decide) (by omega) (by omega))), by (try dsimp only); rw [ht]; exact ⟨hT, hF⟩⟩, hS.F ht⟩) hS.2.2 dX12_farm_53
  · have t20 : r2.toInt = 0 := ti_eq c7 rfl (by decide)
    have t21 : 0 ≤ p0.toInt ∧ p0.toInt ≤ 95 := hi6 c7
    refine lv_iload_n hx hb dX12_farm_13 rfl (lv_at hl 2 rfl) ?_
    have hFc := gA_free hG hA hS
    refine va_calli (va_runS (As := [.int p1]) (rest := [.ref o0]) ⟨hx, hb, hml, hown, hts⟩ (s_noSquare l dC dI kA G H q wN wH wB wC wL wK PI p1 hT (by omega) (by omega) (by omega) (by omega)) (va_cwS 1 hts (goodIn_app (goodIn_r _ [7, 8, 6] (by decide +kernel) (by decide +kernel)) (goodIn_ca (goodIn_r _ [2, 3, 4, 5, 6] (by decide +kernel) (by decide +kernel)) (bs_in _ _))) rfl rfl rfl (by decide +kernel) ⟨(Nat.le_of_ble_eq_true rfl), (Nat.le_of_ble_eq_true rfl)⟩) ⟨fun a U g mk q => by obtain ⟨q0, q1, qK, qE⟩ := q; exact ⟨q0, q1, va_K.moved (u := U) (U := U.calling g mk a) (Vm.Alike.refl U.vm) qK, EV.blind g mk a qE⟩, fun U hU hW => ⟨rfl, hU, va_K.moved hW.alike hK, hE.call hS hFc hU hW⟩⟩ rfl rfl hl.1 rfl (lv_room (Nat.le_of_ble_eq_true rfl)) dX12_farm_14 ⟨(Nat.le_of_ble_eq_true rfl), (Nat.le_of_ble_eq_true rfl)⟩) hS (fun q _ h => hFc q h) hFc (fun r22 u t H locs ht hvm hw23 hB _ _ hS => ?_)
    obtain ⟨hT, hF1⟩ := hB
    rw [ht] at hT hF1
    have m24 := (hF1.fld hr_o0 skm_0 (k := 0) (by decide) (by decide)).trans m4
    have hF := hF.more hF1 (by decide)
    try dsimp only at hw23
    obtain ⟨h25, hi26⟩ := hw23
    refine lv_if_eq (tgt := 24) hx hb dX12_farm_17 (by decide) (fun c27 => ?_) (fun c27 => ?_)
    · have t28 : r22.toInt = 0 := ti_eq c27 rfl (by decide)
      have t29 : 0 ≤ p1.toInt ∧ p1.toInt ≤ 95 := hi26 c27
      refine lv_iconst (v := 0) hx hb dX12_farm_24 (by decide) ?_
      refine lv_iconst (v := 1) hx hb dX12_farm_25 (by decide) ?_
      have hFc := gA_free hG hA hS
      refine va_calli (va_runV (As := [.int 0, .int 1]) (rest := []) ⟨hx, hb, hml, hown, hts⟩ (s_throwsIf l dC dI kA G H q wN wH wB wC wL wK PI o0 0 1 hT hr_o0 (rg_t (a := 0) (by decide) (by omega) (by omega)) (by omega) (by omega) (by omega) (by omega)) (cwV 2 hts (goodIn_app (goodIn_r _ [10, 11, 12, 6] (by decide +kernel) (by decide +kernel)) (goodIn_ca (goodIn_r _ [9, 1] (by decide +kernel) (by decide +kernel)) (bs_in _ _))) rfl rfl rfl (by decide +kernel) ⟨(Nat.le_of_ble_eq_true rfl), (Nat.le_of_ble_eq_true rfl)⟩) ⟨fun a U g mk q => by obtain ⟨q0, q1, qK, qE⟩ := q; exact ⟨q0, q1, va_K.moved (u := U) (U := U.calling g mk a) (Vm.Alike.refl U.vm) qK, EV.blind g mk a qE⟩, gH_recv hK hT hr_o0 shm_0 rfl, fun U hU hW => ⟨rfl, hU, va_K.moved hW.alike hK, hE.call hS hFc hU hW⟩⟩ rfl rfl hl.1 rfl (lv_room (Nat.le_of_ble_eq_true rfl)) dX12_farm_26 ⟨(Nat.le_of_ble_eq_true rfl), (Nat.le_of_ble_eq_true rfl)⟩) hS (fun q _ h => hFc q h) hFc (fun r30 u t H locs ht hvm hw31 hB _ _ hS => ?_)
      obtain ⟨hT, hF1⟩ := hB
      rw [ht] at hT hF1
      have hF := hF.more hF1 (by decide)
      try dsimp only at hw31
      obtain ⟨h33, hd34⟩ := hw31
      obtain rfl : (0 : Int32) = r30 := hd34.symm
      refine lv_if_ne (tgt := 41) hx hb dX12_farm_29 (by decide) (fun c35 => absurd c35 (by decide)) (fun c35 => ?_)
      refine lv_aload_n hx hb dX12_farm_32 rfl (lv_at hl 0 rfl) ?_
      refine tw_get hx hb hts bF_X12 hown hK hT hr_o0 shm_0 rfl 47 (by decide) (ht_at hts 12 rfl) (fun _ h9 => h9) dX12_farm_33 (fun v9 m36 h9 => ?_)
      obtain ⟨x37, rfl, gx37, kx37⟩ := h9 _ rfl
      refine lv_bipush (v := 30) hx hb dX12_farm_36 (by decide) ?_
      refine lv_icmp_ne (tgt := 54) hx hb dX12_farm_38 (by decide) (fun c38 => ?_) (fun c38 => ?_)
      · have t39 : x37.toInt ≠ 30 := ti_ne c38 rfl (by decide)
        refine lv_iconst (v := 0) hx hb dX12_farm_54 (by decide) ?_
        refine lv_istore_n (lv' := [(3, .int 0), (0, .ref o0), (1, .int p0), (2, .int p1)]) hx hb dX12_farm_55 rfl hl (by decide) rfl (fun ls hl => ?_)
        have key113 : ∀ (n113 i40 : Nat), i40 + n113 = 96 → 0 ≤ i40 → ∀ (H : Heap) (locs : List Loc), gH (dC, dI) kA (SHm q (wP wN wH wB wC wC wL wK) PI) G H → gF (dC, dI) SKm G ([(0, 0), (0, 47), (44, 0), (45, 0), (47, 0)] : List (Nat × Nat)) s.heap H → va_S A s.heap H locs → el H o0 (dI 15 47) = some (.int x37) → ∀ ls : Array Slot, lv_has ls 4 [(3, .int (nI i40)), (0, .ref o0), (1, .int p0), (2, .int p1)] → W p l e (headSpec w_s_farm ({ frames := 3, cells := 0, slots := 0, locals := 86 })).room s m #[.ref o0, .int p0, .int p1] below meth c H locs 0 0 (MQ below (va_Qi (fun (r : Int32) (u : Unit) => (-1 ≤ r.toInt ∧ r.toInt ≤ 29)) (fun (_ : Unit) (t : State) => gH (dC, dI) kA (SHm q (wP wN wH wB wC wC wL wK) PI) G t.heap ∧ gF (dC, dI) SKm G ([(0, 0), (0, 47), (44, 0), (45, 0), (47, 0)] : List (Nat × Nat)) s.heap t.heap) A) #[.ref o0, .int p0, .int p1] s 0 0 A) (F0 m 56 ls []) := by
          intro n113
          induction n113 with
          | zero =>
            intro i40 hn113 hlo114  H locs hT hF hS m89 ls hl
            obtain rfl : 96 = i40 := by omega
            refine lv_iload_n hx hb dX12_farm_56 rfl (lv_at hl 0 rfl) ?_
            refine lv_bipush (v := 96) hx hb dX12_farm_57 (by decide) ?_
            refine lv_icmp_ge (tgt := 95) hx hb dX12_farm_59 (by decide) (fun c115 => ?_) (fun c115 => (by exfalso; have q9 : ((96 : Nat) : Int) < 96 := ti_nle c115 (by decide) (nI_toInt (by omega)); omega))
            have t116 : 96 ≤ ((96 : Nat) : Int) := ti_le c115 (by decide) (nI_toInt (by omega))
            refine lv_aload_n hx hb dX12_farm_95 rfl (lv_at hl 1 rfl) ?_
            refine tw_get hx hb hts bF_X12 hown hK hT hr_o0 shm_0 rfl 43 (by decide) (ht_at hts 13 rfl) (fun _ h9 => h9) dX12_farm_96 (fun v9 m117 h9 => ?_)
            obtain ⟨rfl, hg118⟩ := h9 _ rfl
            refine lv_aload_n hx hb dX12_farm_99 rfl (lv_at hl 1 rfl) ?_
            refine tw_getM (v := .int x37) hx hb hts bF_X12 hown hK hT hr_o0 shm_0 rfl 47 (by decide) (ht_at hts 12 rfl) (fun _ h9 => h9) m89 dX12_farm_100 ?_
            refine lv_iload_n hx hb dX12_farm_103 rfl (lv_at hl 2 rfl) ?_
            refine tw_iast (i := x37) (x := p0) hx hb hK hT hG hS hg118 shm_44 rfl (vin_t (a := x37.toInt) rfl (by omega) (by omega)) (gi_all _) dX12_farm_104 (fun H locs hT oq m119 oi hS => ?_)
            have hF := hF.ast hg118 skm_44 oq (by decide)
            have m120 := (el_kept (oq _ (gne hr_o0 hg118 (by decide)))).trans m89
            refine lv_aload_n hx hb dX12_farm_105 rfl (lv_at hl 1 rfl) ?_
            refine tw_get hx hb hts bF_X12 hown hK hT hr_o0 shm_0 rfl 44 (by decide) (ht_at hts 14 rfl) (fun _ h9 => h9) dX12_farm_106 (fun v9 m121 h9 => ?_)
            obtain ⟨rfl, hg122⟩ := h9 _ rfl
            refine lv_aload_n hx hb dX12_farm_109 rfl (lv_at hl 1 rfl) ?_
            refine tw_getM (v := .int x37) hx hb hts bF_X12 hown hK hT hr_o0 shm_0 rfl 47 (by decide) (ht_at hts 12 rfl) (fun _ h9 => h9) m120 dX12_farm_110 ?_
            refine lv_iload_n hx hb dX12_farm_113 rfl (lv_at hl 3 rfl) ?_
            refine tw_iast (i := x37) (x := p1) hx hb hK hT hG hS hg122 shm_45 rfl (vin_t (a := x37.toInt) rfl (by omega) (by omega)) (gi_all _) dX12_farm_114 (fun H locs hT oq m123 oi hS => ?_)
            have hF := hF.ast hg122 skm_45 oq (by decide)
            have m124 := (el_kept (oq _ (gne hr_o0 hg122 (by decide)))).trans m120
            have m125 := (el_kept (oq _ (gne hg118 hg122 (by decide)))).trans m119
            refine lv_aload_n hx hb dX12_farm_115 rfl (lv_at hl 1 rfl) ?_
            refine tw_get hx hb hts bF_X12 hown hK hT hr_o0 shm_0 rfl 46 (by decide) (ht_at hts 15 rfl) (fun _ h9 => h9) dX12_farm_116 (fun v9 m126 h9 => ?_)
            obtain ⟨rfl, hg127⟩ := h9 _ rfl
            refine lv_aload_n hx hb dX12_farm_119 rfl (lv_at hl 1 rfl) ?_
            refine tw_getM (v := .int x37) hx hb hts bF_X12 hown hK hT hr_o0 shm_0 rfl 47 (by decide) (ht_at hts 12 rfl) (fun _ h9 => h9) m124 dX12_farm_120 ?_
            refine lv_iconst (v := (-1)) hx hb dX12_farm_123 (by decide) ?_
            refine tw_iast (i := x37) (x := (-1)) hx hb hK hT hG hS hg127 shm_47 rfl (vin_t (a := x37.toInt) rfl (by omega) (by omega)) (gi_of (show (-1 : Int32).toInt = (-1) from (by decide)) (by omega) (by omega)) dX12_farm_124 (fun H locs hT oq m128 oi hS => ?_)
            have hF := hF.ast hg127 skm_47 oq (by decide)
            have m129 := (el_kept (oq _ (gne hr_o0 hg127 (by decide)))).trans m124
            have m130 := (el_kept (oq _ (gne hg118 hg127 (by decide)))).trans m125
            have m131 := (el_kept (oq _ (gne hg122 hg127 (by decide)))).trans m123
            refine lv_aload_n hx hb dX12_farm_125 rfl (lv_at hl 1 rfl) ?_
            refine lv_dup hx hb dX12_farm_126 rfl ?_
            refine tw_getM (v := .int x37) hx hb hts bF_X12 hown hK hT hr_o0 shm_0 rfl 47 (by decide) (ht_at hts 12 rfl) (fun _ h9 => h9) m129 dX12_farm_127 ?_
            refine lv_iconst (v := 1) hx hb dX12_farm_130 (by decide) ?_
            refine lv_iadd hx hb dX12_farm_131 ?_
            refine lv_topi (fun x132 ex132 => ?_)
            have t133 : x132.toInt = x37.toInt + 1 := ti_add ex132 rfl (by decide) (by omega) (by omega)
            refine tw_put (v := .int x132) (ty := .int) hx hb hts bF_X12 tyX12 tyX12_ok nmX12 hown hK hT hG hS hr_o0 shm_0 rfl 47 (by decide) (ht_at hts 12 rfl) (fun _ h9 => h9) rfl (by decide +kernel) rfl rfl (gl_at rfl (gi_of (show x132.toInt = x132.toInt from rfl) (by omega) (by omega))) dX12_farm_132 (fun H locs hT oq m134 oj hS => ?_)
            have hF := hF.put hr_o0 skm_0 oq oj (by decide)
            have m135 := (el_kept (oq _ (gne hg118 hr_o0 (by decide)))).trans m130
            have m136 := (el_kept (oq _ (gne hg122 hr_o0 (by decide)))).trans m131
            have m137 := (el_kept (oq _ (gne hg127 hr_o0 (by decide)))).trans m128
            refine lv_aload_n hx hb dX12_farm_135 rfl (lv_at hl 1 rfl) ?_
            refine tw_getM (v := .int x132) hx hb hts bF_X12 hown hK hT hr_o0 shm_0 rfl 47 (by decide) (ht_at hts 12 rfl) (fun _ h9 => h9) m134 dX12_farm_136 ?_
            refine lv_iconst (v := 1) hx hb dX12_farm_139 (by decide) ?_
            refine lv_isub hx hb dX12_farm_140 ?_
            refine lv_topi (fun x138 ex138 => ?_)
            have t139 : x138.toInt = x132.toInt - 1 := ti_sub ex138 rfl (by decide) (by omega) (by omega)
            exact W.iret (v := x138) hx hb hr (fun t ht hW => ⟨⟨x138, (), rfl, (by exact (rg_t (a := x138.toInt) rfl (by have q8 := ti_all x138; omega) (by have q8 := ti_all x138; omega))), by (try dsimp only); rw [ht]; exact ⟨hT, hF⟩⟩, hS.F ht⟩) hS.2.2 dX12_farm_141
          | succ n113 ih113 =>
            intro i40 hn113 hlo114  H locs hT hF hS m89 ls hl
            have hlt139 : i40 < 96 := by omega
            refine lv_iload_n hx hb dX12_farm_56 rfl (lv_at hl 0 rfl) ?_
            refine lv_bipush (v := 96) hx hb dX12_farm_57 (by decide) ?_
            refine lv_icmp_ge (tgt := 95) hx hb dX12_farm_59 (by decide) (fun c140 => (by exfalso; have q9 : 96 ≤ ((i40 : Nat) : Int) := ti_le c140 (by decide) (nI_toInt (by omega)); omega)) (fun c140 => ?_)
            have t141 : ((i40 : Nat) : Int) < 96 := ti_nle c140 (by decide) (nI_toInt (by omega))
            refine lv_iload_n hx hb dX12_farm_62 rfl (lv_at hl 0 rfl) ?_
            refine lv_iload_n hx hb dX12_farm_63 rfl (lv_at hl 2 rfl) ?_
            refine lv_iload_n hx hb dX12_farm_64 rfl (lv_at hl 3 rfl) ?_
            have hFc := gA_free hG hA hS
            refine va_calli (va_runS (As := [.int (nI i40), .int p0, .int p1]) (rest := []) ⟨hx, hb, hml, hown, hts⟩ (s_isIn l dC dI kA G H q wN wH wB wC wL wK PI (nI i40) p0 p1 hT (by omega) (by omega) (by omega) (by omega)) (va_cwS 3 hts (goodIn_app (goodIn_r _ [25, 26, 6] (by decide +kernel) (by decide +kernel)) (goodIn_ca (goodIn_r _ [17, 18, 19, 20, 21, 22, 23, 24, 3, 4, 5, 6] (by decide +kernel) (by decide +kernel)) (bs_in _ _))) rfl rfl rfl (by decide +kernel) ⟨(Nat.le_of_ble_eq_true rfl), (Nat.le_of_ble_eq_true rfl)⟩) ⟨fun a U g mk q => by obtain ⟨q0, q1, qK, qE⟩ := q; exact ⟨q0, q1, va_K.moved (u := U) (U := U.calling g mk a) (Vm.Alike.refl U.vm) qK, EV.blind g mk a qE⟩, fun U hU hW => ⟨rfl, hU, va_K.moved hW.alike hK, hE.call hS hFc hU hW⟩⟩ rfl rfl hl.1 rfl (lv_room (Nat.le_of_ble_eq_true rfl)) dX12_farm_65 ⟨(Nat.le_of_ble_eq_true rfl), (Nat.le_of_ble_eq_true rfl)⟩) hS (fun q _ h => hFc q h) hFc (fun r142 u t H locs ht hvm hw143 hB _ _ hS => ?_)
            obtain ⟨hT, hF1⟩ := hB
            rw [ht] at hT hF1
            have m144 := (hF1.fld hr_o0 skm_0 (k := 47) (by decide) (by decide)).trans m89
            have hF := hF.more hF1 (by decide)
            try dsimp only at hw143
            have h145 := hw143
            refine lv_if_eq (tgt := 89) hx hb dX12_farm_68 (by decide) (fun c146 => ?_) (fun c146 => ?_)
            · have t147 : r142.toInt = 0 := ti_eq c146 rfl (by decide)
              refine lv_iinc (v := nI (i40 + 1)) (lv' := [(3, .int (nI (i40 + 1))), (0, .ref o0), (1, .int p0), (2, .int p1)]) hx hb dX12_farm_89 hl (k := 0) rfl (nI_add i40 1) (by decide) rfl (fun ls hl => ?_)
              refine lv_goto (tgt := 56) hx hb dX12_farm_92 (by decide) ?_
              exact ih113 (i40 + 1) (by omega) (by omega) _ _ hT hF hS m144 ls (lv_sub hl [0, 1, 2, 3] rfl)
            · have t148 : r142.toInt ≠ 0 := ti_ne c146 rfl (by decide)
              refine lv_aload_n hx hb dX12_farm_71 rfl (lv_at hl 1 rfl) ?_
              refine lv_iload_n hx hb dX12_farm_72 rfl (lv_at hl 0 rfl) ?_
              have hFc := gA_free hG hA hS
              refine va_calli (va_runV (As := [.int (nI i40)]) (rest := []) ⟨hx, hb, hml, hown, hts⟩ (s_isLand l dC dI kA G H q wN wH wB wC wL wK PI o0 (nI i40) hT hr_o0 (rg_t (a := ((i40 : Nat) : Int)) (nI_toInt (by omega)) (by omega) (by omega)) (by omega) (by omega) (by omega) (by omega)) (cwV 1 hts (goodIn_app (goodIn_r _ [29, 30, 31, 6] (by decide +kernel) (by decide +kernel)) (goodIn_ca (goodIn_r _ [27, 28] (by decide +kernel) (by decide +kernel)) (bs_in _ _))) rfl rfl rfl (by decide +kernel) ⟨(Nat.le_of_ble_eq_true rfl), (Nat.le_of_ble_eq_true rfl)⟩) ⟨fun a U g mk q => by obtain ⟨q0, q1, qK, qE⟩ := q; exact ⟨q0, q1, va_K.moved (u := U) (U := U.calling g mk a) (Vm.Alike.refl U.vm) qK, EV.blind g mk a qE⟩, gH_recv hK hT hr_o0 shm_0 rfl, fun U hU hW => ⟨rfl, hU, va_K.moved hW.alike hK, hE.call hS hFc hU hW⟩⟩ rfl rfl hl.1 rfl (lv_room (Nat.le_of_ble_eq_true rfl)) dX12_farm_73 ⟨(Nat.le_of_ble_eq_true rfl), (Nat.le_of_ble_eq_true rfl)⟩) hS (fun q _ h => hFc q h) hFc (fun r149 u t H locs ht hvm hw150 hB _ _ hS => ?_)
              obtain ⟨hT, hF1⟩ := hB
              rw [ht] at hT hF1
              have m151 := (hF1.fld hr_o0 skm_0 (k := 47) (by decide) (by decide)).trans m144
              have hF := hF.more hF1 (by decide)
              try dsimp only at hw150
              have h152 := hw150
              refine lv_if_eq (tgt := 87) hx hb dX12_farm_76 (by decide) (fun c153 => ?_) (fun c153 => ?_)
              · have t154 : r149.toInt = 0 := ti_eq c153 rfl (by decide)
                refine lv_iconst (v := (-1)) hx hb dX12_farm_87 (by decide) ?_
                exact W.iret (v := (-1)) hx hb hr (fun t ht hW => ⟨⟨(-1), (), rfl, (by exact (rg_t (a := (-1)) (by decide) (by omega) (by omega))), by (try dsimp only); rw [ht]; exact ⟨hT, hF⟩⟩, hS.F ht⟩) hS.2.2 dX12_farm_88
              · have t155 : r149.toInt ≠ 0 := ti_ne c153 rfl (by decide)
                refine lv_aload_n hx hb dX12_farm_79 rfl (lv_at hl 1 rfl) ?_
                refine lv_iload_n hx hb dX12_farm_80 rfl (lv_at hl 0 rfl) ?_
                have hFc := gA_free hG hA hS
                refine va_calli (va_runV (As := [.int (nI i40)]) (rest := []) ⟨hx, hb, hml, hown, hts⟩ (s_farmOf l dC dI kA G H q wN wH wB wC wL wK PI o0 (nI i40) hT hr_o0 (by omega) (by omega) (by omega) (by omega)) (cwV 1 hts (goodIn_app (goodIn_r _ [33, 34, 35, 6] (by decide +kernel) (by decide +kernel)) (goodIn_ca (goodIn_r _ [32, 13, 14, 15, 17, 18, 19, 20, 21, 22, 23, 24, 3, 4, 5, 6, 25, 26] (by decide +kernel) (by decide +kernel)) (bs_in _ _))) rfl rfl rfl (by decide +kernel) ⟨(Nat.le_of_ble_eq_true rfl), (Nat.le_of_ble_eq_true rfl)⟩) ⟨fun a U g mk q => by obtain ⟨q0, q1, qK, qE⟩ := q; exact ⟨q0, q1, va_K.moved (u := U) (U := U.calling g mk a) (Vm.Alike.refl U.vm) qK, EV.blind g mk a qE⟩, gH_recv hK hT hr_o0 shm_0 rfl, fun U hU hW => ⟨rfl, hU, va_K.moved hW.alike hK, hE.call hS hFc hU hW⟩⟩ rfl rfl hl.1 rfl (lv_room (Nat.le_of_ble_eq_true rfl)) dX12_farm_81 ⟨(Nat.le_of_ble_eq_true rfl), (Nat.le_of_ble_eq_true rfl)⟩) hS (fun q _ h => hFc q h) hFc (fun r156 u t H locs ht hvm hw157 hB _ _ hS => ?_)
                obtain ⟨hT, hF1⟩ := hB
                rw [ht] at hT hF1
                have m158 := (hF1.fld hr_o0 skm_0 (k := 47) (by decide) (by decide)).trans m151
                have hF := hF.more hF1 (by decide)
                try dsimp only at hw157
                have h159 := hw157
                refine lv_if_lt (tgt := 89) hx hb dX12_farm_84 (by decide) (fun c160 => ?_) (fun c160 => ?_)
                · have t161 : r156.toInt < 0 := ti_lt c160 rfl (by decide)
                  refine lv_iinc (v := nI (i40 + 1)) (lv' := [(3, .int (nI (i40 + 1))), (0, .ref o0), (1, .int p0), (2, .int p1)]) hx hb dX12_farm_89 hl (k := 0) rfl (nI_add i40 1) (by decide) rfl (fun ls hl => ?_)
                  refine lv_goto (tgt := 56) hx hb dX12_farm_92 (by decide) ?_
                  exact ih113 (i40 + 1) (by omega) (by omega) _ _ hT hF hS m158 ls (lv_sub hl [0, 1, 2, 3] rfl)
                · have t162 : 0 ≤ r156.toInt := ti_nlt c160 rfl (by decide)
                  refine lv_iconst (v := (-1)) hx hb dX12_farm_87 (by decide) ?_
                  exact W.iret (v := (-1)) hx hb hr (fun t ht hW => ⟨⟨(-1), (), rfl, (by exact (rg_t (a := (-1)) (by decide) (by omega) (by omega))), by (try dsimp only); rw [ht]; exact ⟨hT, hF⟩⟩, hS.F ht⟩) hS.2.2 dX12_farm_88
        exact key113 (96 - 0) 0 (by omega) (Nat.le_refl _) _ _ hT hF hS m36 ls (lv_sub hl [0, 1, 2, 3] rfl)
      · have t163 : x37.toInt = 30 := ti_eq c38 rfl (by decide)
        refine lv_aload_n hx hb dX12_farm_41 rfl (lv_at hl 0 rfl) ?_
        refine tw_get hx hb hts bF_X12 hown hK hT hr_o0 shm_0 rfl 0 (by decide) (ht_at hts 0 rfl) (fun _ h9 => h9) dX12_farm_42 (fun v9 m164 h9 => ?_)
        obtain ⟨x165, rfl, gx165, kx165⟩ := h9 _ rfl
        refine lv_if_eq (tgt := 52) hx hb dX12_farm_45 (by decide) (fun c166 => ?_) (fun c166 => ?_)
        · have t167 : x165.toInt = 0 := ti_eq c166 rfl (by decide)
          refine lv_iconst (v := (-1)) hx hb dX12_farm_52 (by decide) ?_
          exact W.iret (v := (-1)) hx hb hr (fun t ht hW => ⟨⟨(-1), (), rfl, (by exact (rg_t (a := (-1)) (by decide) (by omega) (by omega))), by (try dsimp only); rw [ht]; exact ⟨hT, hF⟩⟩, hS.F ht⟩) hS.2.2 dX12_farm_53
        · have t168 : x165.toInt ≠ 0 := ti_ne c166 rfl (by decide)
          refine lv_iconst (v := 0) hx hb dX12_farm_48 (by decide) ?_
          refine lv_goto (tgt := 53) hx hb dX12_farm_49 (by decide) ?_
          exact W.iret (v := 0) hx hb hr (fun t ht hW => ⟨⟨0, (), rfl, (by exact (rg_t (a := 0) (by decide) (by omega) (by omega))), by (try dsimp only); rw [ht]; exact ⟨hT, hF⟩⟩, hS.F ht⟩) hS.2.2 dX12_farm_53
    · have t169 : r22.toInt ≠ 0 := ti_ne c27 rfl (by decide)
      refine lv_iconst (v := 1) hx hb dX12_farm_20 (by decide) ?_
      refine lv_goto (tgt := 25) hx hb dX12_farm_21 (by decide) ?_
      refine lv_iconst (v := 1) hx hb dX12_farm_25 (by decide) ?_
      have hFc := gA_free hG hA hS
      refine va_calli (va_runV (As := [.int 1, .int 1]) (rest := []) ⟨hx, hb, hml, hown, hts⟩ (s_throwsIf l dC dI kA G H q wN wH wB wC wL wK PI o0 1 1 hT hr_o0 (rg_t (a := 1) (by decide) (by omega) (by omega)) (by omega) (by omega) (by omega) (by omega)) (cwV 2 hts (goodIn_app (goodIn_r _ [10, 11, 12, 6] (by decide +kernel) (by decide +kernel)) (goodIn_ca (goodIn_r _ [9, 1] (by decide +kernel) (by decide +kernel)) (bs_in _ _))) rfl rfl rfl (by decide +kernel) ⟨(Nat.le_of_ble_eq_true rfl), (Nat.le_of_ble_eq_true rfl)⟩) ⟨fun a U g mk q => by obtain ⟨q0, q1, qK, qE⟩ := q; exact ⟨q0, q1, va_K.moved (u := U) (U := U.calling g mk a) (Vm.Alike.refl U.vm) qK, EV.blind g mk a qE⟩, gH_recv hK hT hr_o0 shm_0 rfl, fun U hU hW => ⟨rfl, hU, va_K.moved hW.alike hK, hE.call hS hFc hU hW⟩⟩ rfl rfl hl.1 rfl (lv_room (Nat.le_of_ble_eq_true rfl)) dX12_farm_26 ⟨(Nat.le_of_ble_eq_true rfl), (Nat.le_of_ble_eq_true rfl)⟩) hS (fun q _ h => hFc q h) hFc (fun r170 u t H locs ht hvm hw171 hB _ _ hS => ?_)
      obtain ⟨hT, hF1⟩ := hB
      rw [ht] at hT hF1
      have hF := hF.more hF1 (by decide)
      try dsimp only at hw171
      obtain ⟨h173, hd174⟩ := hw171
      obtain rfl : (1 : Int32) = r170 := hd174.symm
      refine lv_if_ne (tgt := 41) hx hb dX12_farm_29 (by decide) (fun c175 => ?_) (fun c175 => absurd c175 (by decide))
      refine lv_aload_n hx hb dX12_farm_41 rfl (lv_at hl 0 rfl) ?_
      refine tw_get hx hb hts bF_X12 hown hK hT hr_o0 shm_0 rfl 0 (by decide) (ht_at hts 0 rfl) (fun _ h9 => h9) dX12_farm_42 (fun v9 m176 h9 => ?_)
      obtain ⟨x177, rfl, gx177, kx177⟩ := h9 _ rfl
      refine lv_if_eq (tgt := 52) hx hb dX12_farm_45 (by decide) (fun c178 => ?_) (fun c178 => ?_)
      · have t179 : x177.toInt = 0 := ti_eq c178 rfl (by decide)
        refine lv_iconst (v := (-1)) hx hb dX12_farm_52 (by decide) ?_
        exact W.iret (v := (-1)) hx hb hr (fun t ht hW => ⟨⟨(-1), (), rfl, (by exact (rg_t (a := (-1)) (by decide) (by omega) (by omega))), by (try dsimp only); rw [ht]; exact ⟨hT, hF⟩⟩, hS.F ht⟩) hS.2.2 dX12_farm_53
      · have t180 : x177.toInt ≠ 0 := ti_ne c178 rfl (by decide)
        refine lv_iconst (v := 0) hx hb dX12_farm_48 (by decide) ?_
        refine lv_goto (tgt := 53) hx hb dX12_farm_49 (by decide) ?_
        exact W.iret (v := 0) hx hb hr (fun t ht hW => ⟨⟨0, (), rfl, (by exact (rg_t (a := 0) (by decide) (by omega) (by omega))), by (try dsimp only); rw [ht]; exact ⟨hT, hF⟩⟩, hS.F ht⟩) hS.2.2 dX12_farm_53
def w_s_coin : List Cond := .code yX12_coin cX12_coin 2 (some .int) :: ([.fieldLink RX12 194 "SeaLandModel" "thrown" "I", .constant RX12 536 1000000, .code yX12_in cX12_in 3 (some .boolean), .methodLink RX12 197 yX12_in, .static yX12_in, .initialized RX12, .code yX12_throwsIf cX12_throwsIf 3 (some .boolean), .methodLink RX12 224 yX12_throwsIf, .instanceMethod yX12_throwsIf, .selects RX12 yX12_throwsIf yX12_throwsIf, .fieldLink RX12 519 "SeaLandModel" "board" "I", .constant RX12 537 2000000000] ++ bs)
set_option maxHeartbeats 4000000 in
set_option maxRecDepth 100000 in
theorem s_coin (l : Launch) (dC : Nat → ClassId) (dI : Nat → Nat → Nat) (kA : Nat → ClassId) (G : gT) (H0 : Heap) (q : Nat → Nat) (wN wH wB wC : Int) (wL wK : Nat → Prop) (PI : Nat → Int → Prop) (o0 : Nat) (p0 : Int32) (hT : gH (dC, dI) kA (SHm q (wP wN wH wB wC wC wL wK) PI) G H0) (hr_o0 : G o0 = some 0) (hgn : 6500000 ≤ wN ∧ wN ≤ 400000000) (hgh : 0 ≤ wH ∧ wH ≤ 40000) (hgb : 0 ≤ wB ∧ wB ≤ 3850000) (hgc : 0 ≤ wC ∧ wC ≤ 30) : Met l yX12_coin w_s_coin ({ frames := 1, cells := 0, slots := 0, locals := 22 }) (va_Pc [.ref o0, .int p0] (fun U => U.heap = H0 ∧ va_K (dC, dI) vwCl (tyl kA) U ∧ EV (gA G H0.size) U U.heap)) (va_Qi (fun (r : Int32) (u : Unit) => (-2147483648 ≤ r.toInt ∧ r.toInt ≤ 2001000000)) (fun (_ : Unit) (t : State) => gH (dC, dI) kA (SHm q (wP wN wH wB wC wC wL wK) PI) G t.heap ∧ gF (dC, dI) SKm G ([(0, 0), (0, 48)] : List (Nat × Nat)) H0 t.heap) (gA G H0.size)) 0 0 (gA G H0.size) := by
  refine Met.ofW (cc := cX12_coin) (maxL := 2) (ret := (some .int)) (by decide) rfl ?_
  intro p e s m args below meth c s₁ B hml hv
  obtain ⟨rfl, hH0, hK, hE⟩ := hv
  have hx := B.exec
  have hb := B.bytes
  have hr := B.returns
  have hts := atoms_spec (ws := w_s_coin) B.pre
  have hown : s.vm.findClass RX12 = some m.cls := findClass_of_methodNamed B.named
  have hlocks := B.notSynchronized
  subst hH0
  generalize hAe : gA G s.heap.size = A at hE ⊢
  have hA : ∀ q : Nat, s.heap.size ≤ q → A q := fun q h => by rw [← hAe]; exact Or.inr h
  have hG := gA_of hAe
  have hS : va_S A s.heap s.heap [] := va_S.rf
  have hF : gF (dC, dI) SKm G ([(0, 0), (0, 48)] : List (Nat × Nat)) s.heap s.heap := gF.rf
  have hl := lv_entry ([.ref o0, .int p0]) (n := 2) (Nat.le_of_ble_eq_true rfl)
  rw [lg_entry_eq]
  generalize (lg_sl ([.ref o0, .int p0]) ++ List.replicate (2 - (lg_sl ([.ref o0, .int p0])).length) Slot.unset).toArray = ls at hl ⊢
  have hl : lv_has ls 2 [(0, .ref o0), (1, .int p0)] := hl
  refine lv_aload_n hx hb dX12_coin_0 rfl (lv_at hl 0 rfl) ?_
  refine lv_iconst (v := 0) hx hb dX12_coin_1 (by decide) ?_
  refine tw_put (v := .int 0) (ty := .int) hx hb hts bF_X12 tyX12 tyX12_ok nmX12 hown hK hT hG hS hr_o0 shm_0 rfl 0 (by decide) (ht_at hts 0 rfl) (fun _ h9 => h9) rfl (by decide +kernel) rfl rfl (gl_at rfl (gi_all _)) dX12_coin_2 (fun H locs hT oq m1 oj hS => ?_)
  have hF := hF.put hr_o0 skm_0 oq oj (by decide)
  refine lv_aload_n hx hb dX12_coin_5 rfl (lv_at hl 0 rfl) ?_
  refine lv_iload_n hx hb dX12_coin_6 rfl (lv_at hl 1 rfl) ?_
  refine lv_iconst (v := 0) hx hb dX12_coin_7 (by decide) ?_
  refine lv_ldcw (v := 1000000) hx hb hown (ht_at hts 1 rfl) dX12_coin_8 ?_
  have hFc := gA_free hG hA hS
  refine va_calli (va_runS (As := [.int p0, .int 0, .int 1000000]) (rest := [.ref o0]) ⟨hx, hb, hml, hown, hts⟩ (s_in l dC dI kA G H q wN wH wB wC wL wK PI p0 0 1000000 hT (by omega) (by omega) (by omega) (by omega)) (va_cwS 3 hts (goodIn_app (goodIn_r _ [4, 5, 6] (by decide +kernel) (by decide +kernel)) (goodIn_ca (goodIn_r _ [3] (by decide +kernel) (by decide +kernel)) (bs_in _ _))) rfl rfl rfl (by decide +kernel) ⟨(Nat.le_of_ble_eq_true rfl), (Nat.le_of_ble_eq_true rfl)⟩) ⟨fun a U g mk q => by obtain ⟨q0, q1, qK, qE⟩ := q; exact ⟨q0, q1, va_K.moved (u := U) (U := U.calling g mk a) (Vm.Alike.refl U.vm) qK, EV.blind g mk a qE⟩, fun U hU hW => ⟨rfl, hU, va_K.moved hW.alike hK, hE.call hS hFc hU hW⟩⟩ rfl rfl hl.1 rfl (lv_room (Nat.le_of_ble_eq_true rfl)) dX12_coin_11 ⟨(Nat.le_of_ble_eq_true rfl), (Nat.le_of_ble_eq_true rfl)⟩) hS (fun q _ h => hFc q h) hFc (fun r2 u t H locs ht hvm hw3 hB _ _ hS => ?_)
  obtain ⟨hT, hF1⟩ := hB
  rw [ht] at hT hF1
  have m4 := (hF1.fld hr_o0 skm_0 (k := 0) (by decide) (by decide)).trans m1
  have hF := hF.more hF1 (by decide)
  try dsimp only at hw3
  obtain ⟨h5, hi6, hi7⟩ := hw3
  refine lv_if_eq (tgt := 29) hx hb dX12_coin_14 (by decide) (fun c8 => ?_) (fun c8 => ?_)
  · have t9 : r2.toInt = 0 := ti_eq c8 rfl (by decide)
    have t10 : (0 : Int32).toInt = 0 := by decide
    have t11 : (1000000 : Int32).toInt = 1000000 := by decide
    have t12 : p0.toInt < (0 : Int32).toInt ∨ (1000000 : Int32).toInt < p0.toInt := hi7 c8
    refine lv_iconst (v := 1) hx hb dX12_coin_29 (by decide) ?_
    refine lv_goto (tgt := 34) hx hb dX12_coin_30 (by decide) ?_
    refine lv_iconst (v := 1) hx hb dX12_coin_34 (by decide) ?_
    have hFc := gA_free hG hA hS
    refine va_calli (va_runV (As := [.int 1, .int 1]) (rest := []) ⟨hx, hb, hml, hown, hts⟩ (s_throwsIf l dC dI kA G H q wN wH wB wC wL wK PI o0 1 1 hT hr_o0 (rg_t (a := 1) (by decide) (by omega) (by omega)) (by omega) (by omega) (by omega) (by omega)) (cwV 2 hts (goodIn_app (goodIn_r _ [8, 9, 10, 6] (by decide +kernel) (by decide +kernel)) (goodIn_ca (goodIn_r _ [7, 1] (by decide +kernel) (by decide +kernel)) (bs_in _ _))) rfl rfl rfl (by decide +kernel) ⟨(Nat.le_of_ble_eq_true rfl), (Nat.le_of_ble_eq_true rfl)⟩) ⟨fun a U g mk q => by obtain ⟨q0, q1, qK, qE⟩ := q; exact ⟨q0, q1, va_K.moved (u := U) (U := U.calling g mk a) (Vm.Alike.refl U.vm) qK, EV.blind g mk a qE⟩, gH_recv hK hT hr_o0 shm_0 rfl, fun U hU hW => ⟨rfl, hU, va_K.moved hW.alike hK, hE.call hS hFc hU hW⟩⟩ rfl rfl hl.1 rfl (lv_room (Nat.le_of_ble_eq_true rfl)) dX12_coin_35 ⟨(Nat.le_of_ble_eq_true rfl), (Nat.le_of_ble_eq_true rfl)⟩) hS (fun q _ h => hFc q h) hFc (fun r13 u t H locs ht hvm hw14 hB _ _ hS => ?_)
    obtain ⟨hT, hF1⟩ := hB
    rw [ht] at hT hF1
    have hF := hF.more hF1 (by decide)
    try dsimp only at hw14
    obtain ⟨h16, hd17⟩ := hw14
    obtain rfl : (1 : Int32) = r13 := hd17.symm
    refine lv_if_eq (tgt := 43) hx hb dX12_coin_38 (by decide) (fun c18 => absurd c18 (by decide)) (fun c18 => ?_)
    refine lv_iconst (v := 0) hx hb dX12_coin_41 (by decide) ?_
    exact W.iret (v := 0) hx hb hr (fun t ht hW => ⟨⟨0, (), rfl, (by exact (rg_t (a := 0) (by decide) (by omega) (by omega))), by (try dsimp only); rw [ht]; exact ⟨hT, hF⟩⟩, hS.F ht⟩) hS.2.2 dX12_coin_42
  · have t19 : r2.toInt ≠ 0 := ti_ne c8 rfl (by decide)
    have t20 : (0 : Int32).toInt = 0 := by decide
    have t21 : (1000000 : Int32).toInt = 1000000 := by decide
    have t22 : (0 : Int32).toInt ≤ p0.toInt ∧ p0.toInt ≤ (1000000 : Int32).toInt := hi6 ((bit_of ⟨by omega, by omega⟩).resolve_left c8)
    refine lv_aload_n hx hb dX12_coin_17 rfl (lv_at hl 0 rfl) ?_
    refine tw_get hx hb hts bF_X12 hown hK hT hr_o0 shm_0 rfl 48 (by decide) (ht_at hts 10 rfl) (fun _ h9 => h9) dX12_coin_18 (fun v9 m23 h9 => ?_)
    obtain ⟨x24, rfl, gx24, kx24⟩ := h9 _ rfl
    refine lv_ldcw (v := 2000000000) hx hb hown (ht_at hts 11 rfl) dX12_coin_21 ?_
    refine lv_iload_n hx hb dX12_coin_24 rfl (lv_at hl 1 rfl) ?_
    refine lv_isub hx hb dX12_coin_25 ?_
    refine lv_topi (fun x25 ex25 => ?_)
    have t26 : x25.toInt = 2000000000 - p0.toInt := ti_sub ex25 (by decide) rfl (by omega) (by omega)
    refine lv_icmp_le (tgt := 33) hx hb dX12_coin_26 (by decide) (fun c27 => ?_) (fun c27 => ?_)
    · have t28 : x24.toInt ≤ x25.toInt := ti_le c27 rfl rfl
      refine lv_iconst (v := 0) hx hb dX12_coin_33 (by decide) ?_
      refine lv_iconst (v := 1) hx hb dX12_coin_34 (by decide) ?_
      have hFc := gA_free hG hA hS
      refine va_calli (va_runV (As := [.int 0, .int 1]) (rest := []) ⟨hx, hb, hml, hown, hts⟩ (s_throwsIf l dC dI kA G H q wN wH wB wC wL wK PI o0 0 1 hT hr_o0 (rg_t (a := 0) (by decide) (by omega) (by omega)) (by omega) (by omega) (by omega) (by omega)) (cwV 2 hts (goodIn_app (goodIn_r _ [8, 9, 10, 6] (by decide +kernel) (by decide +kernel)) (goodIn_ca (goodIn_r _ [7, 1] (by decide +kernel) (by decide +kernel)) (bs_in _ _))) rfl rfl rfl (by decide +kernel) ⟨(Nat.le_of_ble_eq_true rfl), (Nat.le_of_ble_eq_true rfl)⟩) ⟨fun a U g mk q => by obtain ⟨q0, q1, qK, qE⟩ := q; exact ⟨q0, q1, va_K.moved (u := U) (U := U.calling g mk a) (Vm.Alike.refl U.vm) qK, EV.blind g mk a qE⟩, gH_recv hK hT hr_o0 shm_0 rfl, fun U hU hW => ⟨rfl, hU, va_K.moved hW.alike hK, hE.call hS hFc hU hW⟩⟩ rfl rfl hl.1 rfl (lv_room (Nat.le_of_ble_eq_true rfl)) dX12_coin_35 ⟨(Nat.le_of_ble_eq_true rfl), (Nat.le_of_ble_eq_true rfl)⟩) hS (fun q _ h => hFc q h) hFc (fun r29 u t H locs ht hvm hw30 hB _ _ hS => ?_)
      obtain ⟨hT, hF1⟩ := hB
      rw [ht] at hT hF1
      have m32 := (hF1.fld hr_o0 skm_0 (k := 48) (by decide) (by decide)).trans m23
      have hF := hF.more hF1 (by decide)
      try dsimp only at hw30
      obtain ⟨h33, hd34⟩ := hw30
      obtain rfl : (0 : Int32) = r29 := hd34.symm
      refine lv_if_eq (tgt := 43) hx hb dX12_coin_38 (by decide) (fun c35 => ?_) (fun c35 => absurd c35 (by decide))
      refine lv_aload_n hx hb dX12_coin_43 rfl (lv_at hl 0 rfl) ?_
      refine lv_dup hx hb dX12_coin_44 rfl ?_
      refine tw_getM (v := .int x24) hx hb hts bF_X12 hown hK hT hr_o0 shm_0 rfl 48 (by decide) (ht_at hts 10 rfl) (fun _ h9 => h9) m32 dX12_coin_45 ?_
      refine lv_iload_n hx hb dX12_coin_48 rfl (lv_at hl 1 rfl) ?_
      refine lv_iadd hx hb dX12_coin_49 ?_
      refine lv_topi (fun x36 ex36 => ?_)
      have t37 : -2147483648 ≤ x24.toInt ∧ x24.toInt ≤ 2147483647 := ti_all x24
      have t38 : x36.toInt = x24.toInt + p0.toInt := ti_add ex36 rfl rfl (by omega) (by omega)
      refine tw_put (v := .int x36) (ty := .int) hx hb hts bF_X12 tyX12 tyX12_ok nmX12 hown hK hT hG hS hr_o0 shm_0 rfl 48 (by decide) (ht_at hts 10 rfl) (fun _ h9 => h9) rfl (by decide +kernel) rfl rfl (gl_at rfl (gi_all _)) dX12_coin_50 (fun H locs hT oq m39 oj hS => ?_)
      have hF := hF.put hr_o0 skm_0 oq oj (by decide)
      refine lv_aload_n hx hb dX12_coin_53 rfl (lv_at hl 0 rfl) ?_
      refine tw_getM (v := .int x36) hx hb hts bF_X12 hown hK hT hr_o0 shm_0 rfl 48 (by decide) (ht_at hts 10 rfl) (fun _ h9 => h9) m39 dX12_coin_54 ?_
      exact W.iret (v := x36) hx hb hr (fun t ht hW => ⟨⟨x36, (), rfl, (by exact (rg_t (a := x36.toInt) rfl (by have q8 := ti_all x36; omega) (by have q8 := ti_all x36; omega))), by (try dsimp only); rw [ht]; exact ⟨hT, hF⟩⟩, hS.F ht⟩) hS.2.2 dX12_coin_57
    · have t40 : x25.toInt < x24.toInt := ti_nle c27 rfl rfl
      refine lv_iconst (v := 1) hx hb dX12_coin_29 (by decide) ?_
      refine lv_goto (tgt := 34) hx hb dX12_coin_30 (by decide) ?_
      refine lv_iconst (v := 1) hx hb dX12_coin_34 (by decide) ?_
      have hFc := gA_free hG hA hS
      refine va_calli (va_runV (As := [.int 1, .int 1]) (rest := []) ⟨hx, hb, hml, hown, hts⟩ (s_throwsIf l dC dI kA G H q wN wH wB wC wL wK PI o0 1 1 hT hr_o0 (rg_t (a := 1) (by decide) (by omega) (by omega)) (by omega) (by omega) (by omega) (by omega)) (cwV 2 hts (goodIn_app (goodIn_r _ [8, 9, 10, 6] (by decide +kernel) (by decide +kernel)) (goodIn_ca (goodIn_r _ [7, 1] (by decide +kernel) (by decide +kernel)) (bs_in _ _))) rfl rfl rfl (by decide +kernel) ⟨(Nat.le_of_ble_eq_true rfl), (Nat.le_of_ble_eq_true rfl)⟩) ⟨fun a U g mk q => by obtain ⟨q0, q1, qK, qE⟩ := q; exact ⟨q0, q1, va_K.moved (u := U) (U := U.calling g mk a) (Vm.Alike.refl U.vm) qK, EV.blind g mk a qE⟩, gH_recv hK hT hr_o0 shm_0 rfl, fun U hU hW => ⟨rfl, hU, va_K.moved hW.alike hK, hE.call hS hFc hU hW⟩⟩ rfl rfl hl.1 rfl (lv_room (Nat.le_of_ble_eq_true rfl)) dX12_coin_35 ⟨(Nat.le_of_ble_eq_true rfl), (Nat.le_of_ble_eq_true rfl)⟩) hS (fun q _ h => hFc q h) hFc (fun r41 u t H locs ht hvm hw42 hB _ _ hS => ?_)
      obtain ⟨hT, hF1⟩ := hB
      rw [ht] at hT hF1
      have m44 := (hF1.fld hr_o0 skm_0 (k := 48) (by decide) (by decide)).trans m23
      have hF := hF.more hF1 (by decide)
      try dsimp only at hw42
      obtain ⟨h45, hd46⟩ := hw42
      obtain rfl : (1 : Int32) = r41 := hd46.symm
      refine lv_if_eq (tgt := 43) hx hb dX12_coin_38 (by decide) (fun c47 => absurd c47 (by decide)) (fun c47 => ?_)
      refine lv_iconst (v := 0) hx hb dX12_coin_41 (by decide) ?_
      exact W.iret (v := 0) hx hb hr (fun t ht hW => ⟨⟨0, (), rfl, (by exact (rg_t (a := 0) (by decide) (by omega) (by omega))), by (try dsimp only); rw [ht]; exact ⟨hT, hF⟩⟩, hS.F ht⟩) hS.2.2 dX12_coin_42
def w_s_pay : List Cond := .code yX12_pay cX12_pay 7 (some .int) :: ([.fieldLink RX12 194 "SeaLandModel" "thrown" "I", .code yX12_noContract cX12_noContract 2 (some .boolean), .fieldLink RX12 533 "SeaLandModel" "contracts" "I", .code yX12_in cX12_in 3 (some .boolean), .methodLink RX12 197 yX12_in, .static yX12_in, .initialized RX12, .methodLink RX12 539 yX12_noContract, .instanceMethod yX12_noContract, .selects RX12 yX12_noContract yX12_noContract, .code yX12_throwsIf cX12_throwsIf 3 (some .boolean), .methodLink RX12 224 yX12_throwsIf, .instanceMethod yX12_throwsIf, .selects RX12 yX12_throwsIf yX12_throwsIf, .fieldLink RX12 158 "SeaLandModel" "isPaid" "[Z", .code yX12_hasSpan cX12_hasSpan 2 (some .boolean), .fieldLink RX12 155 "SeaLandModel" "isMeasured" "[Z", .fieldLink RX12 149 "SeaLandModel" "kLow" "[I", .fieldLink RX12 152 "SeaLandModel" "kHigh" "[I", .methodLink RX12 542 yX12_hasSpan, .instanceMethod yX12_hasSpan, .selects RX12 yX12_hasSpan yX12_hasSpan, .fieldLink RX12 137 "SeaLandModel" "kWork" "[I", .code yX12_noWork cX12_noWork 2 (some .boolean), .fieldLink RX12 9 "SeaLandModel" "world" "[I", .methodLink RX12 269 yX12_noWork, .instanceMethod yX12_noWork, .selects RX12 yX12_noWork yX12_noWork, .fieldLink RX12 143 "SeaLandModel" "kPrice" "[I", .fieldLink RX12 519 "SeaLandModel" "board" "I", .code yX12_isDike cX12_isDike 2 (some .boolean), .code yX12_of cX12_of 3 (some .int), .code yX12_at cX12_at 2 (some .int), .methodLink RX12 214 yX12_at, .static yX12_at, .methodLink RX12 217 yX12_of, .instanceMethod yX12_of, .selects RX12 yX12_of yX12_of, .methodLink RX12 272 yX12_isDike, .instanceMethod yX12_isDike, .selects RX12 yX12_isDike yX12_isDike, .fieldLink RX12 140 "SeaLandModel" "kClay" "[I", .code yX12_lays cX12_lays 5 none, .fieldLink RX12 238 "SeaLandModel" "rows" "I", .methodLink RX12 275 yX12_lays, .instanceMethod yX12_lays, .selects RX12 yX12_lays yX12_lays] ++ bs)
set_option maxHeartbeats 4000000 in
set_option maxRecDepth 100000 in
theorem s_pay (l : Launch) (dC : Nat → ClassId) (dI : Nat → Nat → Nat) (kA : Nat → ClassId) (G : gT) (H0 : Heap) (q : Nat → Nat) (wN wH wB wC : Int) (wL wK : Nat → Prop) (PI : Nat → Int → Prop) (o0 : Nat) (p0 : Int32) (hT : gH (dC, dI) kA (SHm q (wP wN wH wB wC wC wL wK) PI) G H0) (hr_o0 : G o0 = some 0) (hgn : 6500000 ≤ wN ∧ wN ≤ 400000000) (hgh : 0 ≤ wH ∧ wH ≤ 40000) (hgb : 0 ≤ wB ∧ wB ≤ 3850000) (hgc : 0 ≤ wC ∧ wC ≤ 30) : Met l yX12_pay w_s_pay ({ frames := 3, cells := 0, slots := 0, locals := 67 }) (va_Pc [.ref o0, .int p0] (fun U => U.heap = H0 ∧ va_K (dC, dI) vwCl (tyl kA) U ∧ EV (gA G H0.size) U U.heap)) (va_Qi (fun (r : Int32) (u : Unit) => True) (fun (_ : Unit) (t : State) => gH (dC, dI) kA (SHm q (wP wN wH wB wC wC wL wK) PI) G t.heap ∧ gF (dC, dI) SKm G ([(0, 0), (0, 9), (0, 48), (2, 0), (64, 0)] : List (Nat × Nat)) H0 t.heap) (gA G H0.size)) 0 0 (gA G H0.size) := by
  refine Met.ofW (cc := cX12_pay) (maxL := 7) (ret := (some .int)) (by decide) rfl ?_
  intro p e s m args below meth c s₁ B hml hv
  obtain ⟨rfl, hH0, hK, hE⟩ := hv
  have hx := B.exec
  have hb := B.bytes
  have hr := B.returns
  have hts := atoms_spec (ws := w_s_pay) B.pre
  have hown : s.vm.findClass RX12 = some m.cls := findClass_of_methodNamed B.named
  have hlocks := B.notSynchronized
  subst hH0
  generalize hAe : gA G s.heap.size = A at hE ⊢
  have hA : ∀ q : Nat, s.heap.size ≤ q → A q := fun q h => by rw [← hAe]; exact Or.inr h
  have hG := gA_of hAe
  have hS : va_S A s.heap s.heap [] := va_S.rf
  have hF : gF (dC, dI) SKm G ([(0, 0), (0, 9), (0, 48), (2, 0), (64, 0)] : List (Nat × Nat)) s.heap s.heap := gF.rf
  have hl := lv_entry ([.ref o0, .int p0]) (n := 7) (Nat.le_of_ble_eq_true rfl)
  rw [lg_entry_eq]
  generalize (lg_sl ([.ref o0, .int p0]) ++ List.replicate (7 - (lg_sl ([.ref o0, .int p0])).length) Slot.unset).toArray = ls at hl ⊢
  have hl : lv_has ls 7 [(0, .ref o0), (1, .int p0)] := hl
  refine lv_aload_n hx hb dX12_pay_0 rfl (lv_at hl 0 rfl) ?_
  refine lv_iconst (v := 0) hx hb dX12_pay_1 (by decide) ?_
  refine tw_put (v := .int 0) (ty := .int) hx hb hts bF_X12 tyX12 tyX12_ok nmX12 hown hK hT hG hS hr_o0 shm_0 rfl 0 (by decide) (ht_at hts 0 rfl) (fun _ h9 => h9) rfl (by decide +kernel) rfl rfl (gl_at rfl (gi_all _)) dX12_pay_2 (fun H locs hT oq m1 oj hS => ?_)
  have hF := hF.put hr_o0 skm_0 oq oj (by decide)
  refine lv_aload_n hx hb dX12_pay_5 rfl (lv_at hl 0 rfl) ?_
  refine lv_aload_n hx hb dX12_pay_6 rfl (lv_at hl 0 rfl) ?_
  refine lv_iload_n hx hb dX12_pay_7 rfl (lv_at hl 1 rfl) ?_
  have hFc := gA_free hG hA hS
  refine va_calli (va_runV (As := [.int p0]) (rest := [.ref o0]) ⟨hx, hb, hml, hown, hts⟩ (s_noContract l dC dI kA G H q wN wH wB wC wL wK PI o0 p0 hT hr_o0 (by omega) (by omega) (by omega) (by omega)) (cwV 1 hts (goodIn_app (goodIn_r _ [8, 9, 10, 7] (by decide +kernel) (by decide +kernel)) (goodIn_ca (goodIn_r _ [2, 3, 4, 5, 6, 7] (by decide +kernel) (by decide +kernel)) (bs_in _ _))) rfl rfl rfl (by decide +kernel) ⟨(Nat.le_of_ble_eq_true rfl), (Nat.le_of_ble_eq_true rfl)⟩) ⟨fun a U g mk q => by obtain ⟨q0, q1, qK, qE⟩ := q; exact ⟨q0, q1, va_K.moved (u := U) (U := U.calling g mk a) (Vm.Alike.refl U.vm) qK, EV.blind g mk a qE⟩, gH_recv hK hT hr_o0 shm_0 rfl, fun U hU hW => ⟨rfl, hU, va_K.moved hW.alike hK, hE.call hS hFc hU hW⟩⟩ rfl rfl hl.1 rfl (lv_room (Nat.le_of_ble_eq_true rfl)) dX12_pay_8 ⟨(Nat.le_of_ble_eq_true rfl), (Nat.le_of_ble_eq_true rfl)⟩) hS (fun q _ h => hFc q h) hFc (fun r2 u t H locs ht hvm hw3 hB _ _ hS => ?_)
  obtain ⟨hT, hF1⟩ := hB
  rw [ht] at hT hF1
  have m4 := (hF1.fld hr_o0 skm_0 (k := 0) (by decide) (by decide)).trans m1
  have hF := hF.more hF1 (by decide)
  try dsimp only at hw3
  obtain ⟨h5, hi6⟩ := hw3
  refine lv_iconst (v := 1) hx hb dX12_pay_11 (by decide) ?_
  have hFc := gA_free hG hA hS
  refine va_calli (va_runV (As := [.int r2, .int 1]) (rest := []) ⟨hx, hb, hml, hown, hts⟩ (s_throwsIf l dC dI kA G H q wN wH wB wC wL wK PI o0 r2 1 hT hr_o0 (rg_t (a := r2.toInt) rfl (by have q8 := ti_all r2; omega) (by have q8 := ti_all r2; omega)) (by omega) (by omega) (by omega) (by omega)) (cwV 2 hts (goodIn_app (goodIn_r _ [12, 13, 14, 7] (by decide +kernel) (by decide +kernel)) (goodIn_ca (goodIn_r _ [11, 1] (by decide +kernel) (by decide +kernel)) (bs_in _ _))) rfl rfl rfl (by decide +kernel) ⟨(Nat.le_of_ble_eq_true rfl), (Nat.le_of_ble_eq_true rfl)⟩) ⟨fun a U g mk q => by obtain ⟨q0, q1, qK, qE⟩ := q; exact ⟨q0, q1, va_K.moved (u := U) (U := U.calling g mk a) (Vm.Alike.refl U.vm) qK, EV.blind g mk a qE⟩, gH_recv hK hT hr_o0 shm_0 rfl, fun U hU hW => ⟨rfl, hU, va_K.moved hW.alike hK, hE.call hS hFc hU hW⟩⟩ rfl rfl hl.1 rfl (lv_room (Nat.le_of_ble_eq_true rfl)) dX12_pay_12 ⟨(Nat.le_of_ble_eq_true rfl), (Nat.le_of_ble_eq_true rfl)⟩) hS (fun q _ h => hFc q h) hFc (fun r7 u t H locs ht hvm hw8 hB _ _ hS => ?_)
  obtain ⟨hT, hF1⟩ := hB
  rw [ht] at hT hF1
  have hF := hF.more hF1 (by decide)
  try dsimp only at hw8
  obtain ⟨h10, hd11⟩ := hw8
  obtain rfl : r2 = r7 := hd11.symm
  refine lv_if_ne (tgt := 35) hx hb dX12_pay_15 (by decide) (fun c12 => ?_) (fun c12 => ?_)
  · have t13 : r2.toInt ≠ 0 := ti_ne c12 rfl (by decide)
    refine lv_aload_n hx hb dX12_pay_35 rfl (lv_at hl 0 rfl) ?_
    refine tw_get hx hb hts bF_X12 hown hK hT hr_o0 shm_0 rfl 0 (by decide) (ht_at hts 0 rfl) (fun _ h9 => h9) dX12_pay_36 (fun v9 m14 h9 => ?_)
    obtain ⟨x15, rfl, gx15, kx15⟩ := h9 _ rfl
    refine lv_if_eq (tgt := 46) hx hb dX12_pay_39 (by decide) (fun c16 => ?_) (fun c16 => ?_)
    · have t17 : x15.toInt = 0 := ti_eq c16 rfl (by decide)
      refine lv_iconst (v := (-1)) hx hb dX12_pay_46 (by decide) ?_
      exact W.iret (v := (-1)) hx hb hr (fun t ht hW => ⟨⟨(-1), (), rfl, (by exact trivial), by (try dsimp only); rw [ht]; exact ⟨hT, hF⟩⟩, hS.F ht⟩) hS.2.2 dX12_pay_47
    · have t18 : x15.toInt ≠ 0 := ti_ne c16 rfl (by decide)
      refine lv_iconst (v := 0) hx hb dX12_pay_42 (by decide) ?_
      refine lv_goto (tgt := 47) hx hb dX12_pay_43 (by decide) ?_
      exact W.iret (v := 0) hx hb hr (fun t ht hW => ⟨⟨0, (), rfl, (by exact trivial), by (try dsimp only); rw [ht]; exact ⟨hT, hF⟩⟩, hS.F ht⟩) hS.2.2 dX12_pay_47
  · have t19 : r2.toInt = 0 := ti_eq c12 rfl (by decide)
    have t20 : 0 ≤ p0.toInt ∧ p0.toInt ≤ 39 := hi6 c12
    refine lv_aload_n hx hb dX12_pay_18 rfl (lv_at hl 0 rfl) ?_
    refine tw_get hx hb hts bF_X12 hown hK hT hr_o0 shm_0 rfl 63 (by decide) (ht_at hts 14 rfl) (fun _ h9 => h9) dX12_pay_19 (fun v9 m21 h9 => ?_)
    obtain ⟨rfl, hg22⟩ := h9 _ rfl
    refine lv_iload_n hx hb dX12_pay_22 rfl (lv_at hl 1 rfl) ?_
    refine tw_zald (i := p0) hx hb hK hT hg22 shm_64 rfl (vin_t (a := p0.toInt) rfl (by omega) (by omega)) dX12_pay_23 (fun v9 m23 h9 => ?_)
    obtain ⟨x24, rfl, gx24, kx24⟩ := h9
    refine lv_if_ne (tgt := 35) hx hb dX12_pay_24 (by decide) (fun c25 => ?_) (fun c25 => ?_)
    · have t26 : x24.toInt ≠ 0 := ti_ne c25 rfl (by decide)
      refine lv_aload_n hx hb dX12_pay_35 rfl (lv_at hl 0 rfl) ?_
      refine tw_get hx hb hts bF_X12 hown hK hT hr_o0 shm_0 rfl 0 (by decide) (ht_at hts 0 rfl) (fun _ h9 => h9) dX12_pay_36 (fun v9 m27 h9 => ?_)
      obtain ⟨x28, rfl, gx28, kx28⟩ := h9 _ rfl
      refine lv_if_eq (tgt := 46) hx hb dX12_pay_39 (by decide) (fun c29 => ?_) (fun c29 => ?_)
      · have t30 : x28.toInt = 0 := ti_eq c29 rfl (by decide)
        refine lv_iconst (v := (-1)) hx hb dX12_pay_46 (by decide) ?_
        exact W.iret (v := (-1)) hx hb hr (fun t ht hW => ⟨⟨(-1), (), rfl, (by exact trivial), by (try dsimp only); rw [ht]; exact ⟨hT, hF⟩⟩, hS.F ht⟩) hS.2.2 dX12_pay_47
      · have t31 : x28.toInt ≠ 0 := ti_ne c29 rfl (by decide)
        refine lv_iconst (v := 0) hx hb dX12_pay_42 (by decide) ?_
        refine lv_goto (tgt := 47) hx hb dX12_pay_43 (by decide) ?_
        exact W.iret (v := 0) hx hb hr (fun t ht hW => ⟨⟨0, (), rfl, (by exact trivial), by (try dsimp only); rw [ht]; exact ⟨hT, hF⟩⟩, hS.F ht⟩) hS.2.2 dX12_pay_47
    · have t32 : x24.toInt = 0 := ti_eq c25 rfl (by decide)
      refine lv_aload_n hx hb dX12_pay_27 rfl (lv_at hl 0 rfl) ?_
      refine lv_iload_n hx hb dX12_pay_28 rfl (lv_at hl 1 rfl) ?_
      have hFc := gA_free hG hA hS
      refine va_calli (va_runV (As := [.int p0]) (rest := []) ⟨hx, hb, hml, hown, hts⟩ (s_hasSpan l dC dI kA G H q wN wH wB wC wL wK PI o0 p0 hT hr_o0 (rg_t (a := p0.toInt) rfl (by have q8 := ti_all p0; omega) (by have q8 := ti_all p0; omega)) (by omega) (by omega) (by omega) (by omega)) (cwV 1 hts (goodIn_app (goodIn_r _ [20, 21, 22, 7] (by decide +kernel) (by decide +kernel)) (goodIn_ca (goodIn_r _ [16, 17, 18, 19] (by decide +kernel) (by decide +kernel)) (bs_in _ _))) rfl rfl rfl (by decide +kernel) ⟨(Nat.le_of_ble_eq_true rfl), (Nat.le_of_ble_eq_true rfl)⟩) ⟨fun a U g mk q => by obtain ⟨q0, q1, qK, qE⟩ := q; exact ⟨q0, q1, va_K.moved (u := U) (U := U.calling g mk a) (Vm.Alike.refl U.vm) qK, EV.blind g mk a qE⟩, gH_recv hK hT hr_o0 shm_0 rfl, fun U hU hW => ⟨rfl, hU, va_K.moved hW.alike hK, hE.call hS hFc hU hW⟩⟩ rfl rfl hl.1 rfl (lv_room (Nat.le_of_ble_eq_true rfl)) dX12_pay_29 ⟨(Nat.le_of_ble_eq_true rfl), (Nat.le_of_ble_eq_true rfl)⟩) hS (fun q _ h => hFc q h) hFc (fun r33 u t H locs ht hvm hw34 hB _ _ hS => ?_)
      obtain ⟨hT, hF1⟩ := hB
      rw [ht] at hT hF1
      have m35 := (el_kept (hF1.arr hg22 skm_64 (by decide))).trans m23
      have hF := hF.more hF1 (by decide)
      try dsimp only at hw34
      have h36 := hw34
      refine lv_if_ne (tgt := 48) hx hb dX12_pay_32 (by decide) (fun c37 => ?_) (fun c37 => ?_)
      · have t38 : r33.toInt ≠ 0 := ti_ne c37 rfl (by decide)
        refine lv_aload_n hx hb dX12_pay_48 rfl (lv_at hl 0 rfl) ?_
        refine tw_get hx hb hts bF_X12 hown hK hT hr_o0 shm_0 rfl 56 (by decide) (ht_at hts 22 rfl) (fun _ h9 => h9) dX12_pay_49 (fun v9 m39 h9 => ?_)
        obtain ⟨rfl, hg40⟩ := h9 _ rfl
        refine lv_iload_n hx hb dX12_pay_52 rfl (lv_at hl 1 rfl) ?_
        refine tw_iald (i := p0) hx hb hK hT hg40 shm_57 rfl (vin_t (a := p0.toInt) rfl (by omega) (by omega)) dX12_pay_53 (fun v9 m41 h9 => ?_)
        obtain ⟨x42, rfl, gx42, kx42⟩ := h9
        refine lv_istore_n (lv' := [(2, .int x42), (0, .ref o0), (1, .int p0)]) hx hb dX12_pay_54 rfl hl (by decide) rfl (fun ls hl => ?_)
        refine lv_aload_n hx hb dX12_pay_55 rfl (lv_at hl 1 rfl) ?_
        refine lv_iload_n hx hb dX12_pay_56 rfl (lv_at hl 0 rfl) ?_
        have hFc := gA_free hG hA hS
        refine va_calli (va_runV (As := [.int x42]) (rest := []) ⟨hx, hb, hml, hown, hts⟩ (s_noWork l dC dI kA G H q wN wH wB wC wL wK PI o0 x42 hT hr_o0 (by omega) (by omega) (by omega) (by omega)) (cwV 1 hts (goodIn_app (goodIn_r _ [26, 27, 28, 7] (by decide +kernel) (by decide +kernel)) (goodIn_ca (goodIn_r _ [24, 25, 4, 5, 6, 7] (by decide +kernel) (by decide +kernel)) (bs_in _ _))) rfl rfl rfl (by decide +kernel) ⟨(Nat.le_of_ble_eq_true rfl), (Nat.le_of_ble_eq_true rfl)⟩) ⟨fun a U g mk q => by obtain ⟨q0, q1, qK, qE⟩ := q; exact ⟨q0, q1, va_K.moved (u := U) (U := U.calling g mk a) (Vm.Alike.refl U.vm) qK, EV.blind g mk a qE⟩, gH_recv hK hT hr_o0 shm_0 rfl, fun U hU hW => ⟨rfl, hU, va_K.moved hW.alike hK, hE.call hS hFc hU hW⟩⟩ rfl rfl hl.1 rfl (lv_room (Nat.le_of_ble_eq_true rfl)) dX12_pay_57 ⟨(Nat.le_of_ble_eq_true rfl), (Nat.le_of_ble_eq_true rfl)⟩) hS (fun q _ h => hFc q h) hFc (fun r43 u t H locs ht hvm hw44 hB _ _ hS => ?_)
        obtain ⟨hT, hF1⟩ := hB
        rw [ht] at hT hF1
        have m45 := (el_kept (hF1.arr hg22 skm_64 (by decide))).trans m35
        have m46 := (el_kept (hF1.arr hg40 skm_57 (by decide))).trans m41
        have hF := hF.more hF1 (by decide)
        try dsimp only at hw44
        obtain ⟨h47, hi48⟩ := hw44
        refine lv_if_ne (tgt := 75) hx hb dX12_pay_60 (by decide) (fun c49 => ?_) (fun c49 => ?_)
        · have t50 : r43.toInt ≠ 0 := ti_ne c49 rfl (by decide)
          refine lv_iconst (v := 0) hx hb dX12_pay_75 (by decide) ?_
          refine lv_istore_n (lv' := [(3, .int 0), (2, .int x42), (0, .ref o0), (1, .int p0)]) hx hb dX12_pay_76 rfl hl (by decide) rfl (fun ls hl => ?_)
          refine lv_iload_n hx hb dX12_pay_77 rfl (lv_at hl 0 rfl) ?_
          refine lv_if_eq (tgt := 99) hx hb dX12_pay_78 (by decide) (fun c51 => ?_) (fun c51 => absurd c51 (by decide))
          refine lv_iconst (v := 0) hx hb dX12_pay_99 (by decide) ?_
          refine lv_istore (lv' := [(4, .int 0), (3, .int 0), (2, .int x42), (0, .ref o0), (1, .int p0)]) hx hb dX12_pay_100 hl (by decide) rfl (fun ls hl => ?_)
          refine lv_aload_n hx hb dX12_pay_102 rfl (lv_at hl 3 rfl) ?_
          refine tw_get hx hb hts bF_X12 hown hK hT hr_o0 shm_0 rfl 60 (by decide) (ht_at hts 17 rfl) (fun _ h9 => h9) dX12_pay_103 (fun v9 m52 h9 => ?_)
          obtain ⟨rfl, hg53⟩ := h9 _ rfl
          refine lv_iload_n hx hb dX12_pay_106 rfl (lv_at hl 4 rfl) ?_
          refine tw_iald (i := p0) hx hb hK hT hg53 shm_61 rfl (vin_t (a := p0.toInt) rfl (by omega) (by omega)) dX12_pay_107 (fun v9 m54 h9 => ?_)
          obtain ⟨x55, rfl, gx55, kx55⟩ := h9
          refine lv_istore (lv' := [(5, .int x55), (4, .int 0), (3, .int 0), (2, .int x42), (0, .ref o0), (1, .int p0)]) hx hb dX12_pay_108 hl (by decide) rfl (fun ls hl => ?_)
          refine lv_iload hx hb dX12_pay_110 (lv_at hl 0 rfl) ?_
          refine lv_iload hx hb dX12_pay_112 (lv_at hl 1 rfl) ?_
          refine lv_iconst (v := 1) hx hb dX12_pay_114 (by decide) ?_
          refine lv_icmp_ne (tgt := 126) hx hb dX12_pay_115 (by decide) (fun c56 => ?_) (fun c56 => absurd c56 (by decide))
          refine lv_iload hx hb dX12_pay_126 (lv_at hl 1 rfl) ?_
          refine lv_iconst (v := 2) hx hb dX12_pay_128 (by decide) ?_
          refine lv_icmp_ne (tgt := 139) hx hb dX12_pay_129 (by decide) (fun c57 => ?_) (fun c57 => absurd c57 (by decide))
          refine lv_iconst (v := 0) hx hb dX12_pay_139 (by decide) ?_
          refine lv_isub hx hb dX12_pay_140 ?_
          refine lv_topi (fun x58 ex58 => ?_)
          have t59 : -2147483648 ≤ x55.toInt ∧ x55.toInt ≤ 2147483647 := ti_all x55
          have t60 : x58.toInt = x55.toInt - 0 := ti_sub ex58 rfl (by decide) (by omega) (by omega)
          refine lv_istore (lv' := [(5, .int x58), (4, .int 0), (3, .int 0), (2, .int x42), (0, .ref o0), (1, .int p0)]) hx hb dX12_pay_141 hl (by decide) rfl (fun ls hl => ?_)
          refine lv_iload hx hb dX12_pay_143 (lv_at hl 0 rfl) ?_
          refine lv_aload_n hx hb dX12_pay_145 rfl (lv_at hl 4 rfl) ?_
          refine tw_get hx hb hts bF_X12 hown hK hT hr_o0 shm_0 rfl 58 (by decide) (ht_at hts 28 rfl) (fun _ h9 => h9) dX12_pay_146 (fun v9 m61 h9 => ?_)
          obtain ⟨rfl, hg62⟩ := h9 _ rfl
          refine lv_iload_n hx hb dX12_pay_149 rfl (lv_at hl 5 rfl) ?_
          refine tw_iald (i := p0) hx hb hK hT hg62 shm_59 rfl (vin_t (a := p0.toInt) rfl (by omega) (by omega)) dX12_pay_150 (fun v9 m63 h9 => ?_)
          obtain ⟨x64, rfl, gx64, kx64⟩ := h9
          refine lv_imul hx hb dX12_pay_151 ?_
          refine lv_topi (fun x65 ex65 => ?_)
          refine lv_istore (lv' := [(6, .int x65), (5, .int x58), (4, .int 0), (3, .int 0), (2, .int x42), (0, .ref o0), (1, .int p0)]) hx hb dX12_pay_152 hl (by decide) rfl (fun ls hl => ?_)
          refine lv_iload hx hb dX12_pay_154 (lv_at hl 0 rfl) ?_
          refine lv_aload_n hx hb dX12_pay_156 rfl (lv_at hl 5 rfl) ?_
          refine tw_get hx hb hts bF_X12 hown hK hT hr_o0 shm_0 rfl 48 (by decide) (ht_at hts 29 rfl) (fun _ h9 => h9) dX12_pay_157 (fun v9 m66 h9 => ?_)
          obtain ⟨x67, rfl, gx67, kx67⟩ := h9 _ rfl
          refine lv_icmp_le (tgt := 165) hx hb dX12_pay_160 (by decide) (fun c68 => ?_) (fun c68 => ?_)
          · have t69 : x65.toInt ≤ x67.toInt := ti_le c68 rfl rfl
            refine lv_aload_n hx hb dX12_pay_165 rfl (lv_at hl 5 rfl) ?_
            refine lv_dup hx hb dX12_pay_166 rfl ?_
            refine tw_getM (v := .int x67) hx hb hts bF_X12 hown hK hT hr_o0 shm_0 rfl 48 (by decide) (ht_at hts 29 rfl) (fun _ h9 => h9) m66 dX12_pay_167 ?_
            refine lv_iload hx hb dX12_pay_170 (lv_at hl 0 rfl) ?_
            refine lv_isub hx hb dX12_pay_172 ?_
            refine lv_topi (fun x70 ex70 => ?_)
            refine tw_put (v := .int x70) (ty := .int) hx hb hts bF_X12 tyX12 tyX12_ok nmX12 hown hK hT hG hS hr_o0 shm_0 rfl 48 (by decide) (ht_at hts 29 rfl) (fun _ h9 => h9) rfl (by decide +kernel) rfl rfl (gl_at rfl (gi_all _)) dX12_pay_173 (fun H locs hT oq m71 oj hS => ?_)
            have hF := hF.put hr_o0 skm_0 oq oj (by decide)
            have m72 := (el_kept (oq _ (gne hg22 hr_o0 (by decide)))).trans m45
            have m73 := (el_kept (oq _ (gne hg40 hr_o0 (by decide)))).trans m46
            have m74 := (el_kept (oq _ (gne hg53 hr_o0 (by decide)))).trans m54
            have m75 := (el_kept (oq _ (gne hg62 hr_o0 (by decide)))).trans m63
            refine lv_aload_n hx hb dX12_pay_176 rfl (lv_at hl 5 rfl) ?_
            refine tw_get hx hb hts bF_X12 hown hK hT hr_o0 shm_0 rfl 63 (by decide) (ht_at hts 14 rfl) (fun _ h9 => h9) dX12_pay_177 (fun v9 m76 h9 => ?_)
            obtain ⟨rfl, hg77⟩ := h9 _ rfl
            refine lv_iload_n hx hb dX12_pay_180 rfl (lv_at hl 6 rfl) ?_
            refine lv_iconst (v := 1) hx hb dX12_pay_181 (by decide) ?_
            refine tw_zast (i := p0) (x := 1) hx hb hK hT hG hS hg22 shm_64 rfl (vin_t (a := p0.toInt) rfl (by omega) (by omega)) (gi_z (rg_t (a := 1) (by decide) (by omega) (by omega)) (by decide) (by decide)) dX12_pay_182 (fun H locs hT oq m78 oi hS => ?_)
            have hF := hF.ast hg22 skm_64 oq (by decide)
            have m79 := (el_kept (oq _ (gne hg40 hg22 (by decide)))).trans m73
            have m80 := (el_kept (oq _ (gne hg53 hg22 (by decide)))).trans m74
            have m81 := (el_kept (oq _ (gne hg62 hg22 (by decide)))).trans m75
            have m82 := (el_kept (oq _ (gne hr_o0 hg22 (by decide)))).trans m71
            refine lv_iload hx hb dX12_pay_183 (lv_at hl 1 rfl) ?_
            refine lv_bipush (v := 10) hx hb dX12_pay_185 (by decide) ?_
            refine lv_icmp_lt (tgt := 230) hx hb dX12_pay_187 (by decide) (fun c83 => ?_) (fun c83 => ?_)
            · have t84 : x58.toInt < 10 := ti_lt c83 rfl (by decide)
              refine lv_iload hx hb dX12_pay_230 (lv_at hl 0 rfl) ?_
              exact W.iret (v := x65) hx hb hr (fun t ht hW => ⟨⟨x65, (), rfl, (by exact trivial), by (try dsimp only); rw [ht]; exact ⟨hT, hF⟩⟩, hS.F ht⟩) hS.2.2 dX12_pay_232
            · have t85 : 10 ≤ x58.toInt := ti_nlt c83 rfl (by decide)
              refine lv_iload_n hx hb dX12_pay_190 rfl (lv_at hl 3 rfl) ?_
              refine lv_if_eq (tgt := 230) hx hb dX12_pay_191 (by decide) (fun c86 => ?_) (fun c86 => absurd c86 (by decide))
              refine lv_iload hx hb dX12_pay_230 (lv_at hl 0 rfl) ?_
              exact W.iret (v := x65) hx hb hr (fun t ht hW => ⟨⟨x65, (), rfl, (by exact trivial), by (try dsimp only); rw [ht]; exact ⟨hT, hF⟩⟩, hS.F ht⟩) hS.2.2 dX12_pay_232
          · have t87 : x67.toInt < x65.toInt := ti_nle c68 rfl rfl
            refine lv_iconst (v := (-1)) hx hb dX12_pay_163 (by decide) ?_
            exact W.iret (v := (-1)) hx hb hr (fun t ht hW => ⟨⟨(-1), (), rfl, (by exact trivial), by (try dsimp only); rw [ht]; exact ⟨hT, hF⟩⟩, hS.F ht⟩) hS.2.2 dX12_pay_164
        · have t88 : r43.toInt = 0 := ti_eq c49 rfl (by decide)
          have t89 : 0 ≤ x42.toInt ∧ x42.toInt ≤ 29 ∧ x42.toInt < wC := hi48 c49
          refine lv_aload_n hx hb dX12_pay_63 rfl (lv_at hl 1 rfl) ?_
          refine lv_iload_n hx hb dX12_pay_64 rfl (lv_at hl 0 rfl) ?_
          have hFc := gA_free hG hA hS
          refine va_calli (va_runV (As := [.int x42]) (rest := []) ⟨hx, hb, hml, hown, hts⟩ (s_isDike l dC dI kA G H q wN wH wB wC wL wK PI o0 x42 hT hr_o0 (rg_t (a := x42.toInt) rfl (by have q8 := ti_all x42; omega) (by have q8 := ti_all x42; omega)) (by omega) (by omega) (by omega) (by omega)) (cwV 1 hts (goodIn_app (goodIn_r _ [39, 40, 41, 7] (by decide +kernel) (by decide +kernel)) (goodIn_ca (goodIn_r _ [31, 32, 25, 33, 34, 35, 7, 36, 37, 38] (by decide +kernel) (by decide +kernel)) (bs_in _ _))) rfl rfl rfl (by decide +kernel) ⟨(Nat.le_of_ble_eq_true rfl), (Nat.le_of_ble_eq_true rfl)⟩) ⟨fun a U g mk q => by obtain ⟨q0, q1, qK, qE⟩ := q; exact ⟨q0, q1, va_K.moved (u := U) (U := U.calling g mk a) (Vm.Alike.refl U.vm) qK, EV.blind g mk a qE⟩, gH_recv hK hT hr_o0 shm_0 rfl, fun U hU hW => ⟨rfl, hU, va_K.moved hW.alike hK, hE.call hS hFc hU hW⟩⟩ rfl rfl hl.1 rfl (lv_room (Nat.le_of_ble_eq_true rfl)) dX12_pay_65 ⟨(Nat.le_of_ble_eq_true rfl), (Nat.le_of_ble_eq_true rfl)⟩) hS (fun q _ h => hFc q h) hFc (fun r90 u t H locs ht hvm hw91 hB _ _ hS => ?_)
          obtain ⟨hT, hF1⟩ := hB
          rw [ht] at hT hF1
          have m92 := (el_kept (hF1.arr hg22 skm_64 (by decide))).trans m45
          have m93 := (el_kept (hF1.arr hg40 skm_57 (by decide))).trans m46
          have hF := hF.more hF1 (by decide)
          try dsimp only at hw91
          have h94 := hw91
          refine lv_if_eq (tgt := 75) hx hb dX12_pay_68 (by decide) (fun c95 => ?_) (fun c95 => ?_)
          · have t96 : r90.toInt = 0 := ti_eq c95 rfl (by decide)
            refine lv_iconst (v := 0) hx hb dX12_pay_75 (by decide) ?_
            refine lv_istore_n (lv' := [(3, .int 0), (2, .int x42), (0, .ref o0), (1, .int p0)]) hx hb dX12_pay_76 rfl hl (by decide) rfl (fun ls hl => ?_)
            refine lv_iload_n hx hb dX12_pay_77 rfl (lv_at hl 0 rfl) ?_
            refine lv_if_eq (tgt := 99) hx hb dX12_pay_78 (by decide) (fun c97 => ?_) (fun c97 => absurd c97 (by decide))
            refine lv_iconst (v := 0) hx hb dX12_pay_99 (by decide) ?_
            refine lv_istore (lv' := [(4, .int 0), (3, .int 0), (2, .int x42), (0, .ref o0), (1, .int p0)]) hx hb dX12_pay_100 hl (by decide) rfl (fun ls hl => ?_)
            refine lv_aload_n hx hb dX12_pay_102 rfl (lv_at hl 3 rfl) ?_
            refine tw_get hx hb hts bF_X12 hown hK hT hr_o0 shm_0 rfl 60 (by decide) (ht_at hts 17 rfl) (fun _ h9 => h9) dX12_pay_103 (fun v9 m98 h9 => ?_)
            obtain ⟨rfl, hg99⟩ := h9 _ rfl
            refine lv_iload_n hx hb dX12_pay_106 rfl (lv_at hl 4 rfl) ?_
            refine tw_iald (i := p0) hx hb hK hT hg99 shm_61 rfl (vin_t (a := p0.toInt) rfl (by omega) (by omega)) dX12_pay_107 (fun v9 m100 h9 => ?_)
            obtain ⟨x101, rfl, gx101, kx101⟩ := h9
            refine lv_istore (lv' := [(5, .int x101), (4, .int 0), (3, .int 0), (2, .int x42), (0, .ref o0), (1, .int p0)]) hx hb dX12_pay_108 hl (by decide) rfl (fun ls hl => ?_)
            refine lv_iload hx hb dX12_pay_110 (lv_at hl 0 rfl) ?_
            refine lv_iload hx hb dX12_pay_112 (lv_at hl 1 rfl) ?_
            refine lv_iconst (v := 1) hx hb dX12_pay_114 (by decide) ?_
            refine lv_icmp_ne (tgt := 126) hx hb dX12_pay_115 (by decide) (fun c102 => ?_) (fun c102 => absurd c102 (by decide))
            refine lv_iload hx hb dX12_pay_126 (lv_at hl 1 rfl) ?_
            refine lv_iconst (v := 2) hx hb dX12_pay_128 (by decide) ?_
            refine lv_icmp_ne (tgt := 139) hx hb dX12_pay_129 (by decide) (fun c103 => ?_) (fun c103 => absurd c103 (by decide))
            refine lv_iconst (v := 0) hx hb dX12_pay_139 (by decide) ?_
            refine lv_isub hx hb dX12_pay_140 ?_
            refine lv_topi (fun x104 ex104 => ?_)
            have t105 : -2147483648 ≤ x101.toInt ∧ x101.toInt ≤ 2147483647 := ti_all x101
            have t106 : x104.toInt = x101.toInt - 0 := ti_sub ex104 rfl (by decide) (by omega) (by omega)
            refine lv_istore (lv' := [(5, .int x104), (4, .int 0), (3, .int 0), (2, .int x42), (0, .ref o0), (1, .int p0)]) hx hb dX12_pay_141 hl (by decide) rfl (fun ls hl => ?_)
            refine lv_iload hx hb dX12_pay_143 (lv_at hl 0 rfl) ?_
            refine lv_aload_n hx hb dX12_pay_145 rfl (lv_at hl 4 rfl) ?_
            refine tw_get hx hb hts bF_X12 hown hK hT hr_o0 shm_0 rfl 58 (by decide) (ht_at hts 28 rfl) (fun _ h9 => h9) dX12_pay_146 (fun v9 m107 h9 => ?_)
            obtain ⟨rfl, hg108⟩ := h9 _ rfl
            refine lv_iload_n hx hb dX12_pay_149 rfl (lv_at hl 5 rfl) ?_
            refine tw_iald (i := p0) hx hb hK hT hg108 shm_59 rfl (vin_t (a := p0.toInt) rfl (by omega) (by omega)) dX12_pay_150 (fun v9 m109 h9 => ?_)
            obtain ⟨x110, rfl, gx110, kx110⟩ := h9
            refine lv_imul hx hb dX12_pay_151 ?_
            refine lv_topi (fun x111 ex111 => ?_)
            refine lv_istore (lv' := [(6, .int x111), (5, .int x104), (4, .int 0), (3, .int 0), (2, .int x42), (0, .ref o0), (1, .int p0)]) hx hb dX12_pay_152 hl (by decide) rfl (fun ls hl => ?_)
            refine lv_iload hx hb dX12_pay_154 (lv_at hl 0 rfl) ?_
            refine lv_aload_n hx hb dX12_pay_156 rfl (lv_at hl 5 rfl) ?_
            refine tw_get hx hb hts bF_X12 hown hK hT hr_o0 shm_0 rfl 48 (by decide) (ht_at hts 29 rfl) (fun _ h9 => h9) dX12_pay_157 (fun v9 m112 h9 => ?_)
            obtain ⟨x113, rfl, gx113, kx113⟩ := h9 _ rfl
            refine lv_icmp_le (tgt := 165) hx hb dX12_pay_160 (by decide) (fun c114 => ?_) (fun c114 => ?_)
            · have t115 : x111.toInt ≤ x113.toInt := ti_le c114 rfl rfl
              refine lv_aload_n hx hb dX12_pay_165 rfl (lv_at hl 5 rfl) ?_
              refine lv_dup hx hb dX12_pay_166 rfl ?_
              refine tw_getM (v := .int x113) hx hb hts bF_X12 hown hK hT hr_o0 shm_0 rfl 48 (by decide) (ht_at hts 29 rfl) (fun _ h9 => h9) m112 dX12_pay_167 ?_
              refine lv_iload hx hb dX12_pay_170 (lv_at hl 0 rfl) ?_
              refine lv_isub hx hb dX12_pay_172 ?_
              refine lv_topi (fun x116 ex116 => ?_)
              refine tw_put (v := .int x116) (ty := .int) hx hb hts bF_X12 tyX12 tyX12_ok nmX12 hown hK hT hG hS hr_o0 shm_0 rfl 48 (by decide) (ht_at hts 29 rfl) (fun _ h9 => h9) rfl (by decide +kernel) rfl rfl (gl_at rfl (gi_all _)) dX12_pay_173 (fun H locs hT oq m117 oj hS => ?_)
              have hF := hF.put hr_o0 skm_0 oq oj (by decide)
              have m118 := (el_kept (oq _ (gne hg22 hr_o0 (by decide)))).trans m92
              have m119 := (el_kept (oq _ (gne hg40 hr_o0 (by decide)))).trans m93
              have m120 := (el_kept (oq _ (gne hg99 hr_o0 (by decide)))).trans m100
              have m121 := (el_kept (oq _ (gne hg108 hr_o0 (by decide)))).trans m109
              refine lv_aload_n hx hb dX12_pay_176 rfl (lv_at hl 5 rfl) ?_
              refine tw_get hx hb hts bF_X12 hown hK hT hr_o0 shm_0 rfl 63 (by decide) (ht_at hts 14 rfl) (fun _ h9 => h9) dX12_pay_177 (fun v9 m122 h9 => ?_)
              obtain ⟨rfl, hg123⟩ := h9 _ rfl
              refine lv_iload_n hx hb dX12_pay_180 rfl (lv_at hl 6 rfl) ?_
              refine lv_iconst (v := 1) hx hb dX12_pay_181 (by decide) ?_
              refine tw_zast (i := p0) (x := 1) hx hb hK hT hG hS hg22 shm_64 rfl (vin_t (a := p0.toInt) rfl (by omega) (by omega)) (gi_z (rg_t (a := 1) (by decide) (by omega) (by omega)) (by decide) (by decide)) dX12_pay_182 (fun H locs hT oq m124 oi hS => ?_)
              have hF := hF.ast hg22 skm_64 oq (by decide)
              have m125 := (el_kept (oq _ (gne hg40 hg22 (by decide)))).trans m119
              have m126 := (el_kept (oq _ (gne hg99 hg22 (by decide)))).trans m120
              have m127 := (el_kept (oq _ (gne hg108 hg22 (by decide)))).trans m121
              have m128 := (el_kept (oq _ (gne hr_o0 hg22 (by decide)))).trans m117
              refine lv_iload hx hb dX12_pay_183 (lv_at hl 1 rfl) ?_
              refine lv_bipush (v := 10) hx hb dX12_pay_185 (by decide) ?_
              refine lv_icmp_lt (tgt := 230) hx hb dX12_pay_187 (by decide) (fun c129 => ?_) (fun c129 => ?_)
              · have t130 : x104.toInt < 10 := ti_lt c129 rfl (by decide)
                refine lv_iload hx hb dX12_pay_230 (lv_at hl 0 rfl) ?_
                exact W.iret (v := x111) hx hb hr (fun t ht hW => ⟨⟨x111, (), rfl, (by exact trivial), by (try dsimp only); rw [ht]; exact ⟨hT, hF⟩⟩, hS.F ht⟩) hS.2.2 dX12_pay_232
              · have t131 : 10 ≤ x104.toInt := ti_nlt c129 rfl (by decide)
                refine lv_iload_n hx hb dX12_pay_190 rfl (lv_at hl 3 rfl) ?_
                refine lv_if_eq (tgt := 230) hx hb dX12_pay_191 (by decide) (fun c132 => ?_) (fun c132 => absurd c132 (by decide))
                refine lv_iload hx hb dX12_pay_230 (lv_at hl 0 rfl) ?_
                exact W.iret (v := x111) hx hb hr (fun t ht hW => ⟨⟨x111, (), rfl, (by exact trivial), by (try dsimp only); rw [ht]; exact ⟨hT, hF⟩⟩, hS.F ht⟩) hS.2.2 dX12_pay_232
            · have t133 : x113.toInt < x111.toInt := ti_nle c114 rfl rfl
              refine lv_iconst (v := (-1)) hx hb dX12_pay_163 (by decide) ?_
              exact W.iret (v := (-1)) hx hb hr (fun t ht hW => ⟨⟨(-1), (), rfl, (by exact trivial), by (try dsimp only); rw [ht]; exact ⟨hT, hF⟩⟩, hS.F ht⟩) hS.2.2 dX12_pay_164
          · have t134 : r90.toInt ≠ 0 := ti_ne c95 rfl (by decide)
            refine lv_iconst (v := 1) hx hb dX12_pay_71 (by decide) ?_
            refine lv_goto (tgt := 76) hx hb dX12_pay_72 (by decide) ?_
            refine lv_istore_n (lv' := [(3, .int 1), (2, .int x42), (0, .ref o0), (1, .int p0)]) hx hb dX12_pay_76 rfl hl (by decide) rfl (fun ls hl => ?_)
            refine lv_iload_n hx hb dX12_pay_77 rfl (lv_at hl 0 rfl) ?_
            refine lv_if_eq (tgt := 99) hx hb dX12_pay_78 (by decide) (fun c135 => absurd c135 (by decide)) (fun c135 => ?_)
            refine lv_aload_n hx hb dX12_pay_81 rfl (lv_at hl 2 rfl) ?_
            refine tw_get hx hb hts bF_X12 hown hK hT hr_o0 shm_0 rfl 1 (by decide) (ht_at hts 24 rfl) (fun _ h9 => h9) dX12_pay_82 (fun v9 m136 h9 => ?_)
            obtain ⟨rfl, hg137⟩ := h9 _ rfl
            refine lv_sipush (v := 192) hx hb dX12_pay_85 (by decide) ?_
            refine lv_aload_n hx hb dX12_pay_88 rfl (lv_at hl 2 rfl) ?_
            refine lv_iload_n hx hb dX12_pay_89 rfl (lv_at hl 1 rfl) ?_
            refine lv_iconst (v := 1) hx hb dX12_pay_90 (by decide) ?_
            have hFc := gA_free hG hA hS
            refine va_calli (va_runV (As := [.int x42, .int 1]) (rest := [.int 192, .ref (q 1)]) ⟨hx, hb, hml, hown, hts⟩ (s_of1 l dC dI kA G H q wN wH wB wC wL wK PI o0 x42 hT hr_o0 (rg_t (a := x42.toInt) rfl (by have q8 := ti_all x42; omega) (by have q8 := ti_all x42; omega)) (by omega) (by omega) (by omega) (by omega)) (cwV 2 hts (goodIn_app (goodIn_r _ [36, 37, 38, 7] (by decide +kernel) (by decide +kernel)) (goodIn_ca (goodIn_r _ [32, 25, 33, 34, 35, 7] (by decide +kernel) (by decide +kernel)) (bs_in _ _))) rfl rfl rfl (by decide +kernel) ⟨(Nat.le_of_ble_eq_true rfl), (Nat.le_of_ble_eq_true rfl)⟩) ⟨fun a U g mk q => by obtain ⟨q0, q1, qK, qE⟩ := q; exact ⟨q0, q1, va_K.moved (u := U) (U := U.calling g mk a) (Vm.Alike.refl U.vm) qK, EV.blind g mk a qE⟩, gH_recv hK hT hr_o0 shm_0 rfl, fun U hU hW => ⟨rfl, hU, va_K.moved hW.alike hK, hE.call hS hFc hU hW⟩⟩ rfl rfl hl.1 rfl (lv_room (Nat.le_of_ble_eq_true rfl)) dX12_pay_91 ⟨(Nat.le_of_ble_eq_true rfl), (Nat.le_of_ble_eq_true rfl)⟩) hS (fun q _ h => hFc q h) hFc (fun r138 u t H locs ht hvm hw139 hB _ _ hS => ?_)
            obtain ⟨hT, hF1⟩ := hB
            rw [ht] at hT hF1
            have m140 := (el_kept (hF1.arr hg22 skm_64 (by decide))).trans m92
            have m141 := (el_kept (hF1.arr hg40 skm_57 (by decide))).trans m93
            have hF := hF.more hF1 (by decide)
            try dsimp only at hw139
            obtain ⟨h142, ⟨ix143, hix143, m144⟩⟩ := hw139
            have m145 := (el_kept (hF1.arr hg137 skm_2 (by decide))).trans m144
            refine lv_iadd hx hb dX12_pay_94 ?_
            refine lv_topi (fun x146 ex146 => ?_)
            have t147 : x146.toInt = 192 + r138.toInt := ti_add ex146 (by decide) rfl (by omega) (by omega)
            refine tw_iald (i := x146) hx hb hK hT hg137 shm_2 rfl (vin_t (a := x146.toInt) rfl (by omega) (by omega)) dX12_pay_95 (fun v9 m148 h9 => ?_)
            obtain ⟨x149, rfl, gx149, kx149⟩ := (gp_at h9 (w_fre (by have q9 := tn_of (show x146.toInt = x146.toInt from rfl) (show (0 : Int) ≤ x146.toInt from by omega); omega)))
            refine lv_goto (tgt := 100) hx hb dX12_pay_96 (by decide) ?_
            refine lv_istore (lv' := [(4, .int x149), (3, .int 1), (2, .int x42), (0, .ref o0), (1, .int p0)]) hx hb dX12_pay_100 hl (by decide) rfl (fun ls hl => ?_)
            refine lv_aload_n hx hb dX12_pay_102 rfl (lv_at hl 3 rfl) ?_
            refine tw_get hx hb hts bF_X12 hown hK hT hr_o0 shm_0 rfl 60 (by decide) (ht_at hts 17 rfl) (fun _ h9 => h9) dX12_pay_103 (fun v9 m150 h9 => ?_)
            obtain ⟨rfl, hg151⟩ := h9 _ rfl
            refine lv_iload_n hx hb dX12_pay_106 rfl (lv_at hl 4 rfl) ?_
            refine tw_iald (i := p0) hx hb hK hT hg151 shm_61 rfl (vin_t (a := p0.toInt) rfl (by omega) (by omega)) dX12_pay_107 (fun v9 m152 h9 => ?_)
            obtain ⟨x153, rfl, gx153, kx153⟩ := h9
            refine lv_istore (lv' := [(5, .int x153), (4, .int x149), (3, .int 1), (2, .int x42), (0, .ref o0), (1, .int p0)]) hx hb dX12_pay_108 hl (by decide) rfl (fun ls hl => ?_)
            refine lv_iload hx hb dX12_pay_110 (lv_at hl 0 rfl) ?_
            refine lv_iload hx hb dX12_pay_112 (lv_at hl 1 rfl) ?_
            refine lv_iconst (v := 1) hx hb dX12_pay_114 (by decide) ?_
            refine lv_icmp_ne (tgt := 126) hx hb dX12_pay_115 (by decide) (fun c154 => ?_) (fun c154 => ?_)
            · have t155 : x149.toInt ≠ 1 := ti_ne c154 rfl (by decide)
              refine lv_iload hx hb dX12_pay_126 (lv_at hl 1 rfl) ?_
              refine lv_iconst (v := 2) hx hb dX12_pay_128 (by decide) ?_
              refine lv_icmp_ne (tgt := 139) hx hb dX12_pay_129 (by decide) (fun c156 => ?_) (fun c156 => ?_)
              · have t157 : x149.toInt ≠ 2 := ti_ne c156 rfl (by decide)
                refine lv_iconst (v := 0) hx hb dX12_pay_139 (by decide) ?_
                refine lv_isub hx hb dX12_pay_140 ?_
                refine lv_topi (fun x158 ex158 => ?_)
                have t159 : -2147483648 ≤ x153.toInt ∧ x153.toInt ≤ 2147483647 := ti_all x153
                have t160 : x158.toInt = x153.toInt - 0 := ti_sub ex158 rfl (by decide) (by omega) (by omega)
                refine lv_istore (lv' := [(5, .int x158), (4, .int x149), (3, .int 1), (2, .int x42), (0, .ref o0), (1, .int p0)]) hx hb dX12_pay_141 hl (by decide) rfl (fun ls hl => ?_)
                refine lv_iload hx hb dX12_pay_143 (lv_at hl 0 rfl) ?_
                refine lv_aload_n hx hb dX12_pay_145 rfl (lv_at hl 4 rfl) ?_
                refine tw_get hx hb hts bF_X12 hown hK hT hr_o0 shm_0 rfl 58 (by decide) (ht_at hts 28 rfl) (fun _ h9 => h9) dX12_pay_146 (fun v9 m161 h9 => ?_)
                obtain ⟨rfl, hg162⟩ := h9 _ rfl
                refine lv_iload_n hx hb dX12_pay_149 rfl (lv_at hl 5 rfl) ?_
                refine tw_iald (i := p0) hx hb hK hT hg162 shm_59 rfl (vin_t (a := p0.toInt) rfl (by omega) (by omega)) dX12_pay_150 (fun v9 m163 h9 => ?_)
                obtain ⟨x164, rfl, gx164, kx164⟩ := h9
                refine lv_imul hx hb dX12_pay_151 ?_
                refine lv_topi (fun x165 ex165 => ?_)
                refine lv_istore (lv' := [(6, .int x165), (5, .int x158), (4, .int x149), (3, .int 1), (2, .int x42), (0, .ref o0), (1, .int p0)]) hx hb dX12_pay_152 hl (by decide) rfl (fun ls hl => ?_)
                refine lv_iload hx hb dX12_pay_154 (lv_at hl 0 rfl) ?_
                refine lv_aload_n hx hb dX12_pay_156 rfl (lv_at hl 5 rfl) ?_
                refine tw_get hx hb hts bF_X12 hown hK hT hr_o0 shm_0 rfl 48 (by decide) (ht_at hts 29 rfl) (fun _ h9 => h9) dX12_pay_157 (fun v9 m166 h9 => ?_)
                obtain ⟨x167, rfl, gx167, kx167⟩ := h9 _ rfl
                refine lv_icmp_le (tgt := 165) hx hb dX12_pay_160 (by decide) (fun c168 => ?_) (fun c168 => ?_)
                · have t169 : x165.toInt ≤ x167.toInt := ti_le c168 rfl rfl
                  refine lv_aload_n hx hb dX12_pay_165 rfl (lv_at hl 5 rfl) ?_
                  refine lv_dup hx hb dX12_pay_166 rfl ?_
                  refine tw_getM (v := .int x167) hx hb hts bF_X12 hown hK hT hr_o0 shm_0 rfl 48 (by decide) (ht_at hts 29 rfl) (fun _ h9 => h9) m166 dX12_pay_167 ?_
                  refine lv_iload hx hb dX12_pay_170 (lv_at hl 0 rfl) ?_
                  refine lv_isub hx hb dX12_pay_172 ?_
                  refine lv_topi (fun x170 ex170 => ?_)
                  refine tw_put (v := .int x170) (ty := .int) hx hb hts bF_X12 tyX12 tyX12_ok nmX12 hown hK hT hG hS hr_o0 shm_0 rfl 48 (by decide) (ht_at hts 29 rfl) (fun _ h9 => h9) rfl (by decide +kernel) rfl rfl (gl_at rfl (gi_all _)) dX12_pay_173 (fun H locs hT oq m171 oj hS => ?_)
                  have hF := hF.put hr_o0 skm_0 oq oj (by decide)
                  have m172 := (el_kept (oq _ (gne hg22 hr_o0 (by decide)))).trans m140
                  have m173 := (el_kept (oq _ (gne hg40 hr_o0 (by decide)))).trans m141
                  have m174 := (el_kept (oq _ (gne hg137 hr_o0 (by decide)))).trans m145
                  have m175 := (el_kept (oq _ (gne hg137 hr_o0 (by decide)))).trans m148
                  have m176 := (el_kept (oq _ (gne hg151 hr_o0 (by decide)))).trans m152
                  have m177 := (el_kept (oq _ (gne hg162 hr_o0 (by decide)))).trans m163
                  refine lv_aload_n hx hb dX12_pay_176 rfl (lv_at hl 5 rfl) ?_
                  refine tw_get hx hb hts bF_X12 hown hK hT hr_o0 shm_0 rfl 63 (by decide) (ht_at hts 14 rfl) (fun _ h9 => h9) dX12_pay_177 (fun v9 m178 h9 => ?_)
                  obtain ⟨rfl, hg179⟩ := h9 _ rfl
                  refine lv_iload_n hx hb dX12_pay_180 rfl (lv_at hl 6 rfl) ?_
                  refine lv_iconst (v := 1) hx hb dX12_pay_181 (by decide) ?_
                  refine tw_zast (i := p0) (x := 1) hx hb hK hT hG hS hg22 shm_64 rfl (vin_t (a := p0.toInt) rfl (by omega) (by omega)) (gi_z (rg_t (a := 1) (by decide) (by omega) (by omega)) (by decide) (by decide)) dX12_pay_182 (fun H locs hT oq m180 oi hS => ?_)
                  have hF := hF.ast hg22 skm_64 oq (by decide)
                  have m181 := (el_kept (oq _ (gne hg40 hg22 (by decide)))).trans m173
                  have m182 := (el_kept (oq _ (gne hg137 hg22 (by decide)))).trans m174
                  have m183 := (el_kept (oq _ (gne hg137 hg22 (by decide)))).trans m175
                  have m184 := (el_kept (oq _ (gne hg151 hg22 (by decide)))).trans m176
                  have m185 := (el_kept (oq _ (gne hg162 hg22 (by decide)))).trans m177
                  have m186 := (el_kept (oq _ (gne hr_o0 hg22 (by decide)))).trans m171
                  refine lv_iload hx hb dX12_pay_183 (lv_at hl 1 rfl) ?_
                  refine lv_bipush (v := 10) hx hb dX12_pay_185 (by decide) ?_
                  refine lv_icmp_lt (tgt := 230) hx hb dX12_pay_187 (by decide) (fun c187 => ?_) (fun c187 => ?_)
                  · have t188 : x158.toInt < 10 := ti_lt c187 rfl (by decide)
                    refine lv_iload hx hb dX12_pay_230 (lv_at hl 0 rfl) ?_
                    exact W.iret (v := x165) hx hb hr (fun t ht hW => ⟨⟨x165, (), rfl, (by exact trivial), by (try dsimp only); rw [ht]; exact ⟨hT, hF⟩⟩, hS.F ht⟩) hS.2.2 dX12_pay_232
                  · have t189 : 10 ≤ x158.toInt := ti_nlt c187 rfl (by decide)
                    refine lv_iload_n hx hb dX12_pay_190 rfl (lv_at hl 3 rfl) ?_
                    refine lv_if_eq (tgt := 230) hx hb dX12_pay_191 (by decide) (fun c190 => absurd c190 (by decide)) (fun c190 => ?_)
                    refine lv_aload_n hx hb dX12_pay_194 rfl (lv_at hl 5 rfl) ?_
                    refine lv_iload_n hx hb dX12_pay_195 rfl (lv_at hl 4 rfl) ?_
                    refine lv_iconst (v := 0) hx hb dX12_pay_196 (by decide) ?_
                    have hFc := gA_free hG hA hS
                    refine va_calli (va_runV (As := [.int x42, .int 0]) (rest := []) ⟨hx, hb, hml, hown, hts⟩ (s_of0 l dC dI kA G H q wN wH wB wC wL wK PI o0 x42 hT hr_o0 (rg_t (a := x42.toInt) rfl (by have q8 := ti_all x42; omega) (by have q8 := ti_all x42; omega)) (by omega) (by omega) (by omega) (by omega)) (cwV 2 hts (goodIn_app (goodIn_r _ [36, 37, 38, 7] (by decide +kernel) (by decide +kernel)) (goodIn_ca (goodIn_r _ [32, 25, 33, 34, 35, 7] (by decide +kernel) (by decide +kernel)) (bs_in _ _))) rfl rfl rfl (by decide +kernel) ⟨(Nat.le_of_ble_eq_true rfl), (Nat.le_of_ble_eq_true rfl)⟩) ⟨fun a U g mk q => by obtain ⟨q0, q1, qK, qE⟩ := q; exact ⟨q0, q1, va_K.moved (u := U) (U := U.calling g mk a) (Vm.Alike.refl U.vm) qK, EV.blind g mk a qE⟩, gH_recv hK hT hr_o0 shm_0 rfl, fun U hU hW => ⟨rfl, hU, va_K.moved hW.alike hK, hE.call hS hFc hU hW⟩⟩ rfl rfl hl.1 rfl (lv_room (Nat.le_of_ble_eq_true rfl)) dX12_pay_197 ⟨(Nat.le_of_ble_eq_true rfl), (Nat.le_of_ble_eq_true rfl)⟩) hS (fun q _ h => hFc q h) hFc (fun r191 u t H locs ht hvm hw192 hB _ _ hS => ?_)
                    obtain ⟨hT, hF1⟩ := hB
                    rw [ht] at hT hF1
                    have m193 := (el_kept (hF1.arr hg40 skm_57 (by decide))).trans m181
                    have m194 := (el_kept (hF1.arr hg137 skm_2 (by decide))).trans m182
                    have m195 := (el_kept (hF1.arr hg137 skm_2 (by decide))).trans m183
                    have m196 := (el_kept (hF1.arr hg151 skm_61 (by decide))).trans m184
                    have m197 := (el_kept (hF1.arr hg162 skm_59 (by decide))).trans m185
                    have m198 := (hF1.fld hr_o0 skm_0 (k := 48) (by decide) (by decide)).trans m186
                    have hF := hF.more hF1 (by decide)
                    try dsimp only at hw192
                    have ⟨ix199, hix199, m200⟩ := hw192
                    have m201 := (el_kept (hF1.arr hg137 skm_2 (by decide))).trans m200
                    refine lv_if_ne (tgt := 230) hx hb dX12_pay_200 (by decide) (fun c202 => ?_) (fun c202 => ?_)
                    · have t203 : r191.toInt ≠ 0 := ti_ne c202 rfl (by decide)
                      refine lv_iload hx hb dX12_pay_230 (lv_at hl 0 rfl) ?_
                      exact W.iret (v := x165) hx hb hr (fun t ht hW => ⟨⟨x165, (), rfl, (by exact trivial), by (try dsimp only); rw [ht]; exact ⟨hT, hF⟩⟩, hS.F ht⟩) hS.2.2 dX12_pay_232
                    · have t204 : r191.toInt = 0 := ti_eq c202 rfl (by decide)
                      refine lv_aload_n hx hb dX12_pay_203 rfl (lv_at hl 5 rfl) ?_
                      refine lv_iload_n hx hb dX12_pay_204 rfl (lv_at hl 4 rfl) ?_
                      refine lv_iconst (v := 4) hx hb dX12_pay_205 (by decide) ?_
                      have hFc := gA_free hG hA hS
                      refine va_calli (va_runV (As := [.int x42, .int 4]) (rest := []) ⟨hx, hb, hml, hown, hts⟩ (s_of4 l dC dI kA G H q wN wH wB wC wL wK PI o0 x42 hT hr_o0 (rg_t (a := x42.toInt) rfl (by have q8 := ti_all x42; omega) (by have q8 := ti_all x42; omega)) (by omega) (by omega) (by omega) (by omega)) (cwV 2 hts (goodIn_app (goodIn_r _ [36, 37, 38, 7] (by decide +kernel) (by decide +kernel)) (goodIn_ca (goodIn_r _ [32, 25, 33, 34, 35, 7] (by decide +kernel) (by decide +kernel)) (bs_in _ _))) rfl rfl rfl (by decide +kernel) ⟨(Nat.le_of_ble_eq_true rfl), (Nat.le_of_ble_eq_true rfl)⟩) ⟨fun a U g mk q => by obtain ⟨q0, q1, qK, qE⟩ := q; exact ⟨q0, q1, va_K.moved (u := U) (U := U.calling g mk a) (Vm.Alike.refl U.vm) qK, EV.blind g mk a qE⟩, gH_recv hK hT hr_o0 shm_0 rfl, fun U hU hW => ⟨rfl, hU, va_K.moved hW.alike hK, hE.call hS hFc hU hW⟩⟩ rfl rfl hl.1 rfl (lv_room (Nat.le_of_ble_eq_true rfl)) dX12_pay_206 ⟨(Nat.le_of_ble_eq_true rfl), (Nat.le_of_ble_eq_true rfl)⟩) hS (fun q _ h => hFc q h) hFc (fun r205 u t H locs ht hvm hw206 hB _ _ hS => ?_)
                      obtain ⟨hT, hF1⟩ := hB
                      rw [ht] at hT hF1
                      have m207 := (el_kept (hF1.arr hg40 skm_57 (by decide))).trans m193
                      have m208 := (el_kept (hF1.arr hg137 skm_2 (by decide))).trans m194
                      have m209 := (el_kept (hF1.arr hg137 skm_2 (by decide))).trans m195
                      have m210 := (el_kept (hF1.arr hg151 skm_61 (by decide))).trans m196
                      have m211 := (el_kept (hF1.arr hg162 skm_59 (by decide))).trans m197
                      have m212 := (hF1.fld hr_o0 skm_0 (k := 48) (by decide) (by decide)).trans m198
                      have m213 := (el_kept (hF1.arr hg137 skm_2 (by decide))).trans m201
                      have hF := hF.more hF1 (by decide)
                      try dsimp only at hw206
                      obtain ⟨h214, ⟨ix215, hix215, m216⟩⟩ := hw206
                      have m217 := (el_kept (hF1.arr hg137 skm_2 (by decide))).trans m216
                      refine lv_bipush (v := 6) hx hb dX12_pay_209 (by decide) ?_
                      refine lv_icmp_ge (tgt := 230) hx hb dX12_pay_211 (by decide) (fun c218 => ?_) (fun c218 => ?_)
                      · have t219 : 6 ≤ r205.toInt := ti_le c218 (by decide) rfl
                        refine lv_iload hx hb dX12_pay_230 (lv_at hl 0 rfl) ?_
                        exact W.iret (v := x165) hx hb hr (fun t ht hW => ⟨⟨x165, (), rfl, (by exact trivial), by (try dsimp only); rw [ht]; exact ⟨hT, hF⟩⟩, hS.F ht⟩) hS.2.2 dX12_pay_232
                      · have t220 : r205.toInt < 6 := ti_nle c218 (by decide) rfl
                        refine lv_aload_n hx hb dX12_pay_214 rfl (lv_at hl 5 rfl) ?_
                        refine lv_iload_n hx hb dX12_pay_215 rfl (lv_at hl 4 rfl) ?_
                        refine lv_iload hx hb dX12_pay_216 (lv_at hl 1 rfl) ?_
                        refine lv_bipush (v := 10) hx hb dX12_pay_218 (by decide) ?_
                        refine lv_idiv hx hb dX12_pay_220 (by decide) ?_
                        refine lv_topi (fun x221 ex221 => ?_)
                        have t222 : x221.toInt = x158.toInt / 10 := ti_div ex221 rfl (by decide) (by omega) (by omega)
                        refine lv_aload_n hx hb dX12_pay_221 rfl (lv_at hl 5 rfl) ?_
                        refine tw_get hx hb hts bF_X12 hown hK hT hr_o0 shm_0 rfl 57 (by decide) (ht_at hts 41 rfl) (fun _ h9 => h9) dX12_pay_222 (fun v9 m223 h9 => ?_)
                        obtain ⟨rfl, hg224⟩ := h9 _ rfl
                        refine lv_iload_n hx hb dX12_pay_225 rfl (lv_at hl 6 rfl) ?_
                        refine tw_iald (i := p0) hx hb hK hT hg224 shm_58 rfl (vin_t (a := p0.toInt) rfl (by omega) (by omega)) dX12_pay_226 (fun v9 m225 h9 => ?_)
                        obtain ⟨x226, rfl, gx226, kx226⟩ := h9
                        have hFc := gA_free hG hA hS
                        refine va_callv (va_runV (As := [.int x42, .int x221, .int x226]) (rest := []) ⟨hx, hb, hml, hown, hts⟩ (s_lays l dC dI kA G H q wN wH wB wC wL wK PI o0 x42 x221 x226 r205 ix215 hT hr_o0 (rg_t (a := x42.toInt) rfl (by have q8 := ti_all x42; omega) (by have q8 := ti_all x42; omega)) (rg_t (a := x226.toInt) rfl (by have q8 := ti_all x226; omega) (by have q8 := ti_all x226; omega)) (by have q9 := (show ix215.toInt = ix215.toInt from rfl); omega) m217 (rg_t (a := r205.toInt) rfl (by have q8 := ti_all r205; omega) (by have q8 := ti_all r205; omega)) (by omega) (by omega) (by omega) (by omega)) (cwV 3 hts (goodIn_app (goodIn_r _ [45, 46, 47, 7] (by decide +kernel) (by decide +kernel)) (goodIn_ca (goodIn_r _ [43, 32, 25, 33, 34, 35, 7, 36, 37, 38, 44] (by decide +kernel) (by decide +kernel)) (bs_in _ _))) rfl rfl rfl (by decide +kernel) ⟨(Nat.le_of_ble_eq_true rfl), (Nat.le_of_ble_eq_true rfl)⟩) ⟨fun a U g mk q => by obtain ⟨q0, q1, qK, qE⟩ := q; exact ⟨q0, q1, va_K.moved (u := U) (U := U.calling g mk a) (Vm.Alike.refl U.vm) qK, EV.blind g mk a qE⟩, gH_recv hK hT hr_o0 shm_0 rfl, fun U hU hW => ⟨rfl, hU, va_K.moved hW.alike hK, hE.call hS hFc hU hW⟩⟩ rfl rfl hl.1 rfl (lv_room (Nat.le_of_ble_eq_true rfl)) dX12_pay_227 ⟨(Nat.le_of_ble_eq_true rfl), (Nat.le_of_ble_eq_true rfl)⟩) hS (fun q _ h => hFc q h) hFc (fun u t H locs ht hvm hw228 hB _ _ hS => ?_)
                        obtain ⟨hT, hF1⟩ := hB
                        rw [ht] at hT hF1
                        have m229 := (el_kept (hF1.arr hg40 skm_57 (by decide))).trans m207
                        have m232 := (el_kept (hF1.arr hg151 skm_61 (by decide))).trans m210
                        have m233 := (el_kept (hF1.arr hg162 skm_59 (by decide))).trans m211
                        have m234 := (hF1.fld hr_o0 skm_0 (k := 48) (by decide) (by decide)).trans m212
                        have m237 := (el_kept (hF1.arr hg224 skm_58 (by decide))).trans m225
                        have hF := hF.more hF1 (by decide)
                        try dsimp only at hw228
                        refine lv_iload hx hb dX12_pay_230 (lv_at hl 0 rfl) ?_
                        exact W.iret (v := x165) hx hb hr (fun t ht hW => ⟨⟨x165, (), rfl, (by exact trivial), by (try dsimp only); rw [ht]; exact ⟨hT, hF⟩⟩, hS.F ht⟩) hS.2.2 dX12_pay_232
                · have t238 : x167.toInt < x165.toInt := ti_nle c168 rfl rfl
                  refine lv_iconst (v := (-1)) hx hb dX12_pay_163 (by decide) ?_
                  exact W.iret (v := (-1)) hx hb hr (fun t ht hW => ⟨⟨(-1), (), rfl, (by exact trivial), by (try dsimp only); rw [ht]; exact ⟨hT, hF⟩⟩, hS.F ht⟩) hS.2.2 dX12_pay_164
              · have t239 : x149.toInt = 2 := ti_eq c156 rfl (by decide)
                refine lv_iload hx hb dX12_pay_132 (lv_at hl 0 rfl) ?_
                refine lv_iconst (v := 5) hx hb dX12_pay_134 (by decide) ?_
                have t240 : -2147483648 ≤ x153.toInt ∧ x153.toInt ≤ 2147483647 := ti_all x153
                refine lv_idiv hx hb dX12_pay_135 (by decide) ?_
                refine lv_topi (fun x241 ex241 => ?_)
                have t242 : (0 ≤ x153.toInt ∧ x241.toInt = x153.toInt / 5) ∨ (x153.toInt < 0 ∧ x241.toInt = -((-x153.toInt) / 5)) := ti_divs ex241 rfl (by decide) (by decide)
                refine lv_goto (tgt := 140) hx hb dX12_pay_136 (by decide) ?_
                refine lv_isub hx hb dX12_pay_140 ?_
                refine lv_topi (fun x243 ex243 => ?_)
                refine lv_istore (lv' := [(5, .int x243), (4, .int x149), (3, .int 1), (2, .int x42), (0, .ref o0), (1, .int p0)]) hx hb dX12_pay_141 hl (by decide) rfl (fun ls hl => ?_)
                refine lv_iload hx hb dX12_pay_143 (lv_at hl 0 rfl) ?_
                refine lv_aload_n hx hb dX12_pay_145 rfl (lv_at hl 4 rfl) ?_
                refine tw_get hx hb hts bF_X12 hown hK hT hr_o0 shm_0 rfl 58 (by decide) (ht_at hts 28 rfl) (fun _ h9 => h9) dX12_pay_146 (fun v9 m244 h9 => ?_)
                obtain ⟨rfl, hg245⟩ := h9 _ rfl
                refine lv_iload_n hx hb dX12_pay_149 rfl (lv_at hl 5 rfl) ?_
                refine tw_iald (i := p0) hx hb hK hT hg245 shm_59 rfl (vin_t (a := p0.toInt) rfl (by omega) (by omega)) dX12_pay_150 (fun v9 m246 h9 => ?_)
                obtain ⟨x247, rfl, gx247, kx247⟩ := h9
                refine lv_imul hx hb dX12_pay_151 ?_
                refine lv_topi (fun x248 ex248 => ?_)
                refine lv_istore (lv' := [(6, .int x248), (5, .int x243), (4, .int x149), (3, .int 1), (2, .int x42), (0, .ref o0), (1, .int p0)]) hx hb dX12_pay_152 hl (by decide) rfl (fun ls hl => ?_)
                refine lv_iload hx hb dX12_pay_154 (lv_at hl 0 rfl) ?_
                refine lv_aload_n hx hb dX12_pay_156 rfl (lv_at hl 5 rfl) ?_
                refine tw_get hx hb hts bF_X12 hown hK hT hr_o0 shm_0 rfl 48 (by decide) (ht_at hts 29 rfl) (fun _ h9 => h9) dX12_pay_157 (fun v9 m249 h9 => ?_)
                obtain ⟨x250, rfl, gx250, kx250⟩ := h9 _ rfl
                refine lv_icmp_le (tgt := 165) hx hb dX12_pay_160 (by decide) (fun c251 => ?_) (fun c251 => ?_)
                · have t252 : x248.toInt ≤ x250.toInt := ti_le c251 rfl rfl
                  refine lv_aload_n hx hb dX12_pay_165 rfl (lv_at hl 5 rfl) ?_
                  refine lv_dup hx hb dX12_pay_166 rfl ?_
                  refine tw_getM (v := .int x250) hx hb hts bF_X12 hown hK hT hr_o0 shm_0 rfl 48 (by decide) (ht_at hts 29 rfl) (fun _ h9 => h9) m249 dX12_pay_167 ?_
                  refine lv_iload hx hb dX12_pay_170 (lv_at hl 0 rfl) ?_
                  refine lv_isub hx hb dX12_pay_172 ?_
                  refine lv_topi (fun x253 ex253 => ?_)
                  refine tw_put (v := .int x253) (ty := .int) hx hb hts bF_X12 tyX12 tyX12_ok nmX12 hown hK hT hG hS hr_o0 shm_0 rfl 48 (by decide) (ht_at hts 29 rfl) (fun _ h9 => h9) rfl (by decide +kernel) rfl rfl (gl_at rfl (gi_all _)) dX12_pay_173 (fun H locs hT oq m254 oj hS => ?_)
                  have hF := hF.put hr_o0 skm_0 oq oj (by decide)
                  have m255 := (el_kept (oq _ (gne hg22 hr_o0 (by decide)))).trans m140
                  have m256 := (el_kept (oq _ (gne hg40 hr_o0 (by decide)))).trans m141
                  have m257 := (el_kept (oq _ (gne hg137 hr_o0 (by decide)))).trans m145
                  have m258 := (el_kept (oq _ (gne hg137 hr_o0 (by decide)))).trans m148
                  have m259 := (el_kept (oq _ (gne hg151 hr_o0 (by decide)))).trans m152
                  have m260 := (el_kept (oq _ (gne hg245 hr_o0 (by decide)))).trans m246
                  refine lv_aload_n hx hb dX12_pay_176 rfl (lv_at hl 5 rfl) ?_
                  refine tw_get hx hb hts bF_X12 hown hK hT hr_o0 shm_0 rfl 63 (by decide) (ht_at hts 14 rfl) (fun _ h9 => h9) dX12_pay_177 (fun v9 m261 h9 => ?_)
                  obtain ⟨rfl, hg262⟩ := h9 _ rfl
                  refine lv_iload_n hx hb dX12_pay_180 rfl (lv_at hl 6 rfl) ?_
                  refine lv_iconst (v := 1) hx hb dX12_pay_181 (by decide) ?_
                  refine tw_zast (i := p0) (x := 1) hx hb hK hT hG hS hg22 shm_64 rfl (vin_t (a := p0.toInt) rfl (by omega) (by omega)) (gi_z (rg_t (a := 1) (by decide) (by omega) (by omega)) (by decide) (by decide)) dX12_pay_182 (fun H locs hT oq m263 oi hS => ?_)
                  have hF := hF.ast hg22 skm_64 oq (by decide)
                  have m264 := (el_kept (oq _ (gne hg40 hg22 (by decide)))).trans m256
                  have m265 := (el_kept (oq _ (gne hg137 hg22 (by decide)))).trans m257
                  have m266 := (el_kept (oq _ (gne hg137 hg22 (by decide)))).trans m258
                  have m267 := (el_kept (oq _ (gne hg151 hg22 (by decide)))).trans m259
                  have m268 := (el_kept (oq _ (gne hg245 hg22 (by decide)))).trans m260
                  have m269 := (el_kept (oq _ (gne hr_o0 hg22 (by decide)))).trans m254
                  refine lv_iload hx hb dX12_pay_183 (lv_at hl 1 rfl) ?_
                  refine lv_bipush (v := 10) hx hb dX12_pay_185 (by decide) ?_
                  refine lv_icmp_lt (tgt := 230) hx hb dX12_pay_187 (by decide) (fun c270 => ?_) (fun c270 => ?_)
                  · have t271 : x243.toInt < 10 := ti_lt c270 rfl (by decide)
                    refine lv_iload hx hb dX12_pay_230 (lv_at hl 0 rfl) ?_
                    exact W.iret (v := x248) hx hb hr (fun t ht hW => ⟨⟨x248, (), rfl, (by exact trivial), by (try dsimp only); rw [ht]; exact ⟨hT, hF⟩⟩, hS.F ht⟩) hS.2.2 dX12_pay_232
                  · have t272 : 10 ≤ x243.toInt := ti_nlt c270 rfl (by decide)
                    refine lv_iload_n hx hb dX12_pay_190 rfl (lv_at hl 3 rfl) ?_
                    refine lv_if_eq (tgt := 230) hx hb dX12_pay_191 (by decide) (fun c273 => absurd c273 (by decide)) (fun c273 => ?_)
                    refine lv_aload_n hx hb dX12_pay_194 rfl (lv_at hl 5 rfl) ?_
                    refine lv_iload_n hx hb dX12_pay_195 rfl (lv_at hl 4 rfl) ?_
                    refine lv_iconst (v := 0) hx hb dX12_pay_196 (by decide) ?_
                    have hFc := gA_free hG hA hS
                    refine va_calli (va_runV (As := [.int x42, .int 0]) (rest := []) ⟨hx, hb, hml, hown, hts⟩ (s_of0 l dC dI kA G H q wN wH wB wC wL wK PI o0 x42 hT hr_o0 (rg_t (a := x42.toInt) rfl (by have q8 := ti_all x42; omega) (by have q8 := ti_all x42; omega)) (by omega) (by omega) (by omega) (by omega)) (cwV 2 hts (goodIn_app (goodIn_r _ [36, 37, 38, 7] (by decide +kernel) (by decide +kernel)) (goodIn_ca (goodIn_r _ [32, 25, 33, 34, 35, 7] (by decide +kernel) (by decide +kernel)) (bs_in _ _))) rfl rfl rfl (by decide +kernel) ⟨(Nat.le_of_ble_eq_true rfl), (Nat.le_of_ble_eq_true rfl)⟩) ⟨fun a U g mk q => by obtain ⟨q0, q1, qK, qE⟩ := q; exact ⟨q0, q1, va_K.moved (u := U) (U := U.calling g mk a) (Vm.Alike.refl U.vm) qK, EV.blind g mk a qE⟩, gH_recv hK hT hr_o0 shm_0 rfl, fun U hU hW => ⟨rfl, hU, va_K.moved hW.alike hK, hE.call hS hFc hU hW⟩⟩ rfl rfl hl.1 rfl (lv_room (Nat.le_of_ble_eq_true rfl)) dX12_pay_197 ⟨(Nat.le_of_ble_eq_true rfl), (Nat.le_of_ble_eq_true rfl)⟩) hS (fun q _ h => hFc q h) hFc (fun r274 u t H locs ht hvm hw275 hB _ _ hS => ?_)
                    obtain ⟨hT, hF1⟩ := hB
                    rw [ht] at hT hF1
                    have m276 := (el_kept (hF1.arr hg40 skm_57 (by decide))).trans m264
                    have m277 := (el_kept (hF1.arr hg137 skm_2 (by decide))).trans m265
                    have m278 := (el_kept (hF1.arr hg137 skm_2 (by decide))).trans m266
                    have m279 := (el_kept (hF1.arr hg151 skm_61 (by decide))).trans m267
                    have m280 := (el_kept (hF1.arr hg245 skm_59 (by decide))).trans m268
                    have m281 := (hF1.fld hr_o0 skm_0 (k := 48) (by decide) (by decide)).trans m269
                    have hF := hF.more hF1 (by decide)
                    try dsimp only at hw275
                    have ⟨ix282, hix282, m283⟩ := hw275
                    have m284 := (el_kept (hF1.arr hg137 skm_2 (by decide))).trans m283
                    refine lv_if_ne (tgt := 230) hx hb dX12_pay_200 (by decide) (fun c285 => ?_) (fun c285 => ?_)
                    · have t286 : r274.toInt ≠ 0 := ti_ne c285 rfl (by decide)
                      refine lv_iload hx hb dX12_pay_230 (lv_at hl 0 rfl) ?_
                      exact W.iret (v := x248) hx hb hr (fun t ht hW => ⟨⟨x248, (), rfl, (by exact trivial), by (try dsimp only); rw [ht]; exact ⟨hT, hF⟩⟩, hS.F ht⟩) hS.2.2 dX12_pay_232
                    · have t287 : r274.toInt = 0 := ti_eq c285 rfl (by decide)
                      refine lv_aload_n hx hb dX12_pay_203 rfl (lv_at hl 5 rfl) ?_
                      refine lv_iload_n hx hb dX12_pay_204 rfl (lv_at hl 4 rfl) ?_
                      refine lv_iconst (v := 4) hx hb dX12_pay_205 (by decide) ?_
                      have hFc := gA_free hG hA hS
                      refine va_calli (va_runV (As := [.int x42, .int 4]) (rest := []) ⟨hx, hb, hml, hown, hts⟩ (s_of4 l dC dI kA G H q wN wH wB wC wL wK PI o0 x42 hT hr_o0 (rg_t (a := x42.toInt) rfl (by have q8 := ti_all x42; omega) (by have q8 := ti_all x42; omega)) (by omega) (by omega) (by omega) (by omega)) (cwV 2 hts (goodIn_app (goodIn_r _ [36, 37, 38, 7] (by decide +kernel) (by decide +kernel)) (goodIn_ca (goodIn_r _ [32, 25, 33, 34, 35, 7] (by decide +kernel) (by decide +kernel)) (bs_in _ _))) rfl rfl rfl (by decide +kernel) ⟨(Nat.le_of_ble_eq_true rfl), (Nat.le_of_ble_eq_true rfl)⟩) ⟨fun a U g mk q => by obtain ⟨q0, q1, qK, qE⟩ := q; exact ⟨q0, q1, va_K.moved (u := U) (U := U.calling g mk a) (Vm.Alike.refl U.vm) qK, EV.blind g mk a qE⟩, gH_recv hK hT hr_o0 shm_0 rfl, fun U hU hW => ⟨rfl, hU, va_K.moved hW.alike hK, hE.call hS hFc hU hW⟩⟩ rfl rfl hl.1 rfl (lv_room (Nat.le_of_ble_eq_true rfl)) dX12_pay_206 ⟨(Nat.le_of_ble_eq_true rfl), (Nat.le_of_ble_eq_true rfl)⟩) hS (fun q _ h => hFc q h) hFc (fun r288 u t H locs ht hvm hw289 hB _ _ hS => ?_)
                      obtain ⟨hT, hF1⟩ := hB
                      rw [ht] at hT hF1
                      have m290 := (el_kept (hF1.arr hg40 skm_57 (by decide))).trans m276
                      have m291 := (el_kept (hF1.arr hg137 skm_2 (by decide))).trans m277
                      have m292 := (el_kept (hF1.arr hg137 skm_2 (by decide))).trans m278
                      have m293 := (el_kept (hF1.arr hg151 skm_61 (by decide))).trans m279
                      have m294 := (el_kept (hF1.arr hg245 skm_59 (by decide))).trans m280
                      have m295 := (hF1.fld hr_o0 skm_0 (k := 48) (by decide) (by decide)).trans m281
                      have m296 := (el_kept (hF1.arr hg137 skm_2 (by decide))).trans m284
                      have hF := hF.more hF1 (by decide)
                      try dsimp only at hw289
                      obtain ⟨h297, ⟨ix298, hix298, m299⟩⟩ := hw289
                      have m300 := (el_kept (hF1.arr hg137 skm_2 (by decide))).trans m299
                      refine lv_bipush (v := 6) hx hb dX12_pay_209 (by decide) ?_
                      refine lv_icmp_ge (tgt := 230) hx hb dX12_pay_211 (by decide) (fun c301 => ?_) (fun c301 => ?_)
                      · have t302 : 6 ≤ r288.toInt := ti_le c301 (by decide) rfl
                        refine lv_iload hx hb dX12_pay_230 (lv_at hl 0 rfl) ?_
                        exact W.iret (v := x248) hx hb hr (fun t ht hW => ⟨⟨x248, (), rfl, (by exact trivial), by (try dsimp only); rw [ht]; exact ⟨hT, hF⟩⟩, hS.F ht⟩) hS.2.2 dX12_pay_232
                      · have t303 : r288.toInt < 6 := ti_nle c301 (by decide) rfl
                        refine lv_aload_n hx hb dX12_pay_214 rfl (lv_at hl 5 rfl) ?_
                        refine lv_iload_n hx hb dX12_pay_215 rfl (lv_at hl 4 rfl) ?_
                        refine lv_iload hx hb dX12_pay_216 (lv_at hl 1 rfl) ?_
                        refine lv_bipush (v := 10) hx hb dX12_pay_218 (by decide) ?_
                        refine lv_idiv hx hb dX12_pay_220 (by decide) ?_
                        refine lv_topi (fun x304 ex304 => ?_)
                        have t305 : x304.toInt = x243.toInt / 10 := ti_div ex304 rfl (by decide) (by omega) (by omega)
                        refine lv_aload_n hx hb dX12_pay_221 rfl (lv_at hl 5 rfl) ?_
                        refine tw_get hx hb hts bF_X12 hown hK hT hr_o0 shm_0 rfl 57 (by decide) (ht_at hts 41 rfl) (fun _ h9 => h9) dX12_pay_222 (fun v9 m306 h9 => ?_)
                        obtain ⟨rfl, hg307⟩ := h9 _ rfl
                        refine lv_iload_n hx hb dX12_pay_225 rfl (lv_at hl 6 rfl) ?_
                        refine tw_iald (i := p0) hx hb hK hT hg307 shm_58 rfl (vin_t (a := p0.toInt) rfl (by omega) (by omega)) dX12_pay_226 (fun v9 m308 h9 => ?_)
                        obtain ⟨x309, rfl, gx309, kx309⟩ := h9
                        have hFc := gA_free hG hA hS
                        refine va_callv (va_runV (As := [.int x42, .int x304, .int x309]) (rest := []) ⟨hx, hb, hml, hown, hts⟩ (s_lays l dC dI kA G H q wN wH wB wC wL wK PI o0 x42 x304 x309 r288 ix298 hT hr_o0 (rg_t (a := x42.toInt) rfl (by have q8 := ti_all x42; omega) (by have q8 := ti_all x42; omega)) (rg_t (a := x309.toInt) rfl (by have q8 := ti_all x309; omega) (by have q8 := ti_all x309; omega)) (by have q9 := (show ix298.toInt = ix298.toInt from rfl); omega) m300 (rg_t (a := r288.toInt) rfl (by have q8 := ti_all r288; omega) (by have q8 := ti_all r288; omega)) (by omega) (by omega) (by omega) (by omega)) (cwV 3 hts (goodIn_app (goodIn_r _ [45, 46, 47, 7] (by decide +kernel) (by decide +kernel)) (goodIn_ca (goodIn_r _ [43, 32, 25, 33, 34, 35, 7, 36, 37, 38, 44] (by decide +kernel) (by decide +kernel)) (bs_in _ _))) rfl rfl rfl (by decide +kernel) ⟨(Nat.le_of_ble_eq_true rfl), (Nat.le_of_ble_eq_true rfl)⟩) ⟨fun a U g mk q => by obtain ⟨q0, q1, qK, qE⟩ := q; exact ⟨q0, q1, va_K.moved (u := U) (U := U.calling g mk a) (Vm.Alike.refl U.vm) qK, EV.blind g mk a qE⟩, gH_recv hK hT hr_o0 shm_0 rfl, fun U hU hW => ⟨rfl, hU, va_K.moved hW.alike hK, hE.call hS hFc hU hW⟩⟩ rfl rfl hl.1 rfl (lv_room (Nat.le_of_ble_eq_true rfl)) dX12_pay_227 ⟨(Nat.le_of_ble_eq_true rfl), (Nat.le_of_ble_eq_true rfl)⟩) hS (fun q _ h => hFc q h) hFc (fun u t H locs ht hvm hw311 hB _ _ hS => ?_)
                        obtain ⟨hT, hF1⟩ := hB
                        rw [ht] at hT hF1
                        have m312 := (el_kept (hF1.arr hg40 skm_57 (by decide))).trans m290
                        have m315 := (el_kept (hF1.arr hg151 skm_61 (by decide))).trans m293
                        have m316 := (el_kept (hF1.arr hg245 skm_59 (by decide))).trans m294
                        have m317 := (hF1.fld hr_o0 skm_0 (k := 48) (by decide) (by decide)).trans m295
                        have m320 := (el_kept (hF1.arr hg307 skm_58 (by decide))).trans m308
                        have hF := hF.more hF1 (by decide)
                        try dsimp only at hw311
                        refine lv_iload hx hb dX12_pay_230 (lv_at hl 0 rfl) ?_
                        exact W.iret (v := x248) hx hb hr (fun t ht hW => ⟨⟨x248, (), rfl, (by exact trivial), by (try dsimp only); rw [ht]; exact ⟨hT, hF⟩⟩, hS.F ht⟩) hS.2.2 dX12_pay_232
                · have t321 : x250.toInt < x248.toInt := ti_nle c251 rfl rfl
                  refine lv_iconst (v := (-1)) hx hb dX12_pay_163 (by decide) ?_
                  exact W.iret (v := (-1)) hx hb hr (fun t ht hW => ⟨⟨(-1), (), rfl, (by exact trivial), by (try dsimp only); rw [ht]; exact ⟨hT, hF⟩⟩, hS.F ht⟩) hS.2.2 dX12_pay_164
            · have t322 : x149.toInt = 1 := ti_eq c154 rfl (by decide)
              refine lv_iload hx hb dX12_pay_118 (lv_at hl 0 rfl) ?_
              refine lv_bipush (v := 10) hx hb dX12_pay_120 (by decide) ?_
              have t323 : -2147483648 ≤ x153.toInt ∧ x153.toInt ≤ 2147483647 := ti_all x153
              refine lv_idiv hx hb dX12_pay_122 (by decide) ?_
              refine lv_topi (fun x324 ex324 => ?_)
              have t325 : (0 ≤ x153.toInt ∧ x324.toInt = x153.toInt / 10) ∨ (x153.toInt < 0 ∧ x324.toInt = -((-x153.toInt) / 10)) := ti_divs ex324 rfl (by decide) (by decide)
              refine lv_goto (tgt := 140) hx hb dX12_pay_123 (by decide) ?_
              refine lv_isub hx hb dX12_pay_140 ?_
              refine lv_topi (fun x326 ex326 => ?_)
              refine lv_istore (lv' := [(5, .int x326), (4, .int x149), (3, .int 1), (2, .int x42), (0, .ref o0), (1, .int p0)]) hx hb dX12_pay_141 hl (by decide) rfl (fun ls hl => ?_)
              refine lv_iload hx hb dX12_pay_143 (lv_at hl 0 rfl) ?_
              refine lv_aload_n hx hb dX12_pay_145 rfl (lv_at hl 4 rfl) ?_
              refine tw_get hx hb hts bF_X12 hown hK hT hr_o0 shm_0 rfl 58 (by decide) (ht_at hts 28 rfl) (fun _ h9 => h9) dX12_pay_146 (fun v9 m327 h9 => ?_)
              obtain ⟨rfl, hg328⟩ := h9 _ rfl
              refine lv_iload_n hx hb dX12_pay_149 rfl (lv_at hl 5 rfl) ?_
              refine tw_iald (i := p0) hx hb hK hT hg328 shm_59 rfl (vin_t (a := p0.toInt) rfl (by omega) (by omega)) dX12_pay_150 (fun v9 m329 h9 => ?_)
              obtain ⟨x330, rfl, gx330, kx330⟩ := h9
              refine lv_imul hx hb dX12_pay_151 ?_
              refine lv_topi (fun x331 ex331 => ?_)
              refine lv_istore (lv' := [(6, .int x331), (5, .int x326), (4, .int x149), (3, .int 1), (2, .int x42), (0, .ref o0), (1, .int p0)]) hx hb dX12_pay_152 hl (by decide) rfl (fun ls hl => ?_)
              refine lv_iload hx hb dX12_pay_154 (lv_at hl 0 rfl) ?_
              refine lv_aload_n hx hb dX12_pay_156 rfl (lv_at hl 5 rfl) ?_
              refine tw_get hx hb hts bF_X12 hown hK hT hr_o0 shm_0 rfl 48 (by decide) (ht_at hts 29 rfl) (fun _ h9 => h9) dX12_pay_157 (fun v9 m332 h9 => ?_)
              obtain ⟨x333, rfl, gx333, kx333⟩ := h9 _ rfl
              refine lv_icmp_le (tgt := 165) hx hb dX12_pay_160 (by decide) (fun c334 => ?_) (fun c334 => ?_)
              · have t335 : x331.toInt ≤ x333.toInt := ti_le c334 rfl rfl
                refine lv_aload_n hx hb dX12_pay_165 rfl (lv_at hl 5 rfl) ?_
                refine lv_dup hx hb dX12_pay_166 rfl ?_
                refine tw_getM (v := .int x333) hx hb hts bF_X12 hown hK hT hr_o0 shm_0 rfl 48 (by decide) (ht_at hts 29 rfl) (fun _ h9 => h9) m332 dX12_pay_167 ?_
                refine lv_iload hx hb dX12_pay_170 (lv_at hl 0 rfl) ?_
                refine lv_isub hx hb dX12_pay_172 ?_
                refine lv_topi (fun x336 ex336 => ?_)
                refine tw_put (v := .int x336) (ty := .int) hx hb hts bF_X12 tyX12 tyX12_ok nmX12 hown hK hT hG hS hr_o0 shm_0 rfl 48 (by decide) (ht_at hts 29 rfl) (fun _ h9 => h9) rfl (by decide +kernel) rfl rfl (gl_at rfl (gi_all _)) dX12_pay_173 (fun H locs hT oq m337 oj hS => ?_)
                have hF := hF.put hr_o0 skm_0 oq oj (by decide)
                have m338 := (el_kept (oq _ (gne hg22 hr_o0 (by decide)))).trans m140
                have m339 := (el_kept (oq _ (gne hg40 hr_o0 (by decide)))).trans m141
                have m340 := (el_kept (oq _ (gne hg137 hr_o0 (by decide)))).trans m145
                have m341 := (el_kept (oq _ (gne hg137 hr_o0 (by decide)))).trans m148
                have m342 := (el_kept (oq _ (gne hg151 hr_o0 (by decide)))).trans m152
                have m343 := (el_kept (oq _ (gne hg328 hr_o0 (by decide)))).trans m329
                refine lv_aload_n hx hb dX12_pay_176 rfl (lv_at hl 5 rfl) ?_
                refine tw_get hx hb hts bF_X12 hown hK hT hr_o0 shm_0 rfl 63 (by decide) (ht_at hts 14 rfl) (fun _ h9 => h9) dX12_pay_177 (fun v9 m344 h9 => ?_)
                obtain ⟨rfl, hg345⟩ := h9 _ rfl
                refine lv_iload_n hx hb dX12_pay_180 rfl (lv_at hl 6 rfl) ?_
                refine lv_iconst (v := 1) hx hb dX12_pay_181 (by decide) ?_
                refine tw_zast (i := p0) (x := 1) hx hb hK hT hG hS hg22 shm_64 rfl (vin_t (a := p0.toInt) rfl (by omega) (by omega)) (gi_z (rg_t (a := 1) (by decide) (by omega) (by omega)) (by decide) (by decide)) dX12_pay_182 (fun H locs hT oq m346 oi hS => ?_)
                have hF := hF.ast hg22 skm_64 oq (by decide)
                have m347 := (el_kept (oq _ (gne hg40 hg22 (by decide)))).trans m339
                have m348 := (el_kept (oq _ (gne hg137 hg22 (by decide)))).trans m340
                have m349 := (el_kept (oq _ (gne hg137 hg22 (by decide)))).trans m341
                have m350 := (el_kept (oq _ (gne hg151 hg22 (by decide)))).trans m342
                have m351 := (el_kept (oq _ (gne hg328 hg22 (by decide)))).trans m343
                have m352 := (el_kept (oq _ (gne hr_o0 hg22 (by decide)))).trans m337
                refine lv_iload hx hb dX12_pay_183 (lv_at hl 1 rfl) ?_
                refine lv_bipush (v := 10) hx hb dX12_pay_185 (by decide) ?_
                refine lv_icmp_lt (tgt := 230) hx hb dX12_pay_187 (by decide) (fun c353 => ?_) (fun c353 => ?_)
                · have t354 : x326.toInt < 10 := ti_lt c353 rfl (by decide)
                  refine lv_iload hx hb dX12_pay_230 (lv_at hl 0 rfl) ?_
                  exact W.iret (v := x331) hx hb hr (fun t ht hW => ⟨⟨x331, (), rfl, (by exact trivial), by (try dsimp only); rw [ht]; exact ⟨hT, hF⟩⟩, hS.F ht⟩) hS.2.2 dX12_pay_232
                · have t355 : 10 ≤ x326.toInt := ti_nlt c353 rfl (by decide)
                  refine lv_iload_n hx hb dX12_pay_190 rfl (lv_at hl 3 rfl) ?_
                  refine lv_if_eq (tgt := 230) hx hb dX12_pay_191 (by decide) (fun c356 => absurd c356 (by decide)) (fun c356 => ?_)
                  refine lv_aload_n hx hb dX12_pay_194 rfl (lv_at hl 5 rfl) ?_
                  refine lv_iload_n hx hb dX12_pay_195 rfl (lv_at hl 4 rfl) ?_
                  refine lv_iconst (v := 0) hx hb dX12_pay_196 (by decide) ?_
                  have hFc := gA_free hG hA hS
                  refine va_calli (va_runV (As := [.int x42, .int 0]) (rest := []) ⟨hx, hb, hml, hown, hts⟩ (s_of0 l dC dI kA G H q wN wH wB wC wL wK PI o0 x42 hT hr_o0 (rg_t (a := x42.toInt) rfl (by have q8 := ti_all x42; omega) (by have q8 := ti_all x42; omega)) (by omega) (by omega) (by omega) (by omega)) (cwV 2 hts (goodIn_app (goodIn_r _ [36, 37, 38, 7] (by decide +kernel) (by decide +kernel)) (goodIn_ca (goodIn_r _ [32, 25, 33, 34, 35, 7] (by decide +kernel) (by decide +kernel)) (bs_in _ _))) rfl rfl rfl (by decide +kernel) ⟨(Nat.le_of_ble_eq_true rfl), (Nat.le_of_ble_eq_true rfl)⟩) ⟨fun a U g mk q => by obtain ⟨q0, q1, qK, qE⟩ := q; exact ⟨q0, q1, va_K.moved (u := U) (U := U.calling g mk a) (Vm.Alike.refl U.vm) qK, EV.blind g mk a qE⟩, gH_recv hK hT hr_o0 shm_0 rfl, fun U hU hW => ⟨rfl, hU, va_K.moved hW.alike hK, hE.call hS hFc hU hW⟩⟩ rfl rfl hl.1 rfl (lv_room (Nat.le_of_ble_eq_true rfl)) dX12_pay_197 ⟨(Nat.le_of_ble_eq_true rfl), (Nat.le_of_ble_eq_true rfl)⟩) hS (fun q _ h => hFc q h) hFc (fun r357 u t H locs ht hvm hw358 hB _ _ hS => ?_)
                  obtain ⟨hT, hF1⟩ := hB
                  rw [ht] at hT hF1
                  have m359 := (el_kept (hF1.arr hg40 skm_57 (by decide))).trans m347
                  have m360 := (el_kept (hF1.arr hg137 skm_2 (by decide))).trans m348
                  have m361 := (el_kept (hF1.arr hg137 skm_2 (by decide))).trans m349
                  have m362 := (el_kept (hF1.arr hg151 skm_61 (by decide))).trans m350
                  have m363 := (el_kept (hF1.arr hg328 skm_59 (by decide))).trans m351
                  have m364 := (hF1.fld hr_o0 skm_0 (k := 48) (by decide) (by decide)).trans m352
                  have hF := hF.more hF1 (by decide)
                  try dsimp only at hw358
                  have ⟨ix365, hix365, m366⟩ := hw358
                  have m367 := (el_kept (hF1.arr hg137 skm_2 (by decide))).trans m366
                  refine lv_if_ne (tgt := 230) hx hb dX12_pay_200 (by decide) (fun c368 => ?_) (fun c368 => ?_)
                  · have t369 : r357.toInt ≠ 0 := ti_ne c368 rfl (by decide)
                    refine lv_iload hx hb dX12_pay_230 (lv_at hl 0 rfl) ?_
                    exact W.iret (v := x331) hx hb hr (fun t ht hW => ⟨⟨x331, (), rfl, (by exact trivial), by (try dsimp only); rw [ht]; exact ⟨hT, hF⟩⟩, hS.F ht⟩) hS.2.2 dX12_pay_232
                  · have t370 : r357.toInt = 0 := ti_eq c368 rfl (by decide)
                    refine lv_aload_n hx hb dX12_pay_203 rfl (lv_at hl 5 rfl) ?_
                    refine lv_iload_n hx hb dX12_pay_204 rfl (lv_at hl 4 rfl) ?_
                    refine lv_iconst (v := 4) hx hb dX12_pay_205 (by decide) ?_
                    have hFc := gA_free hG hA hS
                    refine va_calli (va_runV (As := [.int x42, .int 4]) (rest := []) ⟨hx, hb, hml, hown, hts⟩ (s_of4 l dC dI kA G H q wN wH wB wC wL wK PI o0 x42 hT hr_o0 (rg_t (a := x42.toInt) rfl (by have q8 := ti_all x42; omega) (by have q8 := ti_all x42; omega)) (by omega) (by omega) (by omega) (by omega)) (cwV 2 hts (goodIn_app (goodIn_r _ [36, 37, 38, 7] (by decide +kernel) (by decide +kernel)) (goodIn_ca (goodIn_r _ [32, 25, 33, 34, 35, 7] (by decide +kernel) (by decide +kernel)) (bs_in _ _))) rfl rfl rfl (by decide +kernel) ⟨(Nat.le_of_ble_eq_true rfl), (Nat.le_of_ble_eq_true rfl)⟩) ⟨fun a U g mk q => by obtain ⟨q0, q1, qK, qE⟩ := q; exact ⟨q0, q1, va_K.moved (u := U) (U := U.calling g mk a) (Vm.Alike.refl U.vm) qK, EV.blind g mk a qE⟩, gH_recv hK hT hr_o0 shm_0 rfl, fun U hU hW => ⟨rfl, hU, va_K.moved hW.alike hK, hE.call hS hFc hU hW⟩⟩ rfl rfl hl.1 rfl (lv_room (Nat.le_of_ble_eq_true rfl)) dX12_pay_206 ⟨(Nat.le_of_ble_eq_true rfl), (Nat.le_of_ble_eq_true rfl)⟩) hS (fun q _ h => hFc q h) hFc (fun r371 u t H locs ht hvm hw372 hB _ _ hS => ?_)
                    obtain ⟨hT, hF1⟩ := hB
                    rw [ht] at hT hF1
                    have m373 := (el_kept (hF1.arr hg40 skm_57 (by decide))).trans m359
                    have m374 := (el_kept (hF1.arr hg137 skm_2 (by decide))).trans m360
                    have m375 := (el_kept (hF1.arr hg137 skm_2 (by decide))).trans m361
                    have m376 := (el_kept (hF1.arr hg151 skm_61 (by decide))).trans m362
                    have m377 := (el_kept (hF1.arr hg328 skm_59 (by decide))).trans m363
                    have m378 := (hF1.fld hr_o0 skm_0 (k := 48) (by decide) (by decide)).trans m364
                    have m379 := (el_kept (hF1.arr hg137 skm_2 (by decide))).trans m367
                    have hF := hF.more hF1 (by decide)
                    try dsimp only at hw372
                    obtain ⟨h380, ⟨ix381, hix381, m382⟩⟩ := hw372
                    have m383 := (el_kept (hF1.arr hg137 skm_2 (by decide))).trans m382
                    refine lv_bipush (v := 6) hx hb dX12_pay_209 (by decide) ?_
                    refine lv_icmp_ge (tgt := 230) hx hb dX12_pay_211 (by decide) (fun c384 => ?_) (fun c384 => ?_)
                    · have t385 : 6 ≤ r371.toInt := ti_le c384 (by decide) rfl
                      refine lv_iload hx hb dX12_pay_230 (lv_at hl 0 rfl) ?_
                      exact W.iret (v := x331) hx hb hr (fun t ht hW => ⟨⟨x331, (), rfl, (by exact trivial), by (try dsimp only); rw [ht]; exact ⟨hT, hF⟩⟩, hS.F ht⟩) hS.2.2 dX12_pay_232
                    · have t386 : r371.toInt < 6 := ti_nle c384 (by decide) rfl
                      refine lv_aload_n hx hb dX12_pay_214 rfl (lv_at hl 5 rfl) ?_
                      refine lv_iload_n hx hb dX12_pay_215 rfl (lv_at hl 4 rfl) ?_
                      refine lv_iload hx hb dX12_pay_216 (lv_at hl 1 rfl) ?_
                      refine lv_bipush (v := 10) hx hb dX12_pay_218 (by decide) ?_
                      refine lv_idiv hx hb dX12_pay_220 (by decide) ?_
                      refine lv_topi (fun x387 ex387 => ?_)
                      have t388 : x387.toInt = x326.toInt / 10 := ti_div ex387 rfl (by decide) (by omega) (by omega)
                      refine lv_aload_n hx hb dX12_pay_221 rfl (lv_at hl 5 rfl) ?_
                      refine tw_get hx hb hts bF_X12 hown hK hT hr_o0 shm_0 rfl 57 (by decide) (ht_at hts 41 rfl) (fun _ h9 => h9) dX12_pay_222 (fun v9 m389 h9 => ?_)
                      obtain ⟨rfl, hg390⟩ := h9 _ rfl
                      refine lv_iload_n hx hb dX12_pay_225 rfl (lv_at hl 6 rfl) ?_
                      refine tw_iald (i := p0) hx hb hK hT hg390 shm_58 rfl (vin_t (a := p0.toInt) rfl (by omega) (by omega)) dX12_pay_226 (fun v9 m391 h9 => ?_)
                      obtain ⟨x392, rfl, gx392, kx392⟩ := h9
                      have hFc := gA_free hG hA hS
                      refine va_callv (va_runV (As := [.int x42, .int x387, .int x392]) (rest := []) ⟨hx, hb, hml, hown, hts⟩ (s_lays l dC dI kA G H q wN wH wB wC wL wK PI o0 x42 x387 x392 r371 ix381 hT hr_o0 (rg_t (a := x42.toInt) rfl (by have q8 := ti_all x42; omega) (by have q8 := ti_all x42; omega)) (rg_t (a := x392.toInt) rfl (by have q8 := ti_all x392; omega) (by have q8 := ti_all x392; omega)) (by have q9 := (show ix381.toInt = ix381.toInt from rfl); omega) m383 (rg_t (a := r371.toInt) rfl (by have q8 := ti_all r371; omega) (by have q8 := ti_all r371; omega)) (by omega) (by omega) (by omega) (by omega)) (cwV 3 hts (goodIn_app (goodIn_r _ [45, 46, 47, 7] (by decide +kernel) (by decide +kernel)) (goodIn_ca (goodIn_r _ [43, 32, 25, 33, 34, 35, 7, 36, 37, 38, 44] (by decide +kernel) (by decide +kernel)) (bs_in _ _))) rfl rfl rfl (by decide +kernel) ⟨(Nat.le_of_ble_eq_true rfl), (Nat.le_of_ble_eq_true rfl)⟩) ⟨fun a U g mk q => by obtain ⟨q0, q1, qK, qE⟩ := q; exact ⟨q0, q1, va_K.moved (u := U) (U := U.calling g mk a) (Vm.Alike.refl U.vm) qK, EV.blind g mk a qE⟩, gH_recv hK hT hr_o0 shm_0 rfl, fun U hU hW => ⟨rfl, hU, va_K.moved hW.alike hK, hE.call hS hFc hU hW⟩⟩ rfl rfl hl.1 rfl (lv_room (Nat.le_of_ble_eq_true rfl)) dX12_pay_227 ⟨(Nat.le_of_ble_eq_true rfl), (Nat.le_of_ble_eq_true rfl)⟩) hS (fun q _ h => hFc q h) hFc (fun u t H locs ht hvm hw394 hB _ _ hS => ?_)
                      obtain ⟨hT, hF1⟩ := hB
                      rw [ht] at hT hF1
                      have m395 := (el_kept (hF1.arr hg40 skm_57 (by decide))).trans m373
                      have m398 := (el_kept (hF1.arr hg151 skm_61 (by decide))).trans m376
                      have m399 := (el_kept (hF1.arr hg328 skm_59 (by decide))).trans m377
                      have m400 := (hF1.fld hr_o0 skm_0 (k := 48) (by decide) (by decide)).trans m378
                      have m403 := (el_kept (hF1.arr hg390 skm_58 (by decide))).trans m391
                      have hF := hF.more hF1 (by decide)
                      try dsimp only at hw394
                      refine lv_iload hx hb dX12_pay_230 (lv_at hl 0 rfl) ?_
                      exact W.iret (v := x331) hx hb hr (fun t ht hW => ⟨⟨x331, (), rfl, (by exact trivial), by (try dsimp only); rw [ht]; exact ⟨hT, hF⟩⟩, hS.F ht⟩) hS.2.2 dX12_pay_232
              · have t404 : x333.toInt < x331.toInt := ti_nle c334 rfl rfl
                refine lv_iconst (v := (-1)) hx hb dX12_pay_163 (by decide) ?_
                exact W.iret (v := (-1)) hx hb hr (fun t ht hW => ⟨⟨(-1), (), rfl, (by exact trivial), by (try dsimp only); rw [ht]; exact ⟨hT, hF⟩⟩, hS.F ht⟩) hS.2.2 dX12_pay_164
      · have t405 : r33.toInt = 0 := ti_eq c37 rfl (by decide)
        refine lv_aload_n hx hb dX12_pay_35 rfl (lv_at hl 0 rfl) ?_
        refine tw_get hx hb hts bF_X12 hown hK hT hr_o0 shm_0 rfl 0 (by decide) (ht_at hts 0 rfl) (fun _ h9 => h9) dX12_pay_36 (fun v9 m406 h9 => ?_)
        obtain ⟨x407, rfl, gx407, kx407⟩ := h9 _ rfl
        refine lv_if_eq (tgt := 46) hx hb dX12_pay_39 (by decide) (fun c408 => ?_) (fun c408 => ?_)
        · have t409 : x407.toInt = 0 := ti_eq c408 rfl (by decide)
          refine lv_iconst (v := (-1)) hx hb dX12_pay_46 (by decide) ?_
          exact W.iret (v := (-1)) hx hb hr (fun t ht hW => ⟨⟨(-1), (), rfl, (by exact trivial), by (try dsimp only); rw [ht]; exact ⟨hT, hF⟩⟩, hS.F ht⟩) hS.2.2 dX12_pay_47
        · have t410 : x407.toInt ≠ 0 := ti_ne c408 rfl (by decide)
          refine lv_iconst (v := 0) hx hb dX12_pay_42 (by decide) ?_
          refine lv_goto (tgt := 47) hx hb dX12_pay_43 (by decide) ?_
          exact W.iret (v := 0) hx hb hr (fun t ht hW => ⟨⟨0, (), rfl, (by exact trivial), by (try dsimp only); rw [ht]; exact ⟨hT, hF⟩⟩, hS.F ht⟩) hS.2.2 dX12_pay_47
def w_s_square : List Cond := .code yX12_square cX12_square 3 (some .int) :: ([.fieldLink RX12 194 "SeaLandModel" "thrown" "I", .code yX12_noSquare cX12_noSquare 1 (some .boolean), .code yX12_in cX12_in 3 (some .boolean), .methodLink RX12 197 yX12_in, .static yX12_in, .initialized RX12, .methodLink RX12 220 yX12_noSquare, .static yX12_noSquare, .code yX12_throwsIf cX12_throwsIf 3 (some .boolean), .methodLink RX12 224 yX12_throwsIf, .instanceMethod yX12_throwsIf, .selects RX12 yX12_throwsIf yX12_throwsIf, .fieldLink RX12 9 "SeaLandModel" "world" "[I", .code yX12_level cX12_level 2 (some .int), .code yX12_isLand cX12_isLand 2 (some .boolean), .methodLink RX12 235 yX12_isLand, .instanceMethod yX12_isLand, .selects RX12 yX12_isLand yX12_isLand, .code yX12_hour cX12_hour 1 (some .int), .methodLink RX12 228 yX12_hour, .instanceMethod yX12_hour, .selects RX12 yX12_hour yX12_hour, .code yX12_outside cX12_outside 4 (some .int), .methodLink RX12 247 yX12_outside, .instanceMethod yX12_outside, .selects RX12 yX12_outside yX12_outside, .methodLink RX12 285 yX12_level, .instanceMethod yX12_level, .selects RX12 yX12_level yX12_level, .code yX12_farmOf cX12_farmOf 3 (some .int), .fieldLink RX12 498 "SeaLandModel" "farms" "I", .fieldLink RX12 113 "SeaLandModel" "farmFrom" "[I", .fieldLink RX12 116 "SeaLandModel" "farmTo" "[I", .code yX12_isIn cX12_isIn 5 (some .boolean), .methodLink RX12 207 Lib.Math.min.name, .static Lib.Math.min.name, .initialized "java/lang/Math", .code Lib.Math.min.name Lib.Math.min.code 2 (some .int), .methodLink RX12 211 Lib.Math.max.name, .static Lib.Math.max.name, .code Lib.Math.max.name Lib.Math.max.code 2 (some .int), .methodLink RX12 232 yX12_isIn, .static yX12_isIn, .methodLink RX12 329 yX12_farmOf, .instanceMethod yX12_farmOf, .selects RX12 yX12_farmOf yX12_farmOf, .code yX12_workOn cX12_workOn 3 (some .int), .code yX12_of cX12_of 3 (some .int), .code yX12_at cX12_at 2 (some .int), .methodLink RX12 214 yX12_at, .static yX12_at, .methodLink RX12 217 yX12_of, .instanceMethod yX12_of, .selects RX12 yX12_of yX12_of, .methodLink RX12 256 yX12_workOn, .instanceMethod yX12_workOn, .selects RX12 yX12_workOn yX12_workOn] ++ bs)
set_option maxHeartbeats 4000000 in
set_option maxRecDepth 100000 in
theorem s_square (l : Launch) (dC : Nat → ClassId) (dI : Nat → Nat → Nat) (kA : Nat → ClassId) (G : gT) (H0 : Heap) (q : Nat → Nat) (wN wH wB wC : Int) (wL wK : Nat → Prop) (PI : Nat → Int → Prop) (o0 : Nat) (p0 : Int32) (p1 : Int32) (hT : gH (dC, dI) kA (SHm q (wP wN wH wB wC wC wL wK) PI) G H0) (hr_o0 : G o0 = some 0) (hgn : 6500000 ≤ wN ∧ wN ≤ 400000000) (hgh : 0 ≤ wH ∧ wH ≤ 40000) (hgb : 0 ≤ wB ∧ wB ≤ 3850000) (hgc : 0 ≤ wC ∧ wC ≤ 30) : Met l yX12_square w_s_square ({ frames := 3, cells := 0, slots := 0, locals := 86 }) (va_Pc [.ref o0, .int p0, .int p1] (fun U => U.heap = H0 ∧ va_K (dC, dI) vwCl (tyl kA) U ∧ EV (gA G H0.size) U U.heap)) (va_Qi (fun (r : Int32) (u : Unit) => True) (fun (_ : Unit) (t : State) => gH (dC, dI) kA (SHm q (wP wN wH wB wC wC wL wK) PI) G t.heap ∧ gF (dC, dI) SKm G ([(0, 0)] : List (Nat × Nat)) H0 t.heap) (gA G H0.size)) 0 0 (gA G H0.size) := by
  refine Met.ofW (cc := cX12_square) (maxL := 3) (ret := (some .int)) (by decide) rfl ?_
  intro p e s m args below meth c s₁ B hml hv
  obtain ⟨rfl, hH0, hK, hE⟩ := hv
  have hx := B.exec
  have hb := B.bytes
  have hr := B.returns
  have hts := atoms_spec (ws := w_s_square) B.pre
  have hown : s.vm.findClass RX12 = some m.cls := findClass_of_methodNamed B.named
  have hlocks := B.notSynchronized
  subst hH0
  generalize hAe : gA G s.heap.size = A at hE ⊢
  have hA : ∀ q : Nat, s.heap.size ≤ q → A q := fun q h => by rw [← hAe]; exact Or.inr h
  have hG := gA_of hAe
  have hS : va_S A s.heap s.heap [] := va_S.rf
  have hF : gF (dC, dI) SKm G ([(0, 0)] : List (Nat × Nat)) s.heap s.heap := gF.rf
  have hl := lv_entry ([.ref o0, .int p0, .int p1]) (n := 3) (Nat.le_of_ble_eq_true rfl)
  rw [lg_entry_eq]
  generalize (lg_sl ([.ref o0, .int p0, .int p1]) ++ List.replicate (3 - (lg_sl ([.ref o0, .int p0, .int p1])).length) Slot.unset).toArray = ls at hl ⊢
  have hl : lv_has ls 3 [(0, .ref o0), (1, .int p0), (2, .int p1)] := hl
  refine lv_aload_n hx hb dX12_square_0 rfl (lv_at hl 0 rfl) ?_
  refine lv_iconst (v := 0) hx hb dX12_square_1 (by decide) ?_
  refine tw_put (v := .int 0) (ty := .int) hx hb hts bF_X12 tyX12 tyX12_ok nmX12 hown hK hT hG hS hr_o0 shm_0 rfl 0 (by decide) (ht_at hts 0 rfl) (fun _ h9 => h9) rfl (by decide +kernel) rfl rfl (gl_at rfl (gi_all _)) dX12_square_2 (fun H locs hT oq m1 oj hS => ?_)
  have hF := hF.put hr_o0 skm_0 oq oj (by decide)
  refine lv_aload_n hx hb dX12_square_5 rfl (lv_at hl 0 rfl) ?_
  refine lv_iload_n hx hb dX12_square_6 rfl (lv_at hl 1 rfl) ?_
  have hFc := gA_free hG hA hS
  refine va_calli (va_runS (As := [.int p0]) (rest := [.ref o0]) ⟨hx, hb, hml, hown, hts⟩ (s_noSquare l dC dI kA G H q wN wH wB wC wL wK PI p0 hT (by omega) (by omega) (by omega) (by omega)) (va_cwS 1 hts (goodIn_app (goodIn_r _ [7, 8, 6] (by decide +kernel) (by decide +kernel)) (goodIn_ca (goodIn_r _ [2, 3, 4, 5, 6] (by decide +kernel) (by decide +kernel)) (bs_in _ _))) rfl rfl rfl (by decide +kernel) ⟨(Nat.le_of_ble_eq_true rfl), (Nat.le_of_ble_eq_true rfl)⟩) ⟨fun a U g mk q => by obtain ⟨q0, q1, qK, qE⟩ := q; exact ⟨q0, q1, va_K.moved (u := U) (U := U.calling g mk a) (Vm.Alike.refl U.vm) qK, EV.blind g mk a qE⟩, fun U hU hW => ⟨rfl, hU, va_K.moved hW.alike hK, hE.call hS hFc hU hW⟩⟩ rfl rfl hl.1 rfl (lv_room (Nat.le_of_ble_eq_true rfl)) dX12_square_7 ⟨(Nat.le_of_ble_eq_true rfl), (Nat.le_of_ble_eq_true rfl)⟩) hS (fun q _ h => hFc q h) hFc (fun r2 u t H locs ht hvm hw3 hB _ _ hS => ?_)
  obtain ⟨hT, hF1⟩ := hB
  rw [ht] at hT hF1
  have m4 := (hF1.fld hr_o0 skm_0 (k := 0) (by decide) (by decide)).trans m1
  have hF := hF.more hF1 (by decide)
  try dsimp only at hw3
  obtain ⟨h5, hi6⟩ := hw3
  refine lv_iconst (v := 1) hx hb dX12_square_10 (by decide) ?_
  have hFc := gA_free hG hA hS
  refine va_calli (va_runV (As := [.int r2, .int 1]) (rest := []) ⟨hx, hb, hml, hown, hts⟩ (s_throwsIf l dC dI kA G H q wN wH wB wC wL wK PI o0 r2 1 hT hr_o0 (rg_t (a := r2.toInt) rfl (by have q8 := ti_all r2; omega) (by have q8 := ti_all r2; omega)) (by omega) (by omega) (by omega) (by omega)) (cwV 2 hts (goodIn_app (goodIn_r _ [10, 11, 12, 6] (by decide +kernel) (by decide +kernel)) (goodIn_ca (goodIn_r _ [9, 1] (by decide +kernel) (by decide +kernel)) (bs_in _ _))) rfl rfl rfl (by decide +kernel) ⟨(Nat.le_of_ble_eq_true rfl), (Nat.le_of_ble_eq_true rfl)⟩) ⟨fun a U g mk q => by obtain ⟨q0, q1, qK, qE⟩ := q; exact ⟨q0, q1, va_K.moved (u := U) (U := U.calling g mk a) (Vm.Alike.refl U.vm) qK, EV.blind g mk a qE⟩, gH_recv hK hT hr_o0 shm_0 rfl, fun U hU hW => ⟨rfl, hU, va_K.moved hW.alike hK, hE.call hS hFc hU hW⟩⟩ rfl rfl hl.1 rfl (lv_room (Nat.le_of_ble_eq_true rfl)) dX12_square_11 ⟨(Nat.le_of_ble_eq_true rfl), (Nat.le_of_ble_eq_true rfl)⟩) hS (fun q _ h => hFc q h) hFc (fun r7 u t H locs ht hvm hw8 hB _ _ hS => ?_)
  obtain ⟨hT, hF1⟩ := hB
  rw [ht] at hT hF1
  have hF := hF.more hF1 (by decide)
  try dsimp only at hw8
  obtain ⟨h10, hd11⟩ := hw8
  obtain rfl : r2 = r7 := hd11.symm
  refine lv_if_eq (tgt := 19) hx hb dX12_square_14 (by decide) (fun c12 => ?_) (fun c12 => ?_)
  · have t13 : r2.toInt = 0 := ti_eq c12 rfl (by decide)
    have t14 : 0 ≤ p0.toInt ∧ p0.toInt ≤ 95 := hi6 c12
    refine lv_iload_n hx hb dX12_square_19 rfl (lv_at hl 2 rfl) ?_
    by_cases hs15 : p1 = 0
    · subst hs15
      refine lv_tableIn (x := 0) (off := 60) (tgt := 80) hx hb dX12_square_20 (by decide) (by decide) (by decide) (by decide) ?_
      refine lv_aload_n hx hb dX12_square_80 rfl (lv_at hl 0 rfl) ?_
      refine tw_get hx hb hts bF_X12 hown hK hT hr_o0 shm_0 rfl 1 (by decide) (ht_at hts 12 rfl) (fun _ h9 => h9) dX12_square_81 (fun v9 m16 h9 => ?_)
      obtain ⟨rfl, hg17⟩ := h9 _ rfl
      refine lv_iconst (v := 0) hx hb dX12_square_84 (by decide) ?_
      refine lv_iload_n hx hb dX12_square_85 rfl (lv_at hl 1 rfl) ?_
      refine lv_iadd hx hb dX12_square_86 ?_
      refine lv_topi (fun x18 ex18 => ?_)
      have t19 : x18.toInt = 0 + p0.toInt := ti_add ex18 (by decide) rfl (by omega) (by omega)
      refine tw_iald (i := x18) hx hb hK hT hg17 shm_2 rfl (vin_t (a := x18.toInt) rfl (by omega) (by omega)) dX12_square_87 (fun v9 m20 h9 => ?_)
      obtain ⟨x21, rfl, gx21, kx21⟩ := (gp_at h9 (w_fre (by have q9 := tn_of (show x18.toInt = x18.toInt from rfl) (show (0 : Int) ≤ x18.toInt from by omega); omega)))
      exact W.iret (v := x21) hx hb hr (fun t ht hW => ⟨⟨x21, (), rfl, (by exact trivial), by (try dsimp only); rw [ht]; exact ⟨hT, hF⟩⟩, hS.F ht⟩) hS.2.2 dX12_square_88
    by_cases hs22 : p1 = 1
    · subst hs22
      refine lv_tableIn (x := 1) (off := 69) (tgt := 89) hx hb dX12_square_20 (by decide) (by decide) (by decide) (by decide) ?_
      refine lv_aload_n hx hb dX12_square_89 rfl (lv_at hl 0 rfl) ?_
      refine tw_get hx hb hts bF_X12 hown hK hT hr_o0 shm_0 rfl 1 (by decide) (ht_at hts 12 rfl) (fun _ h9 => h9) dX12_square_90 (fun v9 m23 h9 => ?_)
      obtain ⟨rfl, hg24⟩ := h9 _ rfl
      refine lv_bipush (v := 96) hx hb dX12_square_93 (by decide) ?_
      refine lv_iload_n hx hb dX12_square_95 rfl (lv_at hl 1 rfl) ?_
      refine lv_iadd hx hb dX12_square_96 ?_
      refine lv_topi (fun x25 ex25 => ?_)
      have t26 : x25.toInt = 96 + p0.toInt := ti_add ex25 (by decide) rfl (by omega) (by omega)
      refine tw_iald (i := x25) hx hb hK hT hg24 shm_2 rfl (vin_t (a := x25.toInt) rfl (by omega) (by omega)) dX12_square_97 (fun v9 m27 h9 => ?_)
      obtain ⟨x28, rfl, gx28, kx28⟩ := (gp_at h9 (w_hgt (by have q9 := tn_of (show x25.toInt = x25.toInt from rfl) (show (0 : Int) ≤ x25.toInt from by omega); omega)))
      exact W.iret (v := x28) hx hb hr (fun t ht hW => ⟨⟨x28, (), rfl, (by exact trivial), by (try dsimp only); rw [ht]; exact ⟨hT, hF⟩⟩, hS.F ht⟩) hS.2.2 dX12_square_98
    by_cases hs29 : p1 = 2
    · subst hs29
      refine lv_tableIn (x := 2) (off := 79) (tgt := 99) hx hb dX12_square_20 (by decide) (by decide) (by decide) (by decide) ?_
      refine lv_aload_n hx hb dX12_square_99 rfl (lv_at hl 0 rfl) ?_
      refine tw_get hx hb hts bF_X12 hown hK hT hr_o0 shm_0 rfl 1 (by decide) (ht_at hts 12 rfl) (fun _ h9 => h9) dX12_square_100 (fun v9 m30 h9 => ?_)
      obtain ⟨rfl, hg31⟩ := h9 _ rfl
      refine lv_sipush (v := 192) hx hb dX12_square_103 (by decide) ?_
      refine lv_iload_n hx hb dX12_square_106 rfl (lv_at hl 1 rfl) ?_
      refine lv_iadd hx hb dX12_square_107 ?_
      refine lv_topi (fun x32 ex32 => ?_)
      have t33 : x32.toInt = 192 + p0.toInt := ti_add ex32 (by decide) rfl (by omega) (by omega)
      refine tw_iald (i := x32) hx hb hK hT hg31 shm_2 rfl (vin_t (a := x32.toInt) rfl (by omega) (by omega)) dX12_square_108 (fun v9 m34 h9 => ?_)
      obtain ⟨x35, rfl, gx35, kx35⟩ := (gp_at h9 (w_fre (by have q9 := tn_of (show x32.toInt = x32.toInt from rfl) (show (0 : Int) ≤ x32.toInt from by omega); omega)))
      exact W.iret (v := x35) hx hb hr (fun t ht hW => ⟨⟨x35, (), rfl, (by exact trivial), by (try dsimp only); rw [ht]; exact ⟨hT, hF⟩⟩, hS.F ht⟩) hS.2.2 dX12_square_109
    by_cases hs36 : p1 = 3
    · subst hs36
      refine lv_tableIn (x := 3) (off := 90) (tgt := 110) hx hb dX12_square_20 (by decide) (by decide) (by decide) (by decide) ?_
      refine lv_aload_n hx hb dX12_square_110 rfl (lv_at hl 0 rfl) ?_
      refine tw_get hx hb hts bF_X12 hown hK hT hr_o0 shm_0 rfl 1 (by decide) (ht_at hts 12 rfl) (fun _ h9 => h9) dX12_square_111 (fun v9 m37 h9 => ?_)
      obtain ⟨rfl, hg38⟩ := h9 _ rfl
      refine lv_sipush (v := 288) hx hb dX12_square_114 (by decide) ?_
      refine lv_iload_n hx hb dX12_square_117 rfl (lv_at hl 1 rfl) ?_
      refine lv_iadd hx hb dX12_square_118 ?_
      refine lv_topi (fun x39 ex39 => ?_)
      have t40 : x39.toInt = 288 + p0.toInt := ti_add ex39 (by decide) rfl (by omega) (by omega)
      refine tw_iald (i := x39) hx hb hK hT hg38 shm_2 rfl (vin_t (a := x39.toInt) rfl (by omega) (by omega)) dX12_square_119 (fun v9 m41 h9 => ?_)
      obtain ⟨x42, rfl, gx42, kx42⟩ := (gp_at h9 (w_dit (by have q9 := tn_of (show x39.toInt = x39.toInt from rfl) (show (0 : Int) ≤ x39.toInt from by omega); omega)))
      exact W.iret (v := x42) hx hb hr (fun t ht hW => ⟨⟨x42, (), rfl, (by exact trivial), by (try dsimp only); rw [ht]; exact ⟨hT, hF⟩⟩, hS.F ht⟩) hS.2.2 dX12_square_120
    by_cases hs43 : p1 = 4
    · subst hs43
      refine lv_tableIn (x := 4) (off := 101) (tgt := 121) hx hb dX12_square_20 (by decide) (by decide) (by decide) (by decide) ?_
      refine lv_aload_n hx hb dX12_square_121 rfl (lv_at hl 0 rfl) ?_
      refine tw_get hx hb hts bF_X12 hown hK hT hr_o0 shm_0 rfl 1 (by decide) (ht_at hts 12 rfl) (fun _ h9 => h9) dX12_square_122 (fun v9 m44 h9 => ?_)
      obtain ⟨rfl, hg45⟩ := h9 _ rfl
      refine lv_sipush (v := 384) hx hb dX12_square_125 (by decide) ?_
      refine lv_iload_n hx hb dX12_square_128 rfl (lv_at hl 1 rfl) ?_
      refine lv_iadd hx hb dX12_square_129 ?_
      refine lv_topi (fun x46 ex46 => ?_)
      have t47 : x46.toInt = 384 + p0.toInt := ti_add ex46 (by decide) rfl (by omega) (by omega)
      refine tw_iald (i := x46) hx hb hK hT hg45 shm_2 rfl (vin_t (a := x46.toInt) rfl (by omega) (by omega)) dX12_square_130 (fun v9 m48 h9 => ?_)
      obtain ⟨x49, rfl, gx49, kx49⟩ := (gp_at h9 (w_wat (by have q9 := tn_of (show x46.toInt = x46.toInt from rfl) (show (0 : Int) ≤ x46.toInt from by omega); omega)))
      exact W.iret (v := x49) hx hb hr (fun t ht hW => ⟨⟨x49, (), rfl, (by exact trivial), by (try dsimp only); rw [ht]; exact ⟨hT, hF⟩⟩, hS.F ht⟩) hS.2.2 dX12_square_131
    by_cases hs50 : p1 = 5
    · subst hs50
      refine lv_tableIn (x := 5) (off := 112) (tgt := 132) hx hb dX12_square_20 (by decide) (by decide) (by decide) (by decide) ?_
      refine lv_aload_n hx hb dX12_square_132 rfl (lv_at hl 0 rfl) ?_
      refine tw_get hx hb hts bF_X12 hown hK hT hr_o0 shm_0 rfl 1 (by decide) (ht_at hts 12 rfl) (fun _ h9 => h9) dX12_square_133 (fun v9 m51 h9 => ?_)
      obtain ⟨rfl, hg52⟩ := h9 _ rfl
      refine lv_sipush (v := 480) hx hb dX12_square_136 (by decide) ?_
      refine lv_iload_n hx hb dX12_square_139 rfl (lv_at hl 1 rfl) ?_
      refine lv_iadd hx hb dX12_square_140 ?_
      refine lv_topi (fun x53 ex53 => ?_)
      have t54 : x53.toInt = 480 + p0.toInt := ti_add ex53 (by decide) rfl (by omega) (by omega)
      refine tw_iald (i := x53) hx hb hK hT hg52 shm_2 rfl (vin_t (a := x53.toInt) rfl (by omega) (by omega)) dX12_square_141 (fun v9 m55 h9 => ?_)
      obtain ⟨x56, rfl, gx56, kx56⟩ := (gp_at h9 (w_fre (by have q9 := tn_of (show x53.toInt = x53.toInt from rfl) (show (0 : Int) ≤ x53.toInt from by omega); omega)))
      exact W.iret (v := x56) hx hb hr (fun t ht hW => ⟨⟨x56, (), rfl, (by exact trivial), by (try dsimp only); rw [ht]; exact ⟨hT, hF⟩⟩, hS.F ht⟩) hS.2.2 dX12_square_142
    by_cases hs57 : p1 = 6
    · subst hs57
      refine lv_tableIn (x := 6) (off := 123) (tgt := 143) hx hb dX12_square_20 (by decide) (by decide) (by decide) (by decide) ?_
      refine lv_aload_n hx hb dX12_square_143 rfl (lv_at hl 0 rfl) ?_
      refine lv_iload_n hx hb dX12_square_144 rfl (lv_at hl 1 rfl) ?_
      have hFc := gA_free hG hA hS
      refine va_calli (va_runV (As := [.int p0]) (rest := []) ⟨hx, hb, hml, hown, hts⟩ (s_level l dC dI kA G H q wN wH wB wC wL wK PI o0 p0 hT hr_o0 (rg_t (a := p0.toInt) rfl (by have q8 := ti_all p0; omega) (by have q8 := ti_all p0; omega)) (by omega) (by omega) (by omega) (by omega)) (cwV 1 hts (goodIn_app (goodIn_r _ [27, 28, 29, 6] (by decide +kernel) (by decide +kernel)) (goodIn_ca (goodIn_r _ [14, 15, 13, 16, 17, 18, 6, 19, 20, 21, 22, 23, 3, 4, 5, 24, 25, 26] (by decide +kernel) (by decide +kernel)) (bs_in _ _))) rfl rfl rfl (by decide +kernel) ⟨(Nat.le_of_ble_eq_true rfl), (Nat.le_of_ble_eq_true rfl)⟩) ⟨fun a U g mk q => by obtain ⟨q0, q1, qK, qE⟩ := q; exact ⟨q0, q1, va_K.moved (u := U) (U := U.calling g mk a) (Vm.Alike.refl U.vm) qK, EV.blind g mk a qE⟩, gH_recv hK hT hr_o0 shm_0 rfl, fun U hU hW => ⟨rfl, hU, va_K.moved hW.alike hK, hE.call hS hFc hU hW⟩⟩ rfl rfl hl.1 rfl (lv_room (Nat.le_of_ble_eq_true rfl)) dX12_square_145 ⟨(Nat.le_of_ble_eq_true rfl), (Nat.le_of_ble_eq_true rfl)⟩) hS (fun q _ h => hFc q h) hFc (fun r58 u t H locs ht hvm hw59 hB _ _ hS => ?_)
      obtain ⟨hT, hF1⟩ := hB
      rw [ht] at hT hF1
      have hF := hF.more hF1 (by decide)
      try dsimp only at hw59
      exact W.iret (v := r58) hx hb hr (fun t ht hW => ⟨⟨r58, (), rfl, (by exact trivial), by (try dsimp only); rw [ht]; exact ⟨hT, hF⟩⟩, hS.F ht⟩) hS.2.2 dX12_square_148
    by_cases hs60 : p1 = 7
    · subst hs60
      refine lv_tableIn (x := 7) (off := 129) (tgt := 149) hx hb dX12_square_20 (by decide) (by decide) (by decide) (by decide) ?_
      refine lv_aload_n hx hb dX12_square_149 rfl (lv_at hl 0 rfl) ?_
      refine tw_get hx hb hts bF_X12 hown hK hT hr_o0 shm_0 rfl 1 (by decide) (ht_at hts 12 rfl) (fun _ h9 => h9) dX12_square_150 (fun v9 m61 h9 => ?_)
      obtain ⟨rfl, hg62⟩ := h9 _ rfl
      refine lv_sipush (v := 576) hx hb dX12_square_153 (by decide) ?_
      refine lv_iload_n hx hb dX12_square_156 rfl (lv_at hl 1 rfl) ?_
      refine lv_iadd hx hb dX12_square_157 ?_
      refine lv_topi (fun x63 ex63 => ?_)
      have t64 : x63.toInt = 576 + p0.toInt := ti_add ex63 (by decide) rfl (by omega) (by omega)
      refine tw_iald (i := x63) hx hb hK hT hg62 shm_2 rfl (vin_t (a := x63.toInt) rfl (by omega) (by omega)) dX12_square_158 (fun v9 m65 h9 => ?_)
      obtain ⟨x66, rfl, gx66, kx66⟩ := (gp_at h9 (w_fre (by have q9 := tn_of (show x63.toInt = x63.toInt from rfl) (show (0 : Int) ≤ x63.toInt from by omega); omega)))
      exact W.iret (v := x66) hx hb hr (fun t ht hW => ⟨⟨x66, (), rfl, (by exact trivial), by (try dsimp only); rw [ht]; exact ⟨hT, hF⟩⟩, hS.F ht⟩) hS.2.2 dX12_square_159
    by_cases hs67 : p1 = 8
    · subst hs67
      refine lv_tableIn (x := 8) (off := 140) (tgt := 160) hx hb dX12_square_20 (by decide) (by decide) (by decide) (by decide) ?_
      refine lv_aload_n hx hb dX12_square_160 rfl (lv_at hl 0 rfl) ?_
      refine tw_get hx hb hts bF_X12 hown hK hT hr_o0 shm_0 rfl 1 (by decide) (ht_at hts 12 rfl) (fun _ h9 => h9) dX12_square_161 (fun v9 m68 h9 => ?_)
      obtain ⟨rfl, hg69⟩ := h9 _ rfl
      refine lv_sipush (v := 672) hx hb dX12_square_164 (by decide) ?_
      refine lv_iload_n hx hb dX12_square_167 rfl (lv_at hl 1 rfl) ?_
      refine lv_iadd hx hb dX12_square_168 ?_
      refine lv_topi (fun x70 ex70 => ?_)
      have t71 : x70.toInt = 672 + p0.toInt := ti_add ex70 (by decide) rfl (by omega) (by omega)
      refine tw_iald (i := x70) hx hb hK hT hg69 shm_2 rfl (vin_t (a := x70.toInt) rfl (by omega) (by omega)) dX12_square_169 (fun v9 m72 h9 => ?_)
      obtain ⟨x73, rfl, gx73, kx73⟩ := (gp_at h9 (w_fre (by have q9 := tn_of (show x70.toInt = x70.toInt from rfl) (show (0 : Int) ≤ x70.toInt from by omega); omega)))
      exact W.iret (v := x73) hx hb hr (fun t ht hW => ⟨⟨x73, (), rfl, (by exact trivial), by (try dsimp only); rw [ht]; exact ⟨hT, hF⟩⟩, hS.F ht⟩) hS.2.2 dX12_square_170
    by_cases hs74 : p1 = 9
    · subst hs74
      refine lv_tableIn (x := 9) (off := 151) (tgt := 171) hx hb dX12_square_20 (by decide) (by decide) (by decide) (by decide) ?_
      refine lv_aload_n hx hb dX12_square_171 rfl (lv_at hl 0 rfl) ?_
      refine lv_iload_n hx hb dX12_square_172 rfl (lv_at hl 1 rfl) ?_
      have hFc := gA_free hG hA hS
      refine va_calli (va_runV (As := [.int p0]) (rest := []) ⟨hx, hb, hml, hown, hts⟩ (s_farmOf l dC dI kA G H q wN wH wB wC wL wK PI o0 p0 hT hr_o0 (by omega) (by omega) (by omega) (by omega)) (cwV 1 hts (goodIn_app (goodIn_r _ [44, 45, 46, 6] (by decide +kernel) (by decide +kernel)) (goodIn_ca (goodIn_r _ [30, 31, 32, 33, 34, 35, 36, 37, 38, 39, 40, 41, 3, 4, 5, 6, 42, 43] (by decide +kernel) (by decide +kernel)) (bs_in _ _))) rfl rfl rfl (by decide +kernel) ⟨(Nat.le_of_ble_eq_true rfl), (Nat.le_of_ble_eq_true rfl)⟩) ⟨fun a U g mk q => by obtain ⟨q0, q1, qK, qE⟩ := q; exact ⟨q0, q1, va_K.moved (u := U) (U := U.calling g mk a) (Vm.Alike.refl U.vm) qK, EV.blind g mk a qE⟩, gH_recv hK hT hr_o0 shm_0 rfl, fun U hU hW => ⟨rfl, hU, va_K.moved hW.alike hK, hE.call hS hFc hU hW⟩⟩ rfl rfl hl.1 rfl (lv_room (Nat.le_of_ble_eq_true rfl)) dX12_square_173 ⟨(Nat.le_of_ble_eq_true rfl), (Nat.le_of_ble_eq_true rfl)⟩) hS (fun q _ h => hFc q h) hFc (fun r75 u t H locs ht hvm hw76 hB _ _ hS => ?_)
      obtain ⟨hT, hF1⟩ := hB
      rw [ht] at hT hF1
      have hF := hF.more hF1 (by decide)
      try dsimp only at hw76
      have h77 := hw76
      exact W.iret (v := r75) hx hb hr (fun t ht hW => ⟨⟨r75, (), rfl, (by exact trivial), by (try dsimp only); rw [ht]; exact ⟨hT, hF⟩⟩, hS.F ht⟩) hS.2.2 dX12_square_176
    by_cases hs78 : p1 = 10
    · subst hs78
      refine lv_tableIn (x := 10) (off := 157) (tgt := 177) hx hb dX12_square_20 (by decide) (by decide) (by decide) (by decide) ?_
      refine lv_aload_n hx hb dX12_square_177 rfl (lv_at hl 0 rfl) ?_
      refine lv_iload_n hx hb dX12_square_178 rfl (lv_at hl 1 rfl) ?_
      have hFc := gA_free hG hA hS
      refine va_calli (va_runV (As := [.int p0]) (rest := []) ⟨hx, hb, hml, hown, hts⟩ (s_workOn l dC dI kA G H q wN wH wB wC wL wK PI o0 p0 hT hr_o0 (by omega) (by omega) (by omega) (by omega)) (cwV 1 hts (goodIn_app (goodIn_r _ [55, 56, 57, 6] (by decide +kernel) (by decide +kernel)) (goodIn_ca (goodIn_r _ [47, 13, 48, 49, 50, 51, 6, 52, 53, 54] (by decide +kernel) (by decide +kernel)) (bs_in _ _))) rfl rfl rfl (by decide +kernel) ⟨(Nat.le_of_ble_eq_true rfl), (Nat.le_of_ble_eq_true rfl)⟩) ⟨fun a U g mk q => by obtain ⟨q0, q1, qK, qE⟩ := q; exact ⟨q0, q1, va_K.moved (u := U) (U := U.calling g mk a) (Vm.Alike.refl U.vm) qK, EV.blind g mk a qE⟩, gH_recv hK hT hr_o0 shm_0 rfl, fun U hU hW => ⟨rfl, hU, va_K.moved hW.alike hK, hE.call hS hFc hU hW⟩⟩ rfl rfl hl.1 rfl (lv_room (Nat.le_of_ble_eq_true rfl)) dX12_square_179 ⟨(Nat.le_of_ble_eq_true rfl), (Nat.le_of_ble_eq_true rfl)⟩) hS (fun q _ h => hFc q h) hFc (fun r79 u t H locs ht hvm hw80 hB _ _ hS => ?_)
      obtain ⟨hT, hF1⟩ := hB
      rw [ht] at hT hF1
      have hF := hF.more hF1 (by decide)
      try dsimp only at hw80
      have h81 := hw80
      exact W.iret (v := r79) hx hb hr (fun t ht hW => ⟨⟨r79, (), rfl, (by exact trivial), by (try dsimp only); rw [ht]; exact ⟨hT, hF⟩⟩, hS.F ht⟩) hS.2.2 dX12_square_182
    have ho82 : p1.toInt < 0 ∨ 10 < p1.toInt := by
      have ehs15 : p1.toInt ≠ 0 := fun e => hs15 (Int32.toInt_inj.mp (e.trans (by decide)))
      have ehs22 : p1.toInt ≠ 1 := fun e => hs22 (Int32.toInt_inj.mp (e.trans (by decide)))
      have ehs29 : p1.toInt ≠ 2 := fun e => hs29 (Int32.toInt_inj.mp (e.trans (by decide)))
      have ehs36 : p1.toInt ≠ 3 := fun e => hs36 (Int32.toInt_inj.mp (e.trans (by decide)))
      have ehs43 : p1.toInt ≠ 4 := fun e => hs43 (Int32.toInt_inj.mp (e.trans (by decide)))
      have ehs50 : p1.toInt ≠ 5 := fun e => hs50 (Int32.toInt_inj.mp (e.trans (by decide)))
      have ehs57 : p1.toInt ≠ 6 := fun e => hs57 (Int32.toInt_inj.mp (e.trans (by decide)))
      have ehs60 : p1.toInt ≠ 7 := fun e => hs60 (Int32.toInt_inj.mp (e.trans (by decide)))
      have ehs67 : p1.toInt ≠ 8 := fun e => hs67 (Int32.toInt_inj.mp (e.trans (by decide)))
      have ehs74 : p1.toInt ≠ 9 := fun e => hs74 (Int32.toInt_inj.mp (e.trans (by decide)))
      have ehs78 : p1.toInt ≠ 10 := fun e => hs78 (Int32.toInt_inj.mp (e.trans (by decide)))
      omega
    refine lv_tableOut (tgt := 183) hx hb dX12_square_20 ho82 (by decide) ?_
    refine lv_aload_n hx hb dX12_square_183 rfl (lv_at hl 0 rfl) ?_
    refine lv_iconst (v := 2) hx hb dX12_square_184 (by decide) ?_
    refine tw_put (v := .int 2) (ty := .int) hx hb hts bF_X12 tyX12 tyX12_ok nmX12 hown hK hT hG hS hr_o0 shm_0 rfl 0 (by decide) (ht_at hts 0 rfl) (fun _ h9 => h9) rfl (by decide +kernel) rfl rfl (gl_at rfl (gi_all _)) dX12_square_185 (fun H locs hT oq m83 oj hS => ?_)
    have hF := hF.put hr_o0 skm_0 oq oj (by decide)
    refine lv_iconst (v := 0) hx hb dX12_square_188 (by decide) ?_
    exact W.iret (v := 0) hx hb hr (fun t ht hW => ⟨⟨0, (), rfl, (by exact trivial), by (try dsimp only); rw [ht]; exact ⟨hT, hF⟩⟩, hS.F ht⟩) hS.2.2 dX12_square_189
  · have t84 : r2.toInt ≠ 0 := ti_ne c12 rfl (by decide)
    refine lv_iconst (v := 0) hx hb dX12_square_17 (by decide) ?_
    exact W.iret (v := 0) hx hb hr (fun t ht hW => ⟨⟨0, (), rfl, (by exact trivial), by (try dsimp only); rw [ht]; exact ⟨hT, hF⟩⟩, hS.F ht⟩) hS.2.2 dX12_square_18
