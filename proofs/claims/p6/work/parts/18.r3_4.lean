def w_s_tide : List Cond := .code yX12_tide cX12_tide 3 none :: ([.fieldLink RX12 194 "SeaLandModel" "thrown" "I", .code yX12_in cX12_in 3 (some .boolean), .methodLink RX12 197 yX12_in, .static yX12_in, .initialized RX12, .code yX12_throwsIf cX12_throwsIf 3 (some .boolean), .methodLink RX12 224 yX12_throwsIf, .instanceMethod yX12_throwsIf, .selects RX12 yX12_throwsIf yX12_throwsIf, .fieldLink RX12 9 "SeaLandModel" "world" "[I", .fieldLink RX12 238 "SeaLandModel" "rows" "I"] ++ bs)
set_option maxHeartbeats 4000000 in
set_option maxRecDepth 100000 in
theorem s_tide (l : Launch) (dC : Nat → ClassId) (dI : Nat → Nat → Nat) (kA : Nat → ClassId) (G : gT) (H0 : Heap) (q : Nat → Nat) (wN wH wB wC : Int) (wL wK : Nat → Prop) (PI : Nat → Int → Prop) (o0 : Nat) (p0 : Int32) (p1 : Int32) (hT : gH (dC, dI) kA (SHm q (wP wN wH wB wC wC wL wK) PI) G H0) (hr_o0 : G o0 = some 0) (hgn : 6500000 ≤ wN ∧ wN ≤ 400000000) (hgh : 0 ≤ wH ∧ wH ≤ 40000) (hgb : 0 ≤ wB ∧ wB ≤ 3850000) (hgc : 0 ≤ wC ∧ wC ≤ 30) : Met l yX12_tide w_s_tide ({ frames := 1, cells := 0, slots := 0, locals := 22 }) (va_Pc [.ref o0, .int p0, .int p1] (fun U => U.heap = H0 ∧ va_K (dC, dI) vwCl (tyl kA) U ∧ EV (gA G H0.size) U U.heap)) (va_Qv (fun (u : Unit) => True) (fun (_ : Unit) (t : State) => gH (dC, dI) kA (SHm q (wP wN wH wB wC wC wL wK) PI) G t.heap ∧ gF (dC, dI) SKm G ([(0, 0), (0, 9), (2, 0)] : List (Nat × Nat)) H0 t.heap) (gA G H0.size)) 0 0 (gA G H0.size) := by
  refine Met.ofW (cc := cX12_tide) (maxL := 3) (ret := none) (by decide) rfl ?_
  intro p e s m args below meth c s₁ B hml hv
  obtain ⟨rfl, hH0, hK, hE⟩ := hv
  have hx := B.exec
  have hb := B.bytes
  have hr := B.returns
  have hts := atoms_spec (ws := w_s_tide) B.pre
  have hown : s.vm.findClass RX12 = some m.cls := findClass_of_methodNamed B.named
  have hlocks := B.notSynchronized
  subst hH0
  generalize hAe : gA G s.heap.size = A at hE ⊢
  have hA : ∀ q : Nat, s.heap.size ≤ q → A q := fun q h => by rw [← hAe]; exact Or.inr h
  have hG := gA_of hAe
  have hS : va_S A s.heap s.heap [] := va_S.rf
  have hF : gF (dC, dI) SKm G ([(0, 0), (0, 9), (2, 0)] : List (Nat × Nat)) s.heap s.heap := gF.rf
  have hl := lv_entry ([.ref o0, .int p0, .int p1]) (n := 3) (Nat.le_of_ble_eq_true rfl)
  rw [lg_entry_eq]
  generalize (lg_sl ([.ref o0, .int p0, .int p1]) ++ List.replicate (3 - (lg_sl ([.ref o0, .int p0, .int p1])).length) Slot.unset).toArray = ls at hl ⊢
  have hl : lv_has ls 3 [(0, .ref o0), (1, .int p0), (2, .int p1)] := hl
  refine lv_aload_n hx hb dX12_tide_0 rfl (lv_at hl 0 rfl) ?_
  refine lv_iconst (v := 0) hx hb dX12_tide_1 (by decide) ?_
  refine tw_put (v := .int 0) (ty := .int) hx hb hts bF_X12 tyX12 tyX12_ok nmX12 hown hK hT hG hS hr_o0 shm_0 rfl 0 (by decide) (ht_at hts 0 rfl) (fun _ h9 => h9) rfl (by decide +kernel) rfl rfl (gl_at rfl (gi_all _)) dX12_tide_2 (fun H locs hT oq m1 oj hS => ?_)
  have hF := hF.put hr_o0 skm_0 oq oj (by decide)
  refine lv_aload_n hx hb dX12_tide_5 rfl (lv_at hl 0 rfl) ?_
  refine lv_iload_n hx hb dX12_tide_6 rfl (lv_at hl 1 rfl) ?_
  refine lv_iconst (v := 0) hx hb dX12_tide_7 (by decide) ?_
  refine lv_bipush (v := 11) hx hb dX12_tide_8 (by decide) ?_
  have hFc := gA_free hG hA hS
  refine va_calli (va_runS (As := [.int p0, .int 0, .int 11]) (rest := [.ref o0]) ⟨hx, hb, hml, hown, hts⟩ (s_in l dC dI kA G H q wN wH wB wC wL wK PI p0 0 11 hT (by omega) (by omega) (by omega) (by omega)) (va_cwS 3 hts (goodIn_app (goodIn_r _ [3, 4, 5] (by decide +kernel) (by decide +kernel)) (goodIn_ca (goodIn_r _ [2] (by decide +kernel) (by decide +kernel)) (bs_in _ _))) rfl rfl rfl (by decide +kernel) ⟨(Nat.le_of_ble_eq_true rfl), (Nat.le_of_ble_eq_true rfl)⟩) ⟨fun a U g mk q => by obtain ⟨q0, q1, qK, qE⟩ := q; exact ⟨q0, q1, va_K.moved (u := U) (U := U.calling g mk a) (Vm.Alike.refl U.vm) qK, EV.blind g mk a qE⟩, fun U hU hW => ⟨rfl, hU, va_K.moved hW.alike hK, hE.call hS hFc hU hW⟩⟩ rfl rfl hl.1 rfl (lv_room (Nat.le_of_ble_eq_true rfl)) dX12_tide_10 ⟨(Nat.le_of_ble_eq_true rfl), (Nat.le_of_ble_eq_true rfl)⟩) hS (fun q _ h => hFc q h) hFc (fun r2 u t H locs ht hvm hw3 hB _ _ hS => ?_)
  obtain ⟨hT, hF1⟩ := hB
  rw [ht] at hT hF1
  have m4 := (hF1.fld hr_o0 skm_0 (k := 0) (by decide) (by decide)).trans m1
  have hF := hF.more hF1 (by decide)
  try dsimp only at hw3
  obtain ⟨h5, hi6, hi7⟩ := hw3
  refine lv_if_eq (tgt := 29) hx hb dX12_tide_13 (by decide) (fun c8 => ?_) (fun c8 => ?_)
  · have t9 : r2.toInt = 0 := ti_eq c8 rfl (by decide)
    have t10 : (0 : Int32).toInt = 0 := by decide
    have t11 : (11 : Int32).toInt = 11 := by decide
    have t12 : p0.toInt < (0 : Int32).toInt ∨ (11 : Int32).toInt < p0.toInt := hi7 c8
    refine lv_iconst (v := 1) hx hb dX12_tide_29 (by decide) ?_
    refine lv_goto (tgt := 34) hx hb dX12_tide_30 (by decide) ?_
    refine lv_iconst (v := 1) hx hb dX12_tide_34 (by decide) ?_
    have hFc := gA_free hG hA hS
    refine va_calli (va_runV (As := [.int 1, .int 1]) (rest := []) ⟨hx, hb, hml, hown, hts⟩ (s_throwsIf l dC dI kA G H q wN wH wB wC wL wK PI o0 1 1 hT hr_o0 (rg_t (a := 1) (by decide) (by omega) (by omega)) (by omega) (by omega) (by omega) (by omega)) (cwV 2 hts (goodIn_app (goodIn_r _ [7, 8, 9, 5] (by decide +kernel) (by decide +kernel)) (goodIn_ca (goodIn_r _ [6, 1] (by decide +kernel) (by decide +kernel)) (bs_in _ _))) rfl rfl rfl (by decide +kernel) ⟨(Nat.le_of_ble_eq_true rfl), (Nat.le_of_ble_eq_true rfl)⟩) ⟨fun a U g mk q => by obtain ⟨q0, q1, qK, qE⟩ := q; exact ⟨q0, q1, va_K.moved (u := U) (U := U.calling g mk a) (Vm.Alike.refl U.vm) qK, EV.blind g mk a qE⟩, gH_recv hK hT hr_o0 shm_0 rfl, fun U hU hW => ⟨rfl, hU, va_K.moved hW.alike hK, hE.call hS hFc hU hW⟩⟩ rfl rfl hl.1 rfl (lv_room (Nat.le_of_ble_eq_true rfl)) dX12_tide_35 ⟨(Nat.le_of_ble_eq_true rfl), (Nat.le_of_ble_eq_true rfl)⟩) hS (fun q _ h => hFc q h) hFc (fun r13 u t H locs ht hvm hw14 hB _ _ hS => ?_)
    obtain ⟨hT, hF1⟩ := hB
    rw [ht] at hT hF1
    have hF := hF.more hF1 (by decide)
    try dsimp only at hw14
    obtain ⟨h16, hd17⟩ := hw14
    obtain rfl : (1 : Int32) = r13 := hd17.symm
    refine lv_if_eq (tgt := 42) hx hb dX12_tide_38 (by decide) (fun c18 => absurd c18 (by decide)) (fun c18 => ?_)
    exact W.vret hx hb hr (fun t ht hW => ⟨⟨(), rfl, (by exact trivial), by (try dsimp only); rw [ht]; exact ⟨hT, hF⟩⟩, hS.F ht⟩) hS.2.2 dX12_tide_41
  · have t19 : r2.toInt ≠ 0 := ti_ne c8 rfl (by decide)
    have t20 : (0 : Int32).toInt = 0 := by decide
    have t21 : (11 : Int32).toInt = 11 := by decide
    have t22 : (0 : Int32).toInt ≤ p0.toInt ∧ p0.toInt ≤ (11 : Int32).toInt := hi6 ((bit_of ⟨by omega, by omega⟩).resolve_left c8)
    refine lv_iload_n hx hb dX12_tide_16 rfl (lv_at hl 2 rfl) ?_
    refine lv_sipush (v := (-400)) hx hb dX12_tide_17 (by decide) ?_
    refine lv_sipush (v := 400) hx hb dX12_tide_20 (by decide) ?_
    have hFc := gA_free hG hA hS
    refine va_calli (va_runS (As := [.int p1, .int (-400), .int 400]) (rest := [.ref o0]) ⟨hx, hb, hml, hown, hts⟩ (s_in l dC dI kA G H q wN wH wB wC wL wK PI p1 (-400) 400 hT (by omega) (by omega) (by omega) (by omega)) (va_cwS 3 hts (goodIn_app (goodIn_r _ [3, 4, 5] (by decide +kernel) (by decide +kernel)) (goodIn_ca (goodIn_r _ [2] (by decide +kernel) (by decide +kernel)) (bs_in _ _))) rfl rfl rfl (by decide +kernel) ⟨(Nat.le_of_ble_eq_true rfl), (Nat.le_of_ble_eq_true rfl)⟩) ⟨fun a U g mk q => by obtain ⟨q0, q1, qK, qE⟩ := q; exact ⟨q0, q1, va_K.moved (u := U) (U := U.calling g mk a) (Vm.Alike.refl U.vm) qK, EV.blind g mk a qE⟩, fun U hU hW => ⟨rfl, hU, va_K.moved hW.alike hK, hE.call hS hFc hU hW⟩⟩ rfl rfl hl.1 rfl (lv_room (Nat.le_of_ble_eq_true rfl)) dX12_tide_23 ⟨(Nat.le_of_ble_eq_true rfl), (Nat.le_of_ble_eq_true rfl)⟩) hS (fun q _ h => hFc q h) hFc (fun r23 u t H locs ht hvm hw24 hB _ _ hS => ?_)
    obtain ⟨hT, hF1⟩ := hB
    rw [ht] at hT hF1
    have m25 := (hF1.fld hr_o0 skm_0 (k := 0) (by decide) (by decide)).trans m4
    have hF := hF.more hF1 (by decide)
    try dsimp only at hw24
    obtain ⟨h26, hi27, hi28⟩ := hw24
    refine lv_if_ne (tgt := 33) hx hb dX12_tide_26 (by decide) (fun c29 => ?_) (fun c29 => ?_)
    · have t30 : r23.toInt ≠ 0 := ti_ne c29 rfl (by decide)
      have t31 : (-400 : Int32).toInt = (-400) := by decide
      have t32 : (400 : Int32).toInt = 400 := by decide
      have t33 : (-400 : Int32).toInt ≤ p1.toInt ∧ p1.toInt ≤ (400 : Int32).toInt := hi27 ((bit_of ⟨by omega, by omega⟩).resolve_left c29)
      refine lv_iconst (v := 0) hx hb dX12_tide_33 (by decide) ?_
      refine lv_iconst (v := 1) hx hb dX12_tide_34 (by decide) ?_
      have hFc := gA_free hG hA hS
      refine va_calli (va_runV (As := [.int 0, .int 1]) (rest := []) ⟨hx, hb, hml, hown, hts⟩ (s_throwsIf l dC dI kA G H q wN wH wB wC wL wK PI o0 0 1 hT hr_o0 (rg_t (a := 0) (by decide) (by omega) (by omega)) (by omega) (by omega) (by omega) (by omega)) (cwV 2 hts (goodIn_app (goodIn_r _ [7, 8, 9, 5] (by decide +kernel) (by decide +kernel)) (goodIn_ca (goodIn_r _ [6, 1] (by decide +kernel) (by decide +kernel)) (bs_in _ _))) rfl rfl rfl (by decide +kernel) ⟨(Nat.le_of_ble_eq_true rfl), (Nat.le_of_ble_eq_true rfl)⟩) ⟨fun a U g mk q => by obtain ⟨q0, q1, qK, qE⟩ := q; exact ⟨q0, q1, va_K.moved (u := U) (U := U.calling g mk a) (Vm.Alike.refl U.vm) qK, EV.blind g mk a qE⟩, gH_recv hK hT hr_o0 shm_0 rfl, fun U hU hW => ⟨rfl, hU, va_K.moved hW.alike hK, hE.call hS hFc hU hW⟩⟩ rfl rfl hl.1 rfl (lv_room (Nat.le_of_ble_eq_true rfl)) dX12_tide_35 ⟨(Nat.le_of_ble_eq_true rfl), (Nat.le_of_ble_eq_true rfl)⟩) hS (fun q _ h => hFc q h) hFc (fun r34 u t H locs ht hvm hw35 hB _ _ hS => ?_)
      obtain ⟨hT, hF1⟩ := hB
      rw [ht] at hT hF1
      have hF := hF.more hF1 (by decide)
      try dsimp only at hw35
      obtain ⟨h37, hd38⟩ := hw35
      obtain rfl : (0 : Int32) = r34 := hd38.symm
      refine lv_if_eq (tgt := 42) hx hb dX12_tide_38 (by decide) (fun c39 => ?_) (fun c39 => absurd c39 (by decide))
      refine lv_aload_n hx hb dX12_tide_42 rfl (lv_at hl 0 rfl) ?_
      refine tw_get hx hb hts bF_X12 hown hK hT hr_o0 shm_0 rfl 1 (by decide) (ht_at hts 9 rfl) (fun _ h9 => h9) dX12_tide_43 (fun v9 m40 h9 => ?_)
      obtain ⟨rfl, hg41⟩ := h9 _ rfl
      refine lv_sipush (v := 1430) hx hb dX12_tide_46 (by decide) ?_
      refine lv_iload_n hx hb dX12_tide_49 rfl (lv_at hl 1 rfl) ?_
      refine lv_iadd hx hb dX12_tide_50 ?_
      refine lv_topi (fun x42 ex42 => ?_)
      have t43 : x42.toInt = 1430 + p0.toInt := ti_add ex42 (by decide) rfl (by omega) (by omega)
      refine lv_iload_n hx hb dX12_tide_51 rfl (lv_at hl 2 rfl) ?_
      refine tw_iast (i := x42) (x := p1) hx hb hK hT hG hS hg41 shm_2 rfl (vin_t (a := x42.toInt) rfl (by omega) (by omega)) (gp_of (gi_of (show p1.toInt = p1.toInt from rfl) (by omega) (by omega)) (w_tid (by have q9 := tn_of (show x42.toInt = x42.toInt from rfl) (show (0 : Int) ≤ x42.toInt from by omega); omega)) (wX_o (by have q9 := tn_of (show x42.toInt = x42.toInt from rfl) (show (0 : Int) ≤ x42.toInt from by omega); omega) (by omega))) dX12_tide_52 (fun H locs hT oq m44 oi hS => ?_)
      have hF := hF.ast hg41 skm_2 oq (by decide)
      refine lv_aload_n hx hb dX12_tide_53 rfl (lv_at hl 0 rfl) ?_
      refine lv_iconst (v := 0) hx hb dX12_tide_54 (by decide) ?_
      refine tw_put (v := .int 0) (ty := .int) hx hb hts bF_X12 tyX12 tyX12_ok nmX12 hown hK hT hG hS hr_o0 shm_0 rfl 9 (by decide) (ht_at hts 10 rfl) (fun _ h9 => h9) rfl (by decide +kernel) rfl rfl (gl_at rfl (gi_of (show (0 : Int32).toInt = 0 from (by decide)) (by omega) (by omega))) dX12_tide_55 (fun H locs hT oq m45 oj hS => ?_)
      have hF := hF.put hr_o0 skm_0 oq oj (by decide)
      have m46 := (el_kept (oq _ (gne hg41 hr_o0 (by decide)))).trans m44
      exact W.vret hx hb hr (fun t ht hW => ⟨⟨(), rfl, (by exact trivial), by (try dsimp only); rw [ht]; exact ⟨hT, hF⟩⟩, hS.F ht⟩) hS.2.2 dX12_tide_58
    · have t47 : r23.toInt = 0 := ti_eq c29 rfl (by decide)
      have t48 : (-400 : Int32).toInt = (-400) := by decide
      have t49 : (400 : Int32).toInt = 400 := by decide
      have t50 : p1.toInt < (-400 : Int32).toInt ∨ (400 : Int32).toInt < p1.toInt := hi28 c29
      refine lv_iconst (v := 1) hx hb dX12_tide_29 (by decide) ?_
      refine lv_goto (tgt := 34) hx hb dX12_tide_30 (by decide) ?_
      refine lv_iconst (v := 1) hx hb dX12_tide_34 (by decide) ?_
      have hFc := gA_free hG hA hS
      refine va_calli (va_runV (As := [.int 1, .int 1]) (rest := []) ⟨hx, hb, hml, hown, hts⟩ (s_throwsIf l dC dI kA G H q wN wH wB wC wL wK PI o0 1 1 hT hr_o0 (rg_t (a := 1) (by decide) (by omega) (by omega)) (by omega) (by omega) (by omega) (by omega)) (cwV 2 hts (goodIn_app (goodIn_r _ [7, 8, 9, 5] (by decide +kernel) (by decide +kernel)) (goodIn_ca (goodIn_r _ [6, 1] (by decide +kernel) (by decide +kernel)) (bs_in _ _))) rfl rfl rfl (by decide +kernel) ⟨(Nat.le_of_ble_eq_true rfl), (Nat.le_of_ble_eq_true rfl)⟩) ⟨fun a U g mk q => by obtain ⟨q0, q1, qK, qE⟩ := q; exact ⟨q0, q1, va_K.moved (u := U) (U := U.calling g mk a) (Vm.Alike.refl U.vm) qK, EV.blind g mk a qE⟩, gH_recv hK hT hr_o0 shm_0 rfl, fun U hU hW => ⟨rfl, hU, va_K.moved hW.alike hK, hE.call hS hFc hU hW⟩⟩ rfl rfl hl.1 rfl (lv_room (Nat.le_of_ble_eq_true rfl)) dX12_tide_35 ⟨(Nat.le_of_ble_eq_true rfl), (Nat.le_of_ble_eq_true rfl)⟩) hS (fun q _ h => hFc q h) hFc (fun r51 u t H locs ht hvm hw52 hB _ _ hS => ?_)
      obtain ⟨hT, hF1⟩ := hB
      rw [ht] at hT hF1
      have hF := hF.more hF1 (by decide)
      try dsimp only at hw52
      obtain ⟨h54, hd55⟩ := hw52
      obtain rfl : (1 : Int32) = r51 := hd55.symm
      refine lv_if_eq (tgt := 42) hx hb dX12_tide_38 (by decide) (fun c56 => absurd c56 (by decide)) (fun c56 => ?_)
      exact W.vret hx hb hr (fun t ht hW => ⟨⟨(), rfl, (by exact trivial), by (try dsimp only); rw [ht]; exact ⟨hT, hF⟩⟩, hS.F ht⟩) hS.2.2 dX12_tide_41
def w_s_weather : List Cond := .code yX12_weather cX12_weather 6 (some .int) :: ([.fieldLink RX12 194 "SeaLandModel" "thrown" "I", .constant RX12 242 40000, .code yX12_in cX12_in 3 (some .boolean), .methodLink RX12 197 yX12_in, .static yX12_in, .initialized RX12, .code yX12_throwsIf cX12_throwsIf 3 (some .boolean), .methodLink RX12 224 yX12_throwsIf, .instanceMethod yX12_throwsIf, .selects RX12 yX12_throwsIf yX12_throwsIf, .fieldLink RX12 9 "SeaLandModel" "world" "[I", .fieldLink RX12 238 "SeaLandModel" "rows" "I"] ++ bs)
set_option maxHeartbeats 4000000 in
set_option maxRecDepth 100000 in
theorem s_weather (l : Launch) (dC : Nat → ClassId) (dI : Nat → Nat → Nat) (kA : Nat → ClassId) (G : gT) (H0 : Heap) (q : Nat → Nat) (wN wH wB wC : Int) (wL wK : Nat → Prop) (PI : Nat → Int → Prop) (o0 : Nat) (p0 : Int32) (p1 : Int32) (p2 : Int32) (hT : gH (dC, dI) kA (SHm q (wP wN wH wB wC wC wL wK) PI) G H0) (hr_o0 : G o0 = some 0) (hq0 : 0 ≤ p0.toInt ∧ p0.toInt ≤ 1) (hgn : 6500000 ≤ wN ∧ wN ≤ 400000000) (hgh : 0 ≤ wH ∧ wH ≤ 40000) (hgb : 0 ≤ wB ∧ wB ≤ 3850000) (hgc : 0 ≤ wC ∧ wC ≤ 30) : Met l yX12_weather w_s_weather ({ frames := 1, cells := 0, slots := 0, locals := 22 }) (va_Pc [.ref o0, .int p0, .int p1, .int p2] (fun U => U.heap = H0 ∧ va_K (dC, dI) vwCl (tyl kA) U ∧ EV (gA G H0.size) U U.heap)) (va_Qi (fun (r : Int32) (u : Unit) => (-1 ≤ r.toInt ∧ r.toInt ≤ 60)) (fun (_ : Unit) (t : State) => gH (dC, dI) kA (SHm q (wP wN wH wB wC wC wL wK) PI) G t.heap ∧ gF (dC, dI) SKm G ([(0, 0), (0, 9), (2, 0)] : List (Nat × Nat)) H0 t.heap) (gA G H0.size)) 0 0 (gA G H0.size) := by
  refine Met.ofW (cc := cX12_weather) (maxL := 6) (ret := (some .int)) (by decide) rfl ?_
  intro p e s m args below meth c s₁ B hml hv
  obtain ⟨rfl, hH0, hK, hE⟩ := hv
  have hx := B.exec
  have hb := B.bytes
  have hr := B.returns
  have hts := atoms_spec (ws := w_s_weather) B.pre
  have hown : s.vm.findClass RX12 = some m.cls := findClass_of_methodNamed B.named
  have hlocks := B.notSynchronized
  subst hH0
  generalize hAe : gA G s.heap.size = A at hE ⊢
  have hA : ∀ q : Nat, s.heap.size ≤ q → A q := fun q h => by rw [← hAe]; exact Or.inr h
  have hG := gA_of hAe
  have hS : va_S A s.heap s.heap [] := va_S.rf
  have hF : gF (dC, dI) SKm G ([(0, 0), (0, 9), (2, 0)] : List (Nat × Nat)) s.heap s.heap := gF.rf
  have hl := lv_entry ([.ref o0, .int p0, .int p1, .int p2]) (n := 6) (Nat.le_of_ble_eq_true rfl)
  rw [lg_entry_eq]
  generalize (lg_sl ([.ref o0, .int p0, .int p1, .int p2]) ++ List.replicate (6 - (lg_sl ([.ref o0, .int p0, .int p1, .int p2])).length) Slot.unset).toArray = ls at hl ⊢
  have hl : lv_has ls 6 [(0, .ref o0), (1, .int p0), (2, .int p1), (3, .int p2)] := hl
  refine lv_aload_n hx hb dX12_weather_0 rfl (lv_at hl 0 rfl) ?_
  refine lv_iconst (v := 0) hx hb dX12_weather_1 (by decide) ?_
  refine tw_put (v := .int 0) (ty := .int) hx hb hts bF_X12 tyX12 tyX12_ok nmX12 hown hK hT hG hS hr_o0 shm_0 rfl 0 (by decide) (ht_at hts 0 rfl) (fun _ h9 => h9) rfl (by decide +kernel) rfl rfl (gl_at rfl (gi_all _)) dX12_weather_2 (fun H locs hT oq m1 oj hS => ?_)
  have hF := hF.put hr_o0 skm_0 oq oj (by decide)
  refine lv_aload_n hx hb dX12_weather_5 rfl (lv_at hl 0 rfl) ?_
  refine lv_iload_n hx hb dX12_weather_6 rfl (lv_at hl 2 rfl) ?_
  refine lv_iconst (v := 0) hx hb dX12_weather_7 (by decide) ?_
  refine lv_ldc (v := 40000) hx hb hown (ht_at hts 1 rfl) dX12_weather_8 ?_
  have hFc := gA_free hG hA hS
  refine va_calli (va_runS (As := [.int p1, .int 0, .int 40000]) (rest := [.ref o0]) ⟨hx, hb, hml, hown, hts⟩ (s_in l dC dI kA G H q wN wH wB wC wL wK PI p1 0 40000 hT (by omega) (by omega) (by omega) (by omega)) (va_cwS 3 hts (goodIn_app (goodIn_r _ [4, 5, 6] (by decide +kernel) (by decide +kernel)) (goodIn_ca (goodIn_r _ [3] (by decide +kernel) (by decide +kernel)) (bs_in _ _))) rfl rfl rfl (by decide +kernel) ⟨(Nat.le_of_ble_eq_true rfl), (Nat.le_of_ble_eq_true rfl)⟩) ⟨fun a U g mk q => by obtain ⟨q0, q1, qK, qE⟩ := q; exact ⟨q0, q1, va_K.moved (u := U) (U := U.calling g mk a) (Vm.Alike.refl U.vm) qK, EV.blind g mk a qE⟩, fun U hU hW => ⟨rfl, hU, va_K.moved hW.alike hK, hE.call hS hFc hU hW⟩⟩ rfl rfl hl.1 rfl (lv_room (Nat.le_of_ble_eq_true rfl)) dX12_weather_10 ⟨(Nat.le_of_ble_eq_true rfl), (Nat.le_of_ble_eq_true rfl)⟩) hS (fun q _ h => hFc q h) hFc (fun r2 u t H locs ht hvm hw3 hB _ _ hS => ?_)
  obtain ⟨hT, hF1⟩ := hB
  rw [ht] at hT hF1
  have m4 := (hF1.fld hr_o0 skm_0 (k := 0) (by decide) (by decide)).trans m1
  have hF := hF.more hF1 (by decide)
  try dsimp only at hw3
  obtain ⟨h5, hi6, hi7⟩ := hw3
  refine lv_if_eq (tgt := 43) hx hb dX12_weather_13 (by decide) (fun c8 => ?_) (fun c8 => ?_)
  · have t9 : r2.toInt = 0 := ti_eq c8 rfl (by decide)
    have t10 : (0 : Int32).toInt = 0 := by decide
    have t11 : (40000 : Int32).toInt = 40000 := by decide
    have t12 : p1.toInt < (0 : Int32).toInt ∨ (40000 : Int32).toInt < p1.toInt := hi7 c8
    refine lv_iconst (v := 1) hx hb dX12_weather_43 (by decide) ?_
    refine lv_goto (tgt := 48) hx hb dX12_weather_44 (by decide) ?_
    refine lv_iconst (v := 1) hx hb dX12_weather_48 (by decide) ?_
    have hFc := gA_free hG hA hS
    refine va_calli (va_runV (As := [.int 1, .int 1]) (rest := []) ⟨hx, hb, hml, hown, hts⟩ (s_throwsIf l dC dI kA G H q wN wH wB wC wL wK PI o0 1 1 hT hr_o0 (rg_t (a := 1) (by decide) (by omega) (by omega)) (by omega) (by omega) (by omega) (by omega)) (cwV 2 hts (goodIn_app (goodIn_r _ [8, 9, 10, 6] (by decide +kernel) (by decide +kernel)) (goodIn_ca (goodIn_r _ [7, 1] (by decide +kernel) (by decide +kernel)) (bs_in _ _))) rfl rfl rfl (by decide +kernel) ⟨(Nat.le_of_ble_eq_true rfl), (Nat.le_of_ble_eq_true rfl)⟩) ⟨fun a U g mk q => by obtain ⟨q0, q1, qK, qE⟩ := q; exact ⟨q0, q1, va_K.moved (u := U) (U := U.calling g mk a) (Vm.Alike.refl U.vm) qK, EV.blind g mk a qE⟩, gH_recv hK hT hr_o0 shm_0 rfl, fun U hU hW => ⟨rfl, hU, va_K.moved hW.alike hK, hE.call hS hFc hU hW⟩⟩ rfl rfl hl.1 rfl (lv_room (Nat.le_of_ble_eq_true rfl)) dX12_weather_49 ⟨(Nat.le_of_ble_eq_true rfl), (Nat.le_of_ble_eq_true rfl)⟩) hS (fun q _ h => hFc q h) hFc (fun r13 u t H locs ht hvm hw14 hB _ _ hS => ?_)
    obtain ⟨hT, hF1⟩ := hB
    rw [ht] at hT hF1
    have hF := hF.more hF1 (by decide)
    try dsimp only at hw14
    obtain ⟨h16, hd17⟩ := hw14
    obtain rfl : (1 : Int32) = r13 := hd17.symm
    refine lv_if_eq (tgt := 57) hx hb dX12_weather_52 (by decide) (fun c18 => absurd c18 (by decide)) (fun c18 => ?_)
    refine lv_iconst (v := 0) hx hb dX12_weather_55 (by decide) ?_
    exact W.iret (v := 0) hx hb hr (fun t ht hW => ⟨⟨0, (), rfl, (by exact (rg_t (a := 0) (by decide) (by omega) (by omega))), by (try dsimp only); rw [ht]; exact ⟨hT, hF⟩⟩, hS.F ht⟩) hS.2.2 dX12_weather_56
  · have t19 : r2.toInt ≠ 0 := ti_ne c8 rfl (by decide)
    have t20 : (0 : Int32).toInt = 0 := by decide
    have t21 : (40000 : Int32).toInt = 40000 := by decide
    have t22 : (0 : Int32).toInt ≤ p1.toInt ∧ p1.toInt ≤ (40000 : Int32).toInt := hi6 ((bit_of ⟨by omega, by omega⟩).resolve_left c8)
    refine lv_iload_n hx hb dX12_weather_16 rfl (lv_at hl 1 rfl) ?_
    refine lv_if_eq (tgt := 33) hx hb dX12_weather_17 (by decide) (fun c23 => ?_) (fun c23 => ?_)
    · have t24 : p0.toInt = 0 := ti_eq c23 rfl (by decide)
      refine lv_iload_n hx hb dX12_weather_33 rfl (lv_at hl 3 rfl) ?_
      refine lv_iconst (v := (-1)) hx hb dX12_weather_34 (by decide) ?_
      refine lv_bipush (v := 9) hx hb dX12_weather_35 (by decide) ?_
      have hFc := gA_free hG hA hS
      refine va_calli (va_runS (As := [.int p2, .int (-1), .int 9]) (rest := [.ref o0]) ⟨hx, hb, hml, hown, hts⟩ (s_in l dC dI kA G H q wN wH wB wC wL wK PI p2 (-1) 9 hT (by omega) (by omega) (by omega) (by omega)) (va_cwS 3 hts (goodIn_app (goodIn_r _ [4, 5, 6] (by decide +kernel) (by decide +kernel)) (goodIn_ca (goodIn_r _ [3] (by decide +kernel) (by decide +kernel)) (bs_in _ _))) rfl rfl rfl (by decide +kernel) ⟨(Nat.le_of_ble_eq_true rfl), (Nat.le_of_ble_eq_true rfl)⟩) ⟨fun a U g mk q => by obtain ⟨q0, q1, qK, qE⟩ := q; exact ⟨q0, q1, va_K.moved (u := U) (U := U.calling g mk a) (Vm.Alike.refl U.vm) qK, EV.blind g mk a qE⟩, fun U hU hW => ⟨rfl, hU, va_K.moved hW.alike hK, hE.call hS hFc hU hW⟩⟩ rfl rfl hl.1 rfl (lv_room (Nat.le_of_ble_eq_true rfl)) dX12_weather_37 ⟨(Nat.le_of_ble_eq_true rfl), (Nat.le_of_ble_eq_true rfl)⟩) hS (fun q _ h => hFc q h) hFc (fun r25 u t H locs ht hvm hw26 hB _ _ hS => ?_)
      obtain ⟨hT, hF1⟩ := hB
      rw [ht] at hT hF1
      have m27 := (hF1.fld hr_o0 skm_0 (k := 0) (by decide) (by decide)).trans m4
      have hF := hF.more hF1 (by decide)
      try dsimp only at hw26
      obtain ⟨h28, hi29, hi30⟩ := hw26
      refine lv_if_ne (tgt := 47) hx hb dX12_weather_40 (by decide) (fun c31 => ?_) (fun c31 => ?_)
      · have t32 : r25.toInt ≠ 0 := ti_ne c31 rfl (by decide)
        have t33 : (-1 : Int32).toInt = (-1) := by decide
        have t34 : (9 : Int32).toInt = 9 := by decide
        have t35 : (-1 : Int32).toInt ≤ p2.toInt ∧ p2.toInt ≤ (9 : Int32).toInt := hi29 ((bit_of ⟨by omega, by omega⟩).resolve_left c31)
        refine lv_iconst (v := 0) hx hb dX12_weather_47 (by decide) ?_
        refine lv_iconst (v := 1) hx hb dX12_weather_48 (by decide) ?_
        have hFc := gA_free hG hA hS
        refine va_calli (va_runV (As := [.int 0, .int 1]) (rest := []) ⟨hx, hb, hml, hown, hts⟩ (s_throwsIf l dC dI kA G H q wN wH wB wC wL wK PI o0 0 1 hT hr_o0 (rg_t (a := 0) (by decide) (by omega) (by omega)) (by omega) (by omega) (by omega) (by omega)) (cwV 2 hts (goodIn_app (goodIn_r _ [8, 9, 10, 6] (by decide +kernel) (by decide +kernel)) (goodIn_ca (goodIn_r _ [7, 1] (by decide +kernel) (by decide +kernel)) (bs_in _ _))) rfl rfl rfl (by decide +kernel) ⟨(Nat.le_of_ble_eq_true rfl), (Nat.le_of_ble_eq_true rfl)⟩) ⟨fun a U g mk q => by obtain ⟨q0, q1, qK, qE⟩ := q; exact ⟨q0, q1, va_K.moved (u := U) (U := U.calling g mk a) (Vm.Alike.refl U.vm) qK, EV.blind g mk a qE⟩, gH_recv hK hT hr_o0 shm_0 rfl, fun U hU hW => ⟨rfl, hU, va_K.moved hW.alike hK, hE.call hS hFc hU hW⟩⟩ rfl rfl hl.1 rfl (lv_room (Nat.le_of_ble_eq_true rfl)) dX12_weather_49 ⟨(Nat.le_of_ble_eq_true rfl), (Nat.le_of_ble_eq_true rfl)⟩) hS (fun q _ h => hFc q h) hFc (fun r36 u t H locs ht hvm hw37 hB _ _ hS => ?_)
        obtain ⟨hT, hF1⟩ := hB
        rw [ht] at hT hF1
        have hF := hF.more hF1 (by decide)
        try dsimp only at hw37
        obtain ⟨h39, hd40⟩ := hw37
        obtain rfl : (0 : Int32) = r36 := hd40.symm
        refine lv_if_eq (tgt := 57) hx hb dX12_weather_52 (by decide) (fun c41 => ?_) (fun c41 => absurd c41 (by decide))
        refine lv_iload_n hx hb dX12_weather_57 rfl (lv_at hl 1 rfl) ?_
        refine lv_if_eq (tgt := 67) hx hb dX12_weather_58 (by decide) (fun c42 => ?_) (fun c42 => (by exfalso; have q9 : p0.toInt ≠ 0 := ti_ne c42 rfl (by decide); omega))
        have t43 : p0.toInt = 0 := ti_eq c42 rfl (by decide)
        refine lv_sipush (v := 1503) hx hb dX12_weather_67 (by decide) ?_
        refine lv_istore (lv' := [(4, .int 1503), (0, .ref o0), (1, .int p0), (2, .int p1), (3, .int p2)]) hx hb dX12_weather_70 hl (by decide) rfl (fun ls hl => ?_)
        refine lv_iload_n hx hb dX12_weather_72 rfl (lv_at hl 2 rfl) ?_
        refine lv_if_eq (tgt := 82) hx hb dX12_weather_73 (by decide) (fun c44 => ?_) (fun c44 => (by exfalso; have q9 : p0.toInt ≠ 0 := ti_ne c44 rfl (by decide); omega))
        have t45 : p0.toInt = 0 := ti_eq c44 rfl (by decide)
        refine lv_sipush (v := 1504) hx hb dX12_weather_82 (by decide) ?_
        refine lv_iconst (v := 2) hx hb dX12_weather_85 (by decide) ?_
        refine lv_aload_n hx hb dX12_weather_86 rfl (lv_at hl 1 rfl) ?_
        refine tw_get hx hb hts bF_X12 hown hK hT hr_o0 shm_0 rfl 1 (by decide) (ht_at hts 10 rfl) (fun _ h9 => h9) dX12_weather_87 (fun v9 m46 h9 => ?_)
        obtain ⟨rfl, hg47⟩ := h9 _ rfl
        refine lv_iload hx hb dX12_weather_90 (lv_at hl 0 rfl) ?_
        refine tw_iald (i := 1503) hx hb hK hT hg47 shm_2 rfl (by unfold vp_in; decide) dX12_weather_92 (fun v9 m48 h9 => ?_)
        obtain ⟨x49, rfl, gx49, kx49⟩ := (gp_at h9 (w_wic (by have q9 := tn_of (show (1503 : Int32).toInt = 1503 from (by decide)) (show (0 : Int) ≤ 1503 from by omega); omega)))
        refine lv_imul hx hb dX12_weather_93 ?_
        refine lv_topi (fun x50 ex50 => ?_)
        have t51 : x50.toInt = 2 * x49.toInt := ti_mul ex50 (by decide) rfl (by omega) (by omega)
        refine lv_iadd hx hb dX12_weather_94 ?_
        refine lv_topi (fun x52 ex52 => ?_)
        have t53 : x52.toInt = 1504 + x50.toInt := ti_add ex52 (by decide) rfl (by omega) (by omega)
        refine lv_istore (lv' := [(5, .int x52), (4, .int 1503), (0, .ref o0), (1, .int p0), (2, .int p1), (3, .int p2)]) hx hb dX12_weather_95 hl (by decide) rfl (fun ls hl => ?_)
        refine lv_aload_n hx hb dX12_weather_97 rfl (lv_at hl 2 rfl) ?_
        refine tw_get hx hb hts bF_X12 hown hK hT hr_o0 shm_0 rfl 1 (by decide) (ht_at hts 10 rfl) (fun _ h9 => h9) dX12_weather_98 (fun v9 m54 h9 => ?_)
        obtain ⟨rfl, hg55⟩ := h9 _ rfl
        refine lv_iload hx hb dX12_weather_101 (lv_at hl 1 rfl) ?_
        refine tw_iald (i := 1503) hx hb hK hT hg47 shm_2 rfl (by unfold vp_in; decide) dX12_weather_103 (fun v9 m56 h9 => ?_)
        obtain ⟨x57, rfl, gx57, kx57⟩ := (gp_at h9 (w_wic (by have q9 := tn_of (show (1503 : Int32).toInt = 1503 from (by decide)) (show (0 : Int) ≤ 1503 from by omega); omega)))
        obtain rfl : x49 = x57 := (el_same m56 m48 rfl).symm
        refine lv_bipush (v := 60) hx hb dX12_weather_104 (by decide) ?_
        refine lv_icmp_ne (tgt := 111) hx hb dX12_weather_106 (by decide) (fun c58 => ?_) (fun c58 => ?_)
        · have t59 : x49.toInt ≠ 60 := ti_ne c58 rfl (by decide)
          refine lv_aload_n hx hb dX12_weather_111 rfl (lv_at hl 2 rfl) ?_
          refine tw_get hx hb hts bF_X12 hown hK hT hr_o0 shm_0 rfl 1 (by decide) (ht_at hts 10 rfl) (fun _ h9 => h9) dX12_weather_112 (fun v9 m60 h9 => ?_)
          obtain ⟨rfl, hg61⟩ := h9 _ rfl
          refine lv_iload hx hb dX12_weather_115 (lv_at hl 0 rfl) ?_
          refine lv_iload_n hx hb dX12_weather_117 rfl (lv_at hl 4 rfl) ?_
          refine tw_iast (i := x52) (x := p1) hx hb hK hT hG hS hg47 shm_2 rfl (vin_t (a := x52.toInt) rfl (by omega) (by omega)) (gp_of (gi_all _) (w_fre (by have q9 := tn_of (show x52.toInt = x52.toInt from rfl) (show (0 : Int) ≤ x52.toInt from by omega); omega)) (wX_o (by have q9 := tn_of (show x52.toInt = x52.toInt from rfl) (show (0 : Int) ≤ x52.toInt from by omega); omega) (by omega))) dX12_weather_118 (fun H locs hT oq m62 oi hS => ?_)
          have hF := hF.ast hg47 skm_2 oq (by decide)
          have m63 := (oi _ (tn_ne (show (1503 : Int32).toInt = 1503 from (by decide)) (show x52.toInt = x52.toInt from rfl) (by omega) (by omega) (by omega))).trans m48
          refine lv_aload_n hx hb dX12_weather_119 rfl (lv_at hl 2 rfl) ?_
          refine tw_get hx hb hts bF_X12 hown hK hT hr_o0 shm_0 rfl 1 (by decide) (ht_at hts 10 rfl) (fun _ h9 => h9) dX12_weather_120 (fun v9 m64 h9 => ?_)
          obtain ⟨rfl, hg65⟩ := h9 _ rfl
          refine lv_iload hx hb dX12_weather_123 (lv_at hl 0 rfl) ?_
          refine lv_iconst (v := 1) hx hb dX12_weather_125 (by decide) ?_
          refine lv_iadd hx hb dX12_weather_126 ?_
          refine lv_topi (fun x66 ex66 => ?_)
          have t67 : x66.toInt = x52.toInt + 1 := ti_add ex66 rfl (by decide) (by omega) (by omega)
          refine lv_iload_n hx hb dX12_weather_127 rfl (lv_at hl 5 rfl) ?_
          refine tw_iast (i := x66) (x := p2) hx hb hK hT hG hS hg47 shm_2 rfl (vin_t (a := x66.toInt) rfl (by omega) (by omega)) (gp_of (gi_of (show p2.toInt = p2.toInt from rfl) (by omega) (by omega)) (w_wid (by have q9 := tn_of (show x66.toInt = x66.toInt from rfl) (show (0 : Int) ≤ x66.toInt from by omega); omega)) (wX_o (by have q9 := tn_of (show x66.toInt = x66.toInt from rfl) (show (0 : Int) ≤ x66.toInt from by omega); omega) (by omega))) dX12_weather_128 (fun H locs hT oq m68 oi hS => ?_)
          have hF := hF.ast hg47 skm_2 oq (by decide)
          have m69 := (oi _ (tn_ne (show (1503 : Int32).toInt = 1503 from (by decide)) (show x66.toInt = x66.toInt from rfl) (by omega) (by omega) (by omega))).trans m63
          have m70 := (oi _ (tn_ne (show x52.toInt = x52.toInt from rfl) (show x66.toInt = x66.toInt from rfl) (by omega) (by omega) (by omega))).trans m62
          refine lv_aload_n hx hb dX12_weather_129 rfl (lv_at hl 2 rfl) ?_
          refine tw_get hx hb hts bF_X12 hown hK hT hr_o0 shm_0 rfl 1 (by decide) (ht_at hts 10 rfl) (fun _ h9 => h9) dX12_weather_130 (fun v9 m71 h9 => ?_)
          obtain ⟨rfl, hg72⟩ := h9 _ rfl
          refine lv_iload hx hb dX12_weather_133 (lv_at hl 1 rfl) ?_
          refine lv_dup2_11 hx hb dX12_weather_135 rfl rfl ?_
          refine tw_iald (i := 1503) hx hb hK hT hg47 shm_2 rfl (by unfold vp_in; decide) dX12_weather_136 (fun v9 m73 h9 => ?_)
          obtain ⟨x74, rfl, gx74, kx74⟩ := (gp_at h9 (w_wic (by have q9 := tn_of (show (1503 : Int32).toInt = 1503 from (by decide)) (show (0 : Int) ≤ 1503 from by omega); omega)))
          obtain rfl : x49 = x74 := (el_same m73 m69 rfl).symm
          refine lv_iconst (v := 1) hx hb dX12_weather_137 (by decide) ?_
          refine lv_iadd hx hb dX12_weather_138 ?_
          refine lv_topi (fun x75 ex75 => ?_)
          have t76 : x75.toInt = x49.toInt + 1 := ti_add ex75 rfl (by decide) (by omega) (by omega)
          refine tw_iast (i := 1503) (x := x75) hx hb hK hT hG hS hg47 shm_2 rfl (by unfold vp_in; decide) (gp_of (gi_of (show x75.toInt = x75.toInt from rfl) (by omega) (by omega)) (w_wic (by have q9 := tn_of (show (1503 : Int32).toInt = 1503 from (by decide)) (show (0 : Int) ≤ 1503 from by omega); omega)) (wX_o (by have q9 := tn_of (show (1503 : Int32).toInt = 1503 from (by decide)) (show (0 : Int) ≤ 1503 from by omega); omega) (by omega))) dX12_weather_139 (fun H locs hT oq m77 oi hS => ?_)
          have hF := hF.ast hg47 skm_2 oq (by decide)
          have m78 := (oi _ (tn_ne (show x52.toInt = x52.toInt from rfl) (show (1503 : Int32).toInt = 1503 from (by decide)) (by omega) (by omega) (by omega))).trans m70
          have m79 := (oi _ (tn_ne (show x66.toInt = x66.toInt from rfl) (show (1503 : Int32).toInt = 1503 from (by decide)) (by omega) (by omega) (by omega))).trans m68
          refine lv_aload_n hx hb dX12_weather_140 rfl (lv_at hl 2 rfl) ?_
          refine lv_iconst (v := 0) hx hb dX12_weather_141 (by decide) ?_
          refine tw_put (v := .int 0) (ty := .int) hx hb hts bF_X12 tyX12 tyX12_ok nmX12 hown hK hT hG hS hr_o0 shm_0 rfl 9 (by decide) (ht_at hts 11 rfl) (fun _ h9 => h9) rfl (by decide +kernel) rfl rfl (gl_at rfl (gi_of (show (0 : Int32).toInt = 0 from (by decide)) (by omega) (by omega))) dX12_weather_142 (fun H locs hT oq m80 oj hS => ?_)
          have hF := hF.put hr_o0 skm_0 oq oj (by decide)
          have m81 := (el_kept (oq _ (gne hg47 hr_o0 (by decide)))).trans m78
          have m82 := (el_kept (oq _ (gne hg47 hr_o0 (by decide)))).trans m79
          have m83 := (el_kept (oq _ (gne hg47 hr_o0 (by decide)))).trans m77
          refine lv_aload_n hx hb dX12_weather_145 rfl (lv_at hl 2 rfl) ?_
          refine tw_get hx hb hts bF_X12 hown hK hT hr_o0 shm_0 rfl 1 (by decide) (ht_at hts 10 rfl) (fun _ h9 => h9) dX12_weather_146 (fun v9 m84 h9 => ?_)
          obtain ⟨rfl, hg85⟩ := h9 _ rfl
          refine lv_iload hx hb dX12_weather_149 (lv_at hl 1 rfl) ?_
          refine tw_iald (i := 1503) hx hb hK hT hg47 shm_2 rfl (by unfold vp_in; decide) dX12_weather_151 (fun v9 m86 h9 => ?_)
          obtain ⟨x87, rfl, gx87, kx87⟩ := (gp_at h9 (w_wic (by have q9 := tn_of (show (1503 : Int32).toInt = 1503 from (by decide)) (show (0 : Int) ≤ 1503 from by omega); omega)))
          obtain rfl : x75 = x87 := (el_same m86 m83 rfl).symm
          exact W.iret (v := x75) hx hb hr (fun t ht hW => ⟨⟨x75, (), rfl, (by exact (rg_t (a := x75.toInt) rfl (by have q8 := ti_all x75; omega) (by have q8 := ti_all x75; omega))), by (try dsimp only); rw [ht]; exact ⟨hT, hF⟩⟩, hS.F ht⟩) hS.2.2 dX12_weather_152
        · have t88 : x49.toInt = 60 := ti_eq c58 rfl (by decide)
          refine lv_iconst (v := (-1)) hx hb dX12_weather_109 (by decide) ?_
          exact W.iret (v := (-1)) hx hb hr (fun t ht hW => ⟨⟨(-1), (), rfl, (by exact (rg_t (a := (-1)) (by decide) (by omega) (by omega))), by (try dsimp only); rw [ht]; exact ⟨hT, hF⟩⟩, hS.F ht⟩) hS.2.2 dX12_weather_110
      · have t89 : r25.toInt = 0 := ti_eq c31 rfl (by decide)
        have t90 : (-1 : Int32).toInt = (-1) := by decide
        have t91 : (9 : Int32).toInt = 9 := by decide
        have t92 : p2.toInt < (-1 : Int32).toInt ∨ (9 : Int32).toInt < p2.toInt := hi30 c31
        refine lv_iconst (v := 1) hx hb dX12_weather_43 (by decide) ?_
        refine lv_goto (tgt := 48) hx hb dX12_weather_44 (by decide) ?_
        refine lv_iconst (v := 1) hx hb dX12_weather_48 (by decide) ?_
        have hFc := gA_free hG hA hS
        refine va_calli (va_runV (As := [.int 1, .int 1]) (rest := []) ⟨hx, hb, hml, hown, hts⟩ (s_throwsIf l dC dI kA G H q wN wH wB wC wL wK PI o0 1 1 hT hr_o0 (rg_t (a := 1) (by decide) (by omega) (by omega)) (by omega) (by omega) (by omega) (by omega)) (cwV 2 hts (goodIn_app (goodIn_r _ [8, 9, 10, 6] (by decide +kernel) (by decide +kernel)) (goodIn_ca (goodIn_r _ [7, 1] (by decide +kernel) (by decide +kernel)) (bs_in _ _))) rfl rfl rfl (by decide +kernel) ⟨(Nat.le_of_ble_eq_true rfl), (Nat.le_of_ble_eq_true rfl)⟩) ⟨fun a U g mk q => by obtain ⟨q0, q1, qK, qE⟩ := q; exact ⟨q0, q1, va_K.moved (u := U) (U := U.calling g mk a) (Vm.Alike.refl U.vm) qK, EV.blind g mk a qE⟩, gH_recv hK hT hr_o0 shm_0 rfl, fun U hU hW => ⟨rfl, hU, va_K.moved hW.alike hK, hE.call hS hFc hU hW⟩⟩ rfl rfl hl.1 rfl (lv_room (Nat.le_of_ble_eq_true rfl)) dX12_weather_49 ⟨(Nat.le_of_ble_eq_true rfl), (Nat.le_of_ble_eq_true rfl)⟩) hS (fun q _ h => hFc q h) hFc (fun r93 u t H locs ht hvm hw94 hB _ _ hS => ?_)
        obtain ⟨hT, hF1⟩ := hB
        rw [ht] at hT hF1
        have hF := hF.more hF1 (by decide)
        try dsimp only at hw94
        obtain ⟨h96, hd97⟩ := hw94
        obtain rfl : (1 : Int32) = r93 := hd97.symm
        refine lv_if_eq (tgt := 57) hx hb dX12_weather_52 (by decide) (fun c98 => absurd c98 (by decide)) (fun c98 => ?_)
        refine lv_iconst (v := 0) hx hb dX12_weather_55 (by decide) ?_
        exact W.iret (v := 0) hx hb hr (fun t ht hW => ⟨⟨0, (), rfl, (by exact (rg_t (a := 0) (by decide) (by omega) (by omega))), by (try dsimp only); rw [ht]; exact ⟨hT, hF⟩⟩, hS.F ht⟩) hS.2.2 dX12_weather_56
    · have t99 : p0.toInt ≠ 0 := ti_ne c23 rfl (by decide)
      refine lv_iload_n hx hb dX12_weather_20 rfl (lv_at hl 3 rfl) ?_
      refine lv_iconst (v := 0) hx hb dX12_weather_21 (by decide) ?_
      refine lv_bipush (v := 20) hx hb dX12_weather_22 (by decide) ?_
      have hFc := gA_free hG hA hS
      refine va_calli (va_runS (As := [.int p2, .int 0, .int 20]) (rest := [.ref o0]) ⟨hx, hb, hml, hown, hts⟩ (s_in l dC dI kA G H q wN wH wB wC wL wK PI p2 0 20 hT (by omega) (by omega) (by omega) (by omega)) (va_cwS 3 hts (goodIn_app (goodIn_r _ [4, 5, 6] (by decide +kernel) (by decide +kernel)) (goodIn_ca (goodIn_r _ [3] (by decide +kernel) (by decide +kernel)) (bs_in _ _))) rfl rfl rfl (by decide +kernel) ⟨(Nat.le_of_ble_eq_true rfl), (Nat.le_of_ble_eq_true rfl)⟩) ⟨fun a U g mk q => by obtain ⟨q0, q1, qK, qE⟩ := q; exact ⟨q0, q1, va_K.moved (u := U) (U := U.calling g mk a) (Vm.Alike.refl U.vm) qK, EV.blind g mk a qE⟩, fun U hU hW => ⟨rfl, hU, va_K.moved hW.alike hK, hE.call hS hFc hU hW⟩⟩ rfl rfl hl.1 rfl (lv_room (Nat.le_of_ble_eq_true rfl)) dX12_weather_24 ⟨(Nat.le_of_ble_eq_true rfl), (Nat.le_of_ble_eq_true rfl)⟩) hS (fun q _ h => hFc q h) hFc (fun r100 u t H locs ht hvm hw101 hB _ _ hS => ?_)
      obtain ⟨hT, hF1⟩ := hB
      rw [ht] at hT hF1
      have m102 := (hF1.fld hr_o0 skm_0 (k := 0) (by decide) (by decide)).trans m4
      have hF := hF.more hF1 (by decide)
      try dsimp only at hw101
      obtain ⟨h103, hi104, hi105⟩ := hw101
      refine lv_if_ne (tgt := 47) hx hb dX12_weather_27 (by decide) (fun c106 => ?_) (fun c106 => ?_)
      · have t107 : r100.toInt ≠ 0 := ti_ne c106 rfl (by decide)
        have t108 : (0 : Int32).toInt = 0 := by decide
        have t109 : (20 : Int32).toInt = 20 := by decide
        have t110 : (0 : Int32).toInt ≤ p2.toInt ∧ p2.toInt ≤ (20 : Int32).toInt := hi104 ((bit_of ⟨by omega, by omega⟩).resolve_left c106)
        refine lv_iconst (v := 0) hx hb dX12_weather_47 (by decide) ?_
        refine lv_iconst (v := 1) hx hb dX12_weather_48 (by decide) ?_
        have hFc := gA_free hG hA hS
        refine va_calli (va_runV (As := [.int 0, .int 1]) (rest := []) ⟨hx, hb, hml, hown, hts⟩ (s_throwsIf l dC dI kA G H q wN wH wB wC wL wK PI o0 0 1 hT hr_o0 (rg_t (a := 0) (by decide) (by omega) (by omega)) (by omega) (by omega) (by omega) (by omega)) (cwV 2 hts (goodIn_app (goodIn_r _ [8, 9, 10, 6] (by decide +kernel) (by decide +kernel)) (goodIn_ca (goodIn_r _ [7, 1] (by decide +kernel) (by decide +kernel)) (bs_in _ _))) rfl rfl rfl (by decide +kernel) ⟨(Nat.le_of_ble_eq_true rfl), (Nat.le_of_ble_eq_true rfl)⟩) ⟨fun a U g mk q => by obtain ⟨q0, q1, qK, qE⟩ := q; exact ⟨q0, q1, va_K.moved (u := U) (U := U.calling g mk a) (Vm.Alike.refl U.vm) qK, EV.blind g mk a qE⟩, gH_recv hK hT hr_o0 shm_0 rfl, fun U hU hW => ⟨rfl, hU, va_K.moved hW.alike hK, hE.call hS hFc hU hW⟩⟩ rfl rfl hl.1 rfl (lv_room (Nat.le_of_ble_eq_true rfl)) dX12_weather_49 ⟨(Nat.le_of_ble_eq_true rfl), (Nat.le_of_ble_eq_true rfl)⟩) hS (fun q _ h => hFc q h) hFc (fun r111 u t H locs ht hvm hw112 hB _ _ hS => ?_)
        obtain ⟨hT, hF1⟩ := hB
        rw [ht] at hT hF1
        have hF := hF.more hF1 (by decide)
        try dsimp only at hw112
        obtain ⟨h114, hd115⟩ := hw112
        obtain rfl : (0 : Int32) = r111 := hd115.symm
        refine lv_if_eq (tgt := 57) hx hb dX12_weather_52 (by decide) (fun c116 => ?_) (fun c116 => absurd c116 (by decide))
        refine lv_iload_n hx hb dX12_weather_57 rfl (lv_at hl 1 rfl) ?_
        refine lv_if_eq (tgt := 67) hx hb dX12_weather_58 (by decide) (fun c117 => (by exfalso; have q9 : p0.toInt = 0 := ti_eq c117 rfl (by decide); omega)) (fun c117 => ?_)
        have t118 : p0.toInt ≠ 0 := ti_ne c117 rfl (by decide)
        refine lv_sipush (v := 1624) hx hb dX12_weather_61 (by decide) ?_
        refine lv_goto (tgt := 70) hx hb dX12_weather_64 (by decide) ?_
        refine lv_istore (lv' := [(4, .int 1624), (0, .ref o0), (1, .int p0), (2, .int p1), (3, .int p2)]) hx hb dX12_weather_70 hl (by decide) rfl (fun ls hl => ?_)
        refine lv_iload_n hx hb dX12_weather_72 rfl (lv_at hl 2 rfl) ?_
        refine lv_if_eq (tgt := 82) hx hb dX12_weather_73 (by decide) (fun c119 => (by exfalso; have q9 : p0.toInt = 0 := ti_eq c119 rfl (by decide); omega)) (fun c119 => ?_)
        have t120 : p0.toInt ≠ 0 := ti_ne c119 rfl (by decide)
        refine lv_sipush (v := 1625) hx hb dX12_weather_76 (by decide) ?_
        refine lv_goto (tgt := 85) hx hb dX12_weather_79 (by decide) ?_
        refine lv_iconst (v := 2) hx hb dX12_weather_85 (by decide) ?_
        refine lv_aload_n hx hb dX12_weather_86 rfl (lv_at hl 1 rfl) ?_
        refine tw_get hx hb hts bF_X12 hown hK hT hr_o0 shm_0 rfl 1 (by decide) (ht_at hts 10 rfl) (fun _ h9 => h9) dX12_weather_87 (fun v9 m121 h9 => ?_)
        obtain ⟨rfl, hg122⟩ := h9 _ rfl
        refine lv_iload hx hb dX12_weather_90 (lv_at hl 0 rfl) ?_
        refine tw_iald (i := 1624) hx hb hK hT hg122 shm_2 rfl (by unfold vp_in; decide) dX12_weather_92 (fun v9 m123 h9 => ?_)
        obtain ⟨x124, rfl, gx124, kx124⟩ := (gp_at h9 (w_rac (by have q9 := tn_of (show (1624 : Int32).toInt = 1624 from (by decide)) (show (0 : Int) ≤ 1624 from by omega); omega)))
        refine lv_imul hx hb dX12_weather_93 ?_
        refine lv_topi (fun x125 ex125 => ?_)
        have t126 : x125.toInt = 2 * x124.toInt := ti_mul ex125 (by decide) rfl (by omega) (by omega)
        refine lv_iadd hx hb dX12_weather_94 ?_
        refine lv_topi (fun x127 ex127 => ?_)
        have t128 : x127.toInt = 1625 + x125.toInt := ti_add ex127 (by decide) rfl (by omega) (by omega)
        refine lv_istore (lv' := [(5, .int x127), (4, .int 1624), (0, .ref o0), (1, .int p0), (2, .int p1), (3, .int p2)]) hx hb dX12_weather_95 hl (by decide) rfl (fun ls hl => ?_)
        refine lv_aload_n hx hb dX12_weather_97 rfl (lv_at hl 2 rfl) ?_
        refine tw_get hx hb hts bF_X12 hown hK hT hr_o0 shm_0 rfl 1 (by decide) (ht_at hts 10 rfl) (fun _ h9 => h9) dX12_weather_98 (fun v9 m129 h9 => ?_)
        obtain ⟨rfl, hg130⟩ := h9 _ rfl
        refine lv_iload hx hb dX12_weather_101 (lv_at hl 1 rfl) ?_
        refine tw_iald (i := 1624) hx hb hK hT hg122 shm_2 rfl (by unfold vp_in; decide) dX12_weather_103 (fun v9 m131 h9 => ?_)
        obtain ⟨x132, rfl, gx132, kx132⟩ := (gp_at h9 (w_rac (by have q9 := tn_of (show (1624 : Int32).toInt = 1624 from (by decide)) (show (0 : Int) ≤ 1624 from by omega); omega)))
        obtain rfl : x124 = x132 := (el_same m131 m123 rfl).symm
        refine lv_bipush (v := 60) hx hb dX12_weather_104 (by decide) ?_
        refine lv_icmp_ne (tgt := 111) hx hb dX12_weather_106 (by decide) (fun c133 => ?_) (fun c133 => ?_)
        · have t134 : x124.toInt ≠ 60 := ti_ne c133 rfl (by decide)
          refine lv_aload_n hx hb dX12_weather_111 rfl (lv_at hl 2 rfl) ?_
          refine tw_get hx hb hts bF_X12 hown hK hT hr_o0 shm_0 rfl 1 (by decide) (ht_at hts 10 rfl) (fun _ h9 => h9) dX12_weather_112 (fun v9 m135 h9 => ?_)
          obtain ⟨rfl, hg136⟩ := h9 _ rfl
          refine lv_iload hx hb dX12_weather_115 (lv_at hl 0 rfl) ?_
          refine lv_iload_n hx hb dX12_weather_117 rfl (lv_at hl 4 rfl) ?_
          refine tw_iast (i := x127) (x := p1) hx hb hK hT hG hS hg122 shm_2 rfl (vin_t (a := x127.toInt) rfl (by omega) (by omega)) (gp_of (gi_all _) (w_fre (by have q9 := tn_of (show x127.toInt = x127.toInt from rfl) (show (0 : Int) ≤ x127.toInt from by omega); omega)) (wX_o (by have q9 := tn_of (show x127.toInt = x127.toInt from rfl) (show (0 : Int) ≤ x127.toInt from by omega); omega) (by omega))) dX12_weather_118 (fun H locs hT oq m137 oi hS => ?_)
          have hF := hF.ast hg122 skm_2 oq (by decide)
          have m138 := (oi _ (tn_ne (show (1624 : Int32).toInt = 1624 from (by decide)) (show x127.toInt = x127.toInt from rfl) (by omega) (by omega) (by omega))).trans m123
          refine lv_aload_n hx hb dX12_weather_119 rfl (lv_at hl 2 rfl) ?_
          refine tw_get hx hb hts bF_X12 hown hK hT hr_o0 shm_0 rfl 1 (by decide) (ht_at hts 10 rfl) (fun _ h9 => h9) dX12_weather_120 (fun v9 m139 h9 => ?_)
          obtain ⟨rfl, hg140⟩ := h9 _ rfl
          refine lv_iload hx hb dX12_weather_123 (lv_at hl 0 rfl) ?_
          refine lv_iconst (v := 1) hx hb dX12_weather_125 (by decide) ?_
          refine lv_iadd hx hb dX12_weather_126 ?_
          refine lv_topi (fun x141 ex141 => ?_)
          have t142 : x141.toInt = x127.toInt + 1 := ti_add ex141 rfl (by decide) (by omega) (by omega)
          refine lv_iload_n hx hb dX12_weather_127 rfl (lv_at hl 5 rfl) ?_
          refine tw_iast (i := x141) (x := p2) hx hb hK hT hG hS hg122 shm_2 rfl (vin_t (a := x141.toInt) rfl (by omega) (by omega)) (gp_of (gi_of (show p2.toInt = p2.toInt from rfl) (by omega) (by omega)) (w_rai (by have q9 := tn_of (show x141.toInt = x141.toInt from rfl) (show (0 : Int) ≤ x141.toInt from by omega); omega)) (wX_o (by have q9 := tn_of (show x141.toInt = x141.toInt from rfl) (show (0 : Int) ≤ x141.toInt from by omega); omega) (by omega))) dX12_weather_128 (fun H locs hT oq m143 oi hS => ?_)
          have hF := hF.ast hg122 skm_2 oq (by decide)
          have m144 := (oi _ (tn_ne (show (1624 : Int32).toInt = 1624 from (by decide)) (show x141.toInt = x141.toInt from rfl) (by omega) (by omega) (by omega))).trans m138
          have m145 := (oi _ (tn_ne (show x127.toInt = x127.toInt from rfl) (show x141.toInt = x141.toInt from rfl) (by omega) (by omega) (by omega))).trans m137
          refine lv_aload_n hx hb dX12_weather_129 rfl (lv_at hl 2 rfl) ?_
          refine tw_get hx hb hts bF_X12 hown hK hT hr_o0 shm_0 rfl 1 (by decide) (ht_at hts 10 rfl) (fun _ h9 => h9) dX12_weather_130 (fun v9 m146 h9 => ?_)
          obtain ⟨rfl, hg147⟩ := h9 _ rfl
          refine lv_iload hx hb dX12_weather_133 (lv_at hl 1 rfl) ?_
          refine lv_dup2_11 hx hb dX12_weather_135 rfl rfl ?_
          refine tw_iald (i := 1624) hx hb hK hT hg122 shm_2 rfl (by unfold vp_in; decide) dX12_weather_136 (fun v9 m148 h9 => ?_)
          obtain ⟨x149, rfl, gx149, kx149⟩ := (gp_at h9 (w_rac (by have q9 := tn_of (show (1624 : Int32).toInt = 1624 from (by decide)) (show (0 : Int) ≤ 1624 from by omega); omega)))
          obtain rfl : x124 = x149 := (el_same m148 m144 rfl).symm
          refine lv_iconst (v := 1) hx hb dX12_weather_137 (by decide) ?_
          refine lv_iadd hx hb dX12_weather_138 ?_
          refine lv_topi (fun x150 ex150 => ?_)
          have t151 : x150.toInt = x124.toInt + 1 := ti_add ex150 rfl (by decide) (by omega) (by omega)
          refine tw_iast (i := 1624) (x := x150) hx hb hK hT hG hS hg122 shm_2 rfl (by unfold vp_in; decide) (gp_of (gi_of (show x150.toInt = x150.toInt from rfl) (by omega) (by omega)) (w_rac (by have q9 := tn_of (show (1624 : Int32).toInt = 1624 from (by decide)) (show (0 : Int) ≤ 1624 from by omega); omega)) (wX_o (by have q9 := tn_of (show (1624 : Int32).toInt = 1624 from (by decide)) (show (0 : Int) ≤ 1624 from by omega); omega) (by omega))) dX12_weather_139 (fun H locs hT oq m152 oi hS => ?_)
          have hF := hF.ast hg122 skm_2 oq (by decide)
          have m153 := (oi _ (tn_ne (show x127.toInt = x127.toInt from rfl) (show (1624 : Int32).toInt = 1624 from (by decide)) (by omega) (by omega) (by omega))).trans m145
          have m154 := (oi _ (tn_ne (show x141.toInt = x141.toInt from rfl) (show (1624 : Int32).toInt = 1624 from (by decide)) (by omega) (by omega) (by omega))).trans m143
          refine lv_aload_n hx hb dX12_weather_140 rfl (lv_at hl 2 rfl) ?_
          refine lv_iconst (v := 0) hx hb dX12_weather_141 (by decide) ?_
          refine tw_put (v := .int 0) (ty := .int) hx hb hts bF_X12 tyX12 tyX12_ok nmX12 hown hK hT hG hS hr_o0 shm_0 rfl 9 (by decide) (ht_at hts 11 rfl) (fun _ h9 => h9) rfl (by decide +kernel) rfl rfl (gl_at rfl (gi_of (show (0 : Int32).toInt = 0 from (by decide)) (by omega) (by omega))) dX12_weather_142 (fun H locs hT oq m155 oj hS => ?_)
          have hF := hF.put hr_o0 skm_0 oq oj (by decide)
          have m156 := (el_kept (oq _ (gne hg122 hr_o0 (by decide)))).trans m153
          have m157 := (el_kept (oq _ (gne hg122 hr_o0 (by decide)))).trans m154
          have m158 := (el_kept (oq _ (gne hg122 hr_o0 (by decide)))).trans m152
          refine lv_aload_n hx hb dX12_weather_145 rfl (lv_at hl 2 rfl) ?_
          refine tw_get hx hb hts bF_X12 hown hK hT hr_o0 shm_0 rfl 1 (by decide) (ht_at hts 10 rfl) (fun _ h9 => h9) dX12_weather_146 (fun v9 m159 h9 => ?_)
          obtain ⟨rfl, hg160⟩ := h9 _ rfl
          refine lv_iload hx hb dX12_weather_149 (lv_at hl 1 rfl) ?_
          refine tw_iald (i := 1624) hx hb hK hT hg122 shm_2 rfl (by unfold vp_in; decide) dX12_weather_151 (fun v9 m161 h9 => ?_)
          obtain ⟨x162, rfl, gx162, kx162⟩ := (gp_at h9 (w_rac (by have q9 := tn_of (show (1624 : Int32).toInt = 1624 from (by decide)) (show (0 : Int) ≤ 1624 from by omega); omega)))
          obtain rfl : x150 = x162 := (el_same m161 m158 rfl).symm
          exact W.iret (v := x150) hx hb hr (fun t ht hW => ⟨⟨x150, (), rfl, (by exact (rg_t (a := x150.toInt) rfl (by have q8 := ti_all x150; omega) (by have q8 := ti_all x150; omega))), by (try dsimp only); rw [ht]; exact ⟨hT, hF⟩⟩, hS.F ht⟩) hS.2.2 dX12_weather_152
        · have t163 : x124.toInt = 60 := ti_eq c133 rfl (by decide)
          refine lv_iconst (v := (-1)) hx hb dX12_weather_109 (by decide) ?_
          exact W.iret (v := (-1)) hx hb hr (fun t ht hW => ⟨⟨(-1), (), rfl, (by exact (rg_t (a := (-1)) (by decide) (by omega) (by omega))), by (try dsimp only); rw [ht]; exact ⟨hT, hF⟩⟩, hS.F ht⟩) hS.2.2 dX12_weather_110
      · have t164 : r100.toInt = 0 := ti_eq c106 rfl (by decide)
        have t165 : (0 : Int32).toInt = 0 := by decide
        have t166 : (20 : Int32).toInt = 20 := by decide
        have t167 : p2.toInt < (0 : Int32).toInt ∨ (20 : Int32).toInt < p2.toInt := hi105 c106
        refine lv_goto (tgt := 43) hx hb dX12_weather_30 (by decide) ?_
        refine lv_iconst (v := 1) hx hb dX12_weather_43 (by decide) ?_
        refine lv_goto (tgt := 48) hx hb dX12_weather_44 (by decide) ?_
        refine lv_iconst (v := 1) hx hb dX12_weather_48 (by decide) ?_
        have hFc := gA_free hG hA hS
        refine va_calli (va_runV (As := [.int 1, .int 1]) (rest := []) ⟨hx, hb, hml, hown, hts⟩ (s_throwsIf l dC dI kA G H q wN wH wB wC wL wK PI o0 1 1 hT hr_o0 (rg_t (a := 1) (by decide) (by omega) (by omega)) (by omega) (by omega) (by omega) (by omega)) (cwV 2 hts (goodIn_app (goodIn_r _ [8, 9, 10, 6] (by decide +kernel) (by decide +kernel)) (goodIn_ca (goodIn_r _ [7, 1] (by decide +kernel) (by decide +kernel)) (bs_in _ _))) rfl rfl rfl (by decide +kernel) ⟨(Nat.le_of_ble_eq_true rfl), (Nat.le_of_ble_eq_true rfl)⟩) ⟨fun a U g mk q => by obtain ⟨q0, q1, qK, qE⟩ := q; exact ⟨q0, q1, va_K.moved (u := U) (U := U.calling g mk a) (Vm.Alike.refl U.vm) qK, EV.blind g mk a qE⟩, gH_recv hK hT hr_o0 shm_0 rfl, fun U hU hW => ⟨rfl, hU, va_K.moved hW.alike hK, hE.call hS hFc hU hW⟩⟩ rfl rfl hl.1 rfl (lv_room (Nat.le_of_ble_eq_true rfl)) dX12_weather_49 ⟨(Nat.le_of_ble_eq_true rfl), (Nat.le_of_ble_eq_true rfl)⟩) hS (fun q _ h => hFc q h) hFc (fun r168 u t H locs ht hvm hw169 hB _ _ hS => ?_)
        obtain ⟨hT, hF1⟩ := hB
        rw [ht] at hT hF1
        have hF := hF.more hF1 (by decide)
        try dsimp only at hw169
        obtain ⟨h171, hd172⟩ := hw169
        obtain rfl : (1 : Int32) = r168 := hd172.symm
        refine lv_if_eq (tgt := 57) hx hb dX12_weather_52 (by decide) (fun c173 => absurd c173 (by decide)) (fun c173 => ?_)
        refine lv_iconst (v := 0) hx hb dX12_weather_55 (by decide) ?_
        exact W.iret (v := 0) hx hb hr (fun t ht hW => ⟨⟨0, (), rfl, (by exact (rg_t (a := 0) (by decide) (by omega) (by omega))), by (try dsimp only); rw [ht]; exact ⟨hT, hF⟩⟩, hS.F ht⟩) hS.2.2 dX12_weather_56
def w_s_layer : List Cond := .code yX12_layer cX12_layer 4 (some .int) :: ([.fieldLink RX12 194 "SeaLandModel" "thrown" "I", .code yX12_noWork cX12_noWork 2 (some .boolean), .fieldLink RX12 9 "SeaLandModel" "world" "[I", .code yX12_in cX12_in 3 (some .boolean), .methodLink RX12 197 yX12_in, .static yX12_in, .initialized RX12, .methodLink RX12 269 yX12_noWork, .instanceMethod yX12_noWork, .selects RX12 yX12_noWork yX12_noWork, .code yX12_throwsIf cX12_throwsIf 3 (some .boolean), .methodLink RX12 224 yX12_throwsIf, .instanceMethod yX12_throwsIf, .selects RX12 yX12_throwsIf yX12_throwsIf, .code yX12_isDike cX12_isDike 2 (some .boolean), .code yX12_of cX12_of 3 (some .int), .code yX12_at cX12_at 2 (some .int), .methodLink RX12 214 yX12_at, .static yX12_at, .methodLink RX12 217 yX12_of, .instanceMethod yX12_of, .selects RX12 yX12_of yX12_of, .methodLink RX12 272 yX12_isDike, .instanceMethod yX12_isDike, .selects RX12 yX12_isDike yX12_isDike, .code yX12_lays cX12_lays 5 none, .fieldLink RX12 238 "SeaLandModel" "rows" "I", .methodLink RX12 275 yX12_lays, .instanceMethod yX12_lays, .selects RX12 yX12_lays yX12_lays] ++ bs)
set_option maxHeartbeats 4000000 in
set_option maxRecDepth 100000 in
theorem s_layer (l : Launch) (dC : Nat → ClassId) (dI : Nat → Nat → Nat) (kA : Nat → ClassId) (G : gT) (H0 : Heap) (q : Nat → Nat) (wN wH wB wC : Int) (wL wK : Nat → Prop) (PI : Nat → Int → Prop) (o0 : Nat) (p0 : Int32) (p1 : Int32) (p2 : Int32) (hT : gH (dC, dI) kA (SHm q (wP wN wH wB wC wC wL wK) PI) G H0) (hr_o0 : G o0 = some 0) (hgn : 6500000 ≤ wN ∧ wN ≤ 400000000) (hgh : 0 ≤ wH ∧ wH ≤ 40000) (hgb : 0 ≤ wB ∧ wB ≤ 3850000) (hgc : 0 ≤ wC ∧ wC ≤ 30) : Met l yX12_layer w_s_layer ({ frames := 3, cells := 0, slots := 0, locals := 67 }) (va_Pc [.ref o0, .int p0, .int p1, .int p2] (fun U => U.heap = H0 ∧ va_K (dC, dI) vwCl (tyl kA) U ∧ EV (gA G H0.size) U U.heap)) (va_Qi (fun (r : Int32) (u : Unit) => (-1 ≤ r.toInt ∧ r.toInt ≤ 6)) (fun (_ : Unit) (t : State) => gH (dC, dI) kA (SHm q (wP wN wH wB wC wC wL wK) PI) G t.heap ∧ gF (dC, dI) SKm G ([(0, 0), (0, 9), (2, 0)] : List (Nat × Nat)) H0 t.heap) (gA G H0.size)) 0 0 (gA G H0.size) := by
  refine Met.ofW (cc := cX12_layer) (maxL := 4) (ret := (some .int)) (by decide) rfl ?_
  intro p e s m args below meth c s₁ B hml hv
  obtain ⟨rfl, hH0, hK, hE⟩ := hv
  have hx := B.exec
  have hb := B.bytes
  have hr := B.returns
  have hts := atoms_spec (ws := w_s_layer) B.pre
  have hown : s.vm.findClass RX12 = some m.cls := findClass_of_methodNamed B.named
  have hlocks := B.notSynchronized
  subst hH0
  generalize hAe : gA G s.heap.size = A at hE ⊢
  have hA : ∀ q : Nat, s.heap.size ≤ q → A q := fun q h => by rw [← hAe]; exact Or.inr h
  have hG := gA_of hAe
  have hS : va_S A s.heap s.heap [] := va_S.rf
  have hF : gF (dC, dI) SKm G ([(0, 0), (0, 9), (2, 0)] : List (Nat × Nat)) s.heap s.heap := gF.rf
  have hl := lv_entry ([.ref o0, .int p0, .int p1, .int p2]) (n := 4) (Nat.le_of_ble_eq_true rfl)
  rw [lg_entry_eq]
  generalize (lg_sl ([.ref o0, .int p0, .int p1, .int p2]) ++ List.replicate (4 - (lg_sl ([.ref o0, .int p0, .int p1, .int p2])).length) Slot.unset).toArray = ls at hl ⊢
  have hl : lv_has ls 4 [(0, .ref o0), (1, .int p0), (2, .int p1), (3, .int p2)] := hl
  refine lv_aload_n hx hb dX12_layer_0 rfl (lv_at hl 0 rfl) ?_
  refine lv_iconst (v := 0) hx hb dX12_layer_1 (by decide) ?_
  refine tw_put (v := .int 0) (ty := .int) hx hb hts bF_X12 tyX12 tyX12_ok nmX12 hown hK hT hG hS hr_o0 shm_0 rfl 0 (by decide) (ht_at hts 0 rfl) (fun _ h9 => h9) rfl (by decide +kernel) rfl rfl (gl_at rfl (gi_all _)) dX12_layer_2 (fun H locs hT oq m1 oj hS => ?_)
  have hF := hF.put hr_o0 skm_0 oq oj (by decide)
  refine lv_aload_n hx hb dX12_layer_5 rfl (lv_at hl 0 rfl) ?_
  refine lv_aload_n hx hb dX12_layer_6 rfl (lv_at hl 0 rfl) ?_
  refine lv_iload_n hx hb dX12_layer_7 rfl (lv_at hl 1 rfl) ?_
  have hFc := gA_free hG hA hS
  refine va_calli (va_runV (As := [.int p0]) (rest := [.ref o0]) ⟨hx, hb, hml, hown, hts⟩ (s_noWork l dC dI kA G H q wN wH wB wC wL wK PI o0 p0 hT hr_o0 (by omega) (by omega) (by omega) (by omega)) (cwV 1 hts (goodIn_app (goodIn_r _ [8, 9, 10, 7] (by decide +kernel) (by decide +kernel)) (goodIn_ca (goodIn_r _ [2, 3, 4, 5, 6, 7] (by decide +kernel) (by decide +kernel)) (bs_in _ _))) rfl rfl rfl (by decide +kernel) ⟨(Nat.le_of_ble_eq_true rfl), (Nat.le_of_ble_eq_true rfl)⟩) ⟨fun a U g mk q => by obtain ⟨q0, q1, qK, qE⟩ := q; exact ⟨q0, q1, va_K.moved (u := U) (U := U.calling g mk a) (Vm.Alike.refl U.vm) qK, EV.blind g mk a qE⟩, gH_recv hK hT hr_o0 shm_0 rfl, fun U hU hW => ⟨rfl, hU, va_K.moved hW.alike hK, hE.call hS hFc hU hW⟩⟩ rfl rfl hl.1 rfl (lv_room (Nat.le_of_ble_eq_true rfl)) dX12_layer_8 ⟨(Nat.le_of_ble_eq_true rfl), (Nat.le_of_ble_eq_true rfl)⟩) hS (fun q _ h => hFc q h) hFc (fun r2 u t H locs ht hvm hw3 hB _ _ hS => ?_)
  obtain ⟨hT, hF1⟩ := hB
  rw [ht] at hT hF1
  have m4 := (hF1.fld hr_o0 skm_0 (k := 0) (by decide) (by decide)).trans m1
  have hF := hF.more hF1 (by decide)
  try dsimp only at hw3
  obtain ⟨h5, hi6⟩ := hw3
  refine lv_iconst (v := 1) hx hb dX12_layer_11 (by decide) ?_
  have hFc := gA_free hG hA hS
  refine va_calli (va_runV (As := [.int r2, .int 1]) (rest := []) ⟨hx, hb, hml, hown, hts⟩ (s_throwsIf l dC dI kA G H q wN wH wB wC wL wK PI o0 r2 1 hT hr_o0 (rg_t (a := r2.toInt) rfl (by have q8 := ti_all r2; omega) (by have q8 := ti_all r2; omega)) (by omega) (by omega) (by omega) (by omega)) (cwV 2 hts (goodIn_app (goodIn_r _ [12, 13, 14, 7] (by decide +kernel) (by decide +kernel)) (goodIn_ca (goodIn_r _ [11, 1] (by decide +kernel) (by decide +kernel)) (bs_in _ _))) rfl rfl rfl (by decide +kernel) ⟨(Nat.le_of_ble_eq_true rfl), (Nat.le_of_ble_eq_true rfl)⟩) ⟨fun a U g mk q => by obtain ⟨q0, q1, qK, qE⟩ := q; exact ⟨q0, q1, va_K.moved (u := U) (U := U.calling g mk a) (Vm.Alike.refl U.vm) qK, EV.blind g mk a qE⟩, gH_recv hK hT hr_o0 shm_0 rfl, fun U hU hW => ⟨rfl, hU, va_K.moved hW.alike hK, hE.call hS hFc hU hW⟩⟩ rfl rfl hl.1 rfl (lv_room (Nat.le_of_ble_eq_true rfl)) dX12_layer_12 ⟨(Nat.le_of_ble_eq_true rfl), (Nat.le_of_ble_eq_true rfl)⟩) hS (fun q _ h => hFc q h) hFc (fun r7 u t H locs ht hvm hw8 hB _ _ hS => ?_)
  obtain ⟨hT, hF1⟩ := hB
  rw [ht] at hT hF1
  have hF := hF.more hF1 (by decide)
  try dsimp only at hw8
  obtain ⟨h10, hd11⟩ := hw8
  obtain rfl : r2 = r7 := hd11.symm
  refine lv_if_ne (tgt := 73) hx hb dX12_layer_15 (by decide) (fun c12 => ?_) (fun c12 => ?_)
  · have t13 : r2.toInt ≠ 0 := ti_ne c12 rfl (by decide)
    refine lv_iconst (v := 0) hx hb dX12_layer_73 (by decide) ?_
    exact W.iret (v := 0) hx hb hr (fun t ht hW => ⟨⟨0, (), rfl, (by exact (rg_t (a := 0) (by decide) (by omega) (by omega))), by (try dsimp only); rw [ht]; exact ⟨hT, hF⟩⟩, hS.F ht⟩) hS.2.2 dX12_layer_74
  · have t14 : r2.toInt = 0 := ti_eq c12 rfl (by decide)
    have t15 : 0 ≤ p0.toInt ∧ p0.toInt ≤ 29 ∧ p0.toInt < wC := hi6 c12
    refine lv_aload_n hx hb dX12_layer_18 rfl (lv_at hl 0 rfl) ?_
    refine lv_iload_n hx hb dX12_layer_19 rfl (lv_at hl 2 rfl) ?_
    refine lv_iconst (v := 1) hx hb dX12_layer_20 (by decide) ?_
    refine lv_sipush (v := 300) hx hb dX12_layer_21 (by decide) ?_
    have hFc := gA_free hG hA hS
    refine va_calli (va_runS (As := [.int p1, .int 1, .int 300]) (rest := [.ref o0]) ⟨hx, hb, hml, hown, hts⟩ (s_in l dC dI kA G H q wN wH wB wC wL wK PI p1 1 300 hT (by omega) (by omega) (by omega) (by omega)) (va_cwS 3 hts (goodIn_app (goodIn_r _ [5, 6, 7] (by decide +kernel) (by decide +kernel)) (goodIn_ca (goodIn_r _ [4] (by decide +kernel) (by decide +kernel)) (bs_in _ _))) rfl rfl rfl (by decide +kernel) ⟨(Nat.le_of_ble_eq_true rfl), (Nat.le_of_ble_eq_true rfl)⟩) ⟨fun a U g mk q => by obtain ⟨q0, q1, qK, qE⟩ := q; exact ⟨q0, q1, va_K.moved (u := U) (U := U.calling g mk a) (Vm.Alike.refl U.vm) qK, EV.blind g mk a qE⟩, fun U hU hW => ⟨rfl, hU, va_K.moved hW.alike hK, hE.call hS hFc hU hW⟩⟩ rfl rfl hl.1 rfl (lv_room (Nat.le_of_ble_eq_true rfl)) dX12_layer_24 ⟨(Nat.le_of_ble_eq_true rfl), (Nat.le_of_ble_eq_true rfl)⟩) hS (fun q _ h => hFc q h) hFc (fun r16 u t H locs ht hvm hw17 hB _ _ hS => ?_)
    obtain ⟨hT, hF1⟩ := hB
    rw [ht] at hT hF1
    have hF := hF.more hF1 (by decide)
    try dsimp only at hw17
    obtain ⟨h18, hi19, hi20⟩ := hw17
    refine lv_if_eq (tgt := 40) hx hb dX12_layer_27 (by decide) (fun c21 => ?_) (fun c21 => ?_)
    · have t22 : r16.toInt = 0 := ti_eq c21 rfl (by decide)
      have t23 : (1 : Int32).toInt = 1 := by decide
      have t24 : (300 : Int32).toInt = 300 := by decide
      have t25 : p1.toInt < (1 : Int32).toInt ∨ (300 : Int32).toInt < p1.toInt := hi20 c21
      refine lv_iconst (v := 1) hx hb dX12_layer_40 (by decide) ?_
      refine lv_goto (tgt := 45) hx hb dX12_layer_41 (by decide) ?_
      refine lv_iconst (v := 2) hx hb dX12_layer_45 (by decide) ?_
      have hFc := gA_free hG hA hS
      refine va_calli (va_runV (As := [.int 1, .int 2]) (rest := []) ⟨hx, hb, hml, hown, hts⟩ (s_throwsIf l dC dI kA G H q wN wH wB wC wL wK PI o0 1 2 hT hr_o0 (rg_t (a := 1) (by decide) (by omega) (by omega)) (by omega) (by omega) (by omega) (by omega)) (cwV 2 hts (goodIn_app (goodIn_r _ [12, 13, 14, 7] (by decide +kernel) (by decide +kernel)) (goodIn_ca (goodIn_r _ [11, 1] (by decide +kernel) (by decide +kernel)) (bs_in _ _))) rfl rfl rfl (by decide +kernel) ⟨(Nat.le_of_ble_eq_true rfl), (Nat.le_of_ble_eq_true rfl)⟩) ⟨fun a U g mk q => by obtain ⟨q0, q1, qK, qE⟩ := q; exact ⟨q0, q1, va_K.moved (u := U) (U := U.calling g mk a) (Vm.Alike.refl U.vm) qK, EV.blind g mk a qE⟩, gH_recv hK hT hr_o0 shm_0 rfl, fun U hU hW => ⟨rfl, hU, va_K.moved hW.alike hK, hE.call hS hFc hU hW⟩⟩ rfl rfl hl.1 rfl (lv_room (Nat.le_of_ble_eq_true rfl)) dX12_layer_46 ⟨(Nat.le_of_ble_eq_true rfl), (Nat.le_of_ble_eq_true rfl)⟩) hS (fun q _ h => hFc q h) hFc (fun r26 u t H locs ht hvm hw27 hB _ _ hS => ?_)
      obtain ⟨hT, hF1⟩ := hB
      rw [ht] at hT hF1
      have hF := hF.more hF1 (by decide)
      try dsimp only at hw27
      obtain ⟨h28, hd29⟩ := hw27
      obtain rfl : (1 : Int32) = r26 := hd29.symm
      refine lv_if_ne (tgt := 73) hx hb dX12_layer_49 (by decide) (fun c30 => ?_) (fun c30 => absurd c30 (by decide))
      refine lv_iconst (v := 0) hx hb dX12_layer_73 (by decide) ?_
      exact W.iret (v := 0) hx hb hr (fun t ht hW => ⟨⟨0, (), rfl, (by exact (rg_t (a := 0) (by decide) (by omega) (by omega))), by (try dsimp only); rw [ht]; exact ⟨hT, hF⟩⟩, hS.F ht⟩) hS.2.2 dX12_layer_74
    · have t31 : r16.toInt ≠ 0 := ti_ne c21 rfl (by decide)
      have t32 : (1 : Int32).toInt = 1 := by decide
      have t33 : (300 : Int32).toInt = 300 := by decide
      have t34 : (1 : Int32).toInt ≤ p1.toInt ∧ p1.toInt ≤ (300 : Int32).toInt := hi19 ((bit_of ⟨by omega, by omega⟩).resolve_left c21)
      refine lv_iload_n hx hb dX12_layer_30 rfl (lv_at hl 3 rfl) ?_
      refine lv_iconst (v := 0) hx hb dX12_layer_31 (by decide) ?_
      refine lv_bipush (v := 9) hx hb dX12_layer_32 (by decide) ?_
      have hFc := gA_free hG hA hS
      refine va_calli (va_runS (As := [.int p2, .int 0, .int 9]) (rest := [.ref o0]) ⟨hx, hb, hml, hown, hts⟩ (s_in l dC dI kA G H q wN wH wB wC wL wK PI p2 0 9 hT (by omega) (by omega) (by omega) (by omega)) (va_cwS 3 hts (goodIn_app (goodIn_r _ [5, 6, 7] (by decide +kernel) (by decide +kernel)) (goodIn_ca (goodIn_r _ [4] (by decide +kernel) (by decide +kernel)) (bs_in _ _))) rfl rfl rfl (by decide +kernel) ⟨(Nat.le_of_ble_eq_true rfl), (Nat.le_of_ble_eq_true rfl)⟩) ⟨fun a U g mk q => by obtain ⟨q0, q1, qK, qE⟩ := q; exact ⟨q0, q1, va_K.moved (u := U) (U := U.calling g mk a) (Vm.Alike.refl U.vm) qK, EV.blind g mk a qE⟩, fun U hU hW => ⟨rfl, hU, va_K.moved hW.alike hK, hE.call hS hFc hU hW⟩⟩ rfl rfl hl.1 rfl (lv_room (Nat.le_of_ble_eq_true rfl)) dX12_layer_34 ⟨(Nat.le_of_ble_eq_true rfl), (Nat.le_of_ble_eq_true rfl)⟩) hS (fun q _ h => hFc q h) hFc (fun r35 u t H locs ht hvm hw36 hB _ _ hS => ?_)
      obtain ⟨hT, hF1⟩ := hB
      rw [ht] at hT hF1
      have hF := hF.more hF1 (by decide)
      try dsimp only at hw36
      obtain ⟨h37, hi38, hi39⟩ := hw36
      refine lv_if_ne (tgt := 44) hx hb dX12_layer_37 (by decide) (fun c40 => ?_) (fun c40 => ?_)
      · have t41 : r35.toInt ≠ 0 := ti_ne c40 rfl (by decide)
        have t42 : (0 : Int32).toInt = 0 := by decide
        have t43 : (9 : Int32).toInt = 9 := by decide
        have t44 : (0 : Int32).toInt ≤ p2.toInt ∧ p2.toInt ≤ (9 : Int32).toInt := hi38 ((bit_of ⟨by omega, by omega⟩).resolve_left c40)
        refine lv_iconst (v := 0) hx hb dX12_layer_44 (by decide) ?_
        refine lv_iconst (v := 2) hx hb dX12_layer_45 (by decide) ?_
        have hFc := gA_free hG hA hS
        refine va_calli (va_runV (As := [.int 0, .int 2]) (rest := []) ⟨hx, hb, hml, hown, hts⟩ (s_throwsIf l dC dI kA G H q wN wH wB wC wL wK PI o0 0 2 hT hr_o0 (rg_t (a := 0) (by decide) (by omega) (by omega)) (by omega) (by omega) (by omega) (by omega)) (cwV 2 hts (goodIn_app (goodIn_r _ [12, 13, 14, 7] (by decide +kernel) (by decide +kernel)) (goodIn_ca (goodIn_r _ [11, 1] (by decide +kernel) (by decide +kernel)) (bs_in _ _))) rfl rfl rfl (by decide +kernel) ⟨(Nat.le_of_ble_eq_true rfl), (Nat.le_of_ble_eq_true rfl)⟩) ⟨fun a U g mk q => by obtain ⟨q0, q1, qK, qE⟩ := q; exact ⟨q0, q1, va_K.moved (u := U) (U := U.calling g mk a) (Vm.Alike.refl U.vm) qK, EV.blind g mk a qE⟩, gH_recv hK hT hr_o0 shm_0 rfl, fun U hU hW => ⟨rfl, hU, va_K.moved hW.alike hK, hE.call hS hFc hU hW⟩⟩ rfl rfl hl.1 rfl (lv_room (Nat.le_of_ble_eq_true rfl)) dX12_layer_46 ⟨(Nat.le_of_ble_eq_true rfl), (Nat.le_of_ble_eq_true rfl)⟩) hS (fun q _ h => hFc q h) hFc (fun r45 u t H locs ht hvm hw46 hB _ _ hS => ?_)
        obtain ⟨hT, hF1⟩ := hB
        rw [ht] at hT hF1
        have hF := hF.more hF1 (by decide)
        try dsimp only at hw46
        obtain ⟨h47, hd48⟩ := hw46
        obtain rfl : (0 : Int32) = r45 := hd48.symm
        refine lv_if_ne (tgt := 73) hx hb dX12_layer_49 (by decide) (fun c49 => absurd c49 (by decide)) (fun c49 => ?_)
        refine lv_aload_n hx hb dX12_layer_52 rfl (lv_at hl 0 rfl) ?_
        refine lv_aload_n hx hb dX12_layer_53 rfl (lv_at hl 0 rfl) ?_
        refine lv_iload_n hx hb dX12_layer_54 rfl (lv_at hl 1 rfl) ?_
        have hFc := gA_free hG hA hS
        refine va_calli (va_runV (As := [.int p0]) (rest := [.ref o0]) ⟨hx, hb, hml, hown, hts⟩ (s_isDike l dC dI kA G H q wN wH wB wC wL wK PI o0 p0 hT hr_o0 (rg_t (a := p0.toInt) rfl (by have q8 := ti_all p0; omega) (by have q8 := ti_all p0; omega)) (by omega) (by omega) (by omega) (by omega)) (cwV 1 hts (goodIn_app (goodIn_r _ [23, 24, 25, 7] (by decide +kernel) (by decide +kernel)) (goodIn_ca (goodIn_r _ [15, 16, 3, 17, 18, 19, 7, 20, 21, 22] (by decide +kernel) (by decide +kernel)) (bs_in _ _))) rfl rfl rfl (by decide +kernel) ⟨(Nat.le_of_ble_eq_true rfl), (Nat.le_of_ble_eq_true rfl)⟩) ⟨fun a U g mk q => by obtain ⟨q0, q1, qK, qE⟩ := q; exact ⟨q0, q1, va_K.moved (u := U) (U := U.calling g mk a) (Vm.Alike.refl U.vm) qK, EV.blind g mk a qE⟩, gH_recv hK hT hr_o0 shm_0 rfl, fun U hU hW => ⟨rfl, hU, va_K.moved hW.alike hK, hE.call hS hFc hU hW⟩⟩ rfl rfl hl.1 rfl (lv_room (Nat.le_of_ble_eq_true rfl)) dX12_layer_55 ⟨(Nat.le_of_ble_eq_true rfl), (Nat.le_of_ble_eq_true rfl)⟩) hS (fun q _ h => hFc q h) hFc (fun r50 u t H locs ht hvm hw51 hB _ _ hS => ?_)
        obtain ⟨hT, hF1⟩ := hB
        rw [ht] at hT hF1
        have hF := hF.more hF1 (by decide)
        try dsimp only at hw51
        have h52 := hw51
        refine lv_if_ne (tgt := 65) hx hb dX12_layer_58 (by decide) (fun c53 => ?_) (fun c53 => ?_)
        · have t54 : r50.toInt ≠ 0 := ti_ne c53 rfl (by decide)
          refine lv_iconst (v := 0) hx hb dX12_layer_65 (by decide) ?_
          refine lv_iconst (v := 3) hx hb dX12_layer_66 (by decide) ?_
          have hFc := gA_free hG hA hS
          refine va_calli (va_runV (As := [.int 0, .int 3]) (rest := []) ⟨hx, hb, hml, hown, hts⟩ (s_throwsIf l dC dI kA G H q wN wH wB wC wL wK PI o0 0 3 hT hr_o0 (rg_t (a := 0) (by decide) (by omega) (by omega)) (by omega) (by omega) (by omega) (by omega)) (cwV 2 hts (goodIn_app (goodIn_r _ [12, 13, 14, 7] (by decide +kernel) (by decide +kernel)) (goodIn_ca (goodIn_r _ [11, 1] (by decide +kernel) (by decide +kernel)) (bs_in _ _))) rfl rfl rfl (by decide +kernel) ⟨(Nat.le_of_ble_eq_true rfl), (Nat.le_of_ble_eq_true rfl)⟩) ⟨fun a U g mk q => by obtain ⟨q0, q1, qK, qE⟩ := q; exact ⟨q0, q1, va_K.moved (u := U) (U := U.calling g mk a) (Vm.Alike.refl U.vm) qK, EV.blind g mk a qE⟩, gH_recv hK hT hr_o0 shm_0 rfl, fun U hU hW => ⟨rfl, hU, va_K.moved hW.alike hK, hE.call hS hFc hU hW⟩⟩ rfl rfl hl.1 rfl (lv_room (Nat.le_of_ble_eq_true rfl)) dX12_layer_67 ⟨(Nat.le_of_ble_eq_true rfl), (Nat.le_of_ble_eq_true rfl)⟩) hS (fun q _ h => hFc q h) hFc (fun r55 u t H locs ht hvm hw56 hB _ _ hS => ?_)
          obtain ⟨hT, hF1⟩ := hB
          rw [ht] at hT hF1
          have hF := hF.more hF1 (by decide)
          try dsimp only at hw56
          obtain ⟨h57, hd58⟩ := hw56
          obtain rfl : (0 : Int32) = r55 := hd58.symm
          refine lv_if_eq (tgt := 75) hx hb dX12_layer_70 (by decide) (fun c59 => ?_) (fun c59 => absurd c59 (by decide))
          refine lv_aload_n hx hb dX12_layer_75 rfl (lv_at hl 0 rfl) ?_
          refine lv_iload_n hx hb dX12_layer_76 rfl (lv_at hl 1 rfl) ?_
          refine lv_iconst (v := 4) hx hb dX12_layer_77 (by decide) ?_
          have hFc := gA_free hG hA hS
          refine va_calli (va_runV (As := [.int p0, .int 4]) (rest := []) ⟨hx, hb, hml, hown, hts⟩ (s_of4 l dC dI kA G H q wN wH wB wC wL wK PI o0 p0 hT hr_o0 (rg_t (a := p0.toInt) rfl (by have q8 := ti_all p0; omega) (by have q8 := ti_all p0; omega)) (by omega) (by omega) (by omega) (by omega)) (cwV 2 hts (goodIn_app (goodIn_r _ [20, 21, 22, 7] (by decide +kernel) (by decide +kernel)) (goodIn_ca (goodIn_r _ [16, 3, 17, 18, 19, 7] (by decide +kernel) (by decide +kernel)) (bs_in _ _))) rfl rfl rfl (by decide +kernel) ⟨(Nat.le_of_ble_eq_true rfl), (Nat.le_of_ble_eq_true rfl)⟩) ⟨fun a U g mk q => by obtain ⟨q0, q1, qK, qE⟩ := q; exact ⟨q0, q1, va_K.moved (u := U) (U := U.calling g mk a) (Vm.Alike.refl U.vm) qK, EV.blind g mk a qE⟩, gH_recv hK hT hr_o0 shm_0 rfl, fun U hU hW => ⟨rfl, hU, va_K.moved hW.alike hK, hE.call hS hFc hU hW⟩⟩ rfl rfl hl.1 rfl (lv_room (Nat.le_of_ble_eq_true rfl)) dX12_layer_78 ⟨(Nat.le_of_ble_eq_true rfl), (Nat.le_of_ble_eq_true rfl)⟩) hS (fun q _ h => hFc q h) hFc (fun r60 u t H locs ht hvm hw61 hB _ _ hS => ?_)
          obtain ⟨hT, hF1⟩ := hB
          rw [ht] at hT hF1
          have hF := hF.more hF1 (by decide)
          try dsimp only at hw61
          obtain ⟨h62, ⟨ix63, hix63, m64⟩⟩ := hw61
          have hg65 : G (q 1) = some 2 := gx_of hT hr_o0 shm_0 (k := 1) (by decide) rfl
          have m66 := (el_kept (hF1.arr hg65 skm_2 (by decide))).trans m64
          refine lv_bipush (v := 6) hx hb dX12_layer_81 (by decide) ?_
          refine lv_icmp_eq (tgt := 96) hx hb dX12_layer_83 (by decide) (fun c67 => ?_) (fun c67 => ?_)
          · have t68 : r60.toInt = 6 := ti_eq c67 rfl (by decide)
            refine lv_iconst (v := (-1)) hx hb dX12_layer_96 (by decide) ?_
            exact W.iret (v := (-1)) hx hb hr (fun t ht hW => ⟨⟨(-1), (), rfl, (by exact (rg_t (a := (-1)) (by decide) (by omega) (by omega))), by (try dsimp only); rw [ht]; exact ⟨hT, hF⟩⟩, hS.F ht⟩) hS.2.2 dX12_layer_97
          · have t69 : r60.toInt ≠ 6 := ti_ne c67 rfl (by decide)
            refine lv_aload_n hx hb dX12_layer_86 rfl (lv_at hl 0 rfl) ?_
            refine lv_iload_n hx hb dX12_layer_87 rfl (lv_at hl 1 rfl) ?_
            refine lv_iconst (v := 0) hx hb dX12_layer_88 (by decide) ?_
            have hFc := gA_free hG hA hS
            refine va_calli (va_runV (As := [.int p0, .int 0]) (rest := []) ⟨hx, hb, hml, hown, hts⟩ (s_of0 l dC dI kA G H q wN wH wB wC wL wK PI o0 p0 hT hr_o0 (rg_t (a := p0.toInt) rfl (by have q8 := ti_all p0; omega) (by have q8 := ti_all p0; omega)) (by omega) (by omega) (by omega) (by omega)) (cwV 2 hts (goodIn_app (goodIn_r _ [20, 21, 22, 7] (by decide +kernel) (by decide +kernel)) (goodIn_ca (goodIn_r _ [16, 3, 17, 18, 19, 7] (by decide +kernel) (by decide +kernel)) (bs_in _ _))) rfl rfl rfl (by decide +kernel) ⟨(Nat.le_of_ble_eq_true rfl), (Nat.le_of_ble_eq_true rfl)⟩) ⟨fun a U g mk q => by obtain ⟨q0, q1, qK, qE⟩ := q; exact ⟨q0, q1, va_K.moved (u := U) (U := U.calling g mk a) (Vm.Alike.refl U.vm) qK, EV.blind g mk a qE⟩, gH_recv hK hT hr_o0 shm_0 rfl, fun U hU hW => ⟨rfl, hU, va_K.moved hW.alike hK, hE.call hS hFc hU hW⟩⟩ rfl rfl hl.1 rfl (lv_room (Nat.le_of_ble_eq_true rfl)) dX12_layer_89 ⟨(Nat.le_of_ble_eq_true rfl), (Nat.le_of_ble_eq_true rfl)⟩) hS (fun q _ h => hFc q h) hFc (fun r70 u t H locs ht hvm hw71 hB _ _ hS => ?_)
            obtain ⟨hT, hF1⟩ := hB
            rw [ht] at hT hF1
            have m72 := (el_kept (hF1.arr hg65 skm_2 (by decide))).trans m66
            have hF := hF.more hF1 (by decide)
            try dsimp only at hw71
            have ⟨ix73, hix73, m74⟩ := hw71
            have m75 := (el_kept (hF1.arr hg65 skm_2 (by decide))).trans m74
            refine lv_iconst (v := 1) hx hb dX12_layer_92 (by decide) ?_
            refine lv_icmp_ne (tgt := 98) hx hb dX12_layer_93 (by decide) (fun c76 => ?_) (fun c76 => ?_)
            · have t77 : r70.toInt ≠ 1 := ti_ne c76 rfl (by decide)
              refine lv_aload_n hx hb dX12_layer_98 rfl (lv_at hl 0 rfl) ?_
              refine lv_iload_n hx hb dX12_layer_99 rfl (lv_at hl 1 rfl) ?_
              refine lv_iload_n hx hb dX12_layer_100 rfl (lv_at hl 2 rfl) ?_
              refine lv_iload_n hx hb dX12_layer_101 rfl (lv_at hl 3 rfl) ?_
              have hFc := gA_free hG hA hS
              refine va_callv (va_runV (As := [.int p0, .int p1, .int p2]) (rest := []) ⟨hx, hb, hml, hown, hts⟩ (s_lays l dC dI kA G H q wN wH wB wC wL wK PI o0 p0 p1 p2 r60 ix63 hT hr_o0 (rg_t (a := p0.toInt) rfl (by have q8 := ti_all p0; omega) (by have q8 := ti_all p0; omega)) (rg_t (a := p2.toInt) rfl (by have q8 := ti_all p2; omega) (by have q8 := ti_all p2; omega)) (by have q9 := (show ix63.toInt = ix63.toInt from rfl); omega) m72 (rg_t (a := r60.toInt) rfl (by have q8 := ti_all r60; omega) (by have q8 := ti_all r60; omega)) (by omega) (by omega) (by omega) (by omega)) (cwV 3 hts (goodIn_app (goodIn_r _ [28, 29, 30, 7] (by decide +kernel) (by decide +kernel)) (goodIn_ca (goodIn_r _ [26, 16, 3, 17, 18, 19, 7, 20, 21, 22, 27] (by decide +kernel) (by decide +kernel)) (bs_in _ _))) rfl rfl rfl (by decide +kernel) ⟨(Nat.le_of_ble_eq_true rfl), (Nat.le_of_ble_eq_true rfl)⟩) ⟨fun a U g mk q => by obtain ⟨q0, q1, qK, qE⟩ := q; exact ⟨q0, q1, va_K.moved (u := U) (U := U.calling g mk a) (Vm.Alike.refl U.vm) qK, EV.blind g mk a qE⟩, gH_recv hK hT hr_o0 shm_0 rfl, fun U hU hW => ⟨rfl, hU, va_K.moved hW.alike hK, hE.call hS hFc hU hW⟩⟩ rfl rfl hl.1 rfl (lv_room (Nat.le_of_ble_eq_true rfl)) dX12_layer_102 ⟨(Nat.le_of_ble_eq_true rfl), (Nat.le_of_ble_eq_true rfl)⟩) hS (fun q _ h => hFc q h) hFc (fun u t H locs ht hvm hw79 hB _ _ hS => ?_)
              obtain ⟨hT, hF1⟩ := hB
              rw [ht] at hT hF1
              have hF := hF.more hF1 (by decide)
              try dsimp only at hw79
              refine lv_aload_n hx hb dX12_layer_105 rfl (lv_at hl 0 rfl) ?_
              refine lv_iload_n hx hb dX12_layer_106 rfl (lv_at hl 1 rfl) ?_
              refine lv_iconst (v := 4) hx hb dX12_layer_107 (by decide) ?_
              have hFc := gA_free hG hA hS
              refine va_calli (va_runV (As := [.int p0, .int 4]) (rest := []) ⟨hx, hb, hml, hown, hts⟩ (s_of4 l dC dI kA G H q wN wH wB wC wL wK PI o0 p0 hT hr_o0 (rg_t (a := p0.toInt) rfl (by have q8 := ti_all p0; omega) (by have q8 := ti_all p0; omega)) (by omega) (by omega) (by omega) (by omega)) (cwV 2 hts (goodIn_app (goodIn_r _ [20, 21, 22, 7] (by decide +kernel) (by decide +kernel)) (goodIn_ca (goodIn_r _ [16, 3, 17, 18, 19, 7] (by decide +kernel) (by decide +kernel)) (bs_in _ _))) rfl rfl rfl (by decide +kernel) ⟨(Nat.le_of_ble_eq_true rfl), (Nat.le_of_ble_eq_true rfl)⟩) ⟨fun a U g mk q => by obtain ⟨q0, q1, qK, qE⟩ := q; exact ⟨q0, q1, va_K.moved (u := U) (U := U.calling g mk a) (Vm.Alike.refl U.vm) qK, EV.blind g mk a qE⟩, gH_recv hK hT hr_o0 shm_0 rfl, fun U hU hW => ⟨rfl, hU, va_K.moved hW.alike hK, hE.call hS hFc hU hW⟩⟩ rfl rfl hl.1 rfl (lv_room (Nat.le_of_ble_eq_true rfl)) dX12_layer_108 ⟨(Nat.le_of_ble_eq_true rfl), (Nat.le_of_ble_eq_true rfl)⟩) hS (fun q _ h => hFc q h) hFc (fun r82 u t H locs ht hvm hw83 hB _ _ hS => ?_)
              obtain ⟨hT, hF1⟩ := hB
              rw [ht] at hT hF1
              have hF := hF.more hF1 (by decide)
              try dsimp only at hw83
              obtain ⟨h84, ⟨ix85, hix85, m86⟩⟩ := hw83
              have m87 := (el_kept (hF1.arr hg65 skm_2 (by decide))).trans m86
              exact W.iret (v := r82) hx hb hr (fun t ht hW => ⟨⟨r82, (), rfl, (by exact (rg_t (a := r82.toInt) rfl (by have q8 := ti_all r82; omega) (by have q8 := ti_all r82; omega))), by (try dsimp only); rw [ht]; exact ⟨hT, hF⟩⟩, hS.F ht⟩) hS.2.2 dX12_layer_111
            · have t88 : r70.toInt = 1 := ti_eq c76 rfl (by decide)
              refine lv_iconst (v := (-1)) hx hb dX12_layer_96 (by decide) ?_
              exact W.iret (v := (-1)) hx hb hr (fun t ht hW => ⟨⟨(-1), (), rfl, (by exact (rg_t (a := (-1)) (by decide) (by omega) (by omega))), by (try dsimp only); rw [ht]; exact ⟨hT, hF⟩⟩, hS.F ht⟩) hS.2.2 dX12_layer_97
        · have t89 : r50.toInt = 0 := ti_eq c53 rfl (by decide)
          refine lv_iconst (v := 1) hx hb dX12_layer_61 (by decide) ?_
          refine lv_goto (tgt := 66) hx hb dX12_layer_62 (by decide) ?_
          refine lv_iconst (v := 3) hx hb dX12_layer_66 (by decide) ?_
          have hFc := gA_free hG hA hS
          refine va_calli (va_runV (As := [.int 1, .int 3]) (rest := []) ⟨hx, hb, hml, hown, hts⟩ (s_throwsIf l dC dI kA G H q wN wH wB wC wL wK PI o0 1 3 hT hr_o0 (rg_t (a := 1) (by decide) (by omega) (by omega)) (by omega) (by omega) (by omega) (by omega)) (cwV 2 hts (goodIn_app (goodIn_r _ [12, 13, 14, 7] (by decide +kernel) (by decide +kernel)) (goodIn_ca (goodIn_r _ [11, 1] (by decide +kernel) (by decide +kernel)) (bs_in _ _))) rfl rfl rfl (by decide +kernel) ⟨(Nat.le_of_ble_eq_true rfl), (Nat.le_of_ble_eq_true rfl)⟩) ⟨fun a U g mk q => by obtain ⟨q0, q1, qK, qE⟩ := q; exact ⟨q0, q1, va_K.moved (u := U) (U := U.calling g mk a) (Vm.Alike.refl U.vm) qK, EV.blind g mk a qE⟩, gH_recv hK hT hr_o0 shm_0 rfl, fun U hU hW => ⟨rfl, hU, va_K.moved hW.alike hK, hE.call hS hFc hU hW⟩⟩ rfl rfl hl.1 rfl (lv_room (Nat.le_of_ble_eq_true rfl)) dX12_layer_67 ⟨(Nat.le_of_ble_eq_true rfl), (Nat.le_of_ble_eq_true rfl)⟩) hS (fun q _ h => hFc q h) hFc (fun r90 u t H locs ht hvm hw91 hB _ _ hS => ?_)
          obtain ⟨hT, hF1⟩ := hB
          rw [ht] at hT hF1
          have hF := hF.more hF1 (by decide)
          try dsimp only at hw91
          obtain ⟨h92, hd93⟩ := hw91
          obtain rfl : (1 : Int32) = r90 := hd93.symm
          refine lv_if_eq (tgt := 75) hx hb dX12_layer_70 (by decide) (fun c94 => absurd c94 (by decide)) (fun c94 => ?_)
          refine lv_iconst (v := 0) hx hb dX12_layer_73 (by decide) ?_
          exact W.iret (v := 0) hx hb hr (fun t ht hW => ⟨⟨0, (), rfl, (by exact (rg_t (a := 0) (by decide) (by omega) (by omega))), by (try dsimp only); rw [ht]; exact ⟨hT, hF⟩⟩, hS.F ht⟩) hS.2.2 dX12_layer_74
      · have t95 : r35.toInt = 0 := ti_eq c40 rfl (by decide)
        have t96 : (0 : Int32).toInt = 0 := by decide
        have t97 : (9 : Int32).toInt = 9 := by decide
        have t98 : p2.toInt < (0 : Int32).toInt ∨ (9 : Int32).toInt < p2.toInt := hi39 c40
        refine lv_iconst (v := 1) hx hb dX12_layer_40 (by decide) ?_
        refine lv_goto (tgt := 45) hx hb dX12_layer_41 (by decide) ?_
        refine lv_iconst (v := 2) hx hb dX12_layer_45 (by decide) ?_
        have hFc := gA_free hG hA hS
        refine va_calli (va_runV (As := [.int 1, .int 2]) (rest := []) ⟨hx, hb, hml, hown, hts⟩ (s_throwsIf l dC dI kA G H q wN wH wB wC wL wK PI o0 1 2 hT hr_o0 (rg_t (a := 1) (by decide) (by omega) (by omega)) (by omega) (by omega) (by omega) (by omega)) (cwV 2 hts (goodIn_app (goodIn_r _ [12, 13, 14, 7] (by decide +kernel) (by decide +kernel)) (goodIn_ca (goodIn_r _ [11, 1] (by decide +kernel) (by decide +kernel)) (bs_in _ _))) rfl rfl rfl (by decide +kernel) ⟨(Nat.le_of_ble_eq_true rfl), (Nat.le_of_ble_eq_true rfl)⟩) ⟨fun a U g mk q => by obtain ⟨q0, q1, qK, qE⟩ := q; exact ⟨q0, q1, va_K.moved (u := U) (U := U.calling g mk a) (Vm.Alike.refl U.vm) qK, EV.blind g mk a qE⟩, gH_recv hK hT hr_o0 shm_0 rfl, fun U hU hW => ⟨rfl, hU, va_K.moved hW.alike hK, hE.call hS hFc hU hW⟩⟩ rfl rfl hl.1 rfl (lv_room (Nat.le_of_ble_eq_true rfl)) dX12_layer_46 ⟨(Nat.le_of_ble_eq_true rfl), (Nat.le_of_ble_eq_true rfl)⟩) hS (fun q _ h => hFc q h) hFc (fun r99 u t H locs ht hvm hw100 hB _ _ hS => ?_)
        obtain ⟨hT, hF1⟩ := hB
        rw [ht] at hT hF1
        have hF := hF.more hF1 (by decide)
        try dsimp only at hw100
        obtain ⟨h101, hd102⟩ := hw100
        obtain rfl : (1 : Int32) = r99 := hd102.symm
        refine lv_if_ne (tgt := 73) hx hb dX12_layer_49 (by decide) (fun c103 => ?_) (fun c103 => absurd c103 (by decide))
        refine lv_iconst (v := 0) hx hb dX12_layer_73 (by decide) ?_
        exact W.iret (v := 0) hx hb hr (fun t ht hW => ⟨⟨0, (), rfl, (by exact (rg_t (a := 0) (by decide) (by omega) (by omega))), by (try dsimp only); rw [ht]; exact ⟨hT, hF⟩⟩, hS.F ht⟩) hS.2.2 dX12_layer_74
def w_s_lawLevel : List Cond := .code yX12_lawLevel cX12_lawLevel 4 (some .int) :: ([.fieldLink RX12 194 "SeaLandModel" "thrown" "I", .code yX12_noSquare cX12_noSquare 1 (some .boolean), .code yX12_in cX12_in 3 (some .boolean), .methodLink RX12 197 yX12_in, .static yX12_in, .initialized RX12, .methodLink RX12 220 yX12_noSquare, .static yX12_noSquare, .code yX12_throwsIf cX12_throwsIf 3 (some .boolean), .methodLink RX12 224 yX12_throwsIf, .instanceMethod yX12_throwsIf, .selects RX12 yX12_throwsIf yX12_throwsIf, .fieldLink RX12 42 "SeaLandModel" "lines" "[I", .fieldLink RX12 45 "SeaLandModel" "sort" "[I", .fieldLink RX12 54 "SeaLandModel" "from" "[I", .fieldLink RX12 57 "SeaLandModel" "to" "[I", .code yX12_isIn cX12_isIn 5 (some .boolean), .methodLink RX12 207 Lib.Math.min.name, .static Lib.Math.min.name, .initialized "java/lang/Math", .code Lib.Math.min.name Lib.Math.min.code 2 (some .int), .methodLink RX12 211 Lib.Math.max.name, .static Lib.Math.max.name, .code Lib.Math.max.name Lib.Math.max.code 2 (some .int), .methodLink RX12 232 yX12_isIn, .static yX12_isIn, .code yX12_hour cX12_hour 1 (some .int), .fieldLink RX12 9 "SeaLandModel" "world" "[I", .methodLink RX12 228 yX12_hour, .instanceMethod yX12_hour, .selects RX12 yX12_hour yX12_hour, .fieldLink RX12 51 "SeaLandModel" "winter" "[I", .fieldLink RX12 48 "SeaLandModel" "told" "[I"] ++ bs)
set_option maxHeartbeats 4000000 in
set_option maxRecDepth 100000 in
theorem s_lawLevel (l : Launch) (dC : Nat → ClassId) (dI : Nat → Nat → Nat) (kA : Nat → ClassId) (G : gT) (H0 : Heap) (q : Nat → Nat) (wN wH wB wC : Int) (wL wK : Nat → Prop) (PI : Nat → Int → Prop) (o0 : Nat) (p0 : Int32) (hT : gH (dC, dI) kA (SHm q (wP wN wH wB wC wC wL wK) PI) G H0) (hr_o0 : G o0 = some 0) (hgn : 6500000 ≤ wN ∧ wN ≤ 400000000) (hgh : 0 ≤ wH ∧ wH ≤ 40000) (hgb : 0 ≤ wB ∧ wB ≤ 3850000) (hgc : 0 ≤ wC ∧ wC ≤ 30) : Met l yX12_lawLevel w_s_lawLevel ({ frames := 2, cells := 0, slots := 0, locals := 64 }) (va_Pc [.ref o0, .int p0] (fun U => U.heap = H0 ∧ va_K (dC, dI) vwCl (tyl kA) U ∧ EV (gA G H0.size) U U.heap)) (va_Qi (fun (r : Int32) (u : Unit) => True) (fun (_ : Unit) (t : State) => gH (dC, dI) kA (SHm q (wP wN wH wB wC wC wL wK) PI) G t.heap ∧ gF (dC, dI) SKm G ([(0, 0)] : List (Nat × Nat)) H0 t.heap) (gA G H0.size)) 0 0 (gA G H0.size) := by
  refine Met.ofW (cc := cX12_lawLevel) (maxL := 4) (ret := (some .int)) (by decide) rfl ?_
  intro p e s m args below meth c s₁ B hml hv
  obtain ⟨rfl, hH0, hK, hE⟩ := hv
  have hx := B.exec
  have hb := B.bytes
  have hr := B.returns
  have hts := atoms_spec (ws := w_s_lawLevel) B.pre
  have hown : s.vm.findClass RX12 = some m.cls := findClass_of_methodNamed B.named
  have hlocks := B.notSynchronized
  subst hH0
  generalize hAe : gA G s.heap.size = A at hE ⊢
  have hA : ∀ q : Nat, s.heap.size ≤ q → A q := fun q h => by rw [← hAe]; exact Or.inr h
  have hG := gA_of hAe
  have hS : va_S A s.heap s.heap [] := va_S.rf
  have hF : gF (dC, dI) SKm G ([(0, 0)] : List (Nat × Nat)) s.heap s.heap := gF.rf
  have hl := lv_entry ([.ref o0, .int p0]) (n := 4) (Nat.le_of_ble_eq_true rfl)
  rw [lg_entry_eq]
  generalize (lg_sl ([.ref o0, .int p0]) ++ List.replicate (4 - (lg_sl ([.ref o0, .int p0])).length) Slot.unset).toArray = ls at hl ⊢
  have hl : lv_has ls 4 [(0, .ref o0), (1, .int p0)] := hl
  refine lv_aload_n hx hb dX12_lawLevel_0 rfl (lv_at hl 0 rfl) ?_
  refine lv_iconst (v := 0) hx hb dX12_lawLevel_1 (by decide) ?_
  refine tw_put (v := .int 0) (ty := .int) hx hb hts bF_X12 tyX12 tyX12_ok nmX12 hown hK hT hG hS hr_o0 shm_0 rfl 0 (by decide) (ht_at hts 0 rfl) (fun _ h9 => h9) rfl (by decide +kernel) rfl rfl (gl_at rfl (gi_all _)) dX12_lawLevel_2 (fun H locs hT oq m1 oj hS => ?_)
  have hF := hF.put hr_o0 skm_0 oq oj (by decide)
  refine lv_aload_n hx hb dX12_lawLevel_5 rfl (lv_at hl 0 rfl) ?_
  refine lv_iload_n hx hb dX12_lawLevel_6 rfl (lv_at hl 1 rfl) ?_
  have hFc := gA_free hG hA hS
  refine va_calli (va_runS (As := [.int p0]) (rest := [.ref o0]) ⟨hx, hb, hml, hown, hts⟩ (s_noSquare l dC dI kA G H q wN wH wB wC wL wK PI p0 hT (by omega) (by omega) (by omega) (by omega)) (va_cwS 1 hts (goodIn_app (goodIn_r _ [7, 8, 6] (by decide +kernel) (by decide +kernel)) (goodIn_ca (goodIn_r _ [2, 3, 4, 5, 6] (by decide +kernel) (by decide +kernel)) (bs_in _ _))) rfl rfl rfl (by decide +kernel) ⟨(Nat.le_of_ble_eq_true rfl), (Nat.le_of_ble_eq_true rfl)⟩) ⟨fun a U g mk q => by obtain ⟨q0, q1, qK, qE⟩ := q; exact ⟨q0, q1, va_K.moved (u := U) (U := U.calling g mk a) (Vm.Alike.refl U.vm) qK, EV.blind g mk a qE⟩, fun U hU hW => ⟨rfl, hU, va_K.moved hW.alike hK, hE.call hS hFc hU hW⟩⟩ rfl rfl hl.1 rfl (lv_room (Nat.le_of_ble_eq_true rfl)) dX12_lawLevel_7 ⟨(Nat.le_of_ble_eq_true rfl), (Nat.le_of_ble_eq_true rfl)⟩) hS (fun q _ h => hFc q h) hFc (fun r2 u t H locs ht hvm hw3 hB _ _ hS => ?_)
  obtain ⟨hT, hF1⟩ := hB
  rw [ht] at hT hF1
  have m4 := (hF1.fld hr_o0 skm_0 (k := 0) (by decide) (by decide)).trans m1
  have hF := hF.more hF1 (by decide)
  try dsimp only at hw3
  obtain ⟨h5, hi6⟩ := hw3
  refine lv_iconst (v := 1) hx hb dX12_lawLevel_10 (by decide) ?_
  have hFc := gA_free hG hA hS
  refine va_calli (va_runV (As := [.int r2, .int 1]) (rest := []) ⟨hx, hb, hml, hown, hts⟩ (s_throwsIf l dC dI kA G H q wN wH wB wC wL wK PI o0 r2 1 hT hr_o0 (rg_t (a := r2.toInt) rfl (by have q8 := ti_all r2; omega) (by have q8 := ti_all r2; omega)) (by omega) (by omega) (by omega) (by omega)) (cwV 2 hts (goodIn_app (goodIn_r _ [10, 11, 12, 6] (by decide +kernel) (by decide +kernel)) (goodIn_ca (goodIn_r _ [9, 1] (by decide +kernel) (by decide +kernel)) (bs_in _ _))) rfl rfl rfl (by decide +kernel) ⟨(Nat.le_of_ble_eq_true rfl), (Nat.le_of_ble_eq_true rfl)⟩) ⟨fun a U g mk q => by obtain ⟨q0, q1, qK, qE⟩ := q; exact ⟨q0, q1, va_K.moved (u := U) (U := U.calling g mk a) (Vm.Alike.refl U.vm) qK, EV.blind g mk a qE⟩, gH_recv hK hT hr_o0 shm_0 rfl, fun U hU hW => ⟨rfl, hU, va_K.moved hW.alike hK, hE.call hS hFc hU hW⟩⟩ rfl rfl hl.1 rfl (lv_room (Nat.le_of_ble_eq_true rfl)) dX12_lawLevel_11 ⟨(Nat.le_of_ble_eq_true rfl), (Nat.le_of_ble_eq_true rfl)⟩) hS (fun q _ h => hFc q h) hFc (fun r7 u t H locs ht hvm hw8 hB _ _ hS => ?_)
  obtain ⟨hT, hF1⟩ := hB
  rw [ht] at hT hF1
  have hF := hF.more hF1 (by decide)
  try dsimp only at hw8
  obtain ⟨h10, hd11⟩ := hw8
  obtain rfl : r2 = r7 := hd11.symm
  refine lv_if_eq (tgt := 19) hx hb dX12_lawLevel_14 (by decide) (fun c12 => ?_) (fun c12 => ?_)
  · have t13 : r2.toInt = 0 := ti_eq c12 rfl (by decide)
    have t14 : 0 ≤ p0.toInt ∧ p0.toInt ≤ 95 := hi6 c12
    refine lv_sipush (v := 1000) hx hb dX12_lawLevel_19 (by decide) ?_
    refine lv_istore_n (lv' := [(2, .int 1000), (0, .ref o0), (1, .int p0)]) hx hb dX12_lawLevel_22 rfl hl (by decide) rfl (fun ls hl => ?_)
    refine lv_iconst (v := 0) hx hb dX12_lawLevel_23 (by decide) ?_
    refine lv_istore_n (lv' := [(3, .int 0), (2, .int 1000), (0, .ref o0), (1, .int p0)]) hx hb dX12_lawLevel_24 rfl hl (by decide) rfl (fun ls hl => ?_)
    have key230 : ∀ (n230 i15 : Nat), i15 + n230 = 20 → 0 ≤ i15 → ∀ (z158 : Int32), ∀ (H : Heap) (locs : List Loc), gH (dC, dI) kA (SHm q (wP wN wH wB wC wC wL wK) PI) G H → gF (dC, dI) SKm G ([(0, 0)] : List (Nat × Nat)) s.heap H → va_S A s.heap H locs → ∀ ls : Array Slot, lv_has ls 4 [(3, .int (nI i15)), (2, .int z158), (0, .ref o0), (1, .int p0)] → W p l e (headSpec w_s_lawLevel ({ frames := 2, cells := 0, slots := 0, locals := 64 })).room s m #[.ref o0, .int p0] below meth c H locs 0 0 (MQ below (va_Qi (fun (r : Int32) (u : Unit) => True) (fun (_ : Unit) (t : State) => gH (dC, dI) kA (SHm q (wP wN wH wB wC wC wL wK) PI) G t.heap ∧ gF (dC, dI) SKm G ([(0, 0)] : List (Nat × Nat)) s.heap t.heap) A) #[.ref o0, .int p0] s 0 0 A) (F0 m 25 ls []) := by
      intro n230
      induction n230 with
      | zero =>
        intro i15 hn230 hlo231 z158 H locs hT hF hS  ls hl
        obtain rfl : 20 = i15 := by omega
        refine lv_iload_n hx hb dX12_lawLevel_25 rfl (lv_at hl 0 rfl) ?_
        refine lv_aload_n hx hb dX12_lawLevel_26 rfl (lv_at hl 2 rfl) ?_
        refine tw_get hx hb hts bF_X12 hown hK hT hr_o0 shm_0 rfl 18 (by decide) (ht_at hts 12 rfl) (fun _ h9 => h9) dX12_lawLevel_27 (fun v9 m232 h9 => ?_)
        obtain ⟨rfl, hg233⟩ := h9 _ rfl
        refine lv_iconst (v := 0) hx hb dX12_lawLevel_30 (by decide) ?_
        refine tw_iald (i := 0) hx hb hK hT hg233 shm_19 rfl (by unfold vp_in; decide) dX12_lawLevel_31 (fun v9 m234 h9 => ?_)
        obtain ⟨x235, rfl, gx235, kx235⟩ := h9
        refine lv_icmp_ge (tgt := 111) hx hb dX12_lawLevel_32 (by decide) (fun c236 => ?_) (fun c236 => (by exfalso; have q9 : ((20 : Nat) : Int) < x235.toInt := ti_nle c236 rfl (nI_toInt (by omega)); omega))
        have t237 : x235.toInt ≤ ((20 : Nat) : Int) := ti_le c236 rfl (nI_toInt (by omega))
        refine lv_iload_n hx hb dX12_lawLevel_111 rfl (lv_at hl 1 rfl) ?_
        exact W.iret (v := z158) hx hb hr (fun t ht hW => ⟨⟨z158, (), rfl, (by exact trivial), by (try dsimp only); rw [ht]; exact ⟨hT, hF⟩⟩, hS.F ht⟩) hS.2.2 dX12_lawLevel_112
      | succ n230 ih230 =>
        intro i15 hn230 hlo231 z158 H locs hT hF hS  ls hl
        have hlt237 : i15 < 20 := by omega
        refine lv_iload_n hx hb dX12_lawLevel_25 rfl (lv_at hl 0 rfl) ?_
        refine lv_aload_n hx hb dX12_lawLevel_26 rfl (lv_at hl 2 rfl) ?_
        refine tw_get hx hb hts bF_X12 hown hK hT hr_o0 shm_0 rfl 18 (by decide) (ht_at hts 12 rfl) (fun _ h9 => h9) dX12_lawLevel_27 (fun v9 m238 h9 => ?_)
        obtain ⟨rfl, hg239⟩ := h9 _ rfl
        refine lv_iconst (v := 0) hx hb dX12_lawLevel_30 (by decide) ?_
        refine tw_iald (i := 0) hx hb hK hT hg239 shm_19 rfl (by unfold vp_in; decide) dX12_lawLevel_31 (fun v9 m240 h9 => ?_)
        obtain ⟨x241, rfl, gx241, kx241⟩ := h9
        refine lv_icmp_ge (tgt := 111) hx hb dX12_lawLevel_32 (by decide) (fun c242 => ?_) (fun c242 => ?_)
        · have t243 : x241.toInt ≤ ((i15 : Nat) : Int) := ti_le c242 rfl (nI_toInt (by omega))
          refine lv_iload_n hx hb dX12_lawLevel_111 rfl (lv_at hl 1 rfl) ?_
          exact W.iret (v := z158) hx hb hr (fun t ht hW => ⟨⟨z158, (), rfl, (by exact trivial), by (try dsimp only); rw [ht]; exact ⟨hT, hF⟩⟩, hS.F ht⟩) hS.2.2 dX12_lawLevel_112
        · have t244 : ((i15 : Nat) : Int) < x241.toInt := ti_nle c242 rfl (nI_toInt (by omega))
          refine lv_aload_n hx hb dX12_lawLevel_35 rfl (lv_at hl 2 rfl) ?_
          refine tw_get hx hb hts bF_X12 hown hK hT hr_o0 shm_0 rfl 19 (by decide) (ht_at hts 13 rfl) (fun _ h9 => h9) dX12_lawLevel_36 (fun v9 m245 h9 => ?_)
          obtain ⟨rfl, hg246⟩ := h9 _ rfl
          refine lv_iload_n hx hb dX12_lawLevel_39 rfl (lv_at hl 0 rfl) ?_
          refine tw_iald (i := (nI i15)) hx hb hK hT hg246 shm_20 rfl (vp_in_nI (by omega) (by decide)) dX12_lawLevel_40 (fun v9 m247 h9 => ?_)
          obtain ⟨x248, rfl, gx248, kx248⟩ := h9
          refine lv_bipush (v := 7) hx hb dX12_lawLevel_41 (by decide) ?_
          refine lv_icmp_ne (tgt := 105) hx hb dX12_lawLevel_43 (by decide) (fun c249 => ?_) (fun c249 => ?_)
          · have t250 : x248.toInt ≠ 7 := ti_ne c249 rfl (by decide)
            refine lv_iinc (v := nI (i15 + 1)) (lv' := [(3, .int (nI (i15 + 1))), (2, .int z158), (0, .ref o0), (1, .int p0)]) hx hb dX12_lawLevel_105 hl (k := 0) rfl (nI_add i15 1) (by decide) rfl (fun ls hl => ?_)
            refine lv_goto (tgt := 25) hx hb dX12_lawLevel_108 (by decide) ?_
            exact ih230 (i15 + 1) (by omega) (by omega) z158 _ _ hT hF hS ls (lv_sub hl [0, 1, 2, 3] rfl)
          · have t251 : x248.toInt = 7 := ti_eq c249 rfl (by decide)
            refine lv_iload_n hx hb dX12_lawLevel_46 rfl (lv_at hl 3 rfl) ?_
            refine lv_aload_n hx hb dX12_lawLevel_47 rfl (lv_at hl 2 rfl) ?_
            refine tw_get hx hb hts bF_X12 hown hK hT hr_o0 shm_0 rfl 22 (by decide) (ht_at hts 14 rfl) (fun _ h9 => h9) dX12_lawLevel_48 (fun v9 m252 h9 => ?_)
            obtain ⟨rfl, hg253⟩ := h9 _ rfl
            refine lv_iload_n hx hb dX12_lawLevel_51 rfl (lv_at hl 0 rfl) ?_
            refine tw_iald (i := (nI i15)) hx hb hK hT hg253 shm_23 rfl (vp_in_nI (by omega) (by decide)) dX12_lawLevel_52 (fun v9 m254 h9 => ?_)
            obtain ⟨x255, rfl, gx255, kx255⟩ := h9
            refine lv_aload_n hx hb dX12_lawLevel_53 rfl (lv_at hl 2 rfl) ?_
            refine tw_get hx hb hts bF_X12 hown hK hT hr_o0 shm_0 rfl 23 (by decide) (ht_at hts 15 rfl) (fun _ h9 => h9) dX12_lawLevel_54 (fun v9 m256 h9 => ?_)
            obtain ⟨rfl, hg257⟩ := h9 _ rfl
            refine lv_iload_n hx hb dX12_lawLevel_57 rfl (lv_at hl 0 rfl) ?_
            refine tw_iald (i := (nI i15)) hx hb hK hT hg257 shm_24 rfl (vp_in_nI (by omega) (by decide)) dX12_lawLevel_58 (fun v9 m258 h9 => ?_)
            obtain ⟨x259, rfl, gx259, kx259⟩ := h9
            have hFc := gA_free hG hA hS
            refine va_calli (va_runS (As := [.int p0, .int x255, .int x259]) (rest := []) ⟨hx, hb, hml, hown, hts⟩ (s_isIn l dC dI kA G H q wN wH wB wC wL wK PI p0 x255 x259 hT (by omega) (by omega) (by omega) (by omega)) (va_cwS 3 hts (goodIn_app (goodIn_r _ [25, 26, 6] (by decide +kernel) (by decide +kernel)) (goodIn_ca (goodIn_r _ [17, 18, 19, 20, 21, 22, 23, 24, 3, 4, 5, 6] (by decide +kernel) (by decide +kernel)) (bs_in _ _))) rfl rfl rfl (by decide +kernel) ⟨(Nat.le_of_ble_eq_true rfl), (Nat.le_of_ble_eq_true rfl)⟩) ⟨fun a U g mk q => by obtain ⟨q0, q1, qK, qE⟩ := q; exact ⟨q0, q1, va_K.moved (u := U) (U := U.calling g mk a) (Vm.Alike.refl U.vm) qK, EV.blind g mk a qE⟩, fun U hU hW => ⟨rfl, hU, va_K.moved hW.alike hK, hE.call hS hFc hU hW⟩⟩ rfl rfl hl.1 rfl (lv_room (Nat.le_of_ble_eq_true rfl)) dX12_lawLevel_59 ⟨(Nat.le_of_ble_eq_true rfl), (Nat.le_of_ble_eq_true rfl)⟩) hS (fun q _ h => hFc q h) hFc (fun r260 u t H locs ht hvm hw261 hB _ _ hS => ?_)
            obtain ⟨hT, hF1⟩ := hB
            rw [ht] at hT hF1
            have m262 := (el_kept (hF1.arr hg239 skm_19 (by decide))).trans m240
            have m263 := (el_kept (hF1.arr hg246 skm_20 (by decide))).trans m247
            have m264 := (el_kept (hF1.arr hg253 skm_23 (by decide))).trans m254
            have m265 := (el_kept (hF1.arr hg257 skm_24 (by decide))).trans m258
            have hF := hF.more hF1 (by decide)
            try dsimp only at hw261
            have h266 := hw261
            refine lv_if_eq (tgt := 105) hx hb dX12_lawLevel_62 (by decide) (fun c267 => ?_) (fun c267 => ?_)
            · have t268 : r260.toInt = 0 := ti_eq c267 rfl (by decide)
              refine lv_iinc (v := nI (i15 + 1)) (lv' := [(3, .int (nI (i15 + 1))), (2, .int z158), (0, .ref o0), (1, .int p0)]) hx hb dX12_lawLevel_105 hl (k := 0) rfl (nI_add i15 1) (by decide) rfl (fun ls hl => ?_)
              refine lv_goto (tgt := 25) hx hb dX12_lawLevel_108 (by decide) ?_
              exact ih230 (i15 + 1) (by omega) (by omega) z158 _ _ hT hF hS ls (lv_sub hl [0, 1, 2, 3] rfl)
            · have t269 : r260.toInt ≠ 0 := ti_ne c267 rfl (by decide)
              refine lv_aload_n hx hb dX12_lawLevel_65 rfl (lv_at hl 2 rfl) ?_
              have hFc := gA_free hG hA hS
              refine va_calli (va_runV (As := []) (rest := []) ⟨hx, hb, hml, hown, hts⟩ (s_hour l dC dI kA G H q wN wH wB wC wL wK PI o0 hT hr_o0 (by omega) (by omega) (by omega) (by omega)) (cwV 0 hts (goodIn_app (goodIn_r _ [29, 30, 31, 6] (by decide +kernel) (by decide +kernel)) (goodIn_ca (goodIn_r _ [27, 28] (by decide +kernel) (by decide +kernel)) (bs_in _ _))) rfl rfl rfl (by decide +kernel) ⟨(Nat.le_of_ble_eq_true rfl), (Nat.le_of_ble_eq_true rfl)⟩) ⟨fun a U g mk q => by obtain ⟨q0, q1, qK, qE⟩ := q; exact ⟨q0, q1, va_K.moved (u := U) (U := U.calling g mk a) (Vm.Alike.refl U.vm) qK, EV.blind g mk a qE⟩, gH_recv hK hT hr_o0 shm_0 rfl, fun U hU hW => ⟨rfl, hU, va_K.moved hW.alike hK, hE.call hS hFc hU hW⟩⟩ rfl rfl hl.1 rfl (lv_room (Nat.le_of_ble_eq_true rfl)) dX12_lawLevel_66 ⟨(Nat.le_of_ble_eq_true rfl), (Nat.le_of_ble_eq_true rfl)⟩) hS (fun q _ h => hFc q h) hFc (fun r270 u t H locs ht hvm hw271 hB _ _ hS => ?_)
              obtain ⟨hT, hF1⟩ := hB
              rw [ht] at hT hF1
              have m272 := (el_kept (hF1.arr hg239 skm_19 (by decide))).trans m262
              have m273 := (el_kept (hF1.arr hg246 skm_20 (by decide))).trans m263
              have m274 := (el_kept (hF1.arr hg253 skm_23 (by decide))).trans m264
              have m275 := (el_kept (hF1.arr hg257 skm_24 (by decide))).trans m265
              have hF := hF.more hF1 (by decide)
              try dsimp only at hw271
              have h276 := hw271
              refine lv_bipush (v := 24) hx hb dX12_lawLevel_69 (by decide) ?_
              refine lv_idiv hx hb dX12_lawLevel_71 (by decide) ?_
              refine lv_topi (fun x277 ex277 => ?_)
              have t278 : x277.toInt = r270.toInt / 24 := ti_div ex277 rfl (by decide) (by omega) (by omega)
              refine lv_sipush (v := 360) hx hb dX12_lawLevel_72 (by decide) ?_
              refine lv_irem hx hb dX12_lawLevel_75 (by decide) ?_
              refine lv_topi (fun x279 ex279 => ?_)
              have t280 : x279.toInt = x277.toInt % 360 := ti_rem ex279 rfl (by decide) (by omega) (by omega)
              refine lv_bipush (v := 90) hx hb dX12_lawLevel_76 (by decide) ?_
              refine lv_sipush (v := 269) hx hb dX12_lawLevel_78 (by decide) ?_
              have hFc := gA_free hG hA hS
              refine va_calli (va_runS (As := [.int x279, .int 90, .int 269]) (rest := []) ⟨hx, hb, hml, hown, hts⟩ (s_in l dC dI kA G H q wN wH wB wC wL wK PI x279 90 269 hT (by omega) (by omega) (by omega) (by omega)) (va_cwS 3 hts (goodIn_app (goodIn_r _ [4, 5, 6] (by decide +kernel) (by decide +kernel)) (goodIn_ca (goodIn_r _ [3] (by decide +kernel) (by decide +kernel)) (bs_in _ _))) rfl rfl rfl (by decide +kernel) ⟨(Nat.le_of_ble_eq_true rfl), (Nat.le_of_ble_eq_true rfl)⟩) ⟨fun a U g mk q => by obtain ⟨q0, q1, qK, qE⟩ := q; exact ⟨q0, q1, va_K.moved (u := U) (U := U.calling g mk a) (Vm.Alike.refl U.vm) qK, EV.blind g mk a qE⟩, fun U hU hW => ⟨rfl, hU, va_K.moved hW.alike hK, hE.call hS hFc hU hW⟩⟩ rfl rfl hl.1 rfl (lv_room (Nat.le_of_ble_eq_true rfl)) dX12_lawLevel_81 ⟨(Nat.le_of_ble_eq_true rfl), (Nat.le_of_ble_eq_true rfl)⟩) hS (fun q _ h => hFc q h) hFc (fun r281 u t H locs ht hvm hw282 hB _ _ hS => ?_)
              obtain ⟨hT, hF1⟩ := hB
              rw [ht] at hT hF1
              have m283 := (el_kept (hF1.arr hg239 skm_19 (by decide))).trans m272
              have m284 := (el_kept (hF1.arr hg246 skm_20 (by decide))).trans m273
              have m285 := (el_kept (hF1.arr hg253 skm_23 (by decide))).trans m274
              have m286 := (el_kept (hF1.arr hg257 skm_24 (by decide))).trans m275
              have hF := hF.more hF1 (by decide)
              try dsimp only at hw282
              obtain ⟨h287, hi288, hi289⟩ := hw282
              refine lv_if_eq (tgt := 97) hx hb dX12_lawLevel_84 (by decide) (fun c290 => ?_) (fun c290 => ?_)
              · have t291 : r281.toInt = 0 := ti_eq c290 rfl (by decide)
                have t292 : (90 : Int32).toInt = 90 := by decide
                have t293 : (269 : Int32).toInt = 269 := by decide
                have t294 : x279.toInt < (90 : Int32).toInt ∨ (269 : Int32).toInt < x279.toInt := hi289 c290
                refine lv_aload_n hx hb dX12_lawLevel_97 rfl (lv_at hl 2 rfl) ?_
                refine tw_get hx hb hts bF_X12 hown hK hT hr_o0 shm_0 rfl 21 (by decide) (ht_at hts 31 rfl) (fun _ h9 => h9) dX12_lawLevel_98 (fun v9 m295 h9 => ?_)
                obtain ⟨rfl, hg296⟩ := h9 _ rfl
                refine lv_iload_n hx hb dX12_lawLevel_101 rfl (lv_at hl 0 rfl) ?_
                refine tw_iald (i := (nI i15)) hx hb hK hT hg296 shm_22 rfl (vp_in_nI (by omega) (by decide)) dX12_lawLevel_102 (fun v9 m297 h9 => ?_)
                obtain ⟨x298, rfl, gx298, kx298⟩ := h9
                refine lv_ineg hx hb dX12_lawLevel_103 ?_
                refine lv_topi (fun x299 ex299 => ?_)
                refine lv_istore_n (lv' := [(2, .int x299), (3, .int (nI i15)), (0, .ref o0), (1, .int p0)]) hx hb dX12_lawLevel_104 rfl hl (by decide) rfl (fun ls hl => ?_)
                refine lv_iinc (v := nI (i15 + 1)) (lv' := [(3, .int (nI (i15 + 1))), (2, .int x299), (0, .ref o0), (1, .int p0)]) hx hb dX12_lawLevel_105 hl (k := 1) rfl (nI_add i15 1) (by decide) rfl (fun ls hl => ?_)
                refine lv_goto (tgt := 25) hx hb dX12_lawLevel_108 (by decide) ?_
                exact ih230 (i15 + 1) (by omega) (by omega) x299 _ _ hT hF hS ls (lv_sub hl [0, 1, 2, 3] rfl)
              · have t300 : r281.toInt ≠ 0 := ti_ne c290 rfl (by decide)
                have t301 : (90 : Int32).toInt = 90 := by decide
                have t302 : (269 : Int32).toInt = 269 := by decide
                have t303 : (90 : Int32).toInt ≤ x279.toInt ∧ x279.toInt ≤ (269 : Int32).toInt := hi288 ((bit_of ⟨by omega, by omega⟩).resolve_left c290)
                refine lv_aload_n hx hb dX12_lawLevel_87 rfl (lv_at hl 2 rfl) ?_
                refine tw_get hx hb hts bF_X12 hown hK hT hr_o0 shm_0 rfl 20 (by decide) (ht_at hts 32 rfl) (fun _ h9 => h9) dX12_lawLevel_88 (fun v9 m304 h9 => ?_)
                obtain ⟨rfl, hg305⟩ := h9 _ rfl
                refine lv_iload_n hx hb dX12_lawLevel_91 rfl (lv_at hl 0 rfl) ?_
                refine tw_iald (i := (nI i15)) hx hb hK hT hg305 shm_21 rfl (vp_in_nI (by omega) (by decide)) dX12_lawLevel_92 (fun v9 m306 h9 => ?_)
                obtain ⟨x307, rfl, gx307, kx307⟩ := h9
                refine lv_ineg hx hb dX12_lawLevel_93 ?_
                refine lv_topi (fun x308 ex308 => ?_)
                refine lv_goto (tgt := 104) hx hb dX12_lawLevel_94 (by decide) ?_
                refine lv_istore_n (lv' := [(2, .int x308), (3, .int (nI i15)), (0, .ref o0), (1, .int p0)]) hx hb dX12_lawLevel_104 rfl hl (by decide) rfl (fun ls hl => ?_)
                refine lv_iinc (v := nI (i15 + 1)) (lv' := [(3, .int (nI (i15 + 1))), (2, .int x308), (0, .ref o0), (1, .int p0)]) hx hb dX12_lawLevel_105 hl (k := 1) rfl (nI_add i15 1) (by decide) rfl (fun ls hl => ?_)
                refine lv_goto (tgt := 25) hx hb dX12_lawLevel_108 (by decide) ?_
                exact ih230 (i15 + 1) (by omega) (by omega) x308 _ _ hT hF hS ls (lv_sub hl [0, 1, 2, 3] rfl)
    exact key230 (20 - 0) 0 (by omega) (Nat.le_refl _) 1000 _ _ hT hF hS ls (lv_sub hl [0, 1, 2, 3] rfl)
  · have t309 : r2.toInt ≠ 0 := ti_ne c12 rfl (by decide)
    refine lv_iconst (v := 0) hx hb dX12_lawLevel_17 (by decide) ?_
    exact W.iret (v := 0) hx hb hr (fun t ht hW => ⟨⟨0, (), rfl, (by exact trivial), by (try dsimp only); rw [ht]; exact ⟨hT, hF⟩⟩, hS.F ht⟩) hS.2.2 dX12_lawLevel_18
def w_s_worth : List Cond := .code yX12_worth cX12_worth 2 (some .int) :: ([.fieldLink RX12 194 "SeaLandModel" "thrown" "I", .code yX12_noFarm cX12_noFarm 2 (some .boolean), .fieldLink RX12 498 "SeaLandModel" "farms" "I", .code yX12_in cX12_in 3 (some .boolean), .methodLink RX12 197 yX12_in, .static yX12_in, .initialized RX12, .methodLink RX12 502 yX12_noFarm, .instanceMethod yX12_noFarm, .selects RX12 yX12_noFarm yX12_noFarm, .code yX12_throwsIf cX12_throwsIf 3 (some .boolean), .methodLink RX12 224 yX12_throwsIf, .instanceMethod yX12_throwsIf, .selects RX12 yX12_throwsIf yX12_throwsIf, .code yX12_worthOf cX12_worthOf 5 (some .int), .fieldLink RX12 113 "SeaLandModel" "farmFrom" "[I", .fieldLink RX12 116 "SeaLandModel" "farmTo" "[I", .code yX12_isIn cX12_isIn 5 (some .boolean), .methodLink RX12 207 Lib.Math.min.name, .static Lib.Math.min.name, .initialized "java/lang/Math", .code Lib.Math.min.name Lib.Math.min.code 2 (some .int), .methodLink RX12 211 Lib.Math.max.name, .static Lib.Math.max.name, .code Lib.Math.max.name Lib.Math.max.code 2 (some .int), .methodLink RX12 232 yX12_isIn, .static yX12_isIn, .fieldLink RX12 9 "SeaLandModel" "world" "[I", .methodLink RX12 505 yX12_worthOf, .instanceMethod yX12_worthOf, .selects RX12 yX12_worthOf yX12_worthOf] ++ bs)
set_option maxHeartbeats 4000000 in
set_option maxRecDepth 100000 in
theorem s_worth (l : Launch) (dC : Nat → ClassId) (dI : Nat → Nat → Nat) (kA : Nat → ClassId) (G : gT) (H0 : Heap) (q : Nat → Nat) (wN wH wB wC : Int) (wL wK : Nat → Prop) (PI : Nat → Int → Prop) (o0 : Nat) (p0 : Int32) (hT : gH (dC, dI) kA (SHm q (wP wN wH wB wC wC wL wK) PI) G H0) (hr_o0 : G o0 = some 0) (hgn : 6500000 ≤ wN ∧ wN ≤ 400000000) (hgh : 0 ≤ wH ∧ wH ≤ 40000) (hgb : 0 ≤ wB ∧ wB ≤ 3850000) (hgc : 0 ≤ wC ∧ wC ≤ 30) : Met l yX12_worth w_s_worth ({ frames := 3, cells := 0, slots := 0, locals := 88 }) (va_Pc [.ref o0, .int p0] (fun U => U.heap = H0 ∧ va_K (dC, dI) vwCl (tyl kA) U ∧ EV (gA G H0.size) U U.heap)) (va_Qi (fun (r : Int32) (u : Unit) => True) (fun (_ : Unit) (t : State) => gH (dC, dI) kA (SHm q (wP wN wH wB wC wC wL wK) PI) G t.heap ∧ gF (dC, dI) SKm G ([(0, 0)] : List (Nat × Nat)) H0 t.heap) (gA G H0.size)) 0 0 (gA G H0.size) := by
  refine Met.ofW (cc := cX12_worth) (maxL := 2) (ret := (some .int)) (by decide) rfl ?_
  intro p e s m args below meth c s₁ B hml hv
  obtain ⟨rfl, hH0, hK, hE⟩ := hv
  have hx := B.exec
  have hb := B.bytes
  have hr := B.returns
  have hts := atoms_spec (ws := w_s_worth) B.pre
  have hown : s.vm.findClass RX12 = some m.cls := findClass_of_methodNamed B.named
  have hlocks := B.notSynchronized
  subst hH0
  generalize hAe : gA G s.heap.size = A at hE ⊢
  have hA : ∀ q : Nat, s.heap.size ≤ q → A q := fun q h => by rw [← hAe]; exact Or.inr h
  have hG := gA_of hAe
  have hS : va_S A s.heap s.heap [] := va_S.rf
  have hF : gF (dC, dI) SKm G ([(0, 0)] : List (Nat × Nat)) s.heap s.heap := gF.rf
  have hl := lv_entry ([.ref o0, .int p0]) (n := 2) (Nat.le_of_ble_eq_true rfl)
  rw [lg_entry_eq]
  generalize (lg_sl ([.ref o0, .int p0]) ++ List.replicate (2 - (lg_sl ([.ref o0, .int p0])).length) Slot.unset).toArray = ls at hl ⊢
  have hl : lv_has ls 2 [(0, .ref o0), (1, .int p0)] := hl
  refine lv_aload_n hx hb dX12_worth_0 rfl (lv_at hl 0 rfl) ?_
  refine lv_iconst (v := 0) hx hb dX12_worth_1 (by decide) ?_
  refine tw_put (v := .int 0) (ty := .int) hx hb hts bF_X12 tyX12 tyX12_ok nmX12 hown hK hT hG hS hr_o0 shm_0 rfl 0 (by decide) (ht_at hts 0 rfl) (fun _ h9 => h9) rfl (by decide +kernel) rfl rfl (gl_at rfl (gi_all _)) dX12_worth_2 (fun H locs hT oq m1 oj hS => ?_)
  have hF := hF.put hr_o0 skm_0 oq oj (by decide)
  refine lv_aload_n hx hb dX12_worth_5 rfl (lv_at hl 0 rfl) ?_
  refine lv_aload_n hx hb dX12_worth_6 rfl (lv_at hl 0 rfl) ?_
  refine lv_iload_n hx hb dX12_worth_7 rfl (lv_at hl 1 rfl) ?_
  have hFc := gA_free hG hA hS
  refine va_calli (va_runV (As := [.int p0]) (rest := [.ref o0]) ⟨hx, hb, hml, hown, hts⟩ (s_noFarm l dC dI kA G H q wN wH wB wC wL wK PI o0 p0 hT hr_o0 (by omega) (by omega) (by omega) (by omega)) (cwV 1 hts (goodIn_app (goodIn_r _ [8, 9, 10, 7] (by decide +kernel) (by decide +kernel)) (goodIn_ca (goodIn_r _ [2, 3, 4, 5, 6, 7] (by decide +kernel) (by decide +kernel)) (bs_in _ _))) rfl rfl rfl (by decide +kernel) ⟨(Nat.le_of_ble_eq_true rfl), (Nat.le_of_ble_eq_true rfl)⟩) ⟨fun a U g mk q => by obtain ⟨q0, q1, qK, qE⟩ := q; exact ⟨q0, q1, va_K.moved (u := U) (U := U.calling g mk a) (Vm.Alike.refl U.vm) qK, EV.blind g mk a qE⟩, gH_recv hK hT hr_o0 shm_0 rfl, fun U hU hW => ⟨rfl, hU, va_K.moved hW.alike hK, hE.call hS hFc hU hW⟩⟩ rfl rfl hl.1 rfl (lv_room (Nat.le_of_ble_eq_true rfl)) dX12_worth_8 ⟨(Nat.le_of_ble_eq_true rfl), (Nat.le_of_ble_eq_true rfl)⟩) hS (fun q _ h => hFc q h) hFc (fun r2 u t H locs ht hvm hw3 hB _ _ hS => ?_)
  obtain ⟨hT, hF1⟩ := hB
  rw [ht] at hT hF1
  have m4 := (hF1.fld hr_o0 skm_0 (k := 0) (by decide) (by decide)).trans m1
  have hF := hF.more hF1 (by decide)
  try dsimp only at hw3
  obtain ⟨h5, hi6⟩ := hw3
  refine lv_iconst (v := 1) hx hb dX12_worth_11 (by decide) ?_
  have hFc := gA_free hG hA hS
  refine va_calli (va_runV (As := [.int r2, .int 1]) (rest := []) ⟨hx, hb, hml, hown, hts⟩ (s_throwsIf l dC dI kA G H q wN wH wB wC wL wK PI o0 r2 1 hT hr_o0 (rg_t (a := r2.toInt) rfl (by have q8 := ti_all r2; omega) (by have q8 := ti_all r2; omega)) (by omega) (by omega) (by omega) (by omega)) (cwV 2 hts (goodIn_app (goodIn_r _ [12, 13, 14, 7] (by decide +kernel) (by decide +kernel)) (goodIn_ca (goodIn_r _ [11, 1] (by decide +kernel) (by decide +kernel)) (bs_in _ _))) rfl rfl rfl (by decide +kernel) ⟨(Nat.le_of_ble_eq_true rfl), (Nat.le_of_ble_eq_true rfl)⟩) ⟨fun a U g mk q => by obtain ⟨q0, q1, qK, qE⟩ := q; exact ⟨q0, q1, va_K.moved (u := U) (U := U.calling g mk a) (Vm.Alike.refl U.vm) qK, EV.blind g mk a qE⟩, gH_recv hK hT hr_o0 shm_0 rfl, fun U hU hW => ⟨rfl, hU, va_K.moved hW.alike hK, hE.call hS hFc hU hW⟩⟩ rfl rfl hl.1 rfl (lv_room (Nat.le_of_ble_eq_true rfl)) dX12_worth_12 ⟨(Nat.le_of_ble_eq_true rfl), (Nat.le_of_ble_eq_true rfl)⟩) hS (fun q _ h => hFc q h) hFc (fun r7 u t H locs ht hvm hw8 hB _ _ hS => ?_)
  obtain ⟨hT, hF1⟩ := hB
  rw [ht] at hT hF1
  have hF := hF.more hF1 (by decide)
  try dsimp only at hw8
  obtain ⟨h10, hd11⟩ := hw8
  obtain rfl : r2 = r7 := hd11.symm
  refine lv_if_eq (tgt := 22) hx hb dX12_worth_15 (by decide) (fun c12 => ?_) (fun c12 => ?_)
  · have t13 : r2.toInt = 0 := ti_eq c12 rfl (by decide)
    have t14 : 0 ≤ p0.toInt ∧ p0.toInt ≤ 29 := hi6 c12
    refine lv_aload_n hx hb dX12_worth_22 rfl (lv_at hl 0 rfl) ?_
    refine lv_iload_n hx hb dX12_worth_23 rfl (lv_at hl 1 rfl) ?_
    have hFc := gA_free hG hA hS
    refine va_calli (va_runV (As := [.int p0]) (rest := []) ⟨hx, hb, hml, hown, hts⟩ (s_worthOf l dC dI kA G H q wN wH wB wC wL wK PI o0 p0 hT hr_o0 (rg_t (a := p0.toInt) rfl (by have q8 := ti_all p0; omega) (by have q8 := ti_all p0; omega)) (by omega) (by omega) (by omega) (by omega)) (cwV 1 hts (goodIn_app (goodIn_r _ [29, 30, 31, 7] (by decide +kernel) (by decide +kernel)) (goodIn_ca (goodIn_r _ [15, 16, 17, 18, 19, 20, 21, 22, 23, 24, 25, 4, 5, 6, 7, 26, 27, 28] (by decide +kernel) (by decide +kernel)) (bs_in _ _))) rfl rfl rfl (by decide +kernel) ⟨(Nat.le_of_ble_eq_true rfl), (Nat.le_of_ble_eq_true rfl)⟩) ⟨fun a U g mk q => by obtain ⟨q0, q1, qK, qE⟩ := q; exact ⟨q0, q1, va_K.moved (u := U) (U := U.calling g mk a) (Vm.Alike.refl U.vm) qK, EV.blind g mk a qE⟩, gH_recv hK hT hr_o0 shm_0 rfl, fun U hU hW => ⟨rfl, hU, va_K.moved hW.alike hK, hE.call hS hFc hU hW⟩⟩ rfl rfl hl.1 rfl (lv_room (Nat.le_of_ble_eq_true rfl)) dX12_worth_24 ⟨(Nat.le_of_ble_eq_true rfl), (Nat.le_of_ble_eq_true rfl)⟩) hS (fun q _ h => hFc q h) hFc (fun r15 u t H locs ht hvm hw16 hB _ _ hS => ?_)
    obtain ⟨hT, hF1⟩ := hB
    rw [ht] at hT hF1
    have hF := hF.more hF1 (by decide)
    try dsimp only at hw16
    exact W.iret (v := r15) hx hb hr (fun t ht hW => ⟨⟨r15, (), rfl, (by exact trivial), by (try dsimp only); rw [ht]; exact ⟨hT, hF⟩⟩, hS.F ht⟩) hS.2.2 dX12_worth_27
  · have t17 : r2.toInt ≠ 0 := ti_ne c12 rfl (by decide)
    refine lv_iconst (v := 0) hx hb dX12_worth_18 (by decide) ?_
    refine lv_goto (tgt := 27) hx hb dX12_worth_19 (by decide) ?_
    exact W.iret (v := 0) hx hb hr (fun t ht hW => ⟨⟨0, (), rfl, (by exact trivial), by (try dsimp only); rw [ht]; exact ⟨hT, hF⟩⟩, hS.F ht⟩) hS.2.2 dX12_worth_27
def w_s_arrears : List Cond := .code yX12_arrears cX12_arrears 5 (some .int) :: ([.fieldLink RX12 194 "SeaLandModel" "thrown" "I", .fieldLink RX12 495 "SeaLandModel" "settlers" "I", .fieldLink RX12 131 "SeaLandModel" "open" "[Z", .fieldLink RX12 107 "SeaLandModel" "owes" "[I", .fieldLink RX12 101 "SeaLandModel" "holds" "[I"] ++ bs)
set_option maxHeartbeats 4000000 in
set_option maxRecDepth 100000 in
theorem s_arrears (l : Launch) (dC : Nat → ClassId) (dI : Nat → Nat → Nat) (kA : Nat → ClassId) (G : gT) (H0 : Heap) (q : Nat → Nat) (wN wH wB wC : Int) (wL wK : Nat → Prop) (PI : Nat → Int → Prop) (o0 : Nat) (p0 : Int32) (hT : gH (dC, dI) kA (SHm q (wP wN wH wB wC wC wL wK) PI) G H0) (hr_o0 : G o0 = some 0) (hgn : 6500000 ≤ wN ∧ wN ≤ 400000000) (hgh : 0 ≤ wH ∧ wH ≤ 40000) (hgb : 0 ≤ wB ∧ wB ≤ 3850000) (hgc : 0 ≤ wC ∧ wC ≤ 30) : Met l yX12_arrears w_s_arrears ({ frames := 0, cells := 0, slots := 0, locals := 0 }) (va_Pc [.ref o0, .int p0] (fun U => U.heap = H0 ∧ va_K (dC, dI) vwCl (tyl kA) U ∧ EV (gA G H0.size) U U.heap)) (va_Qi (fun (r : Int32) (u : Unit) => (-1 ≤ r.toInt ∧ r.toInt ≤ 59)) (fun (_ : Unit) (t : State) => gH (dC, dI) kA (SHm q (wP wN wH wB wC wC wL wK) PI) G t.heap ∧ gF (dC, dI) SKm G ([(0, 0), (52, 0)] : List (Nat × Nat)) H0 t.heap) (gA G H0.size)) 0 0 (gA G H0.size) := by
  refine Met.ofW (cc := cX12_arrears) (maxL := 5) (ret := (some .int)) (by decide) rfl ?_
  intro p e s m args below meth c s₁ B hml hv
  obtain ⟨rfl, hH0, hK, hE⟩ := hv
  have hx := B.exec
  have hb := B.bytes
  have hr := B.returns
  have hts := atoms_spec (ws := w_s_arrears) B.pre
  have hown : s.vm.findClass RX12 = some m.cls := findClass_of_methodNamed B.named
  have hlocks := B.notSynchronized
  subst hH0
  generalize hAe : gA G s.heap.size = A at hE ⊢
  have hA : ∀ q : Nat, s.heap.size ≤ q → A q := fun q h => by rw [← hAe]; exact Or.inr h
  have hG := gA_of hAe
  have hS : va_S A s.heap s.heap [] := va_S.rf
  have hF : gF (dC, dI) SKm G ([(0, 0), (52, 0)] : List (Nat × Nat)) s.heap s.heap := gF.rf
  have hl := lv_entry ([.ref o0, .int p0]) (n := 5) (Nat.le_of_ble_eq_true rfl)
  rw [lg_entry_eq]
  generalize (lg_sl ([.ref o0, .int p0]) ++ List.replicate (5 - (lg_sl ([.ref o0, .int p0])).length) Slot.unset).toArray = ls at hl ⊢
  have hl : lv_has ls 5 [(0, .ref o0), (1, .int p0)] := hl
  refine lv_aload_n hx hb dX12_arrears_0 rfl (lv_at hl 0 rfl) ?_
  refine lv_iconst (v := 0) hx hb dX12_arrears_1 (by decide) ?_
  refine tw_put (v := .int 0) (ty := .int) hx hb hts bF_X12 tyX12 tyX12_ok nmX12 hown hK hT hG hS hr_o0 shm_0 rfl 0 (by decide) (ht_at hts 0 rfl) (fun _ h9 => h9) rfl (by decide +kernel) rfl rfl (gl_at rfl (gi_all _)) dX12_arrears_2 (fun H locs hT oq m1 oj hS => ?_)
  have hF := hF.put hr_o0 skm_0 oq oj (by decide)
  refine lv_iload_n hx hb dX12_arrears_5 rfl (lv_at hl 1 rfl) ?_
  refine lv_if_lt (tgt := 17) hx hb dX12_arrears_6 (by decide) (fun c2 => ?_) (fun c2 => ?_)
  · have t3 : p0.toInt < 0 := ti_lt c2 rfl (by decide)
    refine lv_iconst (v := (-1)) hx hb dX12_arrears_17 (by decide) ?_
    exact W.iret (v := (-1)) hx hb hr (fun t ht hW => ⟨⟨(-1), (), rfl, (by exact (rg_t (a := (-1)) (by decide) (by omega) (by omega))), by (try dsimp only); rw [ht]; exact ⟨hT, hF⟩⟩, hS.F ht⟩) hS.2.2 dX12_arrears_18
  · have t4 : 0 ≤ p0.toInt := ti_nlt c2 rfl (by decide)
    refine lv_iload_n hx hb dX12_arrears_9 rfl (lv_at hl 1 rfl) ?_
    refine lv_aload_n hx hb dX12_arrears_10 rfl (lv_at hl 0 rfl) ?_
    refine tw_get hx hb hts bF_X12 hown hK hT hr_o0 shm_0 rfl 42 (by decide) (ht_at hts 1 rfl) (fun _ h9 => h9) dX12_arrears_11 (fun v9 m5 h9 => ?_)
    obtain ⟨x6, rfl, gx6, kx6⟩ := h9 _ rfl
    refine lv_icmp_lt (tgt := 19) hx hb dX12_arrears_14 (by decide) (fun c7 => ?_) (fun c7 => ?_)
    · have t8 : p0.toInt < x6.toInt := ti_lt c7 rfl rfl
      refine lv_iconst (v := 0) hx hb dX12_arrears_19 (by decide) ?_
      refine lv_istore_n (lv' := [(2, .int 0), (0, .ref o0), (1, .int p0)]) hx hb dX12_arrears_20 rfl hl (by decide) rfl (fun ls hl => ?_)
      have key1498 : ∀ (n1498 i9 : Nat), i9 + n1498 = 60 → 0 ≤ i9 → ∀ (H : Heap) (locs : List Loc), gH (dC, dI) kA (SHm q (wP wN wH wB wC wC wL wK) PI) G H → gF (dC, dI) SKm G ([(0, 0), (52, 0)] : List (Nat × Nat)) s.heap H → va_S A s.heap H locs → el H o0 (dI 15 0) = some (.int 0) → el H o0 (dI 15 42) = some (.int x6) → ∀ ls : Array Slot, lv_has ls 5 [(2, .int (nI i9)), (0, .ref o0), (1, .int p0)] → W p l e (headSpec w_s_arrears ({ frames := 0, cells := 0, slots := 0, locals := 0 })).room s m #[.ref o0, .int p0] below meth c H locs 0 0 (MQ below (va_Qi (fun (r : Int32) (u : Unit) => (-1 ≤ r.toInt ∧ r.toInt ≤ 59)) (fun (_ : Unit) (t : State) => gH (dC, dI) kA (SHm q (wP wN wH wB wC wC wL wK) PI) G t.heap ∧ gF (dC, dI) SKm G ([(0, 0), (52, 0)] : List (Nat × Nat)) s.heap t.heap) A) #[.ref o0, .int p0] s 0 0 A) (F0 m 21 ls []) := by
        intro n1498
        induction n1498 with
        | zero =>
          intro i9 hn1498 hlo1499  H locs hT hF hS m754 m755 ls hl
          obtain rfl : 60 = i9 := by omega
          refine lv_iload_n hx hb dX12_arrears_21 rfl (lv_at hl 0 rfl) ?_
          refine lv_aload_n hx hb dX12_arrears_22 rfl (lv_at hl 1 rfl) ?_
          refine tw_getM (v := .int x6) hx hb hts bF_X12 hown hK hT hr_o0 shm_0 rfl 42 (by decide) (ht_at hts 1 rfl) (fun _ h9 => h9) m755 dX12_arrears_23 ?_
          refine lv_icmp_ge (tgt := 64) hx hb dX12_arrears_26 (by decide) (fun c1500 => ?_) (fun c1500 => (by exfalso; have q9 : ((60 : Nat) : Int) < x6.toInt := ti_nle c1500 rfl (nI_toInt (by omega)); omega))
          have t1501 : x6.toInt ≤ ((60 : Nat) : Int) := ti_le c1500 rfl (nI_toInt (by omega))
          refine lv_iconst (v := (-1)) hx hb dX12_arrears_64 (by decide) ?_
          refine lv_istore_n (lv' := [(2, .int (-1)), (0, .ref o0), (1, .int p0)]) hx hb dX12_arrears_65 rfl hl (by decide) rfl (fun ls hl => ?_)
          refine lv_iconst (v := 0) hx hb dX12_arrears_66 (by decide) ?_
          refine lv_istore_n (lv' := [(3, .int 0), (2, .int (-1)), (0, .ref o0), (1, .int p0)]) hx hb dX12_arrears_67 rfl hl (by decide) rfl (fun ls hl => ?_)
          have key2033 : ∀ (n2033 i1502 : Nat), i1502 + n2033 = 60 → 0 ≤ i1502 → ∀ (z1855 : Int32), ((-1 ≤ z1855.toInt ∧ z1855.toInt ≤ 59)) → ∀ (H : Heap) (locs : List Loc), gH (dC, dI) kA (SHm q (wP wN wH wB wC wC wL wK) PI) G H → gF (dC, dI) SKm G ([(0, 0), (52, 0)] : List (Nat × Nat)) s.heap H → va_S A s.heap H locs → el H o0 (dI 15 0) = some (.int 0) → el H o0 (dI 15 42) = some (.int x6) → ∀ ls : Array Slot, lv_has ls 5 [(3, .int (nI i1502)), (2, .int z1855), (0, .ref o0), (1, .int p0)] → W p l e (headSpec w_s_arrears ({ frames := 0, cells := 0, slots := 0, locals := 0 })).room s m #[.ref o0, .int p0] below meth c H locs 0 0 (MQ below (va_Qi (fun (r : Int32) (u : Unit) => (-1 ≤ r.toInt ∧ r.toInt ≤ 59)) (fun (_ : Unit) (t : State) => gH (dC, dI) kA (SHm q (wP wN wH wB wC wC wL wK) PI) G t.heap ∧ gF (dC, dI) SKm G ([(0, 0), (52, 0)] : List (Nat × Nat)) s.heap t.heap) A) #[.ref o0, .int p0] s 0 0 A) (F0 m 68 ls []) := by
            intro n2033
            induction n2033 with
            | zero =>
              intro i1502 hn2033 hlo2034 z1855 h1856 H locs hT hF hS m1857 m1858 ls hl
              obtain rfl : 60 = i1502 := by omega
              refine lv_iload_n hx hb dX12_arrears_68 rfl (lv_at hl 0 rfl) ?_
              refine lv_iload_n hx hb dX12_arrears_69 rfl (lv_at hl 3 rfl) ?_
              refine lv_icmp_gt (tgt := 145) hx hb dX12_arrears_70 (by decide) (fun c2035 => ?_) (fun c2035 => (by exfalso; have q9 : ((60 : Nat) : Int) ≤ p0.toInt := ti_nlt c2035 rfl (nI_toInt (by omega)); omega))
              have t2036 : p0.toInt < ((60 : Nat) : Int) := ti_lt c2035 rfl (nI_toInt (by omega))
              refine lv_iload_n hx hb dX12_arrears_145 rfl (lv_at hl 1 rfl) ?_
              exact W.iret (v := z1855) hx hb hr (fun t ht hW => ⟨⟨z1855, (), rfl, (by exact (rg_t (a := z1855.toInt) rfl (by have q8 := ti_all z1855; omega) (by have q8 := ti_all z1855; omega))), by (try dsimp only); rw [ht]; exact ⟨hT, hF⟩⟩, hS.F ht⟩) hS.2.2 dX12_arrears_146
            | succ n2033 ih2033 =>
              intro i1502 hn2033 hlo2034 z1855 h1856 H locs hT hF hS m1857 m1858 ls hl
              have hlt2036 : i1502 < 60 := by omega
              refine lv_iload_n hx hb dX12_arrears_68 rfl (lv_at hl 0 rfl) ?_
              refine lv_iload_n hx hb dX12_arrears_69 rfl (lv_at hl 3 rfl) ?_
              refine lv_icmp_gt (tgt := 145) hx hb dX12_arrears_70 (by decide) (fun c2037 => ?_) (fun c2037 => ?_)
              · have t2038 : p0.toInt < ((i1502 : Nat) : Int) := ti_lt c2037 rfl (nI_toInt (by omega))
                refine lv_iload_n hx hb dX12_arrears_145 rfl (lv_at hl 1 rfl) ?_
                exact W.iret (v := z1855) hx hb hr (fun t ht hW => ⟨⟨z1855, (), rfl, (by exact (rg_t (a := z1855.toInt) rfl (by have q8 := ti_all z1855; omega) (by have q8 := ti_all z1855; omega))), by (try dsimp only); rw [ht]; exact ⟨hT, hF⟩⟩, hS.F ht⟩) hS.2.2 dX12_arrears_146
              · have t2039 : ((i1502 : Nat) : Int) ≤ p0.toInt := ti_nlt c2037 rfl (nI_toInt (by omega))
                refine lv_iconst (v := (-1)) hx hb dX12_arrears_73 (by decide) ?_
                refine lv_istore_n (lv' := [(2, .int (-1)), (3, .int (nI i1502)), (0, .ref o0), (1, .int p0)]) hx hb dX12_arrears_74 rfl hl (by decide) rfl (fun ls hl => ?_)
                refine lv_iconst (v := 0) hx hb dX12_arrears_75 (by decide) ?_
                refine lv_istore (lv' := [(4, .int 0), (2, .int (-1)), (3, .int (nI i1502)), (0, .ref o0), (1, .int p0)]) hx hb dX12_arrears_76 hl (by decide) rfl (fun ls hl => ?_)
                have jn2174 : ∀ (z2168 : Int32), ∀ (z2170 : Int32), ((1 ≤ z2168.toInt ∧ z2168.toInt ≤ 60) ∧ (-1 ≤ z2170.toInt ∧ z2170.toInt ≤ 59)) → ∀ (H : Heap) (locs : List Loc), gH (dC, dI) kA (SHm q (wP wN wH wB wC wC wL wK) PI) G H → gF (dC, dI) SKm G ([(0, 0), (52, 0)] : List (Nat × Nat)) s.heap H → va_S A s.heap H locs → el H o0 (dI 15 0) = some (.int 0) → el H o0 (dI 15 42) = some (.int x6) → ∀ ls : Array Slot, lv_has ls 5 [(4, .int z2168), (2, .int z2170), (3, .int (nI i1502)), (0, .ref o0), (1, .int p0)] → W p l e (headSpec w_s_arrears ({ frames := 0, cells := 0, slots := 0, locals := 0 })).room s m #[.ref o0, .int p0] below meth c H locs 0 0 (MQ below (va_Qi (fun (r : Int32) (u : Unit) => (-1 ≤ r.toInt ∧ r.toInt ≤ 59)) (fun (_ : Unit) (t : State) => gH (dC, dI) kA (SHm q (wP wN wH wB wC wC wL wK) PI) G t.heap ∧ gF (dC, dI) SKm G ([(0, 0), (52, 0)] : List (Nat × Nat)) s.heap t.heap) A) #[.ref o0, .int p0] s 0 0 A) (F0 m 126 ls []) := by
                  intro z2168 z2170 ⟨h2169, h2171⟩ H locs hT hF hS m2172 m2173 ls hl
                  refine lv_iload_n hx hb dX12_arrears_126 rfl (lv_at hl 1 rfl) ?_
                  refine lv_if_ge (tgt := 132) hx hb dX12_arrears_127 (by decide) (fun c2175 => ?_) (fun c2175 => ?_)
                  · have t2176 : 0 ≤ z2170.toInt := ti_le c2175 (by decide) rfl
                    refine lv_aload_n hx hb dX12_arrears_132 rfl (lv_at hl 3 rfl) ?_
                    refine tw_get hx hb hts bF_X12 hown hK hT hr_o0 shm_0 rfl 51 (by decide) (ht_at hts 2 rfl) (fun _ h9 => h9) dX12_arrears_133 (fun v9 m2177 h9 => ?_)
                    obtain ⟨rfl, hg2178⟩ := h9 _ rfl
                    refine lv_iload_n hx hb dX12_arrears_136 rfl (lv_at hl 1 rfl) ?_
                    refine lv_iconst (v := 0) hx hb dX12_arrears_137 (by decide) ?_
                    refine tw_zast (i := z2170) (x := 0) hx hb hK hT hG hS hg2178 shm_52 rfl (vin_t (a := z2170.toInt) rfl (by omega) (by omega)) (gi_z (rg_t (a := 0) (by decide) (by omega) (by omega)) (by decide) (by decide)) dX12_arrears_138 (fun H locs hT oq m2179 oi hS => ?_)
                    have hF := hF.ast hg2178 skm_52 oq (by decide)
                    have m2180 := (el_kept (oq _ (gne hr_o0 hg2178 (by decide)))).trans m2172
                    have m2181 := (el_kept (oq _ (gne hr_o0 hg2178 (by decide)))).trans m2173
                    refine lv_iinc (v := nI (i1502 + 1)) (lv' := [(3, .int (nI (i1502 + 1))), (4, .int z2168), (2, .int z2170), (0, .ref o0), (1, .int p0)]) hx hb dX12_arrears_139 hl (k := 2) rfl (nI_add i1502 1) (by decide) rfl (fun ls hl => ?_)
                    refine lv_goto (tgt := 68) hx hb dX12_arrears_142 (by decide) ?_
                    exact ih2033 (i1502 + 1) (by omega) (by omega) z2170 (rg_t (a := z2170.toInt) rfl (by have q8 := ti_all z2170; omega) (by have q8 := ti_all z2170; omega)) _ _ hT hF hS m2180 m2181 ls (lv_sub hl [0, 2, 3, 4] rfl)
                  · have t2182 : z2170.toInt < 0 := ti_nle c2175 (by decide) rfl
                    refine lv_iconst (v := (-1)) hx hb dX12_arrears_130 (by decide) ?_
                    exact W.iret (v := (-1)) hx hb hr (fun t ht hW => ⟨⟨(-1), (), rfl, (by exact (rg_t (a := (-1)) (by decide) (by omega) (by omega))), by (try dsimp only); rw [ht]; exact ⟨hT, hF⟩⟩, hS.F ht⟩) hS.2.2 dX12_arrears_131
                have key2183 : ∀ (n2183 i2040 : Nat), i2040 + n2183 = 60 → 0 ≤ i2040 → ∀ (z2085 : Int32), ((-1 ≤ z2085.toInt ∧ z2085.toInt ≤ 59)) → ∀ (H : Heap) (locs : List Loc), gH (dC, dI) kA (SHm q (wP wN wH wB wC wC wL wK) PI) G H → gF (dC, dI) SKm G ([(0, 0), (52, 0)] : List (Nat × Nat)) s.heap H → va_S A s.heap H locs → el H o0 (dI 15 0) = some (.int 0) → el H o0 (dI 15 42) = some (.int x6) → ∀ ls : Array Slot, lv_has ls 5 [(4, .int (nI i2040)), (2, .int z2085), (3, .int (nI i1502)), (0, .ref o0), (1, .int p0)] → W p l e (headSpec w_s_arrears ({ frames := 0, cells := 0, slots := 0, locals := 0 })).room s m #[.ref o0, .int p0] below meth c H locs 0 0 (MQ below (va_Qi (fun (r : Int32) (u : Unit) => (-1 ≤ r.toInt ∧ r.toInt ≤ 59)) (fun (_ : Unit) (t : State) => gH (dC, dI) kA (SHm q (wP wN wH wB wC wC wL wK) PI) G t.heap ∧ gF (dC, dI) SKm G ([(0, 0), (52, 0)] : List (Nat × Nat)) s.heap t.heap) A) #[.ref o0, .int p0] s 0 0 A) (F0 m 78 ls []) := by
                  intro n2183
                  induction n2183 with
                  | zero =>
                    intro i2040 hn2183 hlo2184 z2085 h2086 H locs hT hF hS m2087 m2088 ls hl
                    obtain rfl : 60 = i2040 := by omega
                    refine lv_iload hx hb dX12_arrears_78 (lv_at hl 0 rfl) ?_
                    refine lv_aload_n hx hb dX12_arrears_80 rfl (lv_at hl 3 rfl) ?_
                    refine tw_getM (v := .int x6) hx hb hts bF_X12 hown hK hT hr_o0 shm_0 rfl 42 (by decide) (ht_at hts 1 rfl) (fun _ h9 => h9) m2088 dX12_arrears_81 ?_
                    refine lv_icmp_ge (tgt := 126) hx hb dX12_arrears_84 (by decide) (fun c2185 => ?_) (fun c2185 => (by exfalso; have q9 : ((60 : Nat) : Int) < x6.toInt := ti_nle c2185 rfl (nI_toInt (by omega)); omega))
                    have t2186 : x6.toInt ≤ ((60 : Nat) : Int) := ti_le c2185 rfl (nI_toInt (by omega))
                    exact jn2174 (nI 60) z2085 ⟨(rg_t (a := ((60 : Nat) : Int)) (nI_toInt (by omega)) (by omega) (by omega)), (rg_t (a := z2085.toInt) rfl (by have q8 := ti_all z2085; omega) (by have q8 := ti_all z2085; omega))⟩ _ _ hT hF hS m2087 m2088 ls (lv_sub hl [0, 1, 2, 3, 4] rfl)
                  | succ n2183 ih2183 =>
                    intro i2040 hn2183 hlo2184 z2085 h2086 H locs hT hF hS m2087 m2088 ls hl
                    have hlt2186 : i2040 < 60 := by omega
                    refine lv_iload hx hb dX12_arrears_78 (lv_at hl 0 rfl) ?_
                    refine lv_aload_n hx hb dX12_arrears_80 rfl (lv_at hl 3 rfl) ?_
                    refine tw_getM (v := .int x6) hx hb hts bF_X12 hown hK hT hr_o0 shm_0 rfl 42 (by decide) (ht_at hts 1 rfl) (fun _ h9 => h9) m2088 dX12_arrears_81 ?_
                    refine lv_icmp_ge (tgt := 126) hx hb dX12_arrears_84 (by decide) (fun c2187 => ?_) (fun c2187 => ?_)
                    · have t2188 : x6.toInt ≤ ((i2040 : Nat) : Int) := ti_le c2187 rfl (nI_toInt (by omega))
                      exact jn2174 (nI i2040) z2085 ⟨(rg_t (a := ((i2040 : Nat) : Int)) (nI_toInt (by omega)) (by omega) (by omega)), (rg_t (a := z2085.toInt) rfl (by have q8 := ti_all z2085; omega) (by have q8 := ti_all z2085; omega))⟩ _ _ hT hF hS m2087 m2088 ls (lv_sub hl [0, 1, 2, 3, 4] rfl)
                    · have t2189 : ((i2040 : Nat) : Int) < x6.toInt := ti_nle c2187 rfl (nI_toInt (by omega))
                      refine lv_aload_n hx hb dX12_arrears_87 rfl (lv_at hl 3 rfl) ?_
                      refine tw_get hx hb hts bF_X12 hown hK hT hr_o0 shm_0 rfl 51 (by decide) (ht_at hts 2 rfl) (fun _ h9 => h9) dX12_arrears_88 (fun v9 m2190 h9 => ?_)
                      obtain ⟨rfl, hg2191⟩ := h9 _ rfl
                      refine lv_iload hx hb dX12_arrears_91 (lv_at hl 0 rfl) ?_
                      refine tw_zald (i := (nI i2040)) hx hb hK hT hg2191 shm_52 rfl (vp_in_nI (by omega) (by decide)) dX12_arrears_93 (fun v9 m2192 h9 => ?_)
                      obtain ⟨x2193, rfl, gx2193, kx2193⟩ := h9
                      refine lv_if_eq (tgt := 120) hx hb dX12_arrears_94 (by decide) (fun c2194 => ?_) (fun c2194 => ?_)
                      · have t2195 : x2193.toInt = 0 := ti_eq c2194 rfl (by decide)
                        refine lv_iinc (v := nI (i2040 + 1)) (lv' := [(4, .int (nI (i2040 + 1))), (2, .int z2085), (3, .int (nI i1502)), (0, .ref o0), (1, .int p0)]) hx hb dX12_arrears_120 hl (k := 0) rfl (nI_add i2040 1) (by decide) rfl (fun ls hl => ?_)
                        refine lv_goto (tgt := 78) hx hb dX12_arrears_123 (by decide) ?_
                        exact ih2183 (i2040 + 1) (by omega) (by omega) z2085 (rg_t (a := z2085.toInt) rfl (by have q8 := ti_all z2085; omega) (by have q8 := ti_all z2085; omega)) _ _ hT hF hS m2087 m2088 ls (lv_sub hl [0, 1, 2, 3, 4] rfl)
                      · have t2196 : x2193.toInt ≠ 0 := ti_ne c2194 rfl (by decide)
                        refine lv_iload_n hx hb dX12_arrears_97 rfl (lv_at hl 1 rfl) ?_
                        refine lv_if_lt (tgt := 117) hx hb dX12_arrears_98 (by decide) (fun c2197 => ?_) (fun c2197 => ?_)
                        · have t2198 : z2085.toInt < 0 := ti_lt c2197 rfl (by decide)
                          refine lv_iload hx hb dX12_arrears_117 (lv_at hl 0 rfl) ?_
                          refine lv_istore_n (lv' := [(2, .int (nI i2040)), (4, .int (nI i2040)), (3, .int (nI i1502)), (0, .ref o0), (1, .int p0)]) hx hb dX12_arrears_119 rfl hl (by decide) rfl (fun ls hl => ?_)
                          refine lv_iinc (v := nI (i2040 + 1)) (lv' := [(4, .int (nI (i2040 + 1))), (2, .int (nI i2040)), (3, .int (nI i1502)), (0, .ref o0), (1, .int p0)]) hx hb dX12_arrears_120 hl (k := 1) rfl (nI_add i2040 1) (by decide) rfl (fun ls hl => ?_)
                          refine lv_goto (tgt := 78) hx hb dX12_arrears_123 (by decide) ?_
                          exact ih2183 (i2040 + 1) (by omega) (by omega) (nI i2040) (rg_t (a := ((i2040 : Nat) : Int)) (nI_toInt (by omega)) (by omega) (by omega)) _ _ hT hF hS m2087 m2088 ls (lv_sub hl [0, 1, 2, 3, 4] rfl)
                        · have t2199 : 0 ≤ z2085.toInt := ti_nlt c2197 rfl (by decide)
                          refine lv_aload_n hx hb dX12_arrears_101 rfl (lv_at hl 3 rfl) ?_
                          refine tw_get hx hb hts bF_X12 hown hK hT hr_o0 shm_0 rfl 40 (by decide) (ht_at hts 3 rfl) (fun _ h9 => h9) dX12_arrears_102 (fun v9 m2200 h9 => ?_)
                          obtain ⟨rfl, hg2201⟩ := h9 _ rfl
                          refine lv_iload hx hb dX12_arrears_105 (lv_at hl 0 rfl) ?_
                          refine tw_iald (i := (nI i2040)) hx hb hK hT hg2201 shm_41 rfl (vp_in_nI (by omega) (by decide)) dX12_arrears_107 (fun v9 m2202 h9 => ?_)
                          obtain ⟨x2203, rfl, gx2203, kx2203⟩ := h9
                          refine lv_aload_n hx hb dX12_arrears_108 rfl (lv_at hl 3 rfl) ?_
                          refine tw_get hx hb hts bF_X12 hown hK hT hr_o0 shm_0 rfl 40 (by decide) (ht_at hts 3 rfl) (fun _ h9 => h9) dX12_arrears_109 (fun v9 m2204 h9 => ?_)
                          obtain ⟨rfl, hg2205⟩ := h9 _ rfl
                          refine lv_iload_n hx hb dX12_arrears_112 rfl (lv_at hl 1 rfl) ?_
                          refine tw_iald (i := z2085) hx hb hK hT hg2201 shm_41 rfl (vin_t (a := z2085.toInt) rfl (by omega) (by omega)) dX12_arrears_113 (fun v9 m2206 h9 => ?_)
                          obtain ⟨x2207, rfl, gx2207, kx2207⟩ := h9
                          refine lv_icmp_le (tgt := 120) hx hb dX12_arrears_114 (by decide) (fun c2208 => ?_) (fun c2208 => ?_)
                          · have t2209 : x2203.toInt ≤ x2207.toInt := ti_le c2208 rfl rfl
                            refine lv_iinc (v := nI (i2040 + 1)) (lv' := [(4, .int (nI (i2040 + 1))), (2, .int z2085), (3, .int (nI i1502)), (0, .ref o0), (1, .int p0)]) hx hb dX12_arrears_120 hl (k := 0) rfl (nI_add i2040 1) (by decide) rfl (fun ls hl => ?_)
                            refine lv_goto (tgt := 78) hx hb dX12_arrears_123 (by decide) ?_
                            exact ih2183 (i2040 + 1) (by omega) (by omega) z2085 (rg_t (a := z2085.toInt) rfl (by have q8 := ti_all z2085; omega) (by have q8 := ti_all z2085; omega)) _ _ hT hF hS m2087 m2088 ls (lv_sub hl [0, 1, 2, 3, 4] rfl)
                          · have t2210 : x2207.toInt < x2203.toInt := ti_nle c2208 rfl rfl
                            refine lv_iload hx hb dX12_arrears_117 (lv_at hl 0 rfl) ?_
                            refine lv_istore_n (lv' := [(2, .int (nI i2040)), (4, .int (nI i2040)), (3, .int (nI i1502)), (0, .ref o0), (1, .int p0)]) hx hb dX12_arrears_119 rfl hl (by decide) rfl (fun ls hl => ?_)
                            refine lv_iinc (v := nI (i2040 + 1)) (lv' := [(4, .int (nI (i2040 + 1))), (2, .int (nI i2040)), (3, .int (nI i1502)), (0, .ref o0), (1, .int p0)]) hx hb dX12_arrears_120 hl (k := 1) rfl (nI_add i2040 1) (by decide) rfl (fun ls hl => ?_)
                            refine lv_goto (tgt := 78) hx hb dX12_arrears_123 (by decide) ?_
                            exact ih2183 (i2040 + 1) (by omega) (by omega) (nI i2040) (rg_t (a := ((i2040 : Nat) : Int)) (nI_toInt (by omega)) (by omega) (by omega)) _ _ hT hF hS m2087 m2088 ls (lv_sub hl [0, 1, 2, 3, 4] rfl)
                exact key2183 (60 - 0) 0 (by omega) (Nat.le_refl _) (-1) (rg_t (a := (-1)) (by decide) (by omega) (by omega)) _ _ hT hF hS m1857 m1858 ls (lv_sub hl [0, 1, 2, 3, 4] rfl)
          exact key2033 (60 - 0) 0 (by omega) (Nat.le_refl _) (-1) (rg_t (a := (-1)) (by decide) (by omega) (by omega)) _ _ hT hF hS m754 m755 ls (lv_sub hl [0, 1, 2, 3] rfl)
        | succ n1498 ih1498 =>
          intro i9 hn1498 hlo1499  H locs hT hF hS m754 m755 ls hl
          have hlt2210 : i9 < 60 := by omega
          refine lv_iload_n hx hb dX12_arrears_21 rfl (lv_at hl 0 rfl) ?_
          refine lv_aload_n hx hb dX12_arrears_22 rfl (lv_at hl 1 rfl) ?_
          refine tw_getM (v := .int x6) hx hb hts bF_X12 hown hK hT hr_o0 shm_0 rfl 42 (by decide) (ht_at hts 1 rfl) (fun _ h9 => h9) m755 dX12_arrears_23 ?_
          refine lv_icmp_ge (tgt := 64) hx hb dX12_arrears_26 (by decide) (fun c2211 => ?_) (fun c2211 => ?_)
          · have t2212 : x6.toInt ≤ ((i9 : Nat) : Int) := ti_le c2211 rfl (nI_toInt (by omega))
            refine lv_iconst (v := (-1)) hx hb dX12_arrears_64 (by decide) ?_
            refine lv_istore_n (lv' := [(2, .int (-1)), (0, .ref o0), (1, .int p0)]) hx hb dX12_arrears_65 rfl hl (by decide) rfl (fun ls hl => ?_)
            refine lv_iconst (v := 0) hx hb dX12_arrears_66 (by decide) ?_
            refine lv_istore_n (lv' := [(3, .int 0), (2, .int (-1)), (0, .ref o0), (1, .int p0)]) hx hb dX12_arrears_67 rfl hl (by decide) rfl (fun ls hl => ?_)
            have key2744 : ∀ (n2744 i2213 : Nat), i2213 + n2744 = 60 → 0 ≤ i2213 → ∀ (z2566 : Int32), ((-1 ≤ z2566.toInt ∧ z2566.toInt ≤ 58)) → ∀ (H : Heap) (locs : List Loc), gH (dC, dI) kA (SHm q (wP wN wH wB wC wC wL wK) PI) G H → gF (dC, dI) SKm G ([(0, 0), (52, 0)] : List (Nat × Nat)) s.heap H → va_S A s.heap H locs → el H o0 (dI 15 0) = some (.int 0) → el H o0 (dI 15 42) = some (.int x6) → ∀ ls : Array Slot, lv_has ls 5 [(3, .int (nI i2213)), (2, .int z2566), (0, .ref o0), (1, .int p0)] → W p l e (headSpec w_s_arrears ({ frames := 0, cells := 0, slots := 0, locals := 0 })).room s m #[.ref o0, .int p0] below meth c H locs 0 0 (MQ below (va_Qi (fun (r : Int32) (u : Unit) => (-1 ≤ r.toInt ∧ r.toInt ≤ 59)) (fun (_ : Unit) (t : State) => gH (dC, dI) kA (SHm q (wP wN wH wB wC wC wL wK) PI) G t.heap ∧ gF (dC, dI) SKm G ([(0, 0), (52, 0)] : List (Nat × Nat)) s.heap t.heap) A) #[.ref o0, .int p0] s 0 0 A) (F0 m 68 ls []) := by
              intro n2744
              induction n2744 with
              | zero =>
                intro i2213 hn2744 hlo2745 z2566 h2567 H locs hT hF hS m2568 m2569 ls hl
                obtain rfl : 60 = i2213 := by omega
                refine lv_iload_n hx hb dX12_arrears_68 rfl (lv_at hl 0 rfl) ?_
                refine lv_iload_n hx hb dX12_arrears_69 rfl (lv_at hl 3 rfl) ?_
                refine lv_icmp_gt (tgt := 145) hx hb dX12_arrears_70 (by decide) (fun c2746 => ?_) (fun c2746 => (by exfalso; have q9 : ((60 : Nat) : Int) ≤ p0.toInt := ti_nlt c2746 rfl (nI_toInt (by omega)); omega))
                have t2747 : p0.toInt < ((60 : Nat) : Int) := ti_lt c2746 rfl (nI_toInt (by omega))
                refine lv_iload_n hx hb dX12_arrears_145 rfl (lv_at hl 1 rfl) ?_
                exact W.iret (v := z2566) hx hb hr (fun t ht hW => ⟨⟨z2566, (), rfl, (by exact (rg_t (a := z2566.toInt) rfl (by have q8 := ti_all z2566; omega) (by have q8 := ti_all z2566; omega))), by (try dsimp only); rw [ht]; exact ⟨hT, hF⟩⟩, hS.F ht⟩) hS.2.2 dX12_arrears_146
              | succ n2744 ih2744 =>
                intro i2213 hn2744 hlo2745 z2566 h2567 H locs hT hF hS m2568 m2569 ls hl
                have hlt2747 : i2213 < 60 := by omega
                refine lv_iload_n hx hb dX12_arrears_68 rfl (lv_at hl 0 rfl) ?_
                refine lv_iload_n hx hb dX12_arrears_69 rfl (lv_at hl 3 rfl) ?_
                refine lv_icmp_gt (tgt := 145) hx hb dX12_arrears_70 (by decide) (fun c2748 => ?_) (fun c2748 => ?_)
                · have t2749 : p0.toInt < ((i2213 : Nat) : Int) := ti_lt c2748 rfl (nI_toInt (by omega))
                  refine lv_iload_n hx hb dX12_arrears_145 rfl (lv_at hl 1 rfl) ?_
                  exact W.iret (v := z2566) hx hb hr (fun t ht hW => ⟨⟨z2566, (), rfl, (by exact (rg_t (a := z2566.toInt) rfl (by have q8 := ti_all z2566; omega) (by have q8 := ti_all z2566; omega))), by (try dsimp only); rw [ht]; exact ⟨hT, hF⟩⟩, hS.F ht⟩) hS.2.2 dX12_arrears_146
                · have t2750 : ((i2213 : Nat) : Int) ≤ p0.toInt := ti_nlt c2748 rfl (nI_toInt (by omega))
                  refine lv_iconst (v := (-1)) hx hb dX12_arrears_73 (by decide) ?_
                  refine lv_istore_n (lv' := [(2, .int (-1)), (3, .int (nI i2213)), (0, .ref o0), (1, .int p0)]) hx hb dX12_arrears_74 rfl hl (by decide) rfl (fun ls hl => ?_)
                  refine lv_iconst (v := 0) hx hb dX12_arrears_75 (by decide) ?_
                  refine lv_istore (lv' := [(4, .int 0), (2, .int (-1)), (3, .int (nI i2213)), (0, .ref o0), (1, .int p0)]) hx hb dX12_arrears_76 hl (by decide) rfl (fun ls hl => ?_)
                  have jn2885 : ∀ (z2879 : Int32), ∀ (z2881 : Int32), ((1 ≤ z2879.toInt ∧ z2879.toInt ≤ 59) ∧ (-1 ≤ z2881.toInt ∧ z2881.toInt ≤ 58)) → ∀ (H : Heap) (locs : List Loc), gH (dC, dI) kA (SHm q (wP wN wH wB wC wC wL wK) PI) G H → gF (dC, dI) SKm G ([(0, 0), (52, 0)] : List (Nat × Nat)) s.heap H → va_S A s.heap H locs → el H o0 (dI 15 0) = some (.int 0) → el H o0 (dI 15 42) = some (.int x6) → ∀ ls : Array Slot, lv_has ls 5 [(4, .int z2879), (2, .int z2881), (3, .int (nI i2213)), (0, .ref o0), (1, .int p0)] → W p l e (headSpec w_s_arrears ({ frames := 0, cells := 0, slots := 0, locals := 0 })).room s m #[.ref o0, .int p0] below meth c H locs 0 0 (MQ below (va_Qi (fun (r : Int32) (u : Unit) => (-1 ≤ r.toInt ∧ r.toInt ≤ 59)) (fun (_ : Unit) (t : State) => gH (dC, dI) kA (SHm q (wP wN wH wB wC wC wL wK) PI) G t.heap ∧ gF (dC, dI) SKm G ([(0, 0), (52, 0)] : List (Nat × Nat)) s.heap t.heap) A) #[.ref o0, .int p0] s 0 0 A) (F0 m 126 ls []) := by
                    intro z2879 z2881 ⟨h2880, h2882⟩ H locs hT hF hS m2883 m2884 ls hl
                    refine lv_iload_n hx hb dX12_arrears_126 rfl (lv_at hl 1 rfl) ?_
                    refine lv_if_ge (tgt := 132) hx hb dX12_arrears_127 (by decide) (fun c2886 => ?_) (fun c2886 => ?_)
                    · have t2887 : 0 ≤ z2881.toInt := ti_le c2886 (by decide) rfl
                      refine lv_aload_n hx hb dX12_arrears_132 rfl (lv_at hl 3 rfl) ?_
                      refine tw_get hx hb hts bF_X12 hown hK hT hr_o0 shm_0 rfl 51 (by decide) (ht_at hts 2 rfl) (fun _ h9 => h9) dX12_arrears_133 (fun v9 m2888 h9 => ?_)
                      obtain ⟨rfl, hg2889⟩ := h9 _ rfl
                      refine lv_iload_n hx hb dX12_arrears_136 rfl (lv_at hl 1 rfl) ?_
                      refine lv_iconst (v := 0) hx hb dX12_arrears_137 (by decide) ?_
                      refine tw_zast (i := z2881) (x := 0) hx hb hK hT hG hS hg2889 shm_52 rfl (vin_t (a := z2881.toInt) rfl (by omega) (by omega)) (gi_z (rg_t (a := 0) (by decide) (by omega) (by omega)) (by decide) (by decide)) dX12_arrears_138 (fun H locs hT oq m2890 oi hS => ?_)
                      have hF := hF.ast hg2889 skm_52 oq (by decide)
                      have m2891 := (el_kept (oq _ (gne hr_o0 hg2889 (by decide)))).trans m2883
                      have m2892 := (el_kept (oq _ (gne hr_o0 hg2889 (by decide)))).trans m2884
                      refine lv_iinc (v := nI (i2213 + 1)) (lv' := [(3, .int (nI (i2213 + 1))), (4, .int z2879), (2, .int z2881), (0, .ref o0), (1, .int p0)]) hx hb dX12_arrears_139 hl (k := 2) rfl (nI_add i2213 1) (by decide) rfl (fun ls hl => ?_)
                      refine lv_goto (tgt := 68) hx hb dX12_arrears_142 (by decide) ?_
                      exact ih2744 (i2213 + 1) (by omega) (by omega) z2881 (rg_t (a := z2881.toInt) rfl (by have q8 := ti_all z2881; omega) (by have q8 := ti_all z2881; omega)) _ _ hT hF hS m2891 m2892 ls (lv_sub hl [0, 2, 3, 4] rfl)
                    · have t2893 : z2881.toInt < 0 := ti_nle c2886 (by decide) rfl
                      refine lv_iconst (v := (-1)) hx hb dX12_arrears_130 (by decide) ?_
                      exact W.iret (v := (-1)) hx hb hr (fun t ht hW => ⟨⟨(-1), (), rfl, (by exact (rg_t (a := (-1)) (by decide) (by omega) (by omega))), by (try dsimp only); rw [ht]; exact ⟨hT, hF⟩⟩, hS.F ht⟩) hS.2.2 dX12_arrears_131
                  have key2894 : ∀ (n2894 i2751 : Nat), i2751 + n2894 = 59 → 0 ≤ i2751 → ∀ (z2796 : Int32), ((-1 ≤ z2796.toInt ∧ z2796.toInt ≤ 58)) → ∀ (H : Heap) (locs : List Loc), gH (dC, dI) kA (SHm q (wP wN wH wB wC wC wL wK) PI) G H → gF (dC, dI) SKm G ([(0, 0), (52, 0)] : List (Nat × Nat)) s.heap H → va_S A s.heap H locs → el H o0 (dI 15 0) = some (.int 0) → el H o0 (dI 15 42) = some (.int x6) → ∀ ls : Array Slot, lv_has ls 5 [(4, .int (nI i2751)), (2, .int z2796), (3, .int (nI i2213)), (0, .ref o0), (1, .int p0)] → W p l e (headSpec w_s_arrears ({ frames := 0, cells := 0, slots := 0, locals := 0 })).room s m #[.ref o0, .int p0] below meth c H locs 0 0 (MQ below (va_Qi (fun (r : Int32) (u : Unit) => (-1 ≤ r.toInt ∧ r.toInt ≤ 59)) (fun (_ : Unit) (t : State) => gH (dC, dI) kA (SHm q (wP wN wH wB wC wC wL wK) PI) G t.heap ∧ gF (dC, dI) SKm G ([(0, 0), (52, 0)] : List (Nat × Nat)) s.heap t.heap) A) #[.ref o0, .int p0] s 0 0 A) (F0 m 78 ls []) := by
                    intro n2894
                    induction n2894 with
                    | zero =>
                      intro i2751 hn2894 hlo2895 z2796 h2797 H locs hT hF hS m2798 m2799 ls hl
                      obtain rfl : 59 = i2751 := by omega
                      refine lv_iload hx hb dX12_arrears_78 (lv_at hl 0 rfl) ?_
                      refine lv_aload_n hx hb dX12_arrears_80 rfl (lv_at hl 3 rfl) ?_
                      refine tw_getM (v := .int x6) hx hb hts bF_X12 hown hK hT hr_o0 shm_0 rfl 42 (by decide) (ht_at hts 1 rfl) (fun _ h9 => h9) m2799 dX12_arrears_81 ?_
                      refine lv_icmp_ge (tgt := 126) hx hb dX12_arrears_84 (by decide) (fun c2896 => ?_) (fun c2896 => (by exfalso; have q9 : ((59 : Nat) : Int) < x6.toInt := ti_nle c2896 rfl (nI_toInt (by omega)); omega))
                      have t2897 : x6.toInt ≤ ((59 : Nat) : Int) := ti_le c2896 rfl (nI_toInt (by omega))
                      exact jn2885 (nI 59) z2796 ⟨(rg_t (a := ((59 : Nat) : Int)) (nI_toInt (by omega)) (by omega) (by omega)), (rg_t (a := z2796.toInt) rfl (by have q8 := ti_all z2796; omega) (by have q8 := ti_all z2796; omega))⟩ _ _ hT hF hS m2798 m2799 ls (lv_sub hl [0, 1, 2, 3, 4] rfl)
                    | succ n2894 ih2894 =>
                      intro i2751 hn2894 hlo2895 z2796 h2797 H locs hT hF hS m2798 m2799 ls hl
                      have hlt2897 : i2751 < 59 := by omega
                      refine lv_iload hx hb dX12_arrears_78 (lv_at hl 0 rfl) ?_
                      refine lv_aload_n hx hb dX12_arrears_80 rfl (lv_at hl 3 rfl) ?_
                      refine tw_getM (v := .int x6) hx hb hts bF_X12 hown hK hT hr_o0 shm_0 rfl 42 (by decide) (ht_at hts 1 rfl) (fun _ h9 => h9) m2799 dX12_arrears_81 ?_
                      refine lv_icmp_ge (tgt := 126) hx hb dX12_arrears_84 (by decide) (fun c2898 => ?_) (fun c2898 => ?_)
                      · have t2899 : x6.toInt ≤ ((i2751 : Nat) : Int) := ti_le c2898 rfl (nI_toInt (by omega))
                        exact jn2885 (nI i2751) z2796 ⟨(rg_t (a := ((i2751 : Nat) : Int)) (nI_toInt (by omega)) (by omega) (by omega)), (rg_t (a := z2796.toInt) rfl (by have q8 := ti_all z2796; omega) (by have q8 := ti_all z2796; omega))⟩ _ _ hT hF hS m2798 m2799 ls (lv_sub hl [0, 1, 2, 3, 4] rfl)
                      · have t2900 : ((i2751 : Nat) : Int) < x6.toInt := ti_nle c2898 rfl (nI_toInt (by omega))
                        refine lv_aload_n hx hb dX12_arrears_87 rfl (lv_at hl 3 rfl) ?_
                        refine tw_get hx hb hts bF_X12 hown hK hT hr_o0 shm_0 rfl 51 (by decide) (ht_at hts 2 rfl) (fun _ h9 => h9) dX12_arrears_88 (fun v9 m2901 h9 => ?_)
                        obtain ⟨rfl, hg2902⟩ := h9 _ rfl
                        refine lv_iload hx hb dX12_arrears_91 (lv_at hl 0 rfl) ?_
                        refine tw_zald (i := (nI i2751)) hx hb hK hT hg2902 shm_52 rfl (vp_in_nI (by omega) (by decide)) dX12_arrears_93 (fun v9 m2903 h9 => ?_)
                        obtain ⟨x2904, rfl, gx2904, kx2904⟩ := h9
                        refine lv_if_eq (tgt := 120) hx hb dX12_arrears_94 (by decide) (fun c2905 => ?_) (fun c2905 => ?_)
                        · have t2906 : x2904.toInt = 0 := ti_eq c2905 rfl (by decide)
                          refine lv_iinc (v := nI (i2751 + 1)) (lv' := [(4, .int (nI (i2751 + 1))), (2, .int z2796), (3, .int (nI i2213)), (0, .ref o0), (1, .int p0)]) hx hb dX12_arrears_120 hl (k := 0) rfl (nI_add i2751 1) (by decide) rfl (fun ls hl => ?_)
                          refine lv_goto (tgt := 78) hx hb dX12_arrears_123 (by decide) ?_
                          exact ih2894 (i2751 + 1) (by omega) (by omega) z2796 (rg_t (a := z2796.toInt) rfl (by have q8 := ti_all z2796; omega) (by have q8 := ti_all z2796; omega)) _ _ hT hF hS m2798 m2799 ls (lv_sub hl [0, 1, 2, 3, 4] rfl)
                        · have t2907 : x2904.toInt ≠ 0 := ti_ne c2905 rfl (by decide)
                          refine lv_iload_n hx hb dX12_arrears_97 rfl (lv_at hl 1 rfl) ?_
                          refine lv_if_lt (tgt := 117) hx hb dX12_arrears_98 (by decide) (fun c2908 => ?_) (fun c2908 => ?_)
                          · have t2909 : z2796.toInt < 0 := ti_lt c2908 rfl (by decide)
                            refine lv_iload hx hb dX12_arrears_117 (lv_at hl 0 rfl) ?_
                            refine lv_istore_n (lv' := [(2, .int (nI i2751)), (4, .int (nI i2751)), (3, .int (nI i2213)), (0, .ref o0), (1, .int p0)]) hx hb dX12_arrears_119 rfl hl (by decide) rfl (fun ls hl => ?_)
                            refine lv_iinc (v := nI (i2751 + 1)) (lv' := [(4, .int (nI (i2751 + 1))), (2, .int (nI i2751)), (3, .int (nI i2213)), (0, .ref o0), (1, .int p0)]) hx hb dX12_arrears_120 hl (k := 1) rfl (nI_add i2751 1) (by decide) rfl (fun ls hl => ?_)
                            refine lv_goto (tgt := 78) hx hb dX12_arrears_123 (by decide) ?_
                            exact ih2894 (i2751 + 1) (by omega) (by omega) (nI i2751) (rg_t (a := ((i2751 : Nat) : Int)) (nI_toInt (by omega)) (by omega) (by omega)) _ _ hT hF hS m2798 m2799 ls (lv_sub hl [0, 1, 2, 3, 4] rfl)
                          · have t2910 : 0 ≤ z2796.toInt := ti_nlt c2908 rfl (by decide)
                            refine lv_aload_n hx hb dX12_arrears_101 rfl (lv_at hl 3 rfl) ?_
                            refine tw_get hx hb hts bF_X12 hown hK hT hr_o0 shm_0 rfl 40 (by decide) (ht_at hts 3 rfl) (fun _ h9 => h9) dX12_arrears_102 (fun v9 m2911 h9 => ?_)
                            obtain ⟨rfl, hg2912⟩ := h9 _ rfl
                            refine lv_iload hx hb dX12_arrears_105 (lv_at hl 0 rfl) ?_
                            refine tw_iald (i := (nI i2751)) hx hb hK hT hg2912 shm_41 rfl (vp_in_nI (by omega) (by decide)) dX12_arrears_107 (fun v9 m2913 h9 => ?_)
                            obtain ⟨x2914, rfl, gx2914, kx2914⟩ := h9
                            refine lv_aload_n hx hb dX12_arrears_108 rfl (lv_at hl 3 rfl) ?_
                            refine tw_get hx hb hts bF_X12 hown hK hT hr_o0 shm_0 rfl 40 (by decide) (ht_at hts 3 rfl) (fun _ h9 => h9) dX12_arrears_109 (fun v9 m2915 h9 => ?_)
                            obtain ⟨rfl, hg2916⟩ := h9 _ rfl
                            refine lv_iload_n hx hb dX12_arrears_112 rfl (lv_at hl 1 rfl) ?_
                            refine tw_iald (i := z2796) hx hb hK hT hg2912 shm_41 rfl (vin_t (a := z2796.toInt) rfl (by omega) (by omega)) dX12_arrears_113 (fun v9 m2917 h9 => ?_)
                            obtain ⟨x2918, rfl, gx2918, kx2918⟩ := h9
                            refine lv_icmp_le (tgt := 120) hx hb dX12_arrears_114 (by decide) (fun c2919 => ?_) (fun c2919 => ?_)
                            · have t2920 : x2914.toInt ≤ x2918.toInt := ti_le c2919 rfl rfl
                              refine lv_iinc (v := nI (i2751 + 1)) (lv' := [(4, .int (nI (i2751 + 1))), (2, .int z2796), (3, .int (nI i2213)), (0, .ref o0), (1, .int p0)]) hx hb dX12_arrears_120 hl (k := 0) rfl (nI_add i2751 1) (by decide) rfl (fun ls hl => ?_)
                              refine lv_goto (tgt := 78) hx hb dX12_arrears_123 (by decide) ?_
                              exact ih2894 (i2751 + 1) (by omega) (by omega) z2796 (rg_t (a := z2796.toInt) rfl (by have q8 := ti_all z2796; omega) (by have q8 := ti_all z2796; omega)) _ _ hT hF hS m2798 m2799 ls (lv_sub hl [0, 1, 2, 3, 4] rfl)
                            · have t2921 : x2918.toInt < x2914.toInt := ti_nle c2919 rfl rfl
                              refine lv_iload hx hb dX12_arrears_117 (lv_at hl 0 rfl) ?_
                              refine lv_istore_n (lv' := [(2, .int (nI i2751)), (4, .int (nI i2751)), (3, .int (nI i2213)), (0, .ref o0), (1, .int p0)]) hx hb dX12_arrears_119 rfl hl (by decide) rfl (fun ls hl => ?_)
                              refine lv_iinc (v := nI (i2751 + 1)) (lv' := [(4, .int (nI (i2751 + 1))), (2, .int (nI i2751)), (3, .int (nI i2213)), (0, .ref o0), (1, .int p0)]) hx hb dX12_arrears_120 hl (k := 1) rfl (nI_add i2751 1) (by decide) rfl (fun ls hl => ?_)
                              refine lv_goto (tgt := 78) hx hb dX12_arrears_123 (by decide) ?_
                              exact ih2894 (i2751 + 1) (by omega) (by omega) (nI i2751) (rg_t (a := ((i2751 : Nat) : Int)) (nI_toInt (by omega)) (by omega) (by omega)) _ _ hT hF hS m2798 m2799 ls (lv_sub hl [0, 1, 2, 3, 4] rfl)
                  exact key2894 (59 - 0) 0 (by omega) (Nat.le_refl _) (-1) (rg_t (a := (-1)) (by decide) (by omega) (by omega)) _ _ hT hF hS m2568 m2569 ls (lv_sub hl [0, 1, 2, 3, 4] rfl)
            exact key2744 (60 - 0) 0 (by omega) (Nat.le_refl _) (-1) (rg_t (a := (-1)) (by decide) (by omega) (by omega)) _ _ hT hF hS m754 m755 ls (lv_sub hl [0, 1, 2, 3] rfl)
          · have t2922 : ((i9 : Nat) : Int) < x6.toInt := ti_nle c2211 rfl (nI_toInt (by omega))
            refine lv_aload_n hx hb dX12_arrears_29 rfl (lv_at hl 1 rfl) ?_
            refine tw_get hx hb hts bF_X12 hown hK hT hr_o0 shm_0 rfl 51 (by decide) (ht_at hts 2 rfl) (fun _ h9 => h9) dX12_arrears_30 (fun v9 m2923 h9 => ?_)
            obtain ⟨rfl, hg2924⟩ := h9 _ rfl
            refine lv_iload_n hx hb dX12_arrears_33 rfl (lv_at hl 0 rfl) ?_
            refine lv_aload_n hx hb dX12_arrears_34 rfl (lv_at hl 1 rfl) ?_
            refine tw_get hx hb hts bF_X12 hown hK hT hr_o0 shm_0 rfl 38 (by decide) (ht_at hts 4 rfl) (fun _ h9 => h9) dX12_arrears_35 (fun v9 m2925 h9 => ?_)
            obtain ⟨rfl, hg2926⟩ := h9 _ rfl
            refine lv_iload_n hx hb dX12_arrears_38 rfl (lv_at hl 0 rfl) ?_
            refine tw_iald (i := (nI i9)) hx hb hK hT hg2926 shm_39 rfl (vp_in_nI (by omega) (by decide)) dX12_arrears_39 (fun v9 m2927 h9 => ?_)
            obtain ⟨x2928, rfl, gx2928, kx2928⟩ := h9
            refine lv_if_lt (tgt := 56) hx hb dX12_arrears_40 (by decide) (fun c2929 => ?_) (fun c2929 => ?_)
            · have t2930 : x2928.toInt < 0 := ti_lt c2929 rfl (by decide)
              refine lv_iconst (v := 0) hx hb dX12_arrears_56 (by decide) ?_
              refine tw_zast (i := (nI i9)) (x := 0) hx hb hK hT hG hS hg2924 shm_52 rfl (vp_in_nI (by omega) (by decide)) (gi_z (rg_t (a := 0) (by decide) (by omega) (by omega)) (by decide) (by decide)) dX12_arrears_57 (fun H locs hT oq m2931 oi hS => ?_)
              have hF := hF.ast hg2924 skm_52 oq (by decide)
              have m2932 := (el_kept (oq _ (gne hr_o0 hg2924 (by decide)))).trans m754
              have m2933 := (el_kept (oq _ (gne hr_o0 hg2924 (by decide)))).trans m755
              have m2934 := (el_kept (oq _ (gne hg2926 hg2924 (by decide)))).trans m2927
              refine lv_iinc (v := nI (i9 + 1)) (lv' := [(2, .int (nI (i9 + 1))), (0, .ref o0), (1, .int p0)]) hx hb dX12_arrears_58 hl (k := 0) rfl (nI_add i9 1) (by decide) rfl (fun ls hl => ?_)
              refine lv_goto (tgt := 21) hx hb dX12_arrears_61 (by decide) ?_
              exact ih1498 (i9 + 1) (by omega) (by omega) _ _ hT hF hS m2932 m2933 ls (lv_sub hl [0, 1, 2] rfl)
            · have t2935 : 0 ≤ x2928.toInt := ti_nlt c2929 rfl (by decide)
              refine lv_aload_n hx hb dX12_arrears_43 rfl (lv_at hl 1 rfl) ?_
              refine tw_get hx hb hts bF_X12 hown hK hT hr_o0 shm_0 rfl 40 (by decide) (ht_at hts 3 rfl) (fun _ h9 => h9) dX12_arrears_44 (fun v9 m2936 h9 => ?_)
              obtain ⟨rfl, hg2937⟩ := h9 _ rfl
              refine lv_iload_n hx hb dX12_arrears_47 rfl (lv_at hl 0 rfl) ?_
              refine tw_iald (i := (nI i9)) hx hb hK hT hg2937 shm_41 rfl (vp_in_nI (by omega) (by decide)) dX12_arrears_48 (fun v9 m2938 h9 => ?_)
              obtain ⟨x2939, rfl, gx2939, kx2939⟩ := h9
              refine lv_if_le (tgt := 56) hx hb dX12_arrears_49 (by decide) (fun c2940 => ?_) (fun c2940 => ?_)
              · have t2941 : x2939.toInt ≤ 0 := ti_le c2940 rfl (by decide)
                refine lv_iconst (v := 0) hx hb dX12_arrears_56 (by decide) ?_
                refine tw_zast (i := (nI i9)) (x := 0) hx hb hK hT hG hS hg2924 shm_52 rfl (vp_in_nI (by omega) (by decide)) (gi_z (rg_t (a := 0) (by decide) (by omega) (by omega)) (by decide) (by decide)) dX12_arrears_57 (fun H locs hT oq m2942 oi hS => ?_)
                have hF := hF.ast hg2924 skm_52 oq (by decide)
                have m2943 := (el_kept (oq _ (gne hr_o0 hg2924 (by decide)))).trans m754
                have m2944 := (el_kept (oq _ (gne hr_o0 hg2924 (by decide)))).trans m755
                have m2945 := (el_kept (oq _ (gne hg2926 hg2924 (by decide)))).trans m2927
                have m2946 := (el_kept (oq _ (gne hg2937 hg2924 (by decide)))).trans m2938
                refine lv_iinc (v := nI (i9 + 1)) (lv' := [(2, .int (nI (i9 + 1))), (0, .ref o0), (1, .int p0)]) hx hb dX12_arrears_58 hl (k := 0) rfl (nI_add i9 1) (by decide) rfl (fun ls hl => ?_)
                refine lv_goto (tgt := 21) hx hb dX12_arrears_61 (by decide) ?_
                exact ih1498 (i9 + 1) (by omega) (by omega) _ _ hT hF hS m2943 m2944 ls (lv_sub hl [0, 1, 2] rfl)
              · have t2947 : 0 < x2939.toInt := ti_nle c2940 rfl (by decide)
                refine lv_iconst (v := 1) hx hb dX12_arrears_52 (by decide) ?_
                refine lv_goto (tgt := 57) hx hb dX12_arrears_53 (by decide) ?_
                refine tw_zast (i := (nI i9)) (x := 1) hx hb hK hT hG hS hg2924 shm_52 rfl (vp_in_nI (by omega) (by decide)) (gi_z (rg_t (a := 1) (by decide) (by omega) (by omega)) (by decide) (by decide)) dX12_arrears_57 (fun H locs hT oq m2948 oi hS => ?_)
                have hF := hF.ast hg2924 skm_52 oq (by decide)
                have m2949 := (el_kept (oq _ (gne hr_o0 hg2924 (by decide)))).trans m754
                have m2950 := (el_kept (oq _ (gne hr_o0 hg2924 (by decide)))).trans m755
                have m2951 := (el_kept (oq _ (gne hg2926 hg2924 (by decide)))).trans m2927
                have m2952 := (el_kept (oq _ (gne hg2937 hg2924 (by decide)))).trans m2938
                refine lv_iinc (v := nI (i9 + 1)) (lv' := [(2, .int (nI (i9 + 1))), (0, .ref o0), (1, .int p0)]) hx hb dX12_arrears_58 hl (k := 0) rfl (nI_add i9 1) (by decide) rfl (fun ls hl => ?_)
                refine lv_goto (tgt := 21) hx hb dX12_arrears_61 (by decide) ?_
                exact ih1498 (i9 + 1) (by omega) (by omega) _ _ hT hF hS m2949 m2950 ls (lv_sub hl [0, 1, 2] rfl)
      exact key1498 (60 - 0) 0 (by omega) (Nat.le_refl _) _ _ hT hF hS m1 m5 ls (lv_sub hl [0, 1, 2] rfl)
    · have t2953 : x6.toInt ≤ p0.toInt := ti_nlt c7 rfl rfl
      refine lv_iconst (v := (-1)) hx hb dX12_arrears_17 (by decide) ?_
      exact W.iret (v := (-1)) hx hb hr (fun t ht hW => ⟨⟨(-1), (), rfl, (by exact (rg_t (a := (-1)) (by decide) (by omega) (by omega))), by (try dsimp only); rw [ht]; exact ⟨hT, hF⟩⟩, hS.F ht⟩) hS.2.2 dX12_arrears_18
