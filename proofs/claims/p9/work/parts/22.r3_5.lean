def w_s_tide : List Cond := .code yX12_tide cX12_tide 3 none :: (HAppend.hAppend (α := List Cond) (β := List Cond) (γ := List Cond) [.fieldLink RX12 194 "SeaLandModel" "thrown" "I", .code yX12_in cX12_in 3 (some .boolean), .methodLink RX12 197 yX12_in, .static yX12_in, .initialized RX12, .code yX12_throwsIf cX12_throwsIf 3 (some .boolean), .methodLink RX12 224 yX12_throwsIf, .instanceMethod yX12_throwsIf, .selects RX12 yX12_throwsIf yX12_throwsIf, .fieldLink RX12 9 "SeaLandModel" "world" "[I", .fieldLink RX12 238 "SeaLandModel" "rows" "I"] bs)
set_option maxHeartbeats 4000000 in
set_option maxRecDepth 100000 in
theorem s_tide (l : Launch) (dC : Nat → ClassId) (dI : Nat → Nat → Nat) (kA : Nat → ClassId) (adK adV : Nat → Nat) (G : gT) (H0 : Heap) (q : Nat → Nat) (wZ wN : Nat → Int) (wH wB wC : Int) (wL wK : Nat → Prop) (wU wV : Nat → Nat) (PI : Nat → Int → Prop) (im : Int) (PM PT : Nat → Int → Prop) (lS lB lE : Nat → Nat → Int → Prop) (lN : Nat → Int) (o0 : Nat) (p0 : Int32) (p1 : Int32)  (hT : gH (dC, dI) kA (SHm q (wP wZ wN wH wB wC wL wK wU wV) PI im PM PT lS lB lE lN) G H0) (hr_o0 : G o0 = some 0) (hgz : ∀ i, 0 ≤ wZ i) (hgn : ∀ i, 6500000 ≤ wN i ∧ wN i ≤ 20200000) (hgh : 0 ≤ wH ∧ wH ≤ 40000) (hgb : 0 ≤ wB ∧ wB ≤ 3850000) (hgc : 0 ≤ wC ∧ wC ≤ 30) (hgi : 0 ≤ im ∧ im ≤ 1) (hgu : ∀ a t, G a = some (t + 1) → a = q t) : Met l yX12_tide w_s_tide ({ frames := 1, cells := 0, slots := 0, locals := 22 }) (va_Pc [.ref o0, .int p0, .int p1] (fun U => U.heap = H0 ∧ va_K (dC, dI) vwCl (tyl kA) U ∧ EVS adK adV (gA G H0.size) U U.heap)) (va_Qv (fun (u : (Nat → Nat)) => (∀ w, w < 30 → u w = wU w)) (fun (wU1 : (Nat → Nat)) (t : State) => gH (dC, dI) kA (SHm q (wP wZ wN wH wB wC wL wK wU1 wV) PI im PM PT lS lB lE lN) G t.heap ∧ gF (dC, dI) SKm G ([(0, 0), (0, 9), (2, 0)] : List (Nat × Nat)) H0 t.heap) (gA G H0.size)) 0 0 (gA G H0.size) := by
  refine Met.ofW (cc := cX12_tide) (maxL := 3) (ret := none) (by decide) rfl ?_
  intro p e s m args below meth c s₁ B hml hv
  obtain ⟨rfl, hH0, hK, hE⟩ := hv
  have hx := B.exec
  have hb := B.bytes
  have hr := B.returns
  have hts := atoms_spec (ws := w_s_tide) B.pre
  have hown : s.vm.findClass RX12 = some m.cls := findClass_of_methodNamed B.named
  have hlocks := B.notSynchronized
  subst hH0
  generalize hAe : gA G s.heap.size = A at hE ⊢
  have hA : ∀ q : Nat, s.heap.size ≤ q → A q := fun q h => by rw [← hAe]; exact Or.inr h
  have hG := gA_of hAe
  have hS : va_S A s.heap s.heap [] := va_S.rf
  have hF : gF (dC, dI) SKm G ([(0, 0), (0, 9), (2, 0)] : List (Nat × Nat)) s.heap s.heap := gF.rf
  have hl := lv_entry ([.ref o0, .int p0, .int p1]) (n := 3) (Nat.le_of_ble_eq_true rfl)
  rw [lg_entry_eq]
  generalize (lg_sl ([.ref o0, .int p0, .int p1]) ++ List.replicate (3 - (lg_sl ([.ref o0, .int p0, .int p1])).length) Slot.unset).toArray = ls at hl ⊢
  have hl : lv_has ls 3 [(0, .ref o0), (1, .int p0), (2, .int p1)] := hl
  refine lv_aload_n hx hb dX12_tide_0 rfl (lv_at hl 0 rfl) ?_
  refine lv_iconst (v := 0) hx hb dX12_tide_1 (by decide) ?_
  refine tw_put (v := .int 0) (ty := .int) hx hb hts bF_X12 tyX12 tyX12_ok nmX12 hown hK hT hG hS hr_o0 shm_0 rfl 0 (by decide) (ht_at hts 0 rfl) (fun _ h9 => h9) rfl (by decide +kernel) rfl rfl (gl_at rfl (gi_all _)) dX12_tide_2 (fun H locs hT oq m1 oj hS => ?_)
  have hF := hF.put hr_o0 skm_0 oq oj (by decide)
  refine lv_aload_n hx hb dX12_tide_5 rfl (lv_at hl 0 rfl) ?_
  refine lv_iload_n hx hb dX12_tide_6 rfl (lv_at hl 1 rfl) ?_
  refine lv_iconst (v := 0) hx hb dX12_tide_7 (by decide) ?_
  refine lv_bipush (v := 11) hx hb dX12_tide_8 (by decide) ?_
  have hFc := gA_free hG hA hS
  refine va_calli (va_runS (As := [.int p0, .int 0, .int 11]) (rest := [.ref o0]) ⟨hx, hb, hml, hown, hts⟩ (s_in l dC dI kA adK adV G H q wZ wN wH wB wC wL wK wU wV PI im PM PT lS lB lE lN p0 0 11 hT hgz hgn hgh hgb hgc hgi hgu) (va_cwS 3 hts (goodIn_app (goodIn_r _ [3, 4, 5] rfl (by decide +kernel)) (goodIn_ca (goodIn_r _ [2] rfl (by decide +kernel)) (bs_in _ _))) rfl rfl rfl (by decide +kernel) ⟨(Nat.le_of_ble_eq_true rfl), (Nat.le_of_ble_eq_true rfl)⟩) ⟨fun a U g mk q => by obtain ⟨q0, q1, qK, qE⟩ := q; exact ⟨q0, q1, va_K.moved (u := U) (U := U.calling g mk a) (Vm.Alike.refl U.vm) qK, EVS.blind g mk a qE⟩, fun U hU hW => ⟨rfl, hU, va_K.moved hW.alike hK, hE.call hS hFc hU hW⟩⟩ rfl rfl hl.1 rfl (lv_room (Nat.le_of_ble_eq_true rfl)) dX12_tide_10 ⟨(Nat.le_of_ble_eq_true rfl), (Nat.le_of_ble_eq_true rfl)⟩) hS (fun q _ h => hFc q h) hFc (fun r2 u t H locs ht hvm hw3 hB _ _ hS => ?_)
  obtain ⟨hT, hF1⟩ := hB
  rw [ht] at hT hF1
  have hF := hF.more hF1 (by decide)
  try dsimp only at hw3
  obtain ⟨h5, hi6, hi7⟩ := hw3
  refine lv_if_eq (tgt := 29) hx hb dX12_tide_13 (by decide) (fun c8 => ?_) (fun c8 => ?_)
  · have t9 : r2.toInt = 0 := ti_eq c8 rfl (by decide)
    have t10 : (0 : Int32).toInt = 0 := by decide
    have t11 : (11 : Int32).toInt = 11 := by decide
    have t12 : p0.toInt < (0 : Int32).toInt ∨ (11 : Int32).toInt < p0.toInt := hi7 c8
    refine lv_iconst (v := 1) hx hb dX12_tide_29 (by decide) ?_
    refine lv_goto (tgt := 34) hx hb dX12_tide_30 (by decide) ?_
    refine lv_iconst (v := 1) hx hb dX12_tide_34 (by decide) ?_
    have hFc := gA_free hG hA hS
    refine va_calli (va_runV (As := [.int 1, .int 1]) (rest := []) ⟨hx, hb, hml, hown, hts⟩ (s_throwsIf l dC dI kA adK adV G H q wZ wN wH wB wC wL wK wU wV PI im PM PT lS lB lE lN o0 1 1 hT hr_o0 (rg_t (a := 1) (by decide) (by first | decide | omega) (by first | decide | omega)) hgz hgn hgh hgb hgc hgi hgu) (cwV 2 hts (goodIn_app (goodIn_r _ [7, 8, 9, 5] rfl (by decide +kernel)) (goodIn_ca (goodIn_r _ [6, 1] rfl (by decide +kernel)) (bs_in _ _))) rfl rfl rfl (by decide +kernel) ⟨(Nat.le_of_ble_eq_true rfl), (Nat.le_of_ble_eq_true rfl)⟩) ⟨fun a U g mk q => by obtain ⟨q0, q1, qK, qE⟩ := q; exact ⟨q0, q1, va_K.moved (u := U) (U := U.calling g mk a) (Vm.Alike.refl U.vm) qK, EVS.blind g mk a qE⟩, gH_rc hK hT hr_o0 shm_0 rfl, fun U hU hW => ⟨rfl, hU, va_K.moved hW.alike hK, hE.call hS hFc hU hW⟩⟩ rfl rfl hl.1 rfl (lv_room (Nat.le_of_ble_eq_true rfl)) dX12_tide_35 ⟨(Nat.le_of_ble_eq_true rfl), (Nat.le_of_ble_eq_true rfl)⟩) hS (fun q _ h => hFc q h) hFc (fun r13 u t H locs ht hvm hw14 hB _ _ hS => ?_)
    obtain ⟨hT, hF1⟩ := hB
    rw [ht] at hT hF1
    have hF := hF.more hF1 (by decide)
    try dsimp only at hw14
    obtain ⟨h16, hd17⟩ := hw14
    obtain rfl : (1 : Int32) = r13 := hd17.symm
    refine lv_if_eq (tgt := 42) hx hb dX12_tide_38 (by decide) (fun c18 => absurd c18 (by decide)) (fun c18 => ?_)
    exact W.vret hx hb hr (fun t ht hW => ⟨⟨wU, rfl, (by exact (fun _ _ => rfl)), by (try dsimp only); rw [ht]; exact ⟨hT, hF⟩⟩, hS.F ht⟩) hS.2.2 dX12_tide_41
  · have t19 : r2.toInt ≠ 0 := ti_ne c8 rfl (by decide)
    have t20 : (0 : Int32).toInt = 0 := by decide
    have t21 : (11 : Int32).toInt = 11 := by decide
    have t22 : (0 : Int32).toInt ≤ p0.toInt ∧ p0.toInt ≤ (11 : Int32).toInt := hi6 ((bit_of ⟨by omega, by omega⟩).resolve_left c8)
    refine lv_iload_n hx hb dX12_tide_16 rfl (lv_at hl 2 rfl) ?_
    refine lv_sipush (v := (-400)) hx hb dX12_tide_17 (by decide) ?_
    refine lv_sipush (v := 400) hx hb dX12_tide_20 (by decide) ?_
    have hFc := gA_free hG hA hS
    refine va_calli (va_runS (As := [.int p1, .int (-400), .int 400]) (rest := [.ref o0]) ⟨hx, hb, hml, hown, hts⟩ (s_in l dC dI kA adK adV G H q wZ wN wH wB wC wL wK wU wV PI im PM PT lS lB lE lN p1 (-400) 400 hT hgz hgn hgh hgb hgc hgi hgu) (va_cwS 3 hts (goodIn_app (goodIn_r _ [3, 4, 5] rfl (by decide +kernel)) (goodIn_ca (goodIn_r _ [2] rfl (by decide +kernel)) (bs_in _ _))) rfl rfl rfl (by decide +kernel) ⟨(Nat.le_of_ble_eq_true rfl), (Nat.le_of_ble_eq_true rfl)⟩) ⟨fun a U g mk q => by obtain ⟨q0, q1, qK, qE⟩ := q; exact ⟨q0, q1, va_K.moved (u := U) (U := U.calling g mk a) (Vm.Alike.refl U.vm) qK, EVS.blind g mk a qE⟩, fun U hU hW => ⟨rfl, hU, va_K.moved hW.alike hK, hE.call hS hFc hU hW⟩⟩ rfl rfl hl.1 rfl (lv_room (Nat.le_of_ble_eq_true rfl)) dX12_tide_23 ⟨(Nat.le_of_ble_eq_true rfl), (Nat.le_of_ble_eq_true rfl)⟩) hS (fun q _ h => hFc q h) hFc (fun r23 u t H locs ht hvm hw24 hB _ _ hS => ?_)
    obtain ⟨hT, hF1⟩ := hB
    rw [ht] at hT hF1
    have hF := hF.more hF1 (by decide)
    try dsimp only at hw24
    obtain ⟨h26, hi27, hi28⟩ := hw24
    refine lv_if_ne (tgt := 33) hx hb dX12_tide_26 (by decide) (fun c29 => ?_) (fun c29 => ?_)
    · have t30 : r23.toInt ≠ 0 := ti_ne c29 rfl (by decide)
      have t31 : (-400 : Int32).toInt = (-400) := by decide
      have t32 : (400 : Int32).toInt = 400 := by decide
      have t33 : (-400 : Int32).toInt ≤ p1.toInt ∧ p1.toInt ≤ (400 : Int32).toInt := hi27 ((bit_of ⟨by omega, by omega⟩).resolve_left c29)
      refine lv_iconst (v := 0) hx hb dX12_tide_33 (by decide) ?_
      refine lv_iconst (v := 1) hx hb dX12_tide_34 (by decide) ?_
      have hFc := gA_free hG hA hS
      refine va_calli (va_runV (As := [.int 0, .int 1]) (rest := []) ⟨hx, hb, hml, hown, hts⟩ (s_throwsIf l dC dI kA adK adV G H q wZ wN wH wB wC wL wK wU wV PI im PM PT lS lB lE lN o0 0 1 hT hr_o0 (rg_t (a := 0) (by decide) (by first | decide | omega) (by first | decide | omega)) hgz hgn hgh hgb hgc hgi hgu) (cwV 2 hts (goodIn_app (goodIn_r _ [7, 8, 9, 5] rfl (by decide +kernel)) (goodIn_ca (goodIn_r _ [6, 1] rfl (by decide +kernel)) (bs_in _ _))) rfl rfl rfl (by decide +kernel) ⟨(Nat.le_of_ble_eq_true rfl), (Nat.le_of_ble_eq_true rfl)⟩) ⟨fun a U g mk q => by obtain ⟨q0, q1, qK, qE⟩ := q; exact ⟨q0, q1, va_K.moved (u := U) (U := U.calling g mk a) (Vm.Alike.refl U.vm) qK, EVS.blind g mk a qE⟩, gH_rc hK hT hr_o0 shm_0 rfl, fun U hU hW => ⟨rfl, hU, va_K.moved hW.alike hK, hE.call hS hFc hU hW⟩⟩ rfl rfl hl.1 rfl (lv_room (Nat.le_of_ble_eq_true rfl)) dX12_tide_35 ⟨(Nat.le_of_ble_eq_true rfl), (Nat.le_of_ble_eq_true rfl)⟩) hS (fun q _ h => hFc q h) hFc (fun r34 u t H locs ht hvm hw35 hB _ _ hS => ?_)
      obtain ⟨hT, hF1⟩ := hB
      rw [ht] at hT hF1
      have hF := hF.more hF1 (by decide)
      try dsimp only at hw35
      obtain ⟨h37, hd38⟩ := hw35
      obtain rfl : (0 : Int32) = r34 := hd38.symm
      refine lv_if_eq (tgt := 42) hx hb dX12_tide_38 (by decide) (fun c39 => ?_) (fun c39 => absurd c39 (by decide))
      refine lv_aload_n hx hb dX12_tide_42 rfl (lv_at hl 0 rfl) ?_
      refine tw_get hx hb hts bF_X12 hown hK hT hr_o0 shm_0 rfl 1 (by decide) (ht_at hts 9 rfl) (fun _ h9 => h9) dX12_tide_43 (fun v9 m40 h9 => ?_)
      obtain ⟨rfl, hg41⟩ := h9 _ rfl
      refine lv_sipush (v := 1430) hx hb dX12_tide_46 (by decide) ?_
      refine lv_iload_n hx hb dX12_tide_49 rfl (lv_at hl 1 rfl) ?_
      refine lv_iadd hx hb dX12_tide_50 ?_
      refine lv_topi (fun x42 ex42 => ?_)
      have t43 : x42.toInt = 1430 + p0.toInt := ti_add ex42 (by decide) rfl (by omega) (by omega)
      refine lv_iload_n hx hb dX12_tide_51 rfl (lv_at hl 2 rfl) ?_
      refine tw_iast2 (Sg1 := (SHm q (wP wZ wN wH wB wC wL wK (sU wU (x42.toNatClampNeg - 1400) (p1.toInt + 1000).toNat) wV) PI im PM PT lS lB lE lN)) (i := x42) (x := p1) hx hb hK hT hG hS hg41 shm_2 rfl shm_2 shm_o2 (fun b9 h9 => hgu b9 1 h9) (vin_t (a := x42.toInt) rfl (by omega) (by omega)) (gp_of (gi_of (show p1.toInt = p1.toInt from rfl) (by omega) (by omega)) (w_tid (by have q9 := tn_of (show x42.toInt = x42.toInt from rfl) (show (0 : Int) ≤ x42.toInt from by omega); omega)) (wX_s (k := x42.toNatClampNeg - 1400) (v := (p1.toInt + 1000).toNat) ⟨by have q9 := tn_of (show x42.toInt = x42.toInt from rfl) (show (0 : Int) ≤ x42.toInt from by omega); omega, by have q9 := tn_of (show x42.toInt = x42.toInt from rfl) (show (0 : Int) ≤ x42.toInt from by omega); omega⟩ (by omega) (by have := (show p1.toInt = p1.toInt from rfl); omega))) (fun k9 hk9 hne9 v9 hv9 he9 => by obtain ⟨x9, rfl, p9⟩ := he9; exact ⟨x9, rfl, wP_U (by omega) (pl := x42.toNatClampNeg) ⟨by have q9 := tn_of (show x42.toInt = x42.toInt from rfl) (show (0 : Int) ≤ x42.toInt from by omega); omega, by have q9 := tn_of (show x42.toInt = x42.toInt from rfl) (show (0 : Int) ≤ x42.toInt from by omega); omega⟩ hne9 p9⟩) dX12_tide_52 (fun H locs hT oq m44 oi hS => ?_)
      have hF := hF.ast hg41 skm_2 oq (by decide)
      refine lv_aload_n hx hb dX12_tide_53 rfl (lv_at hl 0 rfl) ?_
      refine lv_iconst (v := 0) hx hb dX12_tide_54 (by decide) ?_
      refine tw_put (v := .int 0) (ty := .int) hx hb hts bF_X12 tyX12 tyX12_ok nmX12 hown hK hT hG hS hr_o0 shm_0 rfl 9 (by decide) (ht_at hts 10 rfl) (fun _ h9 => h9) rfl (by decide +kernel) rfl rfl (gl_at rfl (gi_of (show (0 : Int32).toInt = 0 from (by decide)) (by first | decide | omega) (by first | decide | omega))) dX12_tide_55 (fun H locs hT oq m45 oj hS => ?_)
      have hF := hF.put hr_o0 skm_0 oq oj (by decide)
      exact W.vret hx hb hr (fun t ht hW => ⟨⟨(sU wU (x42.toNatClampNeg - 1400) (p1.toInt + 1000).toNat), rfl, (by exact (fun w9 h9 => by have := tn_of (show x42.toInt = x42.toInt from rfl) (by omega); rw [sU_o (by omega)])), by (try dsimp only); rw [ht]; exact ⟨hT, hF⟩⟩, hS.F ht⟩) hS.2.2 dX12_tide_58
    · have t47 : r23.toInt = 0 := ti_eq c29 rfl (by decide)
      have t48 : (-400 : Int32).toInt = (-400) := by decide
      have t49 : (400 : Int32).toInt = 400 := by decide
      have t50 : p1.toInt < (-400 : Int32).toInt ∨ (400 : Int32).toInt < p1.toInt := hi28 c29
      refine lv_iconst (v := 1) hx hb dX12_tide_29 (by decide) ?_
      refine lv_goto (tgt := 34) hx hb dX12_tide_30 (by decide) ?_
      refine lv_iconst (v := 1) hx hb dX12_tide_34 (by decide) ?_
      have hFc := gA_free hG hA hS
      refine va_calli (va_runV (As := [.int 1, .int 1]) (rest := []) ⟨hx, hb, hml, hown, hts⟩ (s_throwsIf l dC dI kA adK adV G H q wZ wN wH wB wC wL wK wU wV PI im PM PT lS lB lE lN o0 1 1 hT hr_o0 (rg_t (a := 1) (by decide) (by first | decide | omega) (by first | decide | omega)) hgz hgn hgh hgb hgc hgi hgu) (cwV 2 hts (goodIn_app (goodIn_r _ [7, 8, 9, 5] rfl (by decide +kernel)) (goodIn_ca (goodIn_r _ [6, 1] rfl (by decide +kernel)) (bs_in _ _))) rfl rfl rfl (by decide +kernel) ⟨(Nat.le_of_ble_eq_true rfl), (Nat.le_of_ble_eq_true rfl)⟩) ⟨fun a U g mk q => by obtain ⟨q0, q1, qK, qE⟩ := q; exact ⟨q0, q1, va_K.moved (u := U) (U := U.calling g mk a) (Vm.Alike.refl U.vm) qK, EVS.blind g mk a qE⟩, gH_rc hK hT hr_o0 shm_0 rfl, fun U hU hW => ⟨rfl, hU, va_K.moved hW.alike hK, hE.call hS hFc hU hW⟩⟩ rfl rfl hl.1 rfl (lv_room (Nat.le_of_ble_eq_true rfl)) dX12_tide_35 ⟨(Nat.le_of_ble_eq_true rfl), (Nat.le_of_ble_eq_true rfl)⟩) hS (fun q _ h => hFc q h) hFc (fun r51 u t H locs ht hvm hw52 hB _ _ hS => ?_)
      obtain ⟨hT, hF1⟩ := hB
      rw [ht] at hT hF1
      have hF := hF.more hF1 (by decide)
      try dsimp only at hw52
      obtain ⟨h54, hd55⟩ := hw52
      obtain rfl : (1 : Int32) = r51 := hd55.symm
      refine lv_if_eq (tgt := 42) hx hb dX12_tide_38 (by decide) (fun c56 => absurd c56 (by decide)) (fun c56 => ?_)
      exact W.vret hx hb hr (fun t ht hW => ⟨⟨wU, rfl, (by exact (fun _ _ => rfl)), by (try dsimp only); rw [ht]; exact ⟨hT, hF⟩⟩, hS.F ht⟩) hS.2.2 dX12_tide_41
def w_s_layer : List Cond := .code yX12_layer cX12_layer 4 (some .int) :: (HAppend.hAppend (α := List Cond) (β := List Cond) (γ := List Cond) [.fieldLink RX12 194 "SeaLandModel" "thrown" "I", .code yX12_noWork cX12_noWork 2 (some .boolean), .fieldLink RX12 9 "SeaLandModel" "world" "[I", .code yX12_in cX12_in 3 (some .boolean), .methodLink RX12 197 yX12_in, .static yX12_in, .initialized RX12, .methodLink RX12 269 yX12_noWork, .instanceMethod yX12_noWork, .selects RX12 yX12_noWork yX12_noWork, .code yX12_throwsIf cX12_throwsIf 3 (some .boolean), .methodLink RX12 224 yX12_throwsIf, .instanceMethod yX12_throwsIf, .selects RX12 yX12_throwsIf yX12_throwsIf, .code yX12_isDike cX12_isDike 2 (some .boolean), .code yX12_of cX12_of 3 (some .int), .code yX12_at cX12_at 2 (some .int), .methodLink RX12 214 yX12_at, .static yX12_at, .methodLink RX12 217 yX12_of, .instanceMethod yX12_of, .selects RX12 yX12_of yX12_of, .methodLink RX12 272 yX12_isDike, .instanceMethod yX12_isDike, .selects RX12 yX12_isDike yX12_isDike, .code yX12_lays cX12_lays 5 none, .fieldLink RX12 238 "SeaLandModel" "rows" "I", .methodLink RX12 275 yX12_lays, .instanceMethod yX12_lays, .selects RX12 yX12_lays yX12_lays] bs)
set_option maxHeartbeats 4000000 in
set_option maxRecDepth 100000 in
theorem s_layer (l : Launch) (dC : Nat → ClassId) (dI : Nat → Nat → Nat) (kA : Nat → ClassId) (adK adV : Nat → Nat) (G : gT) (H0 : Heap) (q : Nat → Nat) (wZ wN : Nat → Int) (wH wB wC : Int) (wL wK : Nat → Prop) (wU wV : Nat → Nat) (PI : Nat → Int → Prop) (im : Int) (PM PT : Nat → Int → Prop) (lS lB lE : Nat → Nat → Int → Prop) (lN : Nat → Int) (o0 : Nat) (p0 : Int32) (p1 : Int32) (p2 : Int32)  (hT : gH (dC, dI) kA (SHm q (wP wZ wN wH wB wC wL wK wU wV) PI im PM PT lS lB lE lN) G H0) (hr_o0 : G o0 = some 0) (hgz : ∀ i, 0 ≤ wZ i) (hgn : ∀ i, 6500000 ≤ wN i ∧ wN i ≤ 20200000) (hgh : 0 ≤ wH ∧ wH ≤ 40000) (hgb : 0 ≤ wB ∧ wB ≤ 3850000) (hgc : 0 ≤ wC ∧ wC ≤ 30) (hgi : 0 ≤ im ∧ im ≤ 1) (hgu : ∀ a t, G a = some (t + 1) → a = q t) : Met l yX12_layer w_s_layer ({ frames := 3, cells := 0, slots := 0, locals := 67 }) (va_Pc [.ref o0, .int p0, .int p1, .int p2] (fun U => U.heap = H0 ∧ va_K (dC, dI) vwCl (tyl kA) U ∧ EVS adK adV (gA G H0.size) U U.heap)) (va_Qi (fun (r : Int32) (u : Unit) => (-1 ≤ r.toInt ∧ r.toInt ≤ 6)) (fun (_ : Unit) (t : State) => gH (dC, dI) kA (SHm q (wP wZ wN wH wB wC wL wK wU wV) PI im PM PT lS lB lE lN) G t.heap ∧ gF (dC, dI) SKm G ([(0, 0), (0, 9), (2, 0)] : List (Nat × Nat)) H0 t.heap) (gA G H0.size)) 0 0 (gA G H0.size) := by
  refine Met.ofW (cc := cX12_layer) (maxL := 4) (ret := (some .int)) (by decide) rfl ?_
  intro p e s m args below meth c s₁ B hml hv
  obtain ⟨rfl, hH0, hK, hE⟩ := hv
  have hx := B.exec
  have hb := B.bytes
  have hr := B.returns
  have hts := atoms_spec (ws := w_s_layer) B.pre
  have hown : s.vm.findClass RX12 = some m.cls := findClass_of_methodNamed B.named
  have hlocks := B.notSynchronized
  subst hH0
  generalize hAe : gA G s.heap.size = A at hE ⊢
  have hA : ∀ q : Nat, s.heap.size ≤ q → A q := fun q h => by rw [← hAe]; exact Or.inr h
  have hG := gA_of hAe
  have hS : va_S A s.heap s.heap [] := va_S.rf
  have hF : gF (dC, dI) SKm G ([(0, 0), (0, 9), (2, 0)] : List (Nat × Nat)) s.heap s.heap := gF.rf
  have hl := lv_entry ([.ref o0, .int p0, .int p1, .int p2]) (n := 4) (Nat.le_of_ble_eq_true rfl)
  rw [lg_entry_eq]
  generalize (lg_sl ([.ref o0, .int p0, .int p1, .int p2]) ++ List.replicate (4 - (lg_sl ([.ref o0, .int p0, .int p1, .int p2])).length) Slot.unset).toArray = ls at hl ⊢
  have hl : lv_has ls 4 [(0, .ref o0), (1, .int p0), (2, .int p1), (3, .int p2)] := hl
  refine lv_aload_n hx hb dX12_layer_0 rfl (lv_at hl 0 rfl) ?_
  refine lv_iconst (v := 0) hx hb dX12_layer_1 (by decide) ?_
  refine tw_put (v := .int 0) (ty := .int) hx hb hts bF_X12 tyX12 tyX12_ok nmX12 hown hK hT hG hS hr_o0 shm_0 rfl 0 (by decide) (ht_at hts 0 rfl) (fun _ h9 => h9) rfl (by decide +kernel) rfl rfl (gl_at rfl (gi_all _)) dX12_layer_2 (fun H locs hT oq m1 oj hS => ?_)
  have hF := hF.put hr_o0 skm_0 oq oj (by decide)
  refine lv_aload_n hx hb dX12_layer_5 rfl (lv_at hl 0 rfl) ?_
  refine lv_aload_n hx hb dX12_layer_6 rfl (lv_at hl 0 rfl) ?_
  refine lv_iload_n hx hb dX12_layer_7 rfl (lv_at hl 1 rfl) ?_
  have hFc := gA_free hG hA hS
  refine va_calli (va_runV (As := [.int p0]) (rest := [.ref o0]) ⟨hx, hb, hml, hown, hts⟩ (s_noWork l dC dI kA adK adV G H q wZ wN wH wB wC wL wK wU wV PI im PM PT lS lB lE lN o0 p0 hT hr_o0 hgz hgn hgh hgb hgc hgi hgu) (cwV 1 hts (goodIn_app (goodIn_r _ [8, 9, 10, 7] rfl (by decide +kernel)) (goodIn_ca (goodIn_r _ [2, 3, 4, 5, 6, 7] rfl (by decide +kernel)) (bs_in _ _))) rfl rfl rfl (by decide +kernel) ⟨(Nat.le_of_ble_eq_true rfl), (Nat.le_of_ble_eq_true rfl)⟩) ⟨fun a U g mk q => by obtain ⟨q0, q1, qK, qE⟩ := q; exact ⟨q0, q1, va_K.moved (u := U) (U := U.calling g mk a) (Vm.Alike.refl U.vm) qK, EVS.blind g mk a qE⟩, gH_rc hK hT hr_o0 shm_0 rfl, fun U hU hW => ⟨rfl, hU, va_K.moved hW.alike hK, hE.call hS hFc hU hW⟩⟩ rfl rfl hl.1 rfl (lv_room (Nat.le_of_ble_eq_true rfl)) dX12_layer_8 ⟨(Nat.le_of_ble_eq_true rfl), (Nat.le_of_ble_eq_true rfl)⟩) hS (fun q _ h => hFc q h) hFc (fun r2 u t H locs ht hvm hw3 hB _ _ hS => ?_)
  obtain ⟨hT, hF1⟩ := hB
  rw [ht] at hT hF1
  have hF := hF.more hF1 (by decide)
  try dsimp only at hw3
  obtain ⟨h5, hi6⟩ := hw3
  refine lv_iconst (v := 1) hx hb dX12_layer_11 (by decide) ?_
  have hFc := gA_free hG hA hS
  refine va_calli (va_runV (As := [.int r2, .int 1]) (rest := []) ⟨hx, hb, hml, hown, hts⟩ (s_throwsIf l dC dI kA adK adV G H q wZ wN wH wB wC wL wK wU wV PI im PM PT lS lB lE lN o0 r2 1 hT hr_o0 (by have q8 := ti_all r2; omega) hgz hgn hgh hgb hgc hgi hgu) (cwV 2 hts (goodIn_app (goodIn_r _ [12, 13, 14, 7] rfl (by decide +kernel)) (goodIn_ca (goodIn_r _ [11, 1] rfl (by decide +kernel)) (bs_in _ _))) rfl rfl rfl (by decide +kernel) ⟨(Nat.le_of_ble_eq_true rfl), (Nat.le_of_ble_eq_true rfl)⟩) ⟨fun a U g mk q => by obtain ⟨q0, q1, qK, qE⟩ := q; exact ⟨q0, q1, va_K.moved (u := U) (U := U.calling g mk a) (Vm.Alike.refl U.vm) qK, EVS.blind g mk a qE⟩, gH_rc hK hT hr_o0 shm_0 rfl, fun U hU hW => ⟨rfl, hU, va_K.moved hW.alike hK, hE.call hS hFc hU hW⟩⟩ rfl rfl hl.1 rfl (lv_room (Nat.le_of_ble_eq_true rfl)) dX12_layer_12 ⟨(Nat.le_of_ble_eq_true rfl), (Nat.le_of_ble_eq_true rfl)⟩) hS (fun q _ h => hFc q h) hFc (fun r7 u t H locs ht hvm hw8 hB _ _ hS => ?_)
  obtain ⟨hT, hF1⟩ := hB
  rw [ht] at hT hF1
  have hF := hF.more hF1 (by decide)
  try dsimp only at hw8
  obtain ⟨h10, hd11⟩ := hw8
  obtain rfl : r2 = r7 := hd11.symm
  refine lv_if_ne (tgt := 73) hx hb dX12_layer_15 (by decide) (fun c12 => ?_) (fun c12 => ?_)
  · have t13 : r2.toInt ≠ 0 := ti_ne c12 rfl (by decide)
    refine lv_iconst (v := 0) hx hb dX12_layer_73 (by decide) ?_
    exact W.iret (v := 0) hx hb hr (fun t ht hW => ⟨⟨0, (), rfl, (by exact (rg_t (a := 0) (by decide) (by first | decide | omega) (by first | decide | omega))), by (try dsimp only); rw [ht]; exact ⟨hT, hF⟩⟩, hS.F ht⟩) hS.2.2 dX12_layer_74
  · have t14 : r2.toInt = 0 := ti_eq c12 rfl (by decide)
    have t15 : 0 ≤ p0.toInt ∧ p0.toInt ≤ 29 ∧ p0.toInt < wC := hi6 c12
    refine lv_aload_n hx hb dX12_layer_18 rfl (lv_at hl 0 rfl) ?_
    refine lv_iload_n hx hb dX12_layer_19 rfl (lv_at hl 2 rfl) ?_
    refine lv_iconst (v := 1) hx hb dX12_layer_20 (by decide) ?_
    refine lv_sipush (v := 300) hx hb dX12_layer_21 (by decide) ?_
    have hFc := gA_free hG hA hS
    refine va_calli (va_runS (As := [.int p1, .int 1, .int 300]) (rest := [.ref o0]) ⟨hx, hb, hml, hown, hts⟩ (s_in l dC dI kA adK adV G H q wZ wN wH wB wC wL wK wU wV PI im PM PT lS lB lE lN p1 1 300 hT hgz hgn hgh hgb hgc hgi hgu) (va_cwS 3 hts (goodIn_app (goodIn_r _ [5, 6, 7] rfl (by decide +kernel)) (goodIn_ca (goodIn_r _ [4] rfl (by decide +kernel)) (bs_in _ _))) rfl rfl rfl (by decide +kernel) ⟨(Nat.le_of_ble_eq_true rfl), (Nat.le_of_ble_eq_true rfl)⟩) ⟨fun a U g mk q => by obtain ⟨q0, q1, qK, qE⟩ := q; exact ⟨q0, q1, va_K.moved (u := U) (U := U.calling g mk a) (Vm.Alike.refl U.vm) qK, EVS.blind g mk a qE⟩, fun U hU hW => ⟨rfl, hU, va_K.moved hW.alike hK, hE.call hS hFc hU hW⟩⟩ rfl rfl hl.1 rfl (lv_room (Nat.le_of_ble_eq_true rfl)) dX12_layer_24 ⟨(Nat.le_of_ble_eq_true rfl), (Nat.le_of_ble_eq_true rfl)⟩) hS (fun q _ h => hFc q h) hFc (fun r16 u t H locs ht hvm hw17 hB _ _ hS => ?_)
    obtain ⟨hT, hF1⟩ := hB
    rw [ht] at hT hF1
    have hF := hF.more hF1 (by decide)
    try dsimp only at hw17
    obtain ⟨h18, hi19, hi20⟩ := hw17
    refine lv_if_eq (tgt := 40) hx hb dX12_layer_27 (by decide) (fun c21 => ?_) (fun c21 => ?_)
    · have t22 : r16.toInt = 0 := ti_eq c21 rfl (by decide)
      have t23 : (1 : Int32).toInt = 1 := by decide
      have t24 : (300 : Int32).toInt = 300 := by decide
      have t25 : p1.toInt < (1 : Int32).toInt ∨ (300 : Int32).toInt < p1.toInt := hi20 c21
      refine lv_iconst (v := 1) hx hb dX12_layer_40 (by decide) ?_
      refine lv_goto (tgt := 45) hx hb dX12_layer_41 (by decide) ?_
      refine lv_iconst (v := 2) hx hb dX12_layer_45 (by decide) ?_
      have hFc := gA_free hG hA hS
      refine va_calli (va_runV (As := [.int 1, .int 2]) (rest := []) ⟨hx, hb, hml, hown, hts⟩ (s_throwsIf l dC dI kA adK adV G H q wZ wN wH wB wC wL wK wU wV PI im PM PT lS lB lE lN o0 1 2 hT hr_o0 (rg_t (a := 1) (by decide) (by first | decide | omega) (by first | decide | omega)) hgz hgn hgh hgb hgc hgi hgu) (cwV 2 hts (goodIn_app (goodIn_r _ [12, 13, 14, 7] rfl (by decide +kernel)) (goodIn_ca (goodIn_r _ [11, 1] rfl (by decide +kernel)) (bs_in _ _))) rfl rfl rfl (by decide +kernel) ⟨(Nat.le_of_ble_eq_true rfl), (Nat.le_of_ble_eq_true rfl)⟩) ⟨fun a U g mk q => by obtain ⟨q0, q1, qK, qE⟩ := q; exact ⟨q0, q1, va_K.moved (u := U) (U := U.calling g mk a) (Vm.Alike.refl U.vm) qK, EVS.blind g mk a qE⟩, gH_rc hK hT hr_o0 shm_0 rfl, fun U hU hW => ⟨rfl, hU, va_K.moved hW.alike hK, hE.call hS hFc hU hW⟩⟩ rfl rfl hl.1 rfl (lv_room (Nat.le_of_ble_eq_true rfl)) dX12_layer_46 ⟨(Nat.le_of_ble_eq_true rfl), (Nat.le_of_ble_eq_true rfl)⟩) hS (fun q _ h => hFc q h) hFc (fun r26 u t H locs ht hvm hw27 hB _ _ hS => ?_)
      obtain ⟨hT, hF1⟩ := hB
      rw [ht] at hT hF1
      have hF := hF.more hF1 (by decide)
      try dsimp only at hw27
      obtain ⟨h28, hd29⟩ := hw27
      obtain rfl : (1 : Int32) = r26 := hd29.symm
      refine lv_if_ne (tgt := 73) hx hb dX12_layer_49 (by decide) (fun c30 => ?_) (fun c30 => absurd c30 (by decide))
      refine lv_iconst (v := 0) hx hb dX12_layer_73 (by decide) ?_
      exact W.iret (v := 0) hx hb hr (fun t ht hW => ⟨⟨0, (), rfl, (by exact (rg_t (a := 0) (by decide) (by first | decide | omega) (by first | decide | omega))), by (try dsimp only); rw [ht]; exact ⟨hT, hF⟩⟩, hS.F ht⟩) hS.2.2 dX12_layer_74
    · have t31 : r16.toInt ≠ 0 := ti_ne c21 rfl (by decide)
      have t32 : (1 : Int32).toInt = 1 := by decide
      have t33 : (300 : Int32).toInt = 300 := by decide
      have t34 : (1 : Int32).toInt ≤ p1.toInt ∧ p1.toInt ≤ (300 : Int32).toInt := hi19 ((bit_of ⟨by omega, by omega⟩).resolve_left c21)
      refine lv_iload_n hx hb dX12_layer_30 rfl (lv_at hl 3 rfl) ?_
      refine lv_iconst (v := 0) hx hb dX12_layer_31 (by decide) ?_
      refine lv_bipush (v := 9) hx hb dX12_layer_32 (by decide) ?_
      have hFc := gA_free hG hA hS
      refine va_calli (va_runS (As := [.int p2, .int 0, .int 9]) (rest := [.ref o0]) ⟨hx, hb, hml, hown, hts⟩ (s_in l dC dI kA adK adV G H q wZ wN wH wB wC wL wK wU wV PI im PM PT lS lB lE lN p2 0 9 hT hgz hgn hgh hgb hgc hgi hgu) (va_cwS 3 hts (goodIn_app (goodIn_r _ [5, 6, 7] rfl (by decide +kernel)) (goodIn_ca (goodIn_r _ [4] rfl (by decide +kernel)) (bs_in _ _))) rfl rfl rfl (by decide +kernel) ⟨(Nat.le_of_ble_eq_true rfl), (Nat.le_of_ble_eq_true rfl)⟩) ⟨fun a U g mk q => by obtain ⟨q0, q1, qK, qE⟩ := q; exact ⟨q0, q1, va_K.moved (u := U) (U := U.calling g mk a) (Vm.Alike.refl U.vm) qK, EVS.blind g mk a qE⟩, fun U hU hW => ⟨rfl, hU, va_K.moved hW.alike hK, hE.call hS hFc hU hW⟩⟩ rfl rfl hl.1 rfl (lv_room (Nat.le_of_ble_eq_true rfl)) dX12_layer_34 ⟨(Nat.le_of_ble_eq_true rfl), (Nat.le_of_ble_eq_true rfl)⟩) hS (fun q _ h => hFc q h) hFc (fun r35 u t H locs ht hvm hw36 hB _ _ hS => ?_)
      obtain ⟨hT, hF1⟩ := hB
      rw [ht] at hT hF1
      have hF := hF.more hF1 (by decide)
      try dsimp only at hw36
      obtain ⟨h37, hi38, hi39⟩ := hw36
      refine lv_if_ne (tgt := 44) hx hb dX12_layer_37 (by decide) (fun c40 => ?_) (fun c40 => ?_)
      · have t41 : r35.toInt ≠ 0 := ti_ne c40 rfl (by decide)
        have t42 : (0 : Int32).toInt = 0 := by decide
        have t43 : (9 : Int32).toInt = 9 := by decide
        have t44 : (0 : Int32).toInt ≤ p2.toInt ∧ p2.toInt ≤ (9 : Int32).toInt := hi38 ((bit_of ⟨by omega, by omega⟩).resolve_left c40)
        refine lv_iconst (v := 0) hx hb dX12_layer_44 (by decide) ?_
        refine lv_iconst (v := 2) hx hb dX12_layer_45 (by decide) ?_
        have hFc := gA_free hG hA hS
        refine va_calli (va_runV (As := [.int 0, .int 2]) (rest := []) ⟨hx, hb, hml, hown, hts⟩ (s_throwsIf l dC dI kA adK adV G H q wZ wN wH wB wC wL wK wU wV PI im PM PT lS lB lE lN o0 0 2 hT hr_o0 (rg_t (a := 0) (by decide) (by first | decide | omega) (by first | decide | omega)) hgz hgn hgh hgb hgc hgi hgu) (cwV 2 hts (goodIn_app (goodIn_r _ [12, 13, 14, 7] rfl (by decide +kernel)) (goodIn_ca (goodIn_r _ [11, 1] rfl (by decide +kernel)) (bs_in _ _))) rfl rfl rfl (by decide +kernel) ⟨(Nat.le_of_ble_eq_true rfl), (Nat.le_of_ble_eq_true rfl)⟩) ⟨fun a U g mk q => by obtain ⟨q0, q1, qK, qE⟩ := q; exact ⟨q0, q1, va_K.moved (u := U) (U := U.calling g mk a) (Vm.Alike.refl U.vm) qK, EVS.blind g mk a qE⟩, gH_rc hK hT hr_o0 shm_0 rfl, fun U hU hW => ⟨rfl, hU, va_K.moved hW.alike hK, hE.call hS hFc hU hW⟩⟩ rfl rfl hl.1 rfl (lv_room (Nat.le_of_ble_eq_true rfl)) dX12_layer_46 ⟨(Nat.le_of_ble_eq_true rfl), (Nat.le_of_ble_eq_true rfl)⟩) hS (fun q _ h => hFc q h) hFc (fun r45 u t H locs ht hvm hw46 hB _ _ hS => ?_)
        obtain ⟨hT, hF1⟩ := hB
        rw [ht] at hT hF1
        have hF := hF.more hF1 (by decide)
        try dsimp only at hw46
        obtain ⟨h47, hd48⟩ := hw46
        obtain rfl : (0 : Int32) = r45 := hd48.symm
        refine lv_if_ne (tgt := 73) hx hb dX12_layer_49 (by decide) (fun c49 => absurd c49 (by decide)) (fun c49 => ?_)
        refine lv_aload_n hx hb dX12_layer_52 rfl (lv_at hl 0 rfl) ?_
        refine lv_aload_n hx hb dX12_layer_53 rfl (lv_at hl 0 rfl) ?_
        refine lv_iload_n hx hb dX12_layer_54 rfl (lv_at hl 1 rfl) ?_
        have hFc := gA_free hG hA hS
        refine va_calli (va_runV (As := [.int p0]) (rest := [.ref o0]) ⟨hx, hb, hml, hown, hts⟩ (s_isDike l dC dI kA adK adV G H q wZ wN wH wB wC wL wK wU wV PI im PM PT lS lB lE lN o0 p0 hT hr_o0 (by have q8 := ti_all p0; omega) hgz hgn hgh hgb hgc hgi hgu) (cwV 1 hts (goodIn_app (goodIn_r _ [23, 24, 25, 7] rfl (by decide +kernel)) (goodIn_ca (goodIn_r _ [15, 16, 3, 17, 18, 19, 7, 20, 21, 22] rfl (by decide +kernel)) (bs_in _ _))) rfl rfl rfl (by decide +kernel) ⟨(Nat.le_of_ble_eq_true rfl), (Nat.le_of_ble_eq_true rfl)⟩) ⟨fun a U g mk q => by obtain ⟨q0, q1, qK, qE⟩ := q; exact ⟨q0, q1, va_K.moved (u := U) (U := U.calling g mk a) (Vm.Alike.refl U.vm) qK, EVS.blind g mk a qE⟩, gH_rc hK hT hr_o0 shm_0 rfl, fun U hU hW => ⟨rfl, hU, va_K.moved hW.alike hK, hE.call hS hFc hU hW⟩⟩ rfl rfl hl.1 rfl (lv_room (Nat.le_of_ble_eq_true rfl)) dX12_layer_55 ⟨(Nat.le_of_ble_eq_true rfl), (Nat.le_of_ble_eq_true rfl)⟩) hS (fun q _ h => hFc q h) hFc (fun r50 u t H locs ht hvm hw51 hB _ _ hS => ?_)
        obtain ⟨hT, hF1⟩ := hB
        rw [ht] at hT hF1
        have hF := hF.more hF1 (by decide)
        try dsimp only at hw51
        obtain ⟨h52, hi53⟩ := hw51
        refine lv_if_ne (tgt := 65) hx hb dX12_layer_58 (by decide) (fun c54 => ?_) (fun c54 => ?_)
        · have t55 : r50.toInt ≠ 0 := ti_ne c54 rfl (by decide)
          have t56 : p0.toInt < wC → wK p0.toNatClampNeg := hi53 ((bit_of ⟨by omega, by omega⟩).resolve_left c54)
          refine lv_iconst (v := 0) hx hb dX12_layer_65 (by decide) ?_
          refine lv_iconst (v := 3) hx hb dX12_layer_66 (by decide) ?_
          have hFc := gA_free hG hA hS
          refine va_calli (va_runV (As := [.int 0, .int 3]) (rest := []) ⟨hx, hb, hml, hown, hts⟩ (s_throwsIf l dC dI kA adK adV G H q wZ wN wH wB wC wL wK wU wV PI im PM PT lS lB lE lN o0 0 3 hT hr_o0 (rg_t (a := 0) (by decide) (by first | decide | omega) (by first | decide | omega)) hgz hgn hgh hgb hgc hgi hgu) (cwV 2 hts (goodIn_app (goodIn_r _ [12, 13, 14, 7] rfl (by decide +kernel)) (goodIn_ca (goodIn_r _ [11, 1] rfl (by decide +kernel)) (bs_in _ _))) rfl rfl rfl (by decide +kernel) ⟨(Nat.le_of_ble_eq_true rfl), (Nat.le_of_ble_eq_true rfl)⟩) ⟨fun a U g mk q => by obtain ⟨q0, q1, qK, qE⟩ := q; exact ⟨q0, q1, va_K.moved (u := U) (U := U.calling g mk a) (Vm.Alike.refl U.vm) qK, EVS.blind g mk a qE⟩, gH_rc hK hT hr_o0 shm_0 rfl, fun U hU hW => ⟨rfl, hU, va_K.moved hW.alike hK, hE.call hS hFc hU hW⟩⟩ rfl rfl hl.1 rfl (lv_room (Nat.le_of_ble_eq_true rfl)) dX12_layer_67 ⟨(Nat.le_of_ble_eq_true rfl), (Nat.le_of_ble_eq_true rfl)⟩) hS (fun q _ h => hFc q h) hFc (fun r57 u t H locs ht hvm hw58 hB _ _ hS => ?_)
          obtain ⟨hT, hF1⟩ := hB
          rw [ht] at hT hF1
          have hF := hF.more hF1 (by decide)
          try dsimp only at hw58
          obtain ⟨h59, hd60⟩ := hw58
          obtain rfl : (0 : Int32) = r57 := hd60.symm
          refine lv_if_eq (tgt := 75) hx hb dX12_layer_70 (by decide) (fun c61 => ?_) (fun c61 => absurd c61 (by decide))
          refine lv_aload_n hx hb dX12_layer_75 rfl (lv_at hl 0 rfl) ?_
          refine lv_iload_n hx hb dX12_layer_76 rfl (lv_at hl 1 rfl) ?_
          refine lv_iconst (v := 4) hx hb dX12_layer_77 (by decide) ?_
          have hFc := gA_free hG hA hS
          refine va_calli (va_runV (As := [.int p0, .int 4]) (rest := []) ⟨hx, hb, hml, hown, hts⟩ (s_of4 l dC dI kA adK adV G H q wZ wN wH wB wC wL wK wU wV PI im PM PT lS lB lE lN o0 p0 hT hr_o0 (by have q8 := ti_all p0; omega) hgz hgn hgh hgb hgc hgi hgu) (cwV 2 hts (goodIn_app (goodIn_r _ [20, 21, 22, 7] rfl (by decide +kernel)) (goodIn_ca (goodIn_r _ [16, 3, 17, 18, 19, 7] rfl (by decide +kernel)) (bs_in _ _))) rfl rfl rfl (by decide +kernel) ⟨(Nat.le_of_ble_eq_true rfl), (Nat.le_of_ble_eq_true rfl)⟩) ⟨fun a U g mk q => by obtain ⟨q0, q1, qK, qE⟩ := q; exact ⟨q0, q1, va_K.moved (u := U) (U := U.calling g mk a) (Vm.Alike.refl U.vm) qK, EVS.blind g mk a qE⟩, gH_rc hK hT hr_o0 shm_0 rfl, fun U hU hW => ⟨rfl, hU, va_K.moved hW.alike hK, hE.call hS hFc hU hW⟩⟩ rfl rfl hl.1 rfl (lv_room (Nat.le_of_ble_eq_true rfl)) dX12_layer_78 ⟨(Nat.le_of_ble_eq_true rfl), (Nat.le_of_ble_eq_true rfl)⟩) hS (fun q _ h => hFc q h) hFc (fun r62 u t H locs ht hvm hw63 hB _ _ hS => ?_)
          obtain ⟨hT, hF1⟩ := hB
          rw [ht] at hT hF1
          have hF := hF.more hF1 (by decide)
          try dsimp only at hw63
          obtain ⟨h64, ⟨ix65, hix65, m66⟩⟩ := hw63
          have hg67 : G (q 1) = some 2 := gx_of hT hr_o0 shm_0 (k := 1) (by decide) rfl
          have m68 := (el_kept (hF1.arr hg67 skm_2 (by decide))).trans m66
          refine lv_bipush (v := 6) hx hb dX12_layer_81 (by decide) ?_
          refine lv_icmp_eq (tgt := 96) hx hb dX12_layer_83 (by decide) (fun c69 => ?_) (fun c69 => ?_)
          · have t70 : r62.toInt = 6 := ti_eq c69 rfl (by decide)
            refine lv_iconst (v := (-1)) hx hb dX12_layer_96 (by decide) ?_
            exact W.iret (v := (-1)) hx hb hr (fun t ht hW => ⟨⟨(-1), (), rfl, (by exact (rg_t (a := (-1)) (by decide) (by first | decide | omega) (by first | decide | omega))), by (try dsimp only); rw [ht]; exact ⟨hT, hF⟩⟩, hS.F ht⟩) hS.2.2 dX12_layer_97
          · have t71 : r62.toInt ≠ 6 := ti_ne c69 rfl (by decide)
            refine lv_aload_n hx hb dX12_layer_86 rfl (lv_at hl 0 rfl) ?_
            refine lv_iload_n hx hb dX12_layer_87 rfl (lv_at hl 1 rfl) ?_
            refine lv_iconst (v := 0) hx hb dX12_layer_88 (by decide) ?_
            have hFc := gA_free hG hA hS
            refine va_calli (va_runV (As := [.int p0, .int 0]) (rest := []) ⟨hx, hb, hml, hown, hts⟩ (s_of0 l dC dI kA adK adV G H q wZ wN wH wB wC wL wK wU wV PI im PM PT lS lB lE lN o0 p0 hT hr_o0 (by have q8 := ti_all p0; omega) hgz hgn hgh hgb hgc hgi hgu) (cwV 2 hts (goodIn_app (goodIn_r _ [20, 21, 22, 7] rfl (by decide +kernel)) (goodIn_ca (goodIn_r _ [16, 3, 17, 18, 19, 7] rfl (by decide +kernel)) (bs_in _ _))) rfl rfl rfl (by decide +kernel) ⟨(Nat.le_of_ble_eq_true rfl), (Nat.le_of_ble_eq_true rfl)⟩) ⟨fun a U g mk q => by obtain ⟨q0, q1, qK, qE⟩ := q; exact ⟨q0, q1, va_K.moved (u := U) (U := U.calling g mk a) (Vm.Alike.refl U.vm) qK, EVS.blind g mk a qE⟩, gH_rc hK hT hr_o0 shm_0 rfl, fun U hU hW => ⟨rfl, hU, va_K.moved hW.alike hK, hE.call hS hFc hU hW⟩⟩ rfl rfl hl.1 rfl (lv_room (Nat.le_of_ble_eq_true rfl)) dX12_layer_89 ⟨(Nat.le_of_ble_eq_true rfl), (Nat.le_of_ble_eq_true rfl)⟩) hS (fun q _ h => hFc q h) hFc (fun r72 u t H locs ht hvm hw73 hB _ _ hS => ?_)
            obtain ⟨hT, hF1⟩ := hB
            rw [ht] at hT hF1
            have m74 := (el_kept (hF1.arr hg67 skm_2 (by decide))).trans m68
            have hF := hF.more hF1 (by decide)
            try dsimp only at hw73
            have ⟨ix75, hix75, m76⟩ := hw73
            refine lv_iconst (v := 1) hx hb dX12_layer_92 (by decide) ?_
            refine lv_icmp_ne (tgt := 98) hx hb dX12_layer_93 (by decide) (fun c78 => ?_) (fun c78 => ?_)
            · have t79 : r72.toInt ≠ 1 := ti_ne c78 rfl (by decide)
              refine lv_aload_n hx hb dX12_layer_98 rfl (lv_at hl 0 rfl) ?_
              refine lv_iload_n hx hb dX12_layer_99 rfl (lv_at hl 1 rfl) ?_
              refine lv_iload_n hx hb dX12_layer_100 rfl (lv_at hl 2 rfl) ?_
              refine lv_iload_n hx hb dX12_layer_101 rfl (lv_at hl 3 rfl) ?_
              have hFc := gA_free hG hA hS
              refine va_callv (va_runV (As := [.int p0, .int p1, .int p2]) (rest := []) ⟨hx, hb, hml, hown, hts⟩ (s_lays l dC dI kA adK adV G H q wZ wN wH wB wC wL wK wU wV PI im PM PT lS lB lE lN o0 p0 p1 p2 r62 ix65 hT hr_o0 (by have q8 := ti_all p0; omega) (by have q8 := ti_all p2; omega) (by have q9 := (show ix65.toInt = ix65.toInt from rfl); have := (show p0.toInt = p0.toInt from rfl); omega) m74 (by have q8 := ti_all r62; omega) hgz hgn hgh hgb hgc hgi hgu) (cwV 3 hts (goodIn_app (goodIn_r _ [28, 29, 30, 7] rfl (by decide +kernel)) (goodIn_ca (goodIn_r _ [26, 16, 3, 17, 18, 19, 7, 20, 21, 22, 27] rfl (by decide +kernel)) (bs_in _ _))) rfl rfl rfl (by decide +kernel) ⟨(Nat.le_of_ble_eq_true rfl), (Nat.le_of_ble_eq_true rfl)⟩) ⟨fun a U g mk q => by obtain ⟨q0, q1, qK, qE⟩ := q; exact ⟨q0, q1, va_K.moved (u := U) (U := U.calling g mk a) (Vm.Alike.refl U.vm) qK, EVS.blind g mk a qE⟩, gH_rc hK hT hr_o0 shm_0 rfl, fun U hU hW => ⟨rfl, hU, va_K.moved hW.alike hK, hE.call hS hFc hU hW⟩⟩ rfl rfl hl.1 rfl (lv_room (Nat.le_of_ble_eq_true rfl)) dX12_layer_102 ⟨(Nat.le_of_ble_eq_true rfl), (Nat.le_of_ble_eq_true rfl)⟩) hS (fun q _ h => hFc q h) hFc (fun u t H locs ht hvm hw81 hB _ _ hS => ?_)
              obtain ⟨hT, hF1⟩ := hB
              rw [ht] at hT hF1
              have hF := hF.more hF1 (by decide)
              try dsimp only at hw81
              refine lv_aload_n hx hb dX12_layer_105 rfl (lv_at hl 0 rfl) ?_
              refine lv_iload_n hx hb dX12_layer_106 rfl (lv_at hl 1 rfl) ?_
              refine lv_iconst (v := 4) hx hb dX12_layer_107 (by decide) ?_
              have hFc := gA_free hG hA hS
              refine va_calli (va_runV (As := [.int p0, .int 4]) (rest := []) ⟨hx, hb, hml, hown, hts⟩ (s_of4 l dC dI kA adK adV G H q wZ wN wH wB wC wL wK wU wV PI im PM PT lS lB lE lN o0 p0 hT hr_o0 (by have q8 := ti_all p0; omega) hgz hgn hgh hgb hgc hgi hgu) (cwV 2 hts (goodIn_app (goodIn_r _ [20, 21, 22, 7] rfl (by decide +kernel)) (goodIn_ca (goodIn_r _ [16, 3, 17, 18, 19, 7] rfl (by decide +kernel)) (bs_in _ _))) rfl rfl rfl (by decide +kernel) ⟨(Nat.le_of_ble_eq_true rfl), (Nat.le_of_ble_eq_true rfl)⟩) ⟨fun a U g mk q => by obtain ⟨q0, q1, qK, qE⟩ := q; exact ⟨q0, q1, va_K.moved (u := U) (U := U.calling g mk a) (Vm.Alike.refl U.vm) qK, EVS.blind g mk a qE⟩, gH_rc hK hT hr_o0 shm_0 rfl, fun U hU hW => ⟨rfl, hU, va_K.moved hW.alike hK, hE.call hS hFc hU hW⟩⟩ rfl rfl hl.1 rfl (lv_room (Nat.le_of_ble_eq_true rfl)) dX12_layer_108 ⟨(Nat.le_of_ble_eq_true rfl), (Nat.le_of_ble_eq_true rfl)⟩) hS (fun q _ h => hFc q h) hFc (fun r84 u t H locs ht hvm hw85 hB _ _ hS => ?_)
              obtain ⟨hT, hF1⟩ := hB
              rw [ht] at hT hF1
              have hF := hF.more hF1 (by decide)
              try dsimp only at hw85
              obtain ⟨h86, ⟨ix87, hix87, m88⟩⟩ := hw85
              exact W.iret (v := r84) hx hb hr (fun t ht hW => ⟨⟨r84, (), rfl, (by exact (by have q8 := ti_all r84; omega)), by (try dsimp only); rw [ht]; exact ⟨hT, hF⟩⟩, hS.F ht⟩) hS.2.2 dX12_layer_111
            · have t90 : r72.toInt = 1 := ti_eq c78 rfl (by decide)
              refine lv_iconst (v := (-1)) hx hb dX12_layer_96 (by decide) ?_
              exact W.iret (v := (-1)) hx hb hr (fun t ht hW => ⟨⟨(-1), (), rfl, (by exact (rg_t (a := (-1)) (by decide) (by first | decide | omega) (by first | decide | omega))), by (try dsimp only); rw [ht]; exact ⟨hT, hF⟩⟩, hS.F ht⟩) hS.2.2 dX12_layer_97
        · have t91 : r50.toInt = 0 := ti_eq c54 rfl (by decide)
          refine lv_iconst (v := 1) hx hb dX12_layer_61 (by decide) ?_
          refine lv_goto (tgt := 66) hx hb dX12_layer_62 (by decide) ?_
          refine lv_iconst (v := 3) hx hb dX12_layer_66 (by decide) ?_
          have hFc := gA_free hG hA hS
          refine va_calli (va_runV (As := [.int 1, .int 3]) (rest := []) ⟨hx, hb, hml, hown, hts⟩ (s_throwsIf l dC dI kA adK adV G H q wZ wN wH wB wC wL wK wU wV PI im PM PT lS lB lE lN o0 1 3 hT hr_o0 (rg_t (a := 1) (by decide) (by first | decide | omega) (by first | decide | omega)) hgz hgn hgh hgb hgc hgi hgu) (cwV 2 hts (goodIn_app (goodIn_r _ [12, 13, 14, 7] rfl (by decide +kernel)) (goodIn_ca (goodIn_r _ [11, 1] rfl (by decide +kernel)) (bs_in _ _))) rfl rfl rfl (by decide +kernel) ⟨(Nat.le_of_ble_eq_true rfl), (Nat.le_of_ble_eq_true rfl)⟩) ⟨fun a U g mk q => by obtain ⟨q0, q1, qK, qE⟩ := q; exact ⟨q0, q1, va_K.moved (u := U) (U := U.calling g mk a) (Vm.Alike.refl U.vm) qK, EVS.blind g mk a qE⟩, gH_rc hK hT hr_o0 shm_0 rfl, fun U hU hW => ⟨rfl, hU, va_K.moved hW.alike hK, hE.call hS hFc hU hW⟩⟩ rfl rfl hl.1 rfl (lv_room (Nat.le_of_ble_eq_true rfl)) dX12_layer_67 ⟨(Nat.le_of_ble_eq_true rfl), (Nat.le_of_ble_eq_true rfl)⟩) hS (fun q _ h => hFc q h) hFc (fun r92 u t H locs ht hvm hw93 hB _ _ hS => ?_)
          obtain ⟨hT, hF1⟩ := hB
          rw [ht] at hT hF1
          have hF := hF.more hF1 (by decide)
          try dsimp only at hw93
          obtain ⟨h94, hd95⟩ := hw93
          obtain rfl : (1 : Int32) = r92 := hd95.symm
          refine lv_if_eq (tgt := 75) hx hb dX12_layer_70 (by decide) (fun c96 => absurd c96 (by decide)) (fun c96 => ?_)
          refine lv_iconst (v := 0) hx hb dX12_layer_73 (by decide) ?_
          exact W.iret (v := 0) hx hb hr (fun t ht hW => ⟨⟨0, (), rfl, (by exact (rg_t (a := 0) (by decide) (by first | decide | omega) (by first | decide | omega))), by (try dsimp only); rw [ht]; exact ⟨hT, hF⟩⟩, hS.F ht⟩) hS.2.2 dX12_layer_74
      · have t97 : r35.toInt = 0 := ti_eq c40 rfl (by decide)
        have t98 : (0 : Int32).toInt = 0 := by decide
        have t99 : (9 : Int32).toInt = 9 := by decide
        have t100 : p2.toInt < (0 : Int32).toInt ∨ (9 : Int32).toInt < p2.toInt := hi39 c40
        refine lv_iconst (v := 1) hx hb dX12_layer_40 (by decide) ?_
        refine lv_goto (tgt := 45) hx hb dX12_layer_41 (by decide) ?_
        refine lv_iconst (v := 2) hx hb dX12_layer_45 (by decide) ?_
        have hFc := gA_free hG hA hS
        refine va_calli (va_runV (As := [.int 1, .int 2]) (rest := []) ⟨hx, hb, hml, hown, hts⟩ (s_throwsIf l dC dI kA adK adV G H q wZ wN wH wB wC wL wK wU wV PI im PM PT lS lB lE lN o0 1 2 hT hr_o0 (rg_t (a := 1) (by decide) (by first | decide | omega) (by first | decide | omega)) hgz hgn hgh hgb hgc hgi hgu) (cwV 2 hts (goodIn_app (goodIn_r _ [12, 13, 14, 7] rfl (by decide +kernel)) (goodIn_ca (goodIn_r _ [11, 1] rfl (by decide +kernel)) (bs_in _ _))) rfl rfl rfl (by decide +kernel) ⟨(Nat.le_of_ble_eq_true rfl), (Nat.le_of_ble_eq_true rfl)⟩) ⟨fun a U g mk q => by obtain ⟨q0, q1, qK, qE⟩ := q; exact ⟨q0, q1, va_K.moved (u := U) (U := U.calling g mk a) (Vm.Alike.refl U.vm) qK, EVS.blind g mk a qE⟩, gH_rc hK hT hr_o0 shm_0 rfl, fun U hU hW => ⟨rfl, hU, va_K.moved hW.alike hK, hE.call hS hFc hU hW⟩⟩ rfl rfl hl.1 rfl (lv_room (Nat.le_of_ble_eq_true rfl)) dX12_layer_46 ⟨(Nat.le_of_ble_eq_true rfl), (Nat.le_of_ble_eq_true rfl)⟩) hS (fun q _ h => hFc q h) hFc (fun r101 u t H locs ht hvm hw102 hB _ _ hS => ?_)
        obtain ⟨hT, hF1⟩ := hB
        rw [ht] at hT hF1
        have hF := hF.more hF1 (by decide)
        try dsimp only at hw102
        obtain ⟨h103, hd104⟩ := hw102
        obtain rfl : (1 : Int32) = r101 := hd104.symm
        refine lv_if_ne (tgt := 73) hx hb dX12_layer_49 (by decide) (fun c105 => ?_) (fun c105 => absurd c105 (by decide))
        refine lv_iconst (v := 0) hx hb dX12_layer_73 (by decide) ?_
        exact W.iret (v := 0) hx hb hr (fun t ht hW => ⟨⟨0, (), rfl, (by exact (rg_t (a := 0) (by decide) (by first | decide | omega) (by first | decide | omega))), by (try dsimp only); rw [ht]; exact ⟨hT, hF⟩⟩, hS.F ht⟩) hS.2.2 dX12_layer_74
def w_s_settler : List Cond := .code yX12_settler cX12_settler 9 (some .int) :: (HAppend.hAppend (α := List Cond) (β := List Cond) (γ := List Cond) [.fieldLink RX12 194 "SeaLandModel" "thrown" "I", .code yX12_in cX12_in 3 (some .boolean), .methodLink RX12 197 yX12_in, .static yX12_in, .initialized RX12, .code yX12_throwsIf cX12_throwsIf 3 (some .boolean), .methodLink RX12 224 yX12_throwsIf, .instanceMethod yX12_throwsIf, .selects RX12 yX12_throwsIf yX12_throwsIf, .constant RX12 241 100000, .constant RX12 501 999999, .fieldLink RX12 495 "SeaLandModel" "settlers" "I", .fieldLink RX12 79 "SeaLandModel" "age" "[I", .fieldLink RX12 82 "SeaLandModel" "sons" "[I", .fieldLink RX12 85 "SeaLandModel" "coin" "[I", .fieldLink RX12 88 "SeaLandModel" "cattle" "[I", .fieldLink RX12 91 "SeaLandModel" "isKin" "[Z", .fieldLink RX12 95 "SeaLandModel" "isBoard" "[Z", .fieldLink RX12 98 "SeaLandModel" "drawn" "[I", .fieldLink RX12 101 "SeaLandModel" "holds" "[I"] bs)
set_option maxHeartbeats 4000000 in
set_option maxRecDepth 100000 in
theorem s_settler (l : Launch) (dC : Nat → ClassId) (dI : Nat → Nat → Nat) (kA : Nat → ClassId) (adK adV : Nat → Nat) (G : gT) (H0 : Heap) (q : Nat → Nat) (wZ wN : Nat → Int) (wH wB wC : Int) (wL wK : Nat → Prop) (wU wV : Nat → Nat) (PI : Nat → Int → Prop) (im : Int) (PM PT : Nat → Int → Prop) (lS lB lE : Nat → Nat → Int → Prop) (lN : Nat → Int) (o0 : Nat) (p0 : Int32) (p1 : Int32) (p2 : Int32) (p3 : Int32) (p4 : Int32) (p5 : Int32) (p6 : Int32)  (hT : gH (dC, dI) kA (SHm q (wP wZ wN wH wB wC wL wK wU wV) PI im PM PT lS lB lE lN) G H0) (hr_o0 : G o0 = some 0) (hq0 : 0 ≤ p4.toInt ∧ p4.toInt ≤ 1) (hq1 : 0 ≤ p5.toInt ∧ p5.toInt ≤ 1) (hgz : ∀ i, 0 ≤ wZ i) (hgn : ∀ i, 6500000 ≤ wN i ∧ wN i ≤ 20200000) (hgh : 0 ≤ wH ∧ wH ≤ 40000) (hgb : 0 ≤ wB ∧ wB ≤ 3850000) (hgc : 0 ≤ wC ∧ wC ≤ 30) (hgi : 0 ≤ im ∧ im ≤ 1) (hgu : ∀ a t, G a = some (t + 1) → a = q t) : Met l yX12_settler w_s_settler ({ frames := 1, cells := 0, slots := 0, locals := 22 }) (va_Pc [.ref o0, .int p0, .int p1, .int p2, .int p3, .int p4, .int p5, .int p6] (fun U => U.heap = H0 ∧ va_K (dC, dI) vwCl (tyl kA) U ∧ EVS adK adV (gA G H0.size) U U.heap)) (va_Qi (fun (r : Int32) (u : Unit) => (0 ≤ r.toInt ∧ r.toInt ≤ 59)) (fun (_ : Unit) (t : State) => gH (dC, dI) kA (SHm q (wP wZ wN wH wB wC wL wK wU wV) PI im PM PT lS lB lE lN) G t.heap ∧ gF (dC, dI) SKm G ([(0, 0), (0, 42), (32, 0), (33, 0), (34, 0), (35, 0), (36, 0), (37, 0), (38, 0), (39, 0)] : List (Nat × Nat)) H0 t.heap) (gA G H0.size)) 0 0 (gA G H0.size) := by
  refine Met.ofW (cc := cX12_settler) (maxL := 9) (ret := (some .int)) (by decide) rfl ?_
  intro p e s m args below meth c s₁ B hml hv
  obtain ⟨rfl, hH0, hK, hE⟩ := hv
  have hx := B.exec
  have hb := B.bytes
  have hr := B.returns
  have hts := atoms_spec (ws := w_s_settler) B.pre
  have hown : s.vm.findClass RX12 = some m.cls := findClass_of_methodNamed B.named
  have hlocks := B.notSynchronized
  subst hH0
  generalize hAe : gA G s.heap.size = A at hE ⊢
  have hA : ∀ q : Nat, s.heap.size ≤ q → A q := fun q h => by rw [← hAe]; exact Or.inr h
  have hG := gA_of hAe
  have hS : va_S A s.heap s.heap [] := va_S.rf
  have hF : gF (dC, dI) SKm G ([(0, 0), (0, 42), (32, 0), (33, 0), (34, 0), (35, 0), (36, 0), (37, 0), (38, 0), (39, 0)] : List (Nat × Nat)) s.heap s.heap := gF.rf
  have hl := lv_entry ([.ref o0, .int p0, .int p1, .int p2, .int p3, .int p4, .int p5, .int p6]) (n := 9) (Nat.le_of_ble_eq_true rfl)
  rw [lg_entry_eq]
  generalize (lg_sl ([.ref o0, .int p0, .int p1, .int p2, .int p3, .int p4, .int p5, .int p6]) ++ List.replicate (9 - (lg_sl ([.ref o0, .int p0, .int p1, .int p2, .int p3, .int p4, .int p5, .int p6])).length) Slot.unset).toArray = ls at hl ⊢
  have hl : lv_has ls 9 [(0, .ref o0), (1, .int p0), (2, .int p1), (3, .int p2), (4, .int p3), (5, .int p4), (6, .int p5), (7, .int p6)] := hl
  refine lv_aload_n hx hb dX12_settler_0 rfl (lv_at hl 0 rfl) ?_
  refine lv_iconst (v := 0) hx hb dX12_settler_1 (by decide) ?_
  refine tw_put (v := .int 0) (ty := .int) hx hb hts bF_X12 tyX12 tyX12_ok nmX12 hown hK hT hG hS hr_o0 shm_0 rfl 0 (by decide) (ht_at hts 0 rfl) (fun _ h9 => h9) rfl (by decide +kernel) rfl rfl (gl_at rfl (gi_all _)) dX12_settler_2 (fun H locs hT oq m1 oj hS => ?_)
  have hF := hF.put hr_o0 skm_0 oq oj (by decide)
  refine lv_aload_n hx hb dX12_settler_5 rfl (lv_at hl 0 rfl) ?_
  refine lv_iload_n hx hb dX12_settler_6 rfl (lv_at hl 1 rfl) ?_
  refine lv_iconst (v := 0) hx hb dX12_settler_7 (by decide) ?_
  refine lv_bipush (v := 99) hx hb dX12_settler_8 (by decide) ?_
  have hFc := gA_free hG hA hS
  refine va_calli (va_runS (As := [.int p0, .int 0, .int 99]) (rest := [.ref o0]) ⟨hx, hb, hml, hown, hts⟩ (s_in l dC dI kA adK adV G H q wZ wN wH wB wC wL wK wU wV PI im PM PT lS lB lE lN p0 0 99 hT hgz hgn hgh hgb hgc hgi hgu) (va_cwS 3 hts (goodIn_app (goodIn_r _ [3, 4, 5] rfl (by decide +kernel)) (goodIn_ca (goodIn_r _ [2] rfl (by decide +kernel)) (bs_in _ _))) rfl rfl rfl (by decide +kernel) ⟨(Nat.le_of_ble_eq_true rfl), (Nat.le_of_ble_eq_true rfl)⟩) ⟨fun a U g mk q => by obtain ⟨q0, q1, qK, qE⟩ := q; exact ⟨q0, q1, va_K.moved (u := U) (U := U.calling g mk a) (Vm.Alike.refl U.vm) qK, EVS.blind g mk a qE⟩, fun U hU hW => ⟨rfl, hU, va_K.moved hW.alike hK, hE.call hS hFc hU hW⟩⟩ rfl rfl hl.1 rfl (lv_room (Nat.le_of_ble_eq_true rfl)) dX12_settler_10 ⟨(Nat.le_of_ble_eq_true rfl), (Nat.le_of_ble_eq_true rfl)⟩) hS (fun q _ h => hFc q h) hFc (fun r2 u t H locs ht hvm hw3 hB _ _ hS => ?_)
  obtain ⟨hT, hF1⟩ := hB
  rw [ht] at hT hF1
  have hF := hF.more hF1 (by decide)
  try dsimp only at hw3
  obtain ⟨h5, hi6, hi7⟩ := hw3
  refine lv_if_eq (tgt := 59) hx hb dX12_settler_13 (by decide) (fun c8 => ?_) (fun c8 => ?_)
  · have t9 : r2.toInt = 0 := ti_eq c8 rfl (by decide)
    have t10 : (0 : Int32).toInt = 0 := by decide
    have t11 : (99 : Int32).toInt = 99 := by decide
    have t12 : p0.toInt < (0 : Int32).toInt ∨ (99 : Int32).toInt < p0.toInt := hi7 c8
    refine lv_iconst (v := 1) hx hb dX12_settler_59 (by decide) ?_
    refine lv_goto (tgt := 64) hx hb dX12_settler_60 (by decide) ?_
    refine lv_iconst (v := 1) hx hb dX12_settler_64 (by decide) ?_
    have hFc := gA_free hG hA hS
    refine va_calli (va_runV (As := [.int 1, .int 1]) (rest := []) ⟨hx, hb, hml, hown, hts⟩ (s_throwsIf l dC dI kA adK adV G H q wZ wN wH wB wC wL wK wU wV PI im PM PT lS lB lE lN o0 1 1 hT hr_o0 (rg_t (a := 1) (by decide) (by first | decide | omega) (by first | decide | omega)) hgz hgn hgh hgb hgc hgi hgu) (cwV 2 hts (goodIn_app (goodIn_r _ [7, 8, 9, 5] rfl (by decide +kernel)) (goodIn_ca (goodIn_r _ [6, 1] rfl (by decide +kernel)) (bs_in _ _))) rfl rfl rfl (by decide +kernel) ⟨(Nat.le_of_ble_eq_true rfl), (Nat.le_of_ble_eq_true rfl)⟩) ⟨fun a U g mk q => by obtain ⟨q0, q1, qK, qE⟩ := q; exact ⟨q0, q1, va_K.moved (u := U) (U := U.calling g mk a) (Vm.Alike.refl U.vm) qK, EVS.blind g mk a qE⟩, gH_rc hK hT hr_o0 shm_0 rfl, fun U hU hW => ⟨rfl, hU, va_K.moved hW.alike hK, hE.call hS hFc hU hW⟩⟩ rfl rfl hl.1 rfl (lv_room (Nat.le_of_ble_eq_true rfl)) dX12_settler_65 ⟨(Nat.le_of_ble_eq_true rfl), (Nat.le_of_ble_eq_true rfl)⟩) hS (fun q _ h => hFc q h) hFc (fun r13 u t H locs ht hvm hw14 hB _ _ hS => ?_)
    obtain ⟨hT, hF1⟩ := hB
    rw [ht] at hT hF1
    have hF := hF.more hF1 (by decide)
    try dsimp only at hw14
    obtain ⟨h16, hd17⟩ := hw14
    obtain rfl : (1 : Int32) = r13 := hd17.symm
    refine lv_if_ne (tgt := 93) hx hb dX12_settler_68 (by decide) (fun c18 => ?_) (fun c18 => absurd c18 (by decide))
    refine lv_iconst (v := 0) hx hb dX12_settler_93 (by decide) ?_
    exact W.iret (v := 0) hx hb hr (fun t ht hW => ⟨⟨0, (), rfl, (by exact (rg_t (a := 0) (by decide) (by first | decide | omega) (by first | decide | omega))), by (try dsimp only); rw [ht]; exact ⟨hT, hF⟩⟩, hS.F ht⟩) hS.2.2 dX12_settler_94
  · have t19 : r2.toInt ≠ 0 := ti_ne c8 rfl (by decide)
    have t20 : (0 : Int32).toInt = 0 := by decide
    have t21 : (99 : Int32).toInt = 99 := by decide
    have t22 : (0 : Int32).toInt ≤ p0.toInt ∧ p0.toInt ≤ (99 : Int32).toInt := hi6 ((bit_of ⟨by omega, by omega⟩).resolve_left c8)
    refine lv_iload_n hx hb dX12_settler_16 rfl (lv_at hl 2 rfl) ?_
    refine lv_iconst (v := 0) hx hb dX12_settler_17 (by decide) ?_
    refine lv_bipush (v := 20) hx hb dX12_settler_18 (by decide) ?_
    have hFc := gA_free hG hA hS
    refine va_calli (va_runS (As := [.int p1, .int 0, .int 20]) (rest := [.ref o0]) ⟨hx, hb, hml, hown, hts⟩ (s_in l dC dI kA adK adV G H q wZ wN wH wB wC wL wK wU wV PI im PM PT lS lB lE lN p1 0 20 hT hgz hgn hgh hgb hgc hgi hgu) (va_cwS 3 hts (goodIn_app (goodIn_r _ [3, 4, 5] rfl (by decide +kernel)) (goodIn_ca (goodIn_r _ [2] rfl (by decide +kernel)) (bs_in _ _))) rfl rfl rfl (by decide +kernel) ⟨(Nat.le_of_ble_eq_true rfl), (Nat.le_of_ble_eq_true rfl)⟩) ⟨fun a U g mk q => by obtain ⟨q0, q1, qK, qE⟩ := q; exact ⟨q0, q1, va_K.moved (u := U) (U := U.calling g mk a) (Vm.Alike.refl U.vm) qK, EVS.blind g mk a qE⟩, fun U hU hW => ⟨rfl, hU, va_K.moved hW.alike hK, hE.call hS hFc hU hW⟩⟩ rfl rfl hl.1 rfl (lv_room (Nat.le_of_ble_eq_true rfl)) dX12_settler_20 ⟨(Nat.le_of_ble_eq_true rfl), (Nat.le_of_ble_eq_true rfl)⟩) hS (fun q _ h => hFc q h) hFc (fun r23 u t H locs ht hvm hw24 hB _ _ hS => ?_)
    obtain ⟨hT, hF1⟩ := hB
    rw [ht] at hT hF1
    have hF := hF.more hF1 (by decide)
    try dsimp only at hw24
    obtain ⟨h26, hi27, hi28⟩ := hw24
    refine lv_if_eq (tgt := 59) hx hb dX12_settler_23 (by decide) (fun c29 => ?_) (fun c29 => ?_)
    · have t30 : r23.toInt = 0 := ti_eq c29 rfl (by decide)
      have t31 : (0 : Int32).toInt = 0 := by decide
      have t32 : (20 : Int32).toInt = 20 := by decide
      have t33 : p1.toInt < (0 : Int32).toInt ∨ (20 : Int32).toInt < p1.toInt := hi28 c29
      refine lv_iconst (v := 1) hx hb dX12_settler_59 (by decide) ?_
      refine lv_goto (tgt := 64) hx hb dX12_settler_60 (by decide) ?_
      refine lv_iconst (v := 1) hx hb dX12_settler_64 (by decide) ?_
      have hFc := gA_free hG hA hS
      refine va_calli (va_runV (As := [.int 1, .int 1]) (rest := []) ⟨hx, hb, hml, hown, hts⟩ (s_throwsIf l dC dI kA adK adV G H q wZ wN wH wB wC wL wK wU wV PI im PM PT lS lB lE lN o0 1 1 hT hr_o0 (rg_t (a := 1) (by decide) (by first | decide | omega) (by first | decide | omega)) hgz hgn hgh hgb hgc hgi hgu) (cwV 2 hts (goodIn_app (goodIn_r _ [7, 8, 9, 5] rfl (by decide +kernel)) (goodIn_ca (goodIn_r _ [6, 1] rfl (by decide +kernel)) (bs_in _ _))) rfl rfl rfl (by decide +kernel) ⟨(Nat.le_of_ble_eq_true rfl), (Nat.le_of_ble_eq_true rfl)⟩) ⟨fun a U g mk q => by obtain ⟨q0, q1, qK, qE⟩ := q; exact ⟨q0, q1, va_K.moved (u := U) (U := U.calling g mk a) (Vm.Alike.refl U.vm) qK, EVS.blind g mk a qE⟩, gH_rc hK hT hr_o0 shm_0 rfl, fun U hU hW => ⟨rfl, hU, va_K.moved hW.alike hK, hE.call hS hFc hU hW⟩⟩ rfl rfl hl.1 rfl (lv_room (Nat.le_of_ble_eq_true rfl)) dX12_settler_65 ⟨(Nat.le_of_ble_eq_true rfl), (Nat.le_of_ble_eq_true rfl)⟩) hS (fun q _ h => hFc q h) hFc (fun r34 u t H locs ht hvm hw35 hB _ _ hS => ?_)
      obtain ⟨hT, hF1⟩ := hB
      rw [ht] at hT hF1
      have hF := hF.more hF1 (by decide)
      try dsimp only at hw35
      obtain ⟨h37, hd38⟩ := hw35
      obtain rfl : (1 : Int32) = r34 := hd38.symm
      refine lv_if_ne (tgt := 93) hx hb dX12_settler_68 (by decide) (fun c39 => ?_) (fun c39 => absurd c39 (by decide))
      refine lv_iconst (v := 0) hx hb dX12_settler_93 (by decide) ?_
      exact W.iret (v := 0) hx hb hr (fun t ht hW => ⟨⟨0, (), rfl, (by exact (rg_t (a := 0) (by decide) (by first | decide | omega) (by first | decide | omega))), by (try dsimp only); rw [ht]; exact ⟨hT, hF⟩⟩, hS.F ht⟩) hS.2.2 dX12_settler_94
    · have t40 : r23.toInt ≠ 0 := ti_ne c29 rfl (by decide)
      have t41 : (0 : Int32).toInt = 0 := by decide
      have t42 : (20 : Int32).toInt = 20 := by decide
      have t43 : (0 : Int32).toInt ≤ p1.toInt ∧ p1.toInt ≤ (20 : Int32).toInt := hi27 ((bit_of ⟨by omega, by omega⟩).resolve_left c29)
      refine lv_iload_n hx hb dX12_settler_26 rfl (lv_at hl 3 rfl) ?_
      refine lv_iconst (v := 0) hx hb dX12_settler_27 (by decide) ?_
      refine lv_ldc (v := 100000) hx hb hown (ht_at hts 9 rfl) dX12_settler_28 ?_
      have hFc := gA_free hG hA hS
      refine va_calli (va_runS (As := [.int p2, .int 0, .int 100000]) (rest := [.ref o0]) ⟨hx, hb, hml, hown, hts⟩ (s_in l dC dI kA adK adV G H q wZ wN wH wB wC wL wK wU wV PI im PM PT lS lB lE lN p2 0 100000 hT hgz hgn hgh hgb hgc hgi hgu) (va_cwS 3 hts (goodIn_app (goodIn_r _ [3, 4, 5] rfl (by decide +kernel)) (goodIn_ca (goodIn_r _ [2] rfl (by decide +kernel)) (bs_in _ _))) rfl rfl rfl (by decide +kernel) ⟨(Nat.le_of_ble_eq_true rfl), (Nat.le_of_ble_eq_true rfl)⟩) ⟨fun a U g mk q => by obtain ⟨q0, q1, qK, qE⟩ := q; exact ⟨q0, q1, va_K.moved (u := U) (U := U.calling g mk a) (Vm.Alike.refl U.vm) qK, EVS.blind g mk a qE⟩, fun U hU hW => ⟨rfl, hU, va_K.moved hW.alike hK, hE.call hS hFc hU hW⟩⟩ rfl rfl hl.1 rfl (lv_room (Nat.le_of_ble_eq_true rfl)) dX12_settler_30 ⟨(Nat.le_of_ble_eq_true rfl), (Nat.le_of_ble_eq_true rfl)⟩) hS (fun q _ h => hFc q h) hFc (fun r44 u t H locs ht hvm hw45 hB _ _ hS => ?_)
      obtain ⟨hT, hF1⟩ := hB
      rw [ht] at hT hF1
      have hF := hF.more hF1 (by decide)
      try dsimp only at hw45
      obtain ⟨h47, hi48, hi49⟩ := hw45
      refine lv_if_eq (tgt := 59) hx hb dX12_settler_33 (by decide) (fun c50 => ?_) (fun c50 => ?_)
      · have t51 : r44.toInt = 0 := ti_eq c50 rfl (by decide)
        have t52 : (0 : Int32).toInt = 0 := by decide
        have t53 : (100000 : Int32).toInt = 100000 := by decide
        have t54 : p2.toInt < (0 : Int32).toInt ∨ (100000 : Int32).toInt < p2.toInt := hi49 c50
        refine lv_iconst (v := 1) hx hb dX12_settler_59 (by decide) ?_
        refine lv_goto (tgt := 64) hx hb dX12_settler_60 (by decide) ?_
        refine lv_iconst (v := 1) hx hb dX12_settler_64 (by decide) ?_
        have hFc := gA_free hG hA hS
        refine va_calli (va_runV (As := [.int 1, .int 1]) (rest := []) ⟨hx, hb, hml, hown, hts⟩ (s_throwsIf l dC dI kA adK adV G H q wZ wN wH wB wC wL wK wU wV PI im PM PT lS lB lE lN o0 1 1 hT hr_o0 (rg_t (a := 1) (by decide) (by first | decide | omega) (by first | decide | omega)) hgz hgn hgh hgb hgc hgi hgu) (cwV 2 hts (goodIn_app (goodIn_r _ [7, 8, 9, 5] rfl (by decide +kernel)) (goodIn_ca (goodIn_r _ [6, 1] rfl (by decide +kernel)) (bs_in _ _))) rfl rfl rfl (by decide +kernel) ⟨(Nat.le_of_ble_eq_true rfl), (Nat.le_of_ble_eq_true rfl)⟩) ⟨fun a U g mk q => by obtain ⟨q0, q1, qK, qE⟩ := q; exact ⟨q0, q1, va_K.moved (u := U) (U := U.calling g mk a) (Vm.Alike.refl U.vm) qK, EVS.blind g mk a qE⟩, gH_rc hK hT hr_o0 shm_0 rfl, fun U hU hW => ⟨rfl, hU, va_K.moved hW.alike hK, hE.call hS hFc hU hW⟩⟩ rfl rfl hl.1 rfl (lv_room (Nat.le_of_ble_eq_true rfl)) dX12_settler_65 ⟨(Nat.le_of_ble_eq_true rfl), (Nat.le_of_ble_eq_true rfl)⟩) hS (fun q _ h => hFc q h) hFc (fun r55 u t H locs ht hvm hw56 hB _ _ hS => ?_)
        obtain ⟨hT, hF1⟩ := hB
        rw [ht] at hT hF1
        have hF := hF.more hF1 (by decide)
        try dsimp only at hw56
        obtain ⟨h58, hd59⟩ := hw56
        obtain rfl : (1 : Int32) = r55 := hd59.symm
        refine lv_if_ne (tgt := 93) hx hb dX12_settler_68 (by decide) (fun c60 => ?_) (fun c60 => absurd c60 (by decide))
        refine lv_iconst (v := 0) hx hb dX12_settler_93 (by decide) ?_
        exact W.iret (v := 0) hx hb hr (fun t ht hW => ⟨⟨0, (), rfl, (by exact (rg_t (a := 0) (by decide) (by first | decide | omega) (by first | decide | omega))), by (try dsimp only); rw [ht]; exact ⟨hT, hF⟩⟩, hS.F ht⟩) hS.2.2 dX12_settler_94
      · have t61 : r44.toInt ≠ 0 := ti_ne c50 rfl (by decide)
        have t62 : (0 : Int32).toInt = 0 := by decide
        have t63 : (100000 : Int32).toInt = 100000 := by decide
        have t64 : (0 : Int32).toInt ≤ p2.toInt ∧ p2.toInt ≤ (100000 : Int32).toInt := hi48 ((bit_of ⟨by omega, by omega⟩).resolve_left c50)
        refine lv_iload hx hb dX12_settler_36 (lv_at hl 4 rfl) ?_
        refine lv_iconst (v := 0) hx hb dX12_settler_38 (by decide) ?_
        refine lv_bipush (v := 100) hx hb dX12_settler_39 (by decide) ?_
        have hFc := gA_free hG hA hS
        refine va_calli (va_runS (As := [.int p3, .int 0, .int 100]) (rest := [.ref o0]) ⟨hx, hb, hml, hown, hts⟩ (s_in l dC dI kA adK adV G H q wZ wN wH wB wC wL wK wU wV PI im PM PT lS lB lE lN p3 0 100 hT hgz hgn hgh hgb hgc hgi hgu) (va_cwS 3 hts (goodIn_app (goodIn_r _ [3, 4, 5] rfl (by decide +kernel)) (goodIn_ca (goodIn_r _ [2] rfl (by decide +kernel)) (bs_in _ _))) rfl rfl rfl (by decide +kernel) ⟨(Nat.le_of_ble_eq_true rfl), (Nat.le_of_ble_eq_true rfl)⟩) ⟨fun a U g mk q => by obtain ⟨q0, q1, qK, qE⟩ := q; exact ⟨q0, q1, va_K.moved (u := U) (U := U.calling g mk a) (Vm.Alike.refl U.vm) qK, EVS.blind g mk a qE⟩, fun U hU hW => ⟨rfl, hU, va_K.moved hW.alike hK, hE.call hS hFc hU hW⟩⟩ rfl rfl hl.1 rfl (lv_room (Nat.le_of_ble_eq_true rfl)) dX12_settler_41 ⟨(Nat.le_of_ble_eq_true rfl), (Nat.le_of_ble_eq_true rfl)⟩) hS (fun q _ h => hFc q h) hFc (fun r65 u t H locs ht hvm hw66 hB _ _ hS => ?_)
        obtain ⟨hT, hF1⟩ := hB
        rw [ht] at hT hF1
        have hF := hF.more hF1 (by decide)
        try dsimp only at hw66
        obtain ⟨h68, hi69, hi70⟩ := hw66
        refine lv_if_eq (tgt := 59) hx hb dX12_settler_44 (by decide) (fun c71 => ?_) (fun c71 => ?_)
        · have t72 : r65.toInt = 0 := ti_eq c71 rfl (by decide)
          have t73 : (0 : Int32).toInt = 0 := by decide
          have t74 : (100 : Int32).toInt = 100 := by decide
          have t75 : p3.toInt < (0 : Int32).toInt ∨ (100 : Int32).toInt < p3.toInt := hi70 c71
          refine lv_iconst (v := 1) hx hb dX12_settler_59 (by decide) ?_
          refine lv_goto (tgt := 64) hx hb dX12_settler_60 (by decide) ?_
          refine lv_iconst (v := 1) hx hb dX12_settler_64 (by decide) ?_
          have hFc := gA_free hG hA hS
          refine va_calli (va_runV (As := [.int 1, .int 1]) (rest := []) ⟨hx, hb, hml, hown, hts⟩ (s_throwsIf l dC dI kA adK adV G H q wZ wN wH wB wC wL wK wU wV PI im PM PT lS lB lE lN o0 1 1 hT hr_o0 (rg_t (a := 1) (by decide) (by first | decide | omega) (by first | decide | omega)) hgz hgn hgh hgb hgc hgi hgu) (cwV 2 hts (goodIn_app (goodIn_r _ [7, 8, 9, 5] rfl (by decide +kernel)) (goodIn_ca (goodIn_r _ [6, 1] rfl (by decide +kernel)) (bs_in _ _))) rfl rfl rfl (by decide +kernel) ⟨(Nat.le_of_ble_eq_true rfl), (Nat.le_of_ble_eq_true rfl)⟩) ⟨fun a U g mk q => by obtain ⟨q0, q1, qK, qE⟩ := q; exact ⟨q0, q1, va_K.moved (u := U) (U := U.calling g mk a) (Vm.Alike.refl U.vm) qK, EVS.blind g mk a qE⟩, gH_rc hK hT hr_o0 shm_0 rfl, fun U hU hW => ⟨rfl, hU, va_K.moved hW.alike hK, hE.call hS hFc hU hW⟩⟩ rfl rfl hl.1 rfl (lv_room (Nat.le_of_ble_eq_true rfl)) dX12_settler_65 ⟨(Nat.le_of_ble_eq_true rfl), (Nat.le_of_ble_eq_true rfl)⟩) hS (fun q _ h => hFc q h) hFc (fun r76 u t H locs ht hvm hw77 hB _ _ hS => ?_)
          obtain ⟨hT, hF1⟩ := hB
          rw [ht] at hT hF1
          have hF := hF.more hF1 (by decide)
          try dsimp only at hw77
          obtain ⟨h79, hd80⟩ := hw77
          obtain rfl : (1 : Int32) = r76 := hd80.symm
          refine lv_if_ne (tgt := 93) hx hb dX12_settler_68 (by decide) (fun c81 => ?_) (fun c81 => absurd c81 (by decide))
          refine lv_iconst (v := 0) hx hb dX12_settler_93 (by decide) ?_
          exact W.iret (v := 0) hx hb hr (fun t ht hW => ⟨⟨0, (), rfl, (by exact (rg_t (a := 0) (by decide) (by first | decide | omega) (by first | decide | omega))), by (try dsimp only); rw [ht]; exact ⟨hT, hF⟩⟩, hS.F ht⟩) hS.2.2 dX12_settler_94
        · have t82 : r65.toInt ≠ 0 := ti_ne c71 rfl (by decide)
          have t83 : (0 : Int32).toInt = 0 := by decide
          have t84 : (100 : Int32).toInt = 100 := by decide
          have t85 : (0 : Int32).toInt ≤ p3.toInt ∧ p3.toInt ≤ (100 : Int32).toInt := hi69 ((bit_of ⟨by omega, by omega⟩).resolve_left c71)
          refine lv_iload hx hb dX12_settler_47 (lv_at hl 7 rfl) ?_
          refine lv_iconst (v := 0) hx hb dX12_settler_49 (by decide) ?_
          refine lv_ldcw (v := 999999) hx hb hown (ht_at hts 10 rfl) dX12_settler_50 ?_
          have hFc := gA_free hG hA hS
          refine va_calli (va_runS (As := [.int p6, .int 0, .int 999999]) (rest := [.ref o0]) ⟨hx, hb, hml, hown, hts⟩ (s_in l dC dI kA adK adV G H q wZ wN wH wB wC wL wK wU wV PI im PM PT lS lB lE lN p6 0 999999 hT hgz hgn hgh hgb hgc hgi hgu) (va_cwS 3 hts (goodIn_app (goodIn_r _ [3, 4, 5] rfl (by decide +kernel)) (goodIn_ca (goodIn_r _ [2] rfl (by decide +kernel)) (bs_in _ _))) rfl rfl rfl (by decide +kernel) ⟨(Nat.le_of_ble_eq_true rfl), (Nat.le_of_ble_eq_true rfl)⟩) ⟨fun a U g mk q => by obtain ⟨q0, q1, qK, qE⟩ := q; exact ⟨q0, q1, va_K.moved (u := U) (U := U.calling g mk a) (Vm.Alike.refl U.vm) qK, EVS.blind g mk a qE⟩, fun U hU hW => ⟨rfl, hU, va_K.moved hW.alike hK, hE.call hS hFc hU hW⟩⟩ rfl rfl hl.1 rfl (lv_room (Nat.le_of_ble_eq_true rfl)) dX12_settler_53 ⟨(Nat.le_of_ble_eq_true rfl), (Nat.le_of_ble_eq_true rfl)⟩) hS (fun q _ h => hFc q h) hFc (fun r86 u t H locs ht hvm hw87 hB _ _ hS => ?_)
          obtain ⟨hT, hF1⟩ := hB
          rw [ht] at hT hF1
          have hF := hF.more hF1 (by decide)
          try dsimp only at hw87
          obtain ⟨h89, hi90, hi91⟩ := hw87
          refine lv_if_ne (tgt := 63) hx hb dX12_settler_56 (by decide) (fun c92 => ?_) (fun c92 => ?_)
          · have t93 : r86.toInt ≠ 0 := ti_ne c92 rfl (by decide)
            have t94 : (0 : Int32).toInt = 0 := by decide
            have t95 : (999999 : Int32).toInt = 999999 := by decide
            have t96 : (0 : Int32).toInt ≤ p6.toInt ∧ p6.toInt ≤ (999999 : Int32).toInt := hi90 ((bit_of ⟨by omega, by omega⟩).resolve_left c92)
            refine lv_iconst (v := 0) hx hb dX12_settler_63 (by decide) ?_
            refine lv_iconst (v := 1) hx hb dX12_settler_64 (by decide) ?_
            have hFc := gA_free hG hA hS
            refine va_calli (va_runV (As := [.int 0, .int 1]) (rest := []) ⟨hx, hb, hml, hown, hts⟩ (s_throwsIf l dC dI kA adK adV G H q wZ wN wH wB wC wL wK wU wV PI im PM PT lS lB lE lN o0 0 1 hT hr_o0 (rg_t (a := 0) (by decide) (by first | decide | omega) (by first | decide | omega)) hgz hgn hgh hgb hgc hgi hgu) (cwV 2 hts (goodIn_app (goodIn_r _ [7, 8, 9, 5] rfl (by decide +kernel)) (goodIn_ca (goodIn_r _ [6, 1] rfl (by decide +kernel)) (bs_in _ _))) rfl rfl rfl (by decide +kernel) ⟨(Nat.le_of_ble_eq_true rfl), (Nat.le_of_ble_eq_true rfl)⟩) ⟨fun a U g mk q => by obtain ⟨q0, q1, qK, qE⟩ := q; exact ⟨q0, q1, va_K.moved (u := U) (U := U.calling g mk a) (Vm.Alike.refl U.vm) qK, EVS.blind g mk a qE⟩, gH_rc hK hT hr_o0 shm_0 rfl, fun U hU hW => ⟨rfl, hU, va_K.moved hW.alike hK, hE.call hS hFc hU hW⟩⟩ rfl rfl hl.1 rfl (lv_room (Nat.le_of_ble_eq_true rfl)) dX12_settler_65 ⟨(Nat.le_of_ble_eq_true rfl), (Nat.le_of_ble_eq_true rfl)⟩) hS (fun q _ h => hFc q h) hFc (fun r97 u t H locs ht hvm hw98 hB _ _ hS => ?_)
            obtain ⟨hT, hF1⟩ := hB
            rw [ht] at hT hF1
            have hF := hF.more hF1 (by decide)
            try dsimp only at hw98
            obtain ⟨h100, hd101⟩ := hw98
            obtain rfl : (0 : Int32) = r97 := hd101.symm
            refine lv_if_ne (tgt := 93) hx hb dX12_settler_68 (by decide) (fun c102 => absurd c102 (by decide)) (fun c102 => ?_)
            refine lv_aload_n hx hb dX12_settler_71 rfl (lv_at hl 0 rfl) ?_
            refine lv_aload_n hx hb dX12_settler_72 rfl (lv_at hl 0 rfl) ?_
            refine tw_get hx hb hts bF_X12 hown hK hT hr_o0 shm_0 rfl 42 (by decide) (ht_at hts 11 rfl) (fun _ h9 => h9) dX12_settler_73 (fun v9 m103 h9 => ?_)
            obtain ⟨x104, rfl, gx104, kx104⟩ := h9 _ rfl
            refine lv_bipush (v := 60) hx hb dX12_settler_76 (by decide) ?_
            refine lv_icmp_ne (tgt := 85) hx hb dX12_settler_78 (by decide) (fun c105 => ?_) (fun c105 => ?_)
            · have t106 : x104.toInt ≠ 60 := ti_ne c105 rfl (by decide)
              refine lv_iconst (v := 0) hx hb dX12_settler_85 (by decide) ?_
              refine lv_iconst (v := 2) hx hb dX12_settler_86 (by decide) ?_
              have hFc := gA_free hG hA hS
              refine va_calli (va_runV (As := [.int 0, .int 2]) (rest := []) ⟨hx, hb, hml, hown, hts⟩ (s_throwsIf l dC dI kA adK adV G H q wZ wN wH wB wC wL wK wU wV PI im PM PT lS lB lE lN o0 0 2 hT hr_o0 (rg_t (a := 0) (by decide) (by first | decide | omega) (by first | decide | omega)) hgz hgn hgh hgb hgc hgi hgu) (cwV 2 hts (goodIn_app (goodIn_r _ [7, 8, 9, 5] rfl (by decide +kernel)) (goodIn_ca (goodIn_r _ [6, 1] rfl (by decide +kernel)) (bs_in _ _))) rfl rfl rfl (by decide +kernel) ⟨(Nat.le_of_ble_eq_true rfl), (Nat.le_of_ble_eq_true rfl)⟩) ⟨fun a U g mk q => by obtain ⟨q0, q1, qK, qE⟩ := q; exact ⟨q0, q1, va_K.moved (u := U) (U := U.calling g mk a) (Vm.Alike.refl U.vm) qK, EVS.blind g mk a qE⟩, gH_rc hK hT hr_o0 shm_0 rfl, fun U hU hW => ⟨rfl, hU, va_K.moved hW.alike hK, hE.call hS hFc hU hW⟩⟩ rfl rfl hl.1 rfl (lv_room (Nat.le_of_ble_eq_true rfl)) dX12_settler_87 ⟨(Nat.le_of_ble_eq_true rfl), (Nat.le_of_ble_eq_true rfl)⟩) hS (fun q _ h => hFc q h) hFc (fun r107 u t H locs ht hvm hw108 hB _ _ hS => ?_)
              obtain ⟨hT, hF1⟩ := hB
              rw [ht] at hT hF1
              have m109 := (hF1.fld hr_o0 skm_0 (k := 42) (by decide) (by decide)).trans m103
              have hF := hF.more hF1 (by decide)
              try dsimp only at hw108
              obtain ⟨h110, hd111⟩ := hw108
              obtain rfl : (0 : Int32) = r107 := hd111.symm
              refine lv_if_eq (tgt := 95) hx hb dX12_settler_90 (by decide) (fun c112 => ?_) (fun c112 => absurd c112 (by decide))
              refine lv_aload_n hx hb dX12_settler_95 rfl (lv_at hl 0 rfl) ?_
              refine tw_getM (v := .int x104) hx hb hts bF_X12 hown hK hT hr_o0 shm_0 rfl 42 (by decide) (ht_at hts 11 rfl) (fun _ h9 => h9) m109 dX12_settler_96 ?_
              refine lv_istore (lv' := [(8, .int x104), (0, .ref o0), (1, .int p0), (2, .int p1), (3, .int p2), (4, .int p3), (5, .int p4), (6, .int p5), (7, .int p6)]) hx hb dX12_settler_99 hl (by decide) rfl (fun ls hl => ?_)
              refine lv_aload_n hx hb dX12_settler_101 rfl (lv_at hl 1 rfl) ?_
              refine lv_dup hx hb dX12_settler_102 rfl ?_
              refine tw_getM (v := .int x104) hx hb hts bF_X12 hown hK hT hr_o0 shm_0 rfl 42 (by decide) (ht_at hts 11 rfl) (fun _ h9 => h9) m109 dX12_settler_103 ?_
              refine lv_iconst (v := 1) hx hb dX12_settler_106 (by decide) ?_
              refine lv_iadd hx hb dX12_settler_107 ?_
              refine lv_topi (fun x113 ex113 => ?_)
              have t114 : x113.toInt = x104.toInt + 1 := ti_add ex113 rfl (by decide) (by omega) (by omega)
              refine tw_put (v := .int x113) (ty := .int) hx hb hts bF_X12 tyX12 tyX12_ok nmX12 hown hK hT hG hS hr_o0 shm_0 rfl 42 (by decide) (ht_at hts 11 rfl) (fun _ h9 => h9) rfl (by decide +kernel) rfl rfl (gl_at rfl (gi_of (show x113.toInt = x113.toInt from rfl) (by omega) (by omega))) dX12_settler_108 (fun H locs hT oq m115 oj hS => ?_)
              have hF := hF.put hr_o0 skm_0 oq oj (by decide)
              refine lv_aload_n hx hb dX12_settler_111 rfl (lv_at hl 1 rfl) ?_
              refine tw_get hx hb hts bF_X12 hown hK hT hr_o0 shm_0 rfl 31 (by decide) (ht_at hts 12 rfl) (fun _ h9 => h9) dX12_settler_112 (fun v9 m116 h9 => ?_)
              obtain ⟨rfl, hg117⟩ := h9 _ rfl
              refine lv_iload hx hb dX12_settler_115 (lv_at hl 0 rfl) ?_
              refine lv_iload_n hx hb dX12_settler_117 rfl (lv_at hl 2 rfl) ?_
              refine tw_iast (i := x104) (x := p0) hx hb hK hT hG hS hg117 shm_32 rfl (vin_t (a := x104.toInt) rfl (by omega) (by omega)) (gi_all _) dX12_settler_118 (fun H locs hT oq m118 oi hS => ?_)
              have hF := hF.ast hg117 skm_32 oq (by decide)
              refine lv_aload_n hx hb dX12_settler_119 rfl (lv_at hl 1 rfl) ?_
              refine tw_get hx hb hts bF_X12 hown hK hT hr_o0 shm_0 rfl 32 (by decide) (ht_at hts 13 rfl) (fun _ h9 => h9) dX12_settler_120 (fun v9 m120 h9 => ?_)
              obtain ⟨rfl, hg121⟩ := h9 _ rfl
              refine lv_iload hx hb dX12_settler_123 (lv_at hl 0 rfl) ?_
              refine lv_iload_n hx hb dX12_settler_125 rfl (lv_at hl 3 rfl) ?_
              refine tw_iast (i := x104) (x := p1) hx hb hK hT hG hS hg121 shm_33 rfl (vin_t (a := x104.toInt) rfl (by omega) (by omega)) (gi_all _) dX12_settler_126 (fun H locs hT oq m122 oi hS => ?_)
              have hF := hF.ast hg121 skm_33 oq (by decide)
              refine lv_aload_n hx hb dX12_settler_127 rfl (lv_at hl 1 rfl) ?_
              refine tw_get hx hb hts bF_X12 hown hK hT hr_o0 shm_0 rfl 33 (by decide) (ht_at hts 14 rfl) (fun _ h9 => h9) dX12_settler_128 (fun v9 m125 h9 => ?_)
              obtain ⟨rfl, hg126⟩ := h9 _ rfl
              refine lv_iload hx hb dX12_settler_131 (lv_at hl 0 rfl) ?_
              refine lv_iload_n hx hb dX12_settler_133 rfl (lv_at hl 4 rfl) ?_
              refine tw_iast (i := x104) (x := p2) hx hb hK hT hG hS hg126 shm_34 rfl (vin_t (a := x104.toInt) rfl (by omega) (by omega)) (gi_all _) dX12_settler_134 (fun H locs hT oq m127 oi hS => ?_)
              have hF := hF.ast hg126 skm_34 oq (by decide)
              refine lv_aload_n hx hb dX12_settler_135 rfl (lv_at hl 1 rfl) ?_
              refine tw_get hx hb hts bF_X12 hown hK hT hr_o0 shm_0 rfl 34 (by decide) (ht_at hts 15 rfl) (fun _ h9 => h9) dX12_settler_136 (fun v9 m131 h9 => ?_)
              obtain ⟨rfl, hg132⟩ := h9 _ rfl
              refine lv_iload hx hb dX12_settler_139 (lv_at hl 0 rfl) ?_
              refine lv_iload hx hb dX12_settler_141 (lv_at hl 5 rfl) ?_
              refine tw_iast (i := x104) (x := p3) hx hb hK hT hG hS hg132 shm_35 rfl (vin_t (a := x104.toInt) rfl (by omega) (by omega)) (gi_all _) dX12_settler_143 (fun H locs hT oq m133 oi hS => ?_)
              have hF := hF.ast hg132 skm_35 oq (by decide)
              refine lv_aload_n hx hb dX12_settler_144 rfl (lv_at hl 1 rfl) ?_
              refine tw_get hx hb hts bF_X12 hown hK hT hr_o0 shm_0 rfl 35 (by decide) (ht_at hts 16 rfl) (fun _ h9 => h9) dX12_settler_145 (fun v9 m138 h9 => ?_)
              obtain ⟨rfl, hg139⟩ := h9 _ rfl
              refine lv_iload hx hb dX12_settler_148 (lv_at hl 0 rfl) ?_
              refine lv_iload hx hb dX12_settler_150 (lv_at hl 6 rfl) ?_
              refine tw_zast (i := x104) (x := p4) hx hb hK hT hG hS hg139 shm_36 rfl (vin_t (a := x104.toInt) rfl (by omega) (by omega)) (gi_z (by have q8 := ti_all p4; omega) (by decide) (by decide)) dX12_settler_152 (fun H locs hT oq m140 oi hS => ?_)
              have hF := hF.ast hg139 skm_36 oq (by decide)
              refine lv_aload_n hx hb dX12_settler_153 rfl (lv_at hl 1 rfl) ?_
              refine tw_get hx hb hts bF_X12 hown hK hT hr_o0 shm_0 rfl 36 (by decide) (ht_at hts 17 rfl) (fun _ h9 => h9) dX12_settler_154 (fun v9 m146 h9 => ?_)
              obtain ⟨rfl, hg147⟩ := h9 _ rfl
              refine lv_iload hx hb dX12_settler_157 (lv_at hl 0 rfl) ?_
              refine lv_iload hx hb dX12_settler_159 (lv_at hl 7 rfl) ?_
              refine tw_zast (i := x104) (x := p5) hx hb hK hT hG hS hg147 shm_37 rfl (vin_t (a := x104.toInt) rfl (by omega) (by omega)) (gi_z (by have q8 := ti_all p5; omega) (by decide) (by decide)) dX12_settler_161 (fun H locs hT oq m148 oi hS => ?_)
              have hF := hF.ast hg147 skm_37 oq (by decide)
              refine lv_aload_n hx hb dX12_settler_162 rfl (lv_at hl 1 rfl) ?_
              refine tw_get hx hb hts bF_X12 hown hK hT hr_o0 shm_0 rfl 37 (by decide) (ht_at hts 18 rfl) (fun _ h9 => h9) dX12_settler_163 (fun v9 m154 h9 => ?_)
              obtain ⟨rfl, hg155⟩ := h9 _ rfl
              refine lv_iload hx hb dX12_settler_166 (lv_at hl 0 rfl) ?_
              refine lv_iload hx hb dX12_settler_168 (lv_at hl 8 rfl) ?_
              refine tw_iast (i := x104) (x := p6) hx hb hK hT hG hS hg155 shm_38 rfl (vin_t (a := x104.toInt) rfl (by omega) (by omega)) (gi_all _) dX12_settler_170 (fun H locs hT oq m156 oi hS => ?_)
              have hF := hF.ast hg155 skm_38 oq (by decide)
              refine lv_aload_n hx hb dX12_settler_171 rfl (lv_at hl 1 rfl) ?_
              refine tw_get hx hb hts bF_X12 hown hK hT hr_o0 shm_0 rfl 38 (by decide) (ht_at hts 19 rfl) (fun _ h9 => h9) dX12_settler_172 (fun v9 m162 h9 => ?_)
              obtain ⟨rfl, hg163⟩ := h9 _ rfl
              refine lv_iload hx hb dX12_settler_175 (lv_at hl 0 rfl) ?_
              refine lv_iconst (v := (-1)) hx hb dX12_settler_177 (by decide) ?_
              refine tw_iast (i := x104) (x := (-1)) hx hb hK hT hG hS hg163 shm_39 rfl (vin_t (a := x104.toInt) rfl (by omega) (by omega)) (gi_of (show (-1 : Int32).toInt = (-1) from (by decide)) (by first | decide | omega) (by first | decide | omega)) dX12_settler_178 (fun H locs hT oq m164 oi hS => ?_)
              have hF := hF.ast hg163 skm_39 oq (by decide)
              refine lv_iload hx hb dX12_settler_179 (lv_at hl 0 rfl) ?_
              exact W.iret (v := x104) hx hb hr (fun t ht hW => ⟨⟨x104, (), rfl, (by exact (by have q8 := ti_all x104; omega)), by (try dsimp only); rw [ht]; exact ⟨hT, hF⟩⟩, hS.F ht⟩) hS.2.2 dX12_settler_181
            · have t171 : x104.toInt = 60 := ti_eq c105 rfl (by decide)
              refine lv_iconst (v := 1) hx hb dX12_settler_81 (by decide) ?_
              refine lv_goto (tgt := 86) hx hb dX12_settler_82 (by decide) ?_
              refine lv_iconst (v := 2) hx hb dX12_settler_86 (by decide) ?_
              have hFc := gA_free hG hA hS
              refine va_calli (va_runV (As := [.int 1, .int 2]) (rest := []) ⟨hx, hb, hml, hown, hts⟩ (s_throwsIf l dC dI kA adK adV G H q wZ wN wH wB wC wL wK wU wV PI im PM PT lS lB lE lN o0 1 2 hT hr_o0 (rg_t (a := 1) (by decide) (by first | decide | omega) (by first | decide | omega)) hgz hgn hgh hgb hgc hgi hgu) (cwV 2 hts (goodIn_app (goodIn_r _ [7, 8, 9, 5] rfl (by decide +kernel)) (goodIn_ca (goodIn_r _ [6, 1] rfl (by decide +kernel)) (bs_in _ _))) rfl rfl rfl (by decide +kernel) ⟨(Nat.le_of_ble_eq_true rfl), (Nat.le_of_ble_eq_true rfl)⟩) ⟨fun a U g mk q => by obtain ⟨q0, q1, qK, qE⟩ := q; exact ⟨q0, q1, va_K.moved (u := U) (U := U.calling g mk a) (Vm.Alike.refl U.vm) qK, EVS.blind g mk a qE⟩, gH_rc hK hT hr_o0 shm_0 rfl, fun U hU hW => ⟨rfl, hU, va_K.moved hW.alike hK, hE.call hS hFc hU hW⟩⟩ rfl rfl hl.1 rfl (lv_room (Nat.le_of_ble_eq_true rfl)) dX12_settler_87 ⟨(Nat.le_of_ble_eq_true rfl), (Nat.le_of_ble_eq_true rfl)⟩) hS (fun q _ h => hFc q h) hFc (fun r172 u t H locs ht hvm hw173 hB _ _ hS => ?_)
              obtain ⟨hT, hF1⟩ := hB
              rw [ht] at hT hF1
              have hF := hF.more hF1 (by decide)
              try dsimp only at hw173
              obtain ⟨h175, hd176⟩ := hw173
              obtain rfl : (1 : Int32) = r172 := hd176.symm
              refine lv_if_eq (tgt := 95) hx hb dX12_settler_90 (by decide) (fun c177 => absurd c177 (by decide)) (fun c177 => ?_)
              refine lv_iconst (v := 0) hx hb dX12_settler_93 (by decide) ?_
              exact W.iret (v := 0) hx hb hr (fun t ht hW => ⟨⟨0, (), rfl, (by exact (rg_t (a := 0) (by decide) (by first | decide | omega) (by first | decide | omega))), by (try dsimp only); rw [ht]; exact ⟨hT, hF⟩⟩, hS.F ht⟩) hS.2.2 dX12_settler_94
          · have t178 : r86.toInt = 0 := ti_eq c92 rfl (by decide)
            have t179 : (0 : Int32).toInt = 0 := by decide
            have t180 : (999999 : Int32).toInt = 999999 := by decide
            have t181 : p6.toInt < (0 : Int32).toInt ∨ (999999 : Int32).toInt < p6.toInt := hi91 c92
            refine lv_iconst (v := 1) hx hb dX12_settler_59 (by decide) ?_
            refine lv_goto (tgt := 64) hx hb dX12_settler_60 (by decide) ?_
            refine lv_iconst (v := 1) hx hb dX12_settler_64 (by decide) ?_
            have hFc := gA_free hG hA hS
            refine va_calli (va_runV (As := [.int 1, .int 1]) (rest := []) ⟨hx, hb, hml, hown, hts⟩ (s_throwsIf l dC dI kA adK adV G H q wZ wN wH wB wC wL wK wU wV PI im PM PT lS lB lE lN o0 1 1 hT hr_o0 (rg_t (a := 1) (by decide) (by first | decide | omega) (by first | decide | omega)) hgz hgn hgh hgb hgc hgi hgu) (cwV 2 hts (goodIn_app (goodIn_r _ [7, 8, 9, 5] rfl (by decide +kernel)) (goodIn_ca (goodIn_r _ [6, 1] rfl (by decide +kernel)) (bs_in _ _))) rfl rfl rfl (by decide +kernel) ⟨(Nat.le_of_ble_eq_true rfl), (Nat.le_of_ble_eq_true rfl)⟩) ⟨fun a U g mk q => by obtain ⟨q0, q1, qK, qE⟩ := q; exact ⟨q0, q1, va_K.moved (u := U) (U := U.calling g mk a) (Vm.Alike.refl U.vm) qK, EVS.blind g mk a qE⟩, gH_rc hK hT hr_o0 shm_0 rfl, fun U hU hW => ⟨rfl, hU, va_K.moved hW.alike hK, hE.call hS hFc hU hW⟩⟩ rfl rfl hl.1 rfl (lv_room (Nat.le_of_ble_eq_true rfl)) dX12_settler_65 ⟨(Nat.le_of_ble_eq_true rfl), (Nat.le_of_ble_eq_true rfl)⟩) hS (fun q _ h => hFc q h) hFc (fun r182 u t H locs ht hvm hw183 hB _ _ hS => ?_)
            obtain ⟨hT, hF1⟩ := hB
            rw [ht] at hT hF1
            have hF := hF.more hF1 (by decide)
            try dsimp only at hw183
            obtain ⟨h185, hd186⟩ := hw183
            obtain rfl : (1 : Int32) = r182 := hd186.symm
            refine lv_if_ne (tgt := 93) hx hb dX12_settler_68 (by decide) (fun c187 => ?_) (fun c187 => absurd c187 (by decide))
            refine lv_iconst (v := 0) hx hb dX12_settler_93 (by decide) ?_
            exact W.iret (v := 0) hx hb hr (fun t ht hW => ⟨⟨0, (), rfl, (by exact (rg_t (a := 0) (by decide) (by first | decide | omega) (by first | decide | omega))), by (try dsimp only); rw [ht]; exact ⟨hT, hF⟩⟩, hS.F ht⟩) hS.2.2 dX12_settler_94
def w_s_yards : List Cond := .code yX12_yards cX12_yards 3 (some .int) :: (HAppend.hAppend (α := List Cond) (β := List Cond) (γ := List Cond) [.fieldLink RX12 194 "SeaLandModel" "thrown" "I", .code yX12_noContract cX12_noContract 2 (some .boolean), .fieldLink RX12 533 "SeaLandModel" "contracts" "I", .code yX12_in cX12_in 3 (some .boolean), .methodLink RX12 197 yX12_in, .static yX12_in, .initialized RX12, .methodLink RX12 539 yX12_noContract, .instanceMethod yX12_noContract, .selects RX12 yX12_noContract yX12_noContract, .code yX12_throwsIf cX12_throwsIf 3 (some .boolean), .methodLink RX12 224 yX12_throwsIf, .instanceMethod yX12_throwsIf, .selects RX12 yX12_throwsIf yX12_throwsIf, .code yX12_hasSpan cX12_hasSpan 2 (some .boolean), .fieldLink RX12 155 "SeaLandModel" "isMeasured" "[Z", .fieldLink RX12 149 "SeaLandModel" "kLow" "[I", .fieldLink RX12 152 "SeaLandModel" "kHigh" "[I", .methodLink RX12 542 yX12_hasSpan, .instanceMethod yX12_hasSpan, .selects RX12 yX12_hasSpan yX12_hasSpan] bs)
set_option maxHeartbeats 4000000 in
set_option maxRecDepth 100000 in
theorem s_yards (l : Launch) (dC : Nat → ClassId) (dI : Nat → Nat → Nat) (kA : Nat → ClassId) (adK adV : Nat → Nat) (G : gT) (H0 : Heap) (q : Nat → Nat) (wZ wN : Nat → Int) (wH wB wC : Int) (wL wK : Nat → Prop) (wU wV : Nat → Nat) (PI : Nat → Int → Prop) (im : Int) (PM PT : Nat → Int → Prop) (lS lB lE : Nat → Nat → Int → Prop) (lN : Nat → Int) (o0 : Nat) (p0 : Int32) (p1 : Int32)  (hT : gH (dC, dI) kA (SHm q (wP wZ wN wH wB wC wL wK wU wV) PI im PM PT lS lB lE lN) G H0) (hr_o0 : G o0 = some 0) (hq0 : 0 ≤ p1.toInt ∧ p1.toInt ≤ 1) (hgz : ∀ i, 0 ≤ wZ i) (hgn : ∀ i, 6500000 ≤ wN i ∧ wN i ≤ 20200000) (hgh : 0 ≤ wH ∧ wH ≤ 40000) (hgb : 0 ≤ wB ∧ wB ≤ 3850000) (hgc : 0 ≤ wC ∧ wC ≤ 30) (hgi : 0 ≤ im ∧ im ≤ 1) (hgu : ∀ a t, G a = some (t + 1) → a = q t) : Met l yX12_yards w_s_yards ({ frames := 2, cells := 0, slots := 0, locals := 43 }) (va_Pc [.ref o0, .int p0, .int p1] (fun U => U.heap = H0 ∧ va_K (dC, dI) vwCl (tyl kA) U ∧ EVS adK adV (gA G H0.size) U U.heap)) (va_Qi (fun (r : Int32) (u : Unit) => True) (fun (_ : Unit) (t : State) => gH (dC, dI) kA (SHm q (wP wZ wN wH wB wC wL wK wU wV) PI im PM PT lS lB lE lN) G t.heap ∧ gF (dC, dI) SKm G ([(0, 0)] : List (Nat × Nat)) H0 t.heap) (gA G H0.size)) 0 0 (gA G H0.size) := by
  refine Met.ofW (cc := cX12_yards) (maxL := 3) (ret := (some .int)) (by decide) rfl ?_
  intro p e s m args below meth c s₁ B hml hv
  obtain ⟨rfl, hH0, hK, hE⟩ := hv
  have hx := B.exec
  have hb := B.bytes
  have hr := B.returns
  have hts := atoms_spec (ws := w_s_yards) B.pre
  have hown : s.vm.findClass RX12 = some m.cls := findClass_of_methodNamed B.named
  have hlocks := B.notSynchronized
  subst hH0
  generalize hAe : gA G s.heap.size = A at hE ⊢
  have hA : ∀ q : Nat, s.heap.size ≤ q → A q := fun q h => by rw [← hAe]; exact Or.inr h
  have hG := gA_of hAe
  have hS : va_S A s.heap s.heap [] := va_S.rf
  have hF : gF (dC, dI) SKm G ([(0, 0)] : List (Nat × Nat)) s.heap s.heap := gF.rf
  have hl := lv_entry ([.ref o0, .int p0, .int p1]) (n := 3) (Nat.le_of_ble_eq_true rfl)
  rw [lg_entry_eq]
  generalize (lg_sl ([.ref o0, .int p0, .int p1]) ++ List.replicate (3 - (lg_sl ([.ref o0, .int p0, .int p1])).length) Slot.unset).toArray = ls at hl ⊢
  have hl : lv_has ls 3 [(0, .ref o0), (1, .int p0), (2, .int p1)] := hl
  refine lv_aload_n hx hb dX12_yards_0 rfl (lv_at hl 0 rfl) ?_
  refine lv_iconst (v := 0) hx hb dX12_yards_1 (by decide) ?_
  refine tw_put (v := .int 0) (ty := .int) hx hb hts bF_X12 tyX12 tyX12_ok nmX12 hown hK hT hG hS hr_o0 shm_0 rfl 0 (by decide) (ht_at hts 0 rfl) (fun _ h9 => h9) rfl (by decide +kernel) rfl rfl (gl_at rfl (gi_all _)) dX12_yards_2 (fun H locs hT oq m1 oj hS => ?_)
  have hF := hF.put hr_o0 skm_0 oq oj (by decide)
  refine lv_aload_n hx hb dX12_yards_5 rfl (lv_at hl 0 rfl) ?_
  refine lv_aload_n hx hb dX12_yards_6 rfl (lv_at hl 0 rfl) ?_
  refine lv_iload_n hx hb dX12_yards_7 rfl (lv_at hl 1 rfl) ?_
  have hFc := gA_free hG hA hS
  refine va_calli (va_runV (As := [.int p0]) (rest := [.ref o0]) ⟨hx, hb, hml, hown, hts⟩ (s_noContract l dC dI kA adK adV G H q wZ wN wH wB wC wL wK wU wV PI im PM PT lS lB lE lN o0 p0 hT hr_o0 hgz hgn hgh hgb hgc hgi hgu) (cwV 1 hts (goodIn_app (goodIn_r _ [8, 9, 10, 7] rfl (by decide +kernel)) (goodIn_ca (goodIn_r _ [2, 3, 4, 5, 6, 7] rfl (by decide +kernel)) (bs_in _ _))) rfl rfl rfl (by decide +kernel) ⟨(Nat.le_of_ble_eq_true rfl), (Nat.le_of_ble_eq_true rfl)⟩) ⟨fun a U g mk q => by obtain ⟨q0, q1, qK, qE⟩ := q; exact ⟨q0, q1, va_K.moved (u := U) (U := U.calling g mk a) (Vm.Alike.refl U.vm) qK, EVS.blind g mk a qE⟩, gH_rc hK hT hr_o0 shm_0 rfl, fun U hU hW => ⟨rfl, hU, va_K.moved hW.alike hK, hE.call hS hFc hU hW⟩⟩ rfl rfl hl.1 rfl (lv_room (Nat.le_of_ble_eq_true rfl)) dX12_yards_8 ⟨(Nat.le_of_ble_eq_true rfl), (Nat.le_of_ble_eq_true rfl)⟩) hS (fun q _ h => hFc q h) hFc (fun r2 u t H locs ht hvm hw3 hB _ _ hS => ?_)
  obtain ⟨hT, hF1⟩ := hB
  rw [ht] at hT hF1
  have hF := hF.more hF1 (by decide)
  try dsimp only at hw3
  obtain ⟨h5, hi6⟩ := hw3
  refine lv_iconst (v := 1) hx hb dX12_yards_11 (by decide) ?_
  have hFc := gA_free hG hA hS
  refine va_calli (va_runV (As := [.int r2, .int 1]) (rest := []) ⟨hx, hb, hml, hown, hts⟩ (s_throwsIf l dC dI kA adK adV G H q wZ wN wH wB wC wL wK wU wV PI im PM PT lS lB lE lN o0 r2 1 hT hr_o0 (by have q8 := ti_all r2; omega) hgz hgn hgh hgb hgc hgi hgu) (cwV 2 hts (goodIn_app (goodIn_r _ [12, 13, 14, 7] rfl (by decide +kernel)) (goodIn_ca (goodIn_r _ [11, 1] rfl (by decide +kernel)) (bs_in _ _))) rfl rfl rfl (by decide +kernel) ⟨(Nat.le_of_ble_eq_true rfl), (Nat.le_of_ble_eq_true rfl)⟩) ⟨fun a U g mk q => by obtain ⟨q0, q1, qK, qE⟩ := q; exact ⟨q0, q1, va_K.moved (u := U) (U := U.calling g mk a) (Vm.Alike.refl U.vm) qK, EVS.blind g mk a qE⟩, gH_rc hK hT hr_o0 shm_0 rfl, fun U hU hW => ⟨rfl, hU, va_K.moved hW.alike hK, hE.call hS hFc hU hW⟩⟩ rfl rfl hl.1 rfl (lv_room (Nat.le_of_ble_eq_true rfl)) dX12_yards_12 ⟨(Nat.le_of_ble_eq_true rfl), (Nat.le_of_ble_eq_true rfl)⟩) hS (fun q _ h => hFc q h) hFc (fun r7 u t H locs ht hvm hw8 hB _ _ hS => ?_)
  obtain ⟨hT, hF1⟩ := hB
  rw [ht] at hT hF1
  have hF := hF.more hF1 (by decide)
  try dsimp only at hw8
  obtain ⟨h10, hd11⟩ := hw8
  obtain rfl : r2 = r7 := hd11.symm
  refine lv_if_eq (tgt := 20) hx hb dX12_yards_15 (by decide) (fun c12 => ?_) (fun c12 => ?_)
  · have t13 : r2.toInt = 0 := ti_eq c12 rfl (by decide)
    have t14 : 0 ≤ p0.toInt ∧ p0.toInt ≤ 39 := hi6 c12
    refine lv_aload_n hx hb dX12_yards_20 rfl (lv_at hl 0 rfl) ?_
    refine lv_iload_n hx hb dX12_yards_21 rfl (lv_at hl 1 rfl) ?_
    have hFc := gA_free hG hA hS
    refine va_calli (va_runV (As := [.int p0]) (rest := []) ⟨hx, hb, hml, hown, hts⟩ (s_hasSpan l dC dI kA adK adV G H q wZ wN wH wB wC wL wK wU wV PI im PM PT lS lB lE lN o0 p0 hT hr_o0 (by have q8 := ti_all p0; omega) hgz hgn hgh hgb hgc hgi hgu) (cwV 1 hts (goodIn_app (goodIn_r _ [19, 20, 21, 7] rfl (by decide +kernel)) (goodIn_ca (goodIn_r _ [15, 16, 17, 18] rfl (by decide +kernel)) (bs_in _ _))) rfl rfl rfl (by decide +kernel) ⟨(Nat.le_of_ble_eq_true rfl), (Nat.le_of_ble_eq_true rfl)⟩) ⟨fun a U g mk q => by obtain ⟨q0, q1, qK, qE⟩ := q; exact ⟨q0, q1, va_K.moved (u := U) (U := U.calling g mk a) (Vm.Alike.refl U.vm) qK, EVS.blind g mk a qE⟩, gH_rc hK hT hr_o0 shm_0 rfl, fun U hU hW => ⟨rfl, hU, va_K.moved hW.alike hK, hE.call hS hFc hU hW⟩⟩ rfl rfl hl.1 rfl (lv_room (Nat.le_of_ble_eq_true rfl)) dX12_yards_22 ⟨(Nat.le_of_ble_eq_true rfl), (Nat.le_of_ble_eq_true rfl)⟩) hS (fun q _ h => hFc q h) hFc (fun r15 u t H locs ht hvm hw16 hB _ _ hS => ?_)
    obtain ⟨hT, hF1⟩ := hB
    rw [ht] at hT hF1
    have hF := hF.more hF1 (by decide)
    try dsimp only at hw16
    have h17 := hw16
    refine lv_if_ne (tgt := 32) hx hb dX12_yards_25 (by decide) (fun c18 => ?_) (fun c18 => ?_)
    · have t19 : r15.toInt ≠ 0 := ti_ne c18 rfl (by decide)
      refine lv_iload_n hx hb dX12_yards_32 rfl (lv_at hl 2 rfl) ?_
      refine lv_if_eq (tgt := 45) hx hb dX12_yards_33 (by decide) (fun c20 => ?_) (fun c20 => ?_)
      · have t21 : p1.toInt = 0 := ti_eq c20 rfl (by decide)
        refine lv_aload_n hx hb dX12_yards_45 rfl (lv_at hl 0 rfl) ?_
        refine tw_get hx hb hts bF_X12 hown hK hT hr_o0 shm_0 rfl 60 (by decide) (ht_at hts 16 rfl) (fun _ h9 => h9) dX12_yards_46 (fun v9 m22 h9 => ?_)
        obtain ⟨rfl, hg23⟩ := h9 _ rfl
        refine lv_iload_n hx hb dX12_yards_49 rfl (lv_at hl 1 rfl) ?_
        refine tw_iald (i := p0) hx hb hK hT hg23 shm_61 rfl (vin_t (a := p0.toInt) rfl (by omega) (by omega)) dX12_yards_50 (fun v9 m24 h9 => ?_)
        obtain ⟨x25, rfl, gx25, kx25⟩ := h9
        exact W.iret (v := x25) hx hb hr (fun t ht hW => ⟨⟨x25, (), rfl, (by exact trivial), by (try dsimp only); rw [ht]; exact ⟨hT, hF⟩⟩, hS.F ht⟩) hS.2.2 dX12_yards_51
      · have t26 : p1.toInt ≠ 0 := ti_ne c20 rfl (by decide)
        refine lv_aload_n hx hb dX12_yards_36 rfl (lv_at hl 0 rfl) ?_
        refine tw_get hx hb hts bF_X12 hown hK hT hr_o0 shm_0 rfl 61 (by decide) (ht_at hts 17 rfl) (fun _ h9 => h9) dX12_yards_37 (fun v9 m27 h9 => ?_)
        obtain ⟨rfl, hg28⟩ := h9 _ rfl
        refine lv_iload_n hx hb dX12_yards_40 rfl (lv_at hl 1 rfl) ?_
        refine tw_iald (i := p0) hx hb hK hT hg28 shm_62 rfl (vin_t (a := p0.toInt) rfl (by omega) (by omega)) dX12_yards_41 (fun v9 m29 h9 => ?_)
        obtain ⟨x30, rfl, gx30, kx30⟩ := h9
        refine lv_goto (tgt := 51) hx hb dX12_yards_42 (by decide) ?_
        exact W.iret (v := x30) hx hb hr (fun t ht hW => ⟨⟨x30, (), rfl, (by exact trivial), by (try dsimp only); rw [ht]; exact ⟨hT, hF⟩⟩, hS.F ht⟩) hS.2.2 dX12_yards_51
    · have t31 : r15.toInt = 0 := ti_eq c18 rfl (by decide)
      refine lv_iconst (v := (-1)) hx hb dX12_yards_28 (by decide) ?_
      refine lv_goto (tgt := 51) hx hb dX12_yards_29 (by decide) ?_
      exact W.iret (v := (-1)) hx hb hr (fun t ht hW => ⟨⟨(-1), (), rfl, (by exact trivial), by (try dsimp only); rw [ht]; exact ⟨hT, hF⟩⟩, hS.F ht⟩) hS.2.2 dX12_yards_51
  · have t32 : r2.toInt ≠ 0 := ti_ne c12 rfl (by decide)
    refine lv_iconst (v := 0) hx hb dX12_yards_18 (by decide) ?_
    exact W.iret (v := 0) hx hb hr (fun t ht hW => ⟨⟨0, (), rfl, (by exact trivial), by (try dsimp only); rw [ht]; exact ⟨hT, hF⟩⟩, hS.F ht⟩) hS.2.2 dX12_yards_19
def w_s_count : List Cond := .code yX12_count cX12_count 4 (some .int) :: (HAppend.hAppend (α := List Cond) (β := List Cond) (γ := List Cond) [.fieldLink RX12 194 "SeaLandModel" "thrown" "I", .code yX12_hour cX12_hour 1 (some .int), .fieldLink RX12 9 "SeaLandModel" "world" "[I", .methodLink RX12 228 yX12_hour, .instanceMethod yX12_hour, .selects RX12 yX12_hour yX12_hour, .initialized RX12, .code yX12_of cX12_of 3 (some .int), .code yX12_at cX12_at 2 (some .int), .methodLink RX12 214 yX12_at, .static yX12_at, .methodLink RX12 217 yX12_of, .instanceMethod yX12_of, .selects RX12 yX12_of yX12_of, .code yX12_sumLand cX12_sumLand 4 (some .int), .methodLink RX12 563 yX12_sumLand, .instanceMethod yX12_sumLand, .selects RX12 yX12_sumLand yX12_sumLand, .fieldLink RX12 42 "SeaLandModel" "lines" "[I", .fieldLink RX12 495 "SeaLandModel" "settlers" "I", .code yX12_holders cX12_holders 3 (some .int), .fieldLink RX12 101 "SeaLandModel" "holds" "[I", .methodLink RX12 460 yX12_holders, .instanceMethod yX12_holders, .selects RX12 yX12_holders yX12_holders, .fieldLink RX12 498 "SeaLandModel" "farms" "I", .fieldLink RX12 519 "SeaLandModel" "board" "I", .fieldLink RX12 107 "SeaLandModel" "owes" "[I", .fieldLink RX12 533 "SeaLandModel" "contracts" "I", .fieldLink RX12 238 "SeaLandModel" "rows" "I"] bs)
set_option maxHeartbeats 4000000 in
set_option maxRecDepth 100000 in
theorem s_count (l : Launch) (dC : Nat → ClassId) (dI : Nat → Nat → Nat) (kA : Nat → ClassId) (adK adV : Nat → Nat) (G : gT) (H0 : Heap) (q : Nat → Nat) (wZ wN : Nat → Int) (wH wB wC : Int) (wL wK : Nat → Prop) (wU wV : Nat → Nat) (PI : Nat → Int → Prop) (im : Int) (PM PT : Nat → Int → Prop) (lS lB lE : Nat → Nat → Int → Prop) (lN : Nat → Int) (o0 : Nat) (p0 : Int32)  (hT : gH (dC, dI) kA (SHm q (wP wZ wN wH wB wC wL wK wU wV) PI im PM PT lS lB lE lN) G H0) (hr_o0 : G o0 = some 0) (hgz : ∀ i, 0 ≤ wZ i) (hgn : ∀ i, 6500000 ≤ wN i ∧ wN i ≤ 20200000) (hgh : 0 ≤ wH ∧ wH ≤ 40000) (hgb : 0 ≤ wB ∧ wB ≤ 3850000) (hgc : 0 ≤ wC ∧ wC ≤ 30) (hgi : 0 ≤ im ∧ im ≤ 1) (hgu : ∀ a t, G a = some (t + 1) → a = q t) : Met l yX12_count w_s_count ({ frames := 2, cells := 0, slots := 0, locals := 43 }) (va_Pc [.ref o0, .int p0] (fun U => U.heap = H0 ∧ va_K (dC, dI) vwCl (tyl kA) U ∧ EVS adK adV (gA G H0.size) U U.heap)) (va_Qi (fun (r : Int32) (u : Unit) => True) (fun (_ : Unit) (t : State) => gH (dC, dI) kA (SHm q (wP wZ wN wH wB wC wL wK wU wV) PI im PM PT lS lB lE lN) G t.heap ∧ gF (dC, dI) SKm G ([(0, 0)] : List (Nat × Nat)) H0 t.heap) (gA G H0.size)) 0 0 (gA G H0.size) := by
  refine Met.ofW (cc := cX12_count) (maxL := 4) (ret := (some .int)) (by decide) rfl ?_
  intro p e s m args below meth c s₁ B hml hv
  obtain ⟨rfl, hH0, hK, hE⟩ := hv
  have hx := B.exec
  have hb := B.bytes
  have hr := B.returns
  have hts := atoms_spec (ws := w_s_count) B.pre
  have hown : s.vm.findClass RX12 = some m.cls := findClass_of_methodNamed B.named
  have hlocks := B.notSynchronized
  subst hH0
  generalize hAe : gA G s.heap.size = A at hE ⊢
  have hA : ∀ q : Nat, s.heap.size ≤ q → A q := fun q h => by rw [← hAe]; exact Or.inr h
  have hG := gA_of hAe
  have hS : va_S A s.heap s.heap [] := va_S.rf
  have hF : gF (dC, dI) SKm G ([(0, 0)] : List (Nat × Nat)) s.heap s.heap := gF.rf
  have hl := lv_entry ([.ref o0, .int p0]) (n := 4) (Nat.le_of_ble_eq_true rfl)
  rw [lg_entry_eq]
  generalize (lg_sl ([.ref o0, .int p0]) ++ List.replicate (4 - (lg_sl ([.ref o0, .int p0])).length) Slot.unset).toArray = ls at hl ⊢
  have hl : lv_has ls 4 [(0, .ref o0), (1, .int p0)] := hl
  refine lv_aload_n hx hb dX12_count_0 rfl (lv_at hl 0 rfl) ?_
  refine lv_iconst (v := 0) hx hb dX12_count_1 (by decide) ?_
  refine tw_put (v := .int 0) (ty := .int) hx hb hts bF_X12 tyX12 tyX12_ok nmX12 hown hK hT hG hS hr_o0 shm_0 rfl 0 (by decide) (ht_at hts 0 rfl) (fun _ h9 => h9) rfl (by decide +kernel) rfl rfl (gl_at rfl (gi_all _)) dX12_count_2 (fun H locs hT oq m1 oj hS => ?_)
  have hF := hF.put hr_o0 skm_0 oq oj (by decide)
  refine lv_iconst (v := 0) hx hb dX12_count_5 (by decide) ?_
  refine lv_istore_n (lv' := [(2, .int 0), (0, .ref o0), (1, .int p0)]) hx hb dX12_count_6 rfl hl (by decide) rfl (fun ls hl => ?_)
  refine lv_iload_n hx hb dX12_count_7 rfl (lv_at hl 2 rfl) ?_
  by_cases hs2 : p0 = 0
  · subst hs2
    refine lv_tableIn (x := 0) (off := 88) (tgt := 96) hx hb dX12_count_8 (by decide) (by decide) (by decide) (by decide) ?_
    refine lv_aload_n hx hb dX12_count_96 rfl (lv_at hl 1 rfl) ?_
    have hFc := gA_free hG hA hS
    refine va_calli (va_runV (As := []) (rest := []) ⟨hx, hb, hml, hown, hts⟩ (s_hour l dC dI kA adK adV G H q wZ wN wH wB wC wL wK wU wV PI im PM PT lS lB lE lN o0 hT hr_o0 hgz hgn hgh hgb hgc hgi hgu) (cwV 0 hts (goodIn_app (goodIn_r _ [4, 5, 6, 7] rfl (by decide +kernel)) (goodIn_ca (goodIn_r _ [2, 3] rfl (by decide +kernel)) (bs_in _ _))) rfl rfl rfl (by decide +kernel) ⟨(Nat.le_of_ble_eq_true rfl), (Nat.le_of_ble_eq_true rfl)⟩) ⟨fun a U g mk q => by obtain ⟨q0, q1, qK, qE⟩ := q; exact ⟨q0, q1, va_K.moved (u := U) (U := U.calling g mk a) (Vm.Alike.refl U.vm) qK, EVS.blind g mk a qE⟩, gH_rc hK hT hr_o0 shm_0 rfl, fun U hU hW => ⟨rfl, hU, va_K.moved hW.alike hK, hE.call hS hFc hU hW⟩⟩ rfl rfl hl.1 rfl (lv_room (Nat.le_of_ble_eq_true rfl)) dX12_count_97 ⟨(Nat.le_of_ble_eq_true rfl), (Nat.le_of_ble_eq_true rfl)⟩) hS (fun q _ h => hFc q h) hFc (fun r3 u t H locs ht hvm hw4 hB _ _ hS => ?_)
    obtain ⟨hT, hF1⟩ := hB
    rw [ht] at hT hF1
    have hF := hF.more hF1 (by decide)
    try dsimp only at hw4
    obtain ⟨h6, hf7⟩ := hw4
    exact W.iret (v := r3) hx hb hr (fun t ht hW => ⟨⟨r3, (), rfl, (by exact trivial), by (try dsimp only); rw [ht]; exact ⟨hT, hF⟩⟩, hS.F ht⟩) hS.2.2 dX12_count_100
  by_cases hs8 : p0 = 1
  · subst hs8
    refine lv_tableIn (x := 1) (off := 93) (tgt := 101) hx hb dX12_count_8 (by decide) (by decide) (by decide) (by decide) ?_
    refine lv_aload_n hx hb dX12_count_101 rfl (lv_at hl 1 rfl) ?_
    have hFc := gA_free hG hA hS
    refine va_calli (va_runV (As := []) (rest := []) ⟨hx, hb, hml, hown, hts⟩ (s_hour l dC dI kA adK adV G H q wZ wN wH wB wC wL wK wU wV PI im PM PT lS lB lE lN o0 hT hr_o0 hgz hgn hgh hgb hgc hgi hgu) (cwV 0 hts (goodIn_app (goodIn_r _ [4, 5, 6, 7] rfl (by decide +kernel)) (goodIn_ca (goodIn_r _ [2, 3] rfl (by decide +kernel)) (bs_in _ _))) rfl rfl rfl (by decide +kernel) ⟨(Nat.le_of_ble_eq_true rfl), (Nat.le_of_ble_eq_true rfl)⟩) ⟨fun a U g mk q => by obtain ⟨q0, q1, qK, qE⟩ := q; exact ⟨q0, q1, va_K.moved (u := U) (U := U.calling g mk a) (Vm.Alike.refl U.vm) qK, EVS.blind g mk a qE⟩, gH_rc hK hT hr_o0 shm_0 rfl, fun U hU hW => ⟨rfl, hU, va_K.moved hW.alike hK, hE.call hS hFc hU hW⟩⟩ rfl rfl hl.1 rfl (lv_room (Nat.le_of_ble_eq_true rfl)) dX12_count_102 ⟨(Nat.le_of_ble_eq_true rfl), (Nat.le_of_ble_eq_true rfl)⟩) hS (fun q _ h => hFc q h) hFc (fun r9 u t H locs ht hvm hw10 hB _ _ hS => ?_)
    obtain ⟨hT, hF1⟩ := hB
    rw [ht] at hT hF1
    have hF := hF.more hF1 (by decide)
    try dsimp only at hw10
    obtain ⟨h12, hf13⟩ := hw10
    refine lv_bipush (v := 24) hx hb dX12_count_105 (by decide) ?_
    refine lv_idiv hx hb dX12_count_107 (by decide) ?_
    refine lv_topi (fun x14 ex14 => ?_)
    have t15 : x14.toInt = r9.toInt / 24 := ti_div ex14 rfl (by decide) (by omega) (by omega)
    exact W.iret (v := x14) hx hb hr (fun t ht hW => ⟨⟨x14, (), rfl, (by exact trivial), by (try dsimp only); rw [ht]; exact ⟨hT, hF⟩⟩, hS.F ht⟩) hS.2.2 dX12_count_108
  by_cases hs16 : p0 = 2
  · subst hs16
    refine lv_tableIn (x := 2) (off := 101) (tgt := 109) hx hb dX12_count_8 (by decide) (by decide) (by decide) (by decide) ?_
    refine lv_aload_n hx hb dX12_count_109 rfl (lv_at hl 1 rfl) ?_
    refine tw_get hx hb hts bF_X12 hown hK hT hr_o0 shm_0 rfl 1 (by decide) (ht_at hts 2 rfl) (fun _ h9 => h9) dX12_count_110 (fun v9 m17 h9 => ?_)
    obtain ⟨rfl, hg18⟩ := h9 _ rfl
    refine lv_sipush (v := 1428) hx hb dX12_count_113 (by decide) ?_
    refine tw_iald (i := 1428) hx hb hK hT hg18 shm_2 rfl (by unfold vp_in; decide) dX12_count_116 (fun v9 m19 h9 => ?_)
    obtain ⟨x20, rfl, gx20, kx20⟩ := (gp_at h9 (w_wct (by have q9 := tn_of (show (1428 : Int32).toInt = 1428 from (by decide)) (show (0 : Int) ≤ 1428 from by omega); omega)))
    exact W.iret (v := x20) hx hb hr (fun t ht hW => ⟨⟨x20, (), rfl, (by exact trivial), by (try dsimp only); rw [ht]; exact ⟨hT, hF⟩⟩, hS.F ht⟩) hS.2.2 dX12_count_117
  by_cases hs21 : p0 = 3
  · subst hs21
    refine lv_tableIn (x := 3) (off := 110) (tgt := 118) hx hb dX12_count_8 (by decide) (by decide) (by decide) (by decide) ?_
    refine lv_iconst (v := 0) hx hb dX12_count_118 (by decide) ?_
    refine lv_istore_n (lv' := [(3, .int 0), (2, .int 0), (0, .ref o0), (1, .int 3)]) hx hb dX12_count_119 rfl hl (by decide) rfl (fun ls hl => ?_)
    have key47 : ∀ (n47 i22 : Nat), i22 + n47 = 30 → 0 ≤ i22 → ∀ (z23 : Int32), ∀ (H : Heap) (locs : List Loc), gH (dC, dI) kA (SHm q (wP wZ wN wH wB wC wL wK wU wV) PI im PM PT lS lB lE lN) G H → gF (dC, dI) SKm G ([(0, 0)] : List (Nat × Nat)) s.heap H → va_S A s.heap H locs → el H o0 (dI 15 0) = some (.int 0) → ∀ ls : Array Slot, lv_has ls 4 [(3, .int (nI i22)), (2, .int z23), (0, .ref o0), (1, .int 3)] → W p l e (headSpec w_s_count ({ frames := 2, cells := 0, slots := 0, locals := 43 })).room s m #[.ref o0, .int (3 : Int32)] below meth c H locs 0 0 (MQ below (va_Qi (fun (r : Int32) (u : Unit) => True) (fun (_ : Unit) (t : State) => gH (dC, dI) kA (SHm q (wP wZ wN wH wB wC wL wK wU wV) PI im PM PT lS lB lE lN) G t.heap ∧ gF (dC, dI) SKm G ([(0, 0)] : List (Nat × Nat)) s.heap t.heap) A) #[.ref o0, .int (3 : Int32)] s 0 0 A) (F0 m 120 ls []) := by
      intro n47
      induction n47 with
      | zero =>
        intro i22 hn47 hlo48 z23 H locs hT hF hS m24 ls hl
        obtain rfl : 30 = i22 := by omega
        refine lv_iload_n hx hb dX12_count_120 rfl (lv_at hl 0 rfl) ?_
        refine lv_aload_n hx hb dX12_count_121 rfl (lv_at hl 2 rfl) ?_
        refine tw_get hx hb hts bF_X12 hown hK hT hr_o0 shm_0 rfl 1 (by decide) (ht_at hts 2 rfl) (fun _ h9 => h9) dX12_count_122 (fun v9 m49 h9 => ?_)
        obtain ⟨rfl, hg50⟩ := h9 _ rfl
        refine lv_sipush (v := 1428) hx hb dX12_count_125 (by decide) ?_
        refine tw_iald (i := 1428) hx hb hK hT hg50 shm_2 rfl (by unfold vp_in; decide) dX12_count_128 (fun v9 m51 h9 => ?_)
        obtain ⟨x52, rfl, gx52, kx52⟩ := (gp_at h9 (w_wct (by have q9 := tn_of (show (1428 : Int32).toInt = 1428 from (by decide)) (show (0 : Int) ≤ 1428 from by omega); omega)))
        refine lv_icmp_ge (tgt := 156) hx hb dX12_count_129 (by decide) (fun c53 => ?_) (fun c53 => (by exfalso; have q9 : ((30 : Nat) : Int) < x52.toInt := ti_nle c53 rfl (nI_toInt (by omega)); omega))
        have t54 : x52.toInt ≤ ((30 : Nat) : Int) := ti_le c53 rfl (nI_toInt (by omega))
        refine lv_iload_n hx hb dX12_count_156 rfl (lv_at hl 1 rfl) ?_
        exact W.iret (v := z23) hx hb hr (fun t ht hW => ⟨⟨z23, (), rfl, (by exact trivial), by (try dsimp only); rw [ht]; exact ⟨hT, hF⟩⟩, hS.F ht⟩) hS.2.2 dX12_count_157
      | succ n47 ih47 =>
        intro i22 hn47 hlo48 z23 H locs hT hF hS m24 ls hl
        have hlt54 : i22 < 30 := by omega
        refine lv_iload_n hx hb dX12_count_120 rfl (lv_at hl 0 rfl) ?_
        refine lv_aload_n hx hb dX12_count_121 rfl (lv_at hl 2 rfl) ?_
        refine tw_get hx hb hts bF_X12 hown hK hT hr_o0 shm_0 rfl 1 (by decide) (ht_at hts 2 rfl) (fun _ h9 => h9) dX12_count_122 (fun v9 m55 h9 => ?_)
        obtain ⟨rfl, hg56⟩ := h9 _ rfl
        refine lv_sipush (v := 1428) hx hb dX12_count_125 (by decide) ?_
        refine tw_iald (i := 1428) hx hb hK hT hg56 shm_2 rfl (by unfold vp_in; decide) dX12_count_128 (fun v9 m57 h9 => ?_)
        obtain ⟨x58, rfl, gx58, kx58⟩ := (gp_at h9 (w_wct (by have q9 := tn_of (show (1428 : Int32).toInt = 1428 from (by decide)) (show (0 : Int) ≤ 1428 from by omega); omega)))
        refine lv_icmp_ge (tgt := 156) hx hb dX12_count_129 (by decide) (fun c59 => ?_) (fun c59 => ?_)
        · have t60 : x58.toInt ≤ ((i22 : Nat) : Int) := ti_le c59 rfl (nI_toInt (by omega))
          refine lv_iload_n hx hb dX12_count_156 rfl (lv_at hl 1 rfl) ?_
          exact W.iret (v := z23) hx hb hr (fun t ht hW => ⟨⟨z23, (), rfl, (by exact trivial), by (try dsimp only); rw [ht]; exact ⟨hT, hF⟩⟩, hS.F ht⟩) hS.2.2 dX12_count_157
        · have t61 : ((i22 : Nat) : Int) < x58.toInt := ti_nle c59 rfl (nI_toInt (by omega))
          refine lv_iload_n hx hb dX12_count_132 rfl (lv_at hl 1 rfl) ?_
          refine lv_aload_n hx hb dX12_count_133 rfl (lv_at hl 2 rfl) ?_
          refine lv_iload_n hx hb dX12_count_134 rfl (lv_at hl 0 rfl) ?_
          refine lv_iconst (v := 0) hx hb dX12_count_135 (by decide) ?_
          have hFc := gA_free hG hA hS
          refine va_calli (va_runV (As := [.int (nI i22), .int 0]) (rest := [.int z23]) ⟨hx, hb, hml, hown, hts⟩ (s_of0 l dC dI kA adK adV G H q wZ wN wH wB wC wL wK wU wV PI im PM PT lS lB lE lN o0 (nI i22) hT hr_o0 (rg_t (a := ((i22 : Nat) : Int)) (nI_toInt (by omega)) (by omega) (by omega)) hgz hgn hgh hgb hgc hgi hgu) (cwV 2 hts (goodIn_app (goodIn_r _ [12, 13, 14, 7] rfl (by decide +kernel)) (goodIn_ca (goodIn_r _ [8, 3, 9, 10, 11, 7] rfl (by decide +kernel)) (bs_in _ _))) rfl rfl rfl (by decide +kernel) ⟨(Nat.le_of_ble_eq_true rfl), (Nat.le_of_ble_eq_true rfl)⟩) ⟨fun a U g mk q => by obtain ⟨q0, q1, qK, qE⟩ := q; exact ⟨q0, q1, va_K.moved (u := U) (U := U.calling g mk a) (Vm.Alike.refl U.vm) qK, EVS.blind g mk a qE⟩, gH_rc hK hT hr_o0 shm_0 rfl, fun U hU hW => ⟨rfl, hU, va_K.moved hW.alike hK, hE.call hS hFc hU hW⟩⟩ rfl rfl hl.1 rfl (lv_room (Nat.le_of_ble_eq_true rfl)) dX12_count_136 ⟨(Nat.le_of_ble_eq_true rfl), (Nat.le_of_ble_eq_true rfl)⟩) hS (fun q _ h => hFc q h) hFc (fun r62 u t H locs ht hvm hw63 hB _ _ hS => ?_)
          obtain ⟨hT, hF1⟩ := hB
          rw [ht] at hT hF1
          have m64 := (hF1.fld hr_o0 skm_0 (k := 0) (by decide) (by decide)).trans m24
          have hF := hF.more hF1 (by decide)
          try dsimp only at hw63
          have ⟨ix66, hix66, m67⟩ := hw63
          have t68 : (nI i22).toInt = ((i22 : Nat) : Int) := nI_toInt (by omega)
          refine lv_iconst (v := 1) hx hb dX12_count_139 (by decide) ?_
          refine lv_icmp_ne (tgt := 147) hx hb dX12_count_140 (by decide) (fun c70 => ?_) (fun c70 => ?_)
          · have t71 : r62.toInt ≠ 1 := ti_ne c70 rfl (by decide)
            refine lv_iconst (v := 0) hx hb dX12_count_147 (by decide) ?_
            refine lv_iadd hx hb dX12_count_148 ?_
            refine lv_topi (fun x72 ex72 => ?_)
            have t73 : -2147483648 ≤ z23.toInt ∧ z23.toInt ≤ 2147483647 := ti_all z23
            have t74 : x72.toInt = z23.toInt + 0 := ti_add ex72 rfl (by decide) (by omega) (by omega)
            refine lv_istore_n (lv' := [(2, .int x72), (3, .int (nI i22)), (0, .ref o0), (1, .int 3)]) hx hb dX12_count_149 rfl hl (by decide) rfl (fun ls hl => ?_)
            refine lv_iinc (v := nI (i22 + 1)) (lv' := [(3, .int (nI (i22 + 1))), (2, .int x72), (0, .ref o0), (1, .int 3)]) hx hb dX12_count_150 hl (k := 1) rfl (nI_add i22 1) (by decide) rfl (fun ls hl => ?_)
            refine lv_goto (tgt := 120) hx hb dX12_count_153 (by decide) ?_
            exact ih47 (i22 + 1) (by omega) (by omega) x72 _ _ hT hF hS m64 ls (lv_sub hl [0, 1, 2, 3] rfl)
          · have t75 : r62.toInt = 1 := ti_eq c70 rfl (by decide)
            refine lv_iconst (v := 1) hx hb dX12_count_143 (by decide) ?_
            refine lv_goto (tgt := 148) hx hb dX12_count_144 (by decide) ?_
            refine lv_iadd hx hb dX12_count_148 ?_
            refine lv_topi (fun x76 ex76 => ?_)
            refine lv_istore_n (lv' := [(2, .int x76), (3, .int (nI i22)), (0, .ref o0), (1, .int 3)]) hx hb dX12_count_149 rfl hl (by decide) rfl (fun ls hl => ?_)
            refine lv_iinc (v := nI (i22 + 1)) (lv' := [(3, .int (nI (i22 + 1))), (2, .int x76), (0, .ref o0), (1, .int 3)]) hx hb dX12_count_150 hl (k := 1) rfl (nI_add i22 1) (by decide) rfl (fun ls hl => ?_)
            refine lv_goto (tgt := 120) hx hb dX12_count_153 (by decide) ?_
            exact ih47 (i22 + 1) (by omega) (by omega) x76 _ _ hT hF hS m64 ls (lv_sub hl [0, 1, 2, 3] rfl)
    exact key47 (30 - 0) 0 (by omega) (Nat.le_refl _) 0 _ _ hT hF hS m1 ls (lv_sub hl [0, 1, 2, 3] rfl)
  by_cases hs77 : p0 = 4
  · subst hs77
    refine lv_tableIn (x := 4) (off := 150) (tgt := 158) hx hb dX12_count_8 (by decide) (by decide) (by decide) (by decide) ?_
    refine lv_aload_n hx hb dX12_count_158 rfl (lv_at hl 1 rfl) ?_
    refine lv_sipush (v := 384) hx hb dX12_count_159 (by decide) ?_
    have hFc := gA_free hG hA hS
    refine va_calli (va_runV (As := [.int 384]) (rest := []) ⟨hx, hb, hml, hown, hts⟩ (s_sumLandW l dC dI kA adK adV G H q wZ wN wH wB wC wL wK wU wV PI im PM PT lS lB lE lN o0 hT hr_o0 hgz hgn hgh hgb hgc hgi hgu) (cwV 1 hts (goodIn_app (goodIn_r _ [16, 17, 18, 7] rfl (by decide +kernel)) (goodIn_ca (goodIn_r _ [15, 3] rfl (by decide +kernel)) (bs_in _ _))) rfl rfl rfl (by decide +kernel) ⟨(Nat.le_of_ble_eq_true rfl), (Nat.le_of_ble_eq_true rfl)⟩) ⟨fun a U g mk q => by obtain ⟨q0, q1, qK, qE⟩ := q; exact ⟨q0, q1, va_K.moved (u := U) (U := U.calling g mk a) (Vm.Alike.refl U.vm) qK, EVS.blind g mk a qE⟩, gH_rc hK hT hr_o0 shm_0 rfl, fun U hU hW => ⟨rfl, hU, va_K.moved hW.alike hK, hE.call hS hFc hU hW⟩⟩ rfl rfl hl.1 rfl (lv_room (Nat.le_of_ble_eq_true rfl)) dX12_count_162 ⟨(Nat.le_of_ble_eq_true rfl), (Nat.le_of_ble_eq_true rfl)⟩) hS (fun q _ h => hFc q h) hFc (fun r78 u t H locs ht hvm hw79 hB _ _ hS => ?_)
    obtain ⟨hT, hF1⟩ := hB
    rw [ht] at hT hF1
    have hF := hF.more hF1 (by decide)
    try dsimp only at hw79
    exact W.iret (v := r78) hx hb hr (fun t ht hW => ⟨⟨r78, (), rfl, (by exact trivial), by (try dsimp only); rw [ht]; exact ⟨hT, hF⟩⟩, hS.F ht⟩) hS.2.2 dX12_count_165
  by_cases hs81 : p0 = 5
  · subst hs81
    refine lv_tableIn (x := 5) (off := 158) (tgt := 166) hx hb dX12_count_8 (by decide) (by decide) (by decide) (by decide) ?_
    refine lv_aload_n hx hb dX12_count_166 rfl (lv_at hl 1 rfl) ?_
    refine lv_sipush (v := 480) hx hb dX12_count_167 (by decide) ?_
    have hFc := gA_free hG hA hS
    refine va_calli (va_runV (As := [.int 480]) (rest := []) ⟨hx, hb, hml, hown, hts⟩ (s_sumLandS l dC dI kA adK adV G H q wZ wN wH wB wC wL wK wU wV PI im PM PT lS lB lE lN o0 hT hr_o0 hgz hgn hgh hgb hgc hgi hgu) (cwV 1 hts (goodIn_app (goodIn_r _ [16, 17, 18, 7] rfl (by decide +kernel)) (goodIn_ca (goodIn_r _ [15, 3] rfl (by decide +kernel)) (bs_in _ _))) rfl rfl rfl (by decide +kernel) ⟨(Nat.le_of_ble_eq_true rfl), (Nat.le_of_ble_eq_true rfl)⟩) ⟨fun a U g mk q => by obtain ⟨q0, q1, qK, qE⟩ := q; exact ⟨q0, q1, va_K.moved (u := U) (U := U.calling g mk a) (Vm.Alike.refl U.vm) qK, EVS.blind g mk a qE⟩, gH_rc hK hT hr_o0 shm_0 rfl, fun U hU hW => ⟨rfl, hU, va_K.moved hW.alike hK, hE.call hS hFc hU hW⟩⟩ rfl rfl hl.1 rfl (lv_room (Nat.le_of_ble_eq_true rfl)) dX12_count_170 ⟨(Nat.le_of_ble_eq_true rfl), (Nat.le_of_ble_eq_true rfl)⟩) hS (fun q _ h => hFc q h) hFc (fun r82 u t H locs ht hvm hw83 hB _ _ hS => ?_)
    obtain ⟨hT, hF1⟩ := hB
    rw [ht] at hT hF1
    have hF := hF.more hF1 (by decide)
    try dsimp only at hw83
    exact W.iret (v := r82) hx hb hr (fun t ht hW => ⟨⟨r82, (), rfl, (by exact trivial), by (try dsimp only); rw [ht]; exact ⟨hT, hF⟩⟩, hS.F ht⟩) hS.2.2 dX12_count_173
  by_cases hs85 : p0 = 6
  · subst hs85
    refine lv_tableIn (x := 6) (off := 166) (tgt := 174) hx hb dX12_count_8 (by decide) (by decide) (by decide) (by decide) ?_
    refine lv_aload_n hx hb dX12_count_174 rfl (lv_at hl 1 rfl) ?_
    refine tw_get hx hb hts bF_X12 hown hK hT hr_o0 shm_0 rfl 18 (by decide) (ht_at hts 18 rfl) (fun _ h9 => h9) dX12_count_175 (fun v9 m86 h9 => ?_)
    obtain ⟨rfl, hg87⟩ := h9 _ rfl
    refine lv_iconst (v := 0) hx hb dX12_count_178 (by decide) ?_
    refine tw_iald (i := 0) hx hb hK hT hg87 shm_19 rfl (by unfold vp_in; decide) dX12_count_179 (fun v9 m88 h9 => ?_)
    obtain ⟨x89, rfl, gx89, kx89⟩ := (gn_at h9)
    exact W.iret (v := x89) hx hb hr (fun t ht hW => ⟨⟨x89, (), rfl, (by exact trivial), by (try dsimp only); rw [ht]; exact ⟨hT, hF⟩⟩, hS.F ht⟩) hS.2.2 dX12_count_180
  by_cases hs90 : p0 = 7
  · subst hs90
    refine lv_tableIn (x := 7) (off := 173) (tgt := 181) hx hb dX12_count_8 (by decide) (by decide) (by decide) (by decide) ?_
    refine lv_aload_n hx hb dX12_count_181 rfl (lv_at hl 1 rfl) ?_
    refine tw_get hx hb hts bF_X12 hown hK hT hr_o0 shm_0 rfl 42 (by decide) (ht_at hts 19 rfl) (fun _ h9 => h9) dX12_count_182 (fun v9 m91 h9 => ?_)
    obtain ⟨x92, rfl, gx92, kx92⟩ := h9 _ rfl
    exact W.iret (v := x92) hx hb hr (fun t ht hW => ⟨⟨x92, (), rfl, (by exact trivial), by (try dsimp only); rw [ht]; exact ⟨hT, hF⟩⟩, hS.F ht⟩) hS.2.2 dX12_count_185
  by_cases hs93 : p0 = 8
  · subst hs93
    refine lv_tableIn (x := 8) (off := 178) (tgt := 186) hx hb dX12_count_8 (by decide) (by decide) (by decide) (by decide) ?_
    refine lv_aload_n hx hb dX12_count_186 rfl (lv_at hl 1 rfl) ?_
    have hFc := gA_free hG hA hS
    refine va_calli (va_runV (As := []) (rest := []) ⟨hx, hb, hml, hown, hts⟩ (s_holders l dC dI kA adK adV G H q wZ wN wH wB wC wL wK wU wV PI im PM PT lS lB lE lN o0 hT hr_o0 hgz hgn hgh hgb hgc hgi hgu) (cwV 0 hts (goodIn_app (goodIn_r _ [23, 24, 25, 7] rfl (by decide +kernel)) (goodIn_ca (goodIn_r _ [21, 20, 22] rfl (by decide +kernel)) (bs_in _ _))) rfl rfl rfl (by decide +kernel) ⟨(Nat.le_of_ble_eq_true rfl), (Nat.le_of_ble_eq_true rfl)⟩) ⟨fun a U g mk q => by obtain ⟨q0, q1, qK, qE⟩ := q; exact ⟨q0, q1, va_K.moved (u := U) (U := U.calling g mk a) (Vm.Alike.refl U.vm) qK, EVS.blind g mk a qE⟩, gH_rc hK hT hr_o0 shm_0 rfl, fun U hU hW => ⟨rfl, hU, va_K.moved hW.alike hK, hE.call hS hFc hU hW⟩⟩ rfl rfl hl.1 rfl (lv_room (Nat.le_of_ble_eq_true rfl)) dX12_count_187 ⟨(Nat.le_of_ble_eq_true rfl), (Nat.le_of_ble_eq_true rfl)⟩) hS (fun q _ h => hFc q h) hFc (fun r94 u t H locs ht hvm hw95 hB _ _ hS => ?_)
    obtain ⟨hT, hF1⟩ := hB
    rw [ht] at hT hF1
    have hF := hF.more hF1 (by decide)
    try dsimp only at hw95
    exact W.iret (v := r94) hx hb hr (fun t ht hW => ⟨⟨r94, (), rfl, (by exact trivial), by (try dsimp only); rw [ht]; exact ⟨hT, hF⟩⟩, hS.F ht⟩) hS.2.2 dX12_count_190
  by_cases hs97 : p0 = 9
  · subst hs97
    refine lv_tableIn (x := 9) (off := 183) (tgt := 191) hx hb dX12_count_8 (by decide) (by decide) (by decide) (by decide) ?_
    refine lv_aload_n hx hb dX12_count_191 rfl (lv_at hl 1 rfl) ?_
    refine tw_get hx hb hts bF_X12 hown hK hT hr_o0 shm_0 rfl 47 (by decide) (ht_at hts 25 rfl) (fun _ h9 => h9) dX12_count_192 (fun v9 m98 h9 => ?_)
    obtain ⟨x99, rfl, gx99, kx99⟩ := h9 _ rfl
    exact W.iret (v := x99) hx hb hr (fun t ht hW => ⟨⟨x99, (), rfl, (by exact trivial), by (try dsimp only); rw [ht]; exact ⟨hT, hF⟩⟩, hS.F ht⟩) hS.2.2 dX12_count_195
  by_cases hs100 : p0 = 10
  · subst hs100
    refine lv_tableIn (x := 10) (off := 188) (tgt := 196) hx hb dX12_count_8 (by decide) (by decide) (by decide) (by decide) ?_
    refine lv_aload_n hx hb dX12_count_196 rfl (lv_at hl 1 rfl) ?_
    refine tw_get hx hb hts bF_X12 hown hK hT hr_o0 shm_0 rfl 48 (by decide) (ht_at hts 26 rfl) (fun _ h9 => h9) dX12_count_197 (fun v9 m101 h9 => ?_)
    obtain ⟨x102, rfl, gx102, kx102⟩ := h9 _ rfl
    exact W.iret (v := x102) hx hb hr (fun t ht hW => ⟨⟨x102, (), rfl, (by exact trivial), by (try dsimp only); rw [ht]; exact ⟨hT, hF⟩⟩, hS.F ht⟩) hS.2.2 dX12_count_200
  by_cases hs103 : p0 = 11
  · subst hs103
    refine lv_tableIn (x := 11) (off := 193) (tgt := 201) hx hb dX12_count_8 (by decide) (by decide) (by decide) (by decide) ?_
    refine lv_iconst (v := 0) hx hb dX12_count_201 (by decide) ?_
    refine lv_istore_n (lv' := [(3, .int 0), (2, .int 0), (0, .ref o0), (1, .int 11)]) hx hb dX12_count_202 rfl hl (by decide) rfl (fun ls hl => ?_)
    have key117 : ∀ (n117 i104 : Nat), i104 + n117 = 60 → 0 ≤ i104 → ∀ (z105 : Int32), ∀ (H : Heap) (locs : List Loc), gH (dC, dI) kA (SHm q (wP wZ wN wH wB wC wL wK wU wV) PI im PM PT lS lB lE lN) G H → gF (dC, dI) SKm G ([(0, 0)] : List (Nat × Nat)) s.heap H → va_S A s.heap H locs → el H o0 (dI 15 0) = some (.int 0) → ∀ ls : Array Slot, lv_has ls 4 [(3, .int (nI i104)), (2, .int z105), (0, .ref o0), (1, .int 11)] → W p l e (headSpec w_s_count ({ frames := 2, cells := 0, slots := 0, locals := 43 })).room s m #[.ref o0, .int (11 : Int32)] below meth c H locs 0 0 (MQ below (va_Qi (fun (r : Int32) (u : Unit) => True) (fun (_ : Unit) (t : State) => gH (dC, dI) kA (SHm q (wP wZ wN wH wB wC wL wK wU wV) PI im PM PT lS lB lE lN) G t.heap ∧ gF (dC, dI) SKm G ([(0, 0)] : List (Nat × Nat)) s.heap t.heap) A) #[.ref o0, .int (11 : Int32)] s 0 0 A) (F0 m 203 ls []) := by
      intro n117
      induction n117 with
      | zero =>
        intro i104 hn117 hlo118 z105 H locs hT hF hS m106 ls hl
        obtain rfl : 60 = i104 := by omega
        refine lv_iload_n hx hb dX12_count_203 rfl (lv_at hl 0 rfl) ?_
        refine lv_aload_n hx hb dX12_count_204 rfl (lv_at hl 2 rfl) ?_
        refine tw_get hx hb hts bF_X12 hown hK hT hr_o0 shm_0 rfl 42 (by decide) (ht_at hts 19 rfl) (fun _ h9 => h9) dX12_count_205 (fun v9 m119 h9 => ?_)
        obtain ⟨x120, rfl, gx120, kx120⟩ := h9 _ rfl
        refine lv_icmp_ge (tgt := 226) hx hb dX12_count_208 (by decide) (fun c121 => ?_) (fun c121 => (by exfalso; have q9 : ((60 : Nat) : Int) < x120.toInt := ti_nle c121 rfl (nI_toInt (by omega)); omega))
        have t122 : x120.toInt ≤ ((60 : Nat) : Int) := ti_le c121 rfl (nI_toInt (by omega))
        refine lv_iload_n hx hb dX12_count_226 rfl (lv_at hl 1 rfl) ?_
        exact W.iret (v := z105) hx hb hr (fun t ht hW => ⟨⟨z105, (), rfl, (by exact trivial), by (try dsimp only); rw [ht]; exact ⟨hT, hF⟩⟩, hS.F ht⟩) hS.2.2 dX12_count_227
      | succ n117 ih117 =>
        intro i104 hn117 hlo118 z105 H locs hT hF hS m106 ls hl
        have hlt122 : i104 < 60 := by omega
        refine lv_iload_n hx hb dX12_count_203 rfl (lv_at hl 0 rfl) ?_
        refine lv_aload_n hx hb dX12_count_204 rfl (lv_at hl 2 rfl) ?_
        refine tw_get hx hb hts bF_X12 hown hK hT hr_o0 shm_0 rfl 42 (by decide) (ht_at hts 19 rfl) (fun _ h9 => h9) dX12_count_205 (fun v9 m123 h9 => ?_)
        obtain ⟨x124, rfl, gx124, kx124⟩ := h9 _ rfl
        refine lv_icmp_ge (tgt := 226) hx hb dX12_count_208 (by decide) (fun c125 => ?_) (fun c125 => ?_)
        · have t126 : x124.toInt ≤ ((i104 : Nat) : Int) := ti_le c125 rfl (nI_toInt (by omega))
          refine lv_iload_n hx hb dX12_count_226 rfl (lv_at hl 1 rfl) ?_
          exact W.iret (v := z105) hx hb hr (fun t ht hW => ⟨⟨z105, (), rfl, (by exact trivial), by (try dsimp only); rw [ht]; exact ⟨hT, hF⟩⟩, hS.F ht⟩) hS.2.2 dX12_count_227
        · have t127 : ((i104 : Nat) : Int) < x124.toInt := ti_nle c125 rfl (nI_toInt (by omega))
          refine lv_iload_n hx hb dX12_count_211 rfl (lv_at hl 1 rfl) ?_
          refine lv_aload_n hx hb dX12_count_212 rfl (lv_at hl 2 rfl) ?_
          refine tw_get hx hb hts bF_X12 hown hK hT hr_o0 shm_0 rfl 40 (by decide) (ht_at hts 27 rfl) (fun _ h9 => h9) dX12_count_213 (fun v9 m128 h9 => ?_)
          obtain ⟨rfl, hg129⟩ := h9 _ rfl
          refine lv_iload_n hx hb dX12_count_216 rfl (lv_at hl 0 rfl) ?_
          refine tw_iald (i := (nI i104)) hx hb hK hT hg129 shm_41 rfl (vp_in_nI (by omega) (by decide)) dX12_count_217 (fun v9 m130 h9 => ?_)
          obtain ⟨x131, rfl, gx131, kx131⟩ := h9
          refine lv_iadd hx hb dX12_count_218 ?_
          refine lv_topi (fun x132 ex132 => ?_)
          refine lv_istore_n (lv' := [(2, .int x132), (3, .int (nI i104)), (0, .ref o0), (1, .int 11)]) hx hb dX12_count_219 rfl hl (by decide) rfl (fun ls hl => ?_)
          refine lv_iinc (v := nI (i104 + 1)) (lv' := [(3, .int (nI (i104 + 1))), (2, .int x132), (0, .ref o0), (1, .int 11)]) hx hb dX12_count_220 hl (k := 1) rfl (nI_add i104 1) (by decide) rfl (fun ls hl => ?_)
          refine lv_goto (tgt := 203) hx hb dX12_count_223 (by decide) ?_
          exact ih117 (i104 + 1) (by omega) (by omega) x132 _ _ hT hF hS m106 ls (lv_sub hl [0, 1, 2, 3] rfl)
    exact key117 (60 - 0) 0 (by omega) (Nat.le_refl _) 0 _ _ hT hF hS m1 ls (lv_sub hl [0, 1, 2, 3] rfl)
  by_cases hs133 : p0 = 12
  · subst hs133
    refine lv_tableIn (x := 12) (off := 220) (tgt := 228) hx hb dX12_count_8 (by decide) (by decide) (by decide) (by decide) ?_
    refine lv_aload_n hx hb dX12_count_228 rfl (lv_at hl 1 rfl) ?_
    refine tw_get hx hb hts bF_X12 hown hK hT hr_o0 shm_0 rfl 64 (by decide) (ht_at hts 28 rfl) (fun _ h9 => h9) dX12_count_229 (fun v9 m134 h9 => ?_)
    obtain ⟨x135, rfl, gx135, kx135⟩ := h9 _ rfl
    exact W.iret (v := x135) hx hb hr (fun t ht hW => ⟨⟨x135, (), rfl, (by exact trivial), by (try dsimp only); rw [ht]; exact ⟨hT, hF⟩⟩, hS.F ht⟩) hS.2.2 dX12_count_232
  by_cases hs136 : p0 = 13
  · subst hs136
    refine lv_tableIn (x := 13) (off := 225) (tgt := 233) hx hb dX12_count_8 (by decide) (by decide) (by decide) (by decide) ?_
    refine lv_aload_n hx hb dX12_count_233 rfl (lv_at hl 1 rfl) ?_
    refine tw_get hx hb hts bF_X12 hown hK hT hr_o0 shm_0 rfl 1 (by decide) (ht_at hts 2 rfl) (fun _ h9 => h9) dX12_count_234 (fun v9 m137 h9 => ?_)
    obtain ⟨rfl, hg138⟩ := h9 _ rfl
    refine lv_sipush (v := 1745) hx hb dX12_count_237 (by decide) ?_
    refine tw_iald (i := 1745) hx hb hK hT hg138 shm_2 rfl (by unfold vp_in; decide) dX12_count_240 (fun v9 m139 h9 => ?_)
    obtain ⟨x140, rfl, gx140, kx140⟩ := (gp_at h9 (w_fre (by have q9 := tn_of (show (1745 : Int32).toInt = 1745 from (by decide)) (show (0 : Int) ≤ 1745 from by omega); omega)))
    exact W.iret (v := x140) hx hb hr (fun t ht hW => ⟨⟨x140, (), rfl, (by exact trivial), by (try dsimp only); rw [ht]; exact ⟨hT, hF⟩⟩, hS.F ht⟩) hS.2.2 dX12_count_241
  by_cases hs141 : p0 = 14
  · subst hs141
    refine lv_tableIn (x := 14) (off := 234) (tgt := 242) hx hb dX12_count_8 (by decide) (by decide) (by decide) (by decide) ?_
    refine lv_aload_n hx hb dX12_count_242 rfl (lv_at hl 1 rfl) ?_
    refine tw_get hx hb hts bF_X12 hown hK hT hr_o0 shm_0 rfl 1 (by decide) (ht_at hts 2 rfl) (fun _ h9 => h9) dX12_count_243 (fun v9 m142 h9 => ?_)
    obtain ⟨rfl, hg143⟩ := h9 _ rfl
    refine lv_sipush (v := 1746) hx hb dX12_count_246 (by decide) ?_
    refine tw_iald (i := 1746) hx hb hK hT hg143 shm_2 rfl (by unfold vp_in; decide) dX12_count_249 (fun v9 m144 h9 => ?_)
    obtain ⟨x145, rfl, gx145, kx145⟩ := (gp_at h9 (w_fre (by have q9 := tn_of (show (1746 : Int32).toInt = 1746 from (by decide)) (show (0 : Int) ≤ 1746 from by omega); omega)))
    exact W.iret (v := x145) hx hb hr (fun t ht hW => ⟨⟨x145, (), rfl, (by exact trivial), by (try dsimp only); rw [ht]; exact ⟨hT, hF⟩⟩, hS.F ht⟩) hS.2.2 dX12_count_250
  by_cases hs146 : p0 = 15
  · subst hs146
    refine lv_tableIn (x := 15) (off := 243) (tgt := 251) hx hb dX12_count_8 (by decide) (by decide) (by decide) (by decide) ?_
    refine lv_aload_n hx hb dX12_count_251 rfl (lv_at hl 1 rfl) ?_
    refine tw_get hx hb hts bF_X12 hown hK hT hr_o0 shm_0 rfl 1 (by decide) (ht_at hts 2 rfl) (fun _ h9 => h9) dX12_count_252 (fun v9 m147 h9 => ?_)
    obtain ⟨rfl, hg148⟩ := h9 _ rfl
    refine lv_sipush (v := 1747) hx hb dX12_count_255 (by decide) ?_
    refine tw_iald (i := 1747) hx hb hK hT hg148 shm_2 rfl (by unfold vp_in; decide) dX12_count_258 (fun v9 m149 h9 => ?_)
    obtain ⟨x150, rfl, gx150, kx150⟩ := (gp_at h9 (w_fre (by have q9 := tn_of (show (1747 : Int32).toInt = 1747 from (by decide)) (show (0 : Int) ≤ 1747 from by omega); omega)))
    exact W.iret (v := x150) hx hb hr (fun t ht hW => ⟨⟨x150, (), rfl, (by exact trivial), by (try dsimp only); rw [ht]; exact ⟨hT, hF⟩⟩, hS.F ht⟩) hS.2.2 dX12_count_259
  by_cases hs151 : p0 = 16
  · subst hs151
    refine lv_tableIn (x := 16) (off := 252) (tgt := 260) hx hb dX12_count_8 (by decide) (by decide) (by decide) (by decide) ?_
    refine lv_aload_n hx hb dX12_count_260 rfl (lv_at hl 1 rfl) ?_
    refine tw_get hx hb hts bF_X12 hown hK hT hr_o0 shm_0 rfl 1 (by decide) (ht_at hts 2 rfl) (fun _ h9 => h9) dX12_count_261 (fun v9 m152 h9 => ?_)
    obtain ⟨rfl, hg153⟩ := h9 _ rfl
    refine lv_sipush (v := 1748) hx hb dX12_count_264 (by decide) ?_
    refine tw_iald (i := 1748) hx hb hK hT hg153 shm_2 rfl (by unfold vp_in; decide) dX12_count_267 (fun v9 m154 h9 => ?_)
    obtain ⟨x155, rfl, gx155, kx155⟩ := (gp_at h9 (w_fre (by have q9 := tn_of (show (1748 : Int32).toInt = 1748 from (by decide)) (show (0 : Int) ≤ 1748 from by omega); omega)))
    exact W.iret (v := x155) hx hb hr (fun t ht hW => ⟨⟨x155, (), rfl, (by exact trivial), by (try dsimp only); rw [ht]; exact ⟨hT, hF⟩⟩, hS.F ht⟩) hS.2.2 dX12_count_268
  by_cases hs156 : p0 = 17
  · subst hs156
    refine lv_tableIn (x := 17) (off := 261) (tgt := 269) hx hb dX12_count_8 (by decide) (by decide) (by decide) (by decide) ?_
    refine lv_aload_n hx hb dX12_count_269 rfl (lv_at hl 1 rfl) ?_
    refine tw_get hx hb hts bF_X12 hown hK hT hr_o0 shm_0 rfl 9 (by decide) (ht_at hts 29 rfl) (fun _ h9 => h9) dX12_count_270 (fun v9 m157 h9 => ?_)
    obtain ⟨x158, rfl, gx158, kx158⟩ := h9 _ rfl
    exact W.iret (v := x158) hx hb hr (fun t ht hW => ⟨⟨x158, (), rfl, (by exact trivial), by (try dsimp only); rw [ht]; exact ⟨hT, hF⟩⟩, hS.F ht⟩) hS.2.2 dX12_count_273
  have ho159 : p0.toInt < 0 ∨ 17 < p0.toInt := by
    by_cases hz9 : p0.toInt < 0
    · exact Or.inl hz9
    have u9 : (0 : Int) ≤ p0.toInt := Int.not_lt.mp hz9
    have u9 := ll_nx (k1 := 1) u9 hs2 (by decide) (by decide)
    have u9 := ll_nx (k1 := 2) u9 hs8 (by decide) (by decide)
    have u9 := ll_nx (k1 := 3) u9 hs16 (by decide) (by decide)
    have u9 := ll_nx (k1 := 4) u9 hs21 (by decide) (by decide)
    have u9 := ll_nx (k1 := 5) u9 hs77 (by decide) (by decide)
    have u9 := ll_nx (k1 := 6) u9 hs81 (by decide) (by decide)
    have u9 := ll_nx (k1 := 7) u9 hs85 (by decide) (by decide)
    have u9 := ll_nx (k1 := 8) u9 hs90 (by decide) (by decide)
    have u9 := ll_nx (k1 := 9) u9 hs93 (by decide) (by decide)
    have u9 := ll_nx (k1 := 10) u9 hs97 (by decide) (by decide)
    have u9 := ll_nx (k1 := 11) u9 hs100 (by decide) (by decide)
    have u9 := ll_nx (k1 := 12) u9 hs103 (by decide) (by decide)
    have u9 := ll_nx (k1 := 13) u9 hs133 (by decide) (by decide)
    have u9 := ll_nx (k1 := 14) u9 hs136 (by decide) (by decide)
    have u9 := ll_nx (k1 := 15) u9 hs141 (by decide) (by decide)
    have u9 := ll_nx (k1 := 16) u9 hs146 (by decide) (by decide)
    have u9 := ll_nx (k1 := 17) u9 hs151 (by decide) (by decide)
    have u9 := ll_nx (k1 := 18) u9 hs156 (by decide) (by decide)
    exact Or.inr (Int.lt_of_lt_of_le (by decide) u9)
  refine lv_tableOut (tgt := 274) hx hb dX12_count_8 ho159 (by decide) ?_
  refine lv_iconst (v := (-1)) hx hb dX12_count_274 (by decide) ?_
  exact W.iret (v := (-1)) hx hb hr (fun t ht hW => ⟨⟨(-1), (), rfl, (by exact trivial), by (try dsimp only); rw [ht]; exact ⟨hT, hF⟩⟩, hS.F ht⟩) hS.2.2 dX12_count_275
