def w_s_tide : List Cond := .code yX12_tide cX12_tide 3 none :: (HAppend.hAppend (α := List Cond) (β := List Cond) (γ := List Cond) [.fieldLink RX12 194 "SeaLandModel" "thrown" "I", .code yX12_in cX12_in 3 (some .boolean), .methodLink RX12 197 yX12_in, .static yX12_in, .initialized RX12, .code yX12_throwsIf cX12_throwsIf 3 (some .boolean), .methodLink RX12 224 yX12_throwsIf, .instanceMethod yX12_throwsIf, .selects RX12 yX12_throwsIf yX12_throwsIf, .fieldLink RX12 9 "SeaLandModel" "world" "[I", .fieldLink RX12 238 "SeaLandModel" "rows" "I"] bs)
set_option maxHeartbeats 4000000 in
set_option maxRecDepth 100000 in
theorem s_tide (l : Launch) (dC : Nat → ClassId) (dI : Nat → Nat → Nat) (kA : Nat → ClassId) (adK adV : Nat → Nat) (G : gT) (H0 : Heap) (q : Nat → Nat) (wZ wN : Nat → Int) (wH wB wC : Int) (wL wK : Nat → Prop) (wU wV : Nat → Nat) (PI : Nat → Int → Prop) (im : Int) (PM PT : Nat → Int → Prop) (lS lB lE : Nat → Nat → Int → Prop) (lN : Nat → Int) (o0 : Nat) (p0 : Int32) (p1 : Int32)  (hT : gH (dC, dI) kA (SHm q (wP wZ wN wH wB wC wL wK wU wV) PI im PM PT lS lB lE lN) G H0) (hr_o0 : G o0 = some 0) (hgz : ∀ i, 0 ≤ wZ i) (hgn : ∀ i, 6500000 ≤ wN i ∧ wN i ≤ 20200000) (hgh : 0 ≤ wH ∧ wH ≤ 40000) (hgb : 0 ≤ wB ∧ wB ≤ 3850000) (hgc : 0 ≤ wC ∧ wC ≤ 30) (hgi : 0 ≤ im ∧ im ≤ 1) (hgu : ∀ a t, G a = some (t + 1) → a = q t) : Met l yX12_tide w_s_tide ({ frames := 1, cells := 0, slots := 0, locals := 22 }) (va_Pc [.ref o0, .int p0, .int p1] (fun U => U.heap = H0 ∧ va_K (dC, dI) vwCl (tyl kA) U ∧ EVS adK adV (gA G H0.size) U U.heap)) (va_Qv (fun (u : Unit) => True) (fun (_ : Unit) (t : State) => gH (dC, dI) kA (SHm q (wP wZ wN wH wB wC wL wK wU wV) PI im PM PT lS lB lE lN) G t.heap ∧ gF (dC, dI) SKm G ([(0, 0), (0, 9), (2, 0)] : List (Nat × Nat)) H0 t.heap) (gA G H0.size)) 0 0 (gA G H0.size) := by
  refine Met.ofW (cc := cX12_tide) (maxL := 3) (ret := none) (by decide) rfl ?_
  intro p e s m args below meth c s₁ B hml hv
  obtain ⟨rfl, hH0, hK, hE⟩ := hv
  have hx := B.exec
  have hb := B.bytes
  have hr := B.returns
  have hts := atoms_spec (ws := w_s_tide) B.pre
  have hown : s.vm.findClass RX12 = some m.cls := findClass_of_methodNamed B.named
  have hlocks := B.notSynchronized
  subst hH0
  generalize hAe : gA G s.heap.size = A at hE ⊢
  have hA : ∀ q : Nat, s.heap.size ≤ q → A q := fun q h => by rw [← hAe]; exact Or.inr h
  have hG := gA_of hAe
  have hS : va_S A s.heap s.heap [] := va_S.rf
  have hF : gF (dC, dI) SKm G ([(0, 0), (0, 9), (2, 0)] : List (Nat × Nat)) s.heap s.heap := gF.rf
  have hl := lv_entry ([.ref o0, .int p0, .int p1]) (n := 3) (Nat.le_of_ble_eq_true rfl)
  rw [lg_entry_eq]
  generalize (lg_sl ([.ref o0, .int p0, .int p1]) ++ List.replicate (3 - (lg_sl ([.ref o0, .int p0, .int p1])).length) Slot.unset).toArray = ls at hl ⊢
  have hl : lv_has ls 3 [(0, .ref o0), (1, .int p0), (2, .int p1)] := hl
  refine lv_aload_n hx hb dX12_tide_0 rfl (lv_at hl 0 rfl) ?_
  refine lv_iconst (v := 0) hx hb dX12_tide_1 (by decide) ?_
  refine tw_put (v := .int 0) (ty := .int) hx hb hts bF_X12 tyX12 tyX12_ok nmX12 hown hK hT hG hS hr_o0 shm_0 rfl 0 (by decide) (ht_at hts 0 rfl) (fun _ h9 => h9) rfl (by decide +kernel) rfl rfl (gl_at rfl (gi_all _)) dX12_tide_2 (fun H locs hT oq m1 oj hS => ?_)
  have hF := hF.put hr_o0 skm_0 oq oj (by decide)
  refine lv_aload_n hx hb dX12_tide_5 rfl (lv_at hl 0 rfl) ?_
  refine lv_iload_n hx hb dX12_tide_6 rfl (lv_at hl 1 rfl) ?_
  refine lv_iconst (v := 0) hx hb dX12_tide_7 (by decide) ?_
  refine lv_bipush (v := 11) hx hb dX12_tide_8 (by decide) ?_
  have hFc := gA_free hG hA hS
  refine va_calli (va_runS (As := [.int p0, .int 0, .int 11]) (rest := [.ref o0]) ⟨hx, hb, hml, hown, hts⟩ (s_in l dC dI kA adK adV G H q wZ wN wH wB wC wL wK wU wV PI im PM PT lS lB lE lN p0 0 11 hT hgz hgn hgh hgb hgc hgi hgu) (va_cwS 3 hts (goodIn_app (goodIn_r _ [3, 4, 5] rfl (by decide +kernel)) (goodIn_ca (goodIn_r _ [2] rfl (by decide +kernel)) (bs_in _ _))) rfl rfl rfl (by decide +kernel) ⟨(Nat.le_of_ble_eq_true rfl), (Nat.le_of_ble_eq_true rfl)⟩) ⟨fun a U g mk q => by obtain ⟨q0, q1, qK, qE⟩ := q; exact ⟨q0, q1, va_K.moved (u := U) (U := U.calling g mk a) (Vm.Alike.refl U.vm) qK, EVS.blind g mk a qE⟩, fun U hU hW => ⟨rfl, hU, va_K.moved hW.alike hK, hE.call hS hFc hU hW⟩⟩ rfl rfl hl.1 rfl (lv_room (Nat.le_of_ble_eq_true rfl)) dX12_tide_10 ⟨(Nat.le_of_ble_eq_true rfl), (Nat.le_of_ble_eq_true rfl)⟩) hS (fun q _ h => hFc q h) hFc (fun r2 u t H locs ht hvm hw3 hB _ _ hS => ?_)
  obtain ⟨hT, hF1⟩ := hB
  rw [ht] at hT hF1
  have hF := hF.more hF1 (by decide)
  try dsimp only at hw3
  obtain ⟨h5, hi6, hi7⟩ := hw3
  refine lv_if_eq (tgt := 29) hx hb dX12_tide_13 (by decide) (fun c8 => ?_) (fun c8 => ?_)
  · have t9 : r2.toInt = 0 := ti_eq c8 rfl (by decide)
    have t10 : (11 : Int32).toInt = 11 := by decide
    have t11 : (0 : Int32).toInt = 0 := by decide
    have t12 : p0.toInt < (0 : Int32).toInt ∨ (11 : Int32).toInt < p0.toInt := hi7 c8
    refine lv_iconst (v := 1) hx hb dX12_tide_29 (by decide) ?_
    refine lv_goto (tgt := 34) hx hb dX12_tide_30 (by decide) ?_
    refine lv_iconst (v := 1) hx hb dX12_tide_34 (by decide) ?_
    have hFc := gA_free hG hA hS
    refine va_calli (va_runV (As := [.int 1, .int 1]) (rest := []) ⟨hx, hb, hml, hown, hts⟩ (s_throwsIf l dC dI kA adK adV G H q wZ wN wH wB wC wL wK wU wV PI im PM PT lS lB lE lN o0 1 1 hT hr_o0 (rg_t (a := 1) (by decide) (by first | decide | omega) (by first | decide | omega)) hgz hgn hgh hgb hgc hgi hgu) (cwV 2 hts (goodIn_app (goodIn_r _ [7, 8, 9, 5] rfl (by decide +kernel)) (goodIn_ca (goodIn_r _ [6, 1] rfl (by decide +kernel)) (bs_in _ _))) rfl rfl rfl (by decide +kernel) ⟨(Nat.le_of_ble_eq_true rfl), (Nat.le_of_ble_eq_true rfl)⟩) ⟨fun a U g mk q => by obtain ⟨q0, q1, qK, qE⟩ := q; exact ⟨q0, q1, va_K.moved (u := U) (U := U.calling g mk a) (Vm.Alike.refl U.vm) qK, EVS.blind g mk a qE⟩, gH_rc hK hT hr_o0 shm_0 rfl, fun U hU hW => ⟨rfl, hU, va_K.moved hW.alike hK, hE.call hS hFc hU hW⟩⟩ rfl rfl hl.1 rfl (lv_room (Nat.le_of_ble_eq_true rfl)) dX12_tide_35 ⟨(Nat.le_of_ble_eq_true rfl), (Nat.le_of_ble_eq_true rfl)⟩) hS (fun q _ h => hFc q h) hFc (fun r13 u t H locs ht hvm hw14 hB _ _ hS => ?_)
    obtain ⟨hT, hF1⟩ := hB
    rw [ht] at hT hF1
    have hF := hF.more hF1 (by decide)
    try dsimp only at hw14
    obtain ⟨h16, hd17⟩ := hw14
    obtain rfl : (1 : Int32) = r13 := hd17.symm
    refine lv_if_eq (tgt := 42) hx hb dX12_tide_38 (by decide) (fun c18 => absurd c18 (by decide)) (fun c18 => ?_)
    exact W.vret hx hb hr (fun t ht hW => ⟨⟨(), rfl, (by exact trivial), by (try dsimp only); rw [ht]; exact ⟨hT, hF⟩⟩, hS.F ht⟩) hS.2.2 dX12_tide_41
  · have t19 : r2.toInt ≠ 0 := ti_ne c8 rfl (by decide)
    have t20 : (11 : Int32).toInt = 11 := by decide
    have t21 : (0 : Int32).toInt = 0 := by decide
    have t22 : (0 : Int32).toInt ≤ p0.toInt ∧ p0.toInt ≤ (11 : Int32).toInt := hi6 ((bit_of ⟨by omega, by omega⟩).resolve_left c8)
    refine lv_iload_n hx hb dX12_tide_16 rfl (lv_at hl 2 rfl) ?_
    refine lv_sipush (v := (-400)) hx hb dX12_tide_17 (by decide) ?_
    refine lv_sipush (v := 400) hx hb dX12_tide_20 (by decide) ?_
    have hFc := gA_free hG hA hS
    refine va_calli (va_runS (As := [.int p1, .int (-400), .int 400]) (rest := [.ref o0]) ⟨hx, hb, hml, hown, hts⟩ (s_in l dC dI kA adK adV G H q wZ wN wH wB wC wL wK wU wV PI im PM PT lS lB lE lN p1 (-400) 400 hT hgz hgn hgh hgb hgc hgi hgu) (va_cwS 3 hts (goodIn_app (goodIn_r _ [3, 4, 5] rfl (by decide +kernel)) (goodIn_ca (goodIn_r _ [2] rfl (by decide +kernel)) (bs_in _ _))) rfl rfl rfl (by decide +kernel) ⟨(Nat.le_of_ble_eq_true rfl), (Nat.le_of_ble_eq_true rfl)⟩) ⟨fun a U g mk q => by obtain ⟨q0, q1, qK, qE⟩ := q; exact ⟨q0, q1, va_K.moved (u := U) (U := U.calling g mk a) (Vm.Alike.refl U.vm) qK, EVS.blind g mk a qE⟩, fun U hU hW => ⟨rfl, hU, va_K.moved hW.alike hK, hE.call hS hFc hU hW⟩⟩ rfl rfl hl.1 rfl (lv_room (Nat.le_of_ble_eq_true rfl)) dX12_tide_23 ⟨(Nat.le_of_ble_eq_true rfl), (Nat.le_of_ble_eq_true rfl)⟩) hS (fun q _ h => hFc q h) hFc (fun r23 u t H locs ht hvm hw24 hB _ _ hS => ?_)
    obtain ⟨hT, hF1⟩ := hB
    rw [ht] at hT hF1
    have hF := hF.more hF1 (by decide)
    try dsimp only at hw24
    obtain ⟨h26, hi27, hi28⟩ := hw24
    refine lv_if_ne (tgt := 33) hx hb dX12_tide_26 (by decide) (fun c29 => ?_) (fun c29 => ?_)
    · have t30 : r23.toInt ≠ 0 := ti_ne c29 rfl (by decide)
      have t31 : (400 : Int32).toInt = 400 := by decide
      have t32 : (-400 : Int32).toInt = (-400) := by decide
      have t33 : (-400 : Int32).toInt ≤ p1.toInt ∧ p1.toInt ≤ (400 : Int32).toInt := hi27 ((bit_of ⟨by omega, by omega⟩).resolve_left c29)
      refine lv_iconst (v := 0) hx hb dX12_tide_33 (by decide) ?_
      refine lv_iconst (v := 1) hx hb dX12_tide_34 (by decide) ?_
      have hFc := gA_free hG hA hS
      refine va_calli (va_runV (As := [.int 0, .int 1]) (rest := []) ⟨hx, hb, hml, hown, hts⟩ (s_throwsIf l dC dI kA adK adV G H q wZ wN wH wB wC wL wK wU wV PI im PM PT lS lB lE lN o0 0 1 hT hr_o0 (rg_t (a := 0) (by decide) (by first | decide | omega) (by first | decide | omega)) hgz hgn hgh hgb hgc hgi hgu) (cwV 2 hts (goodIn_app (goodIn_r _ [7, 8, 9, 5] rfl (by decide +kernel)) (goodIn_ca (goodIn_r _ [6, 1] rfl (by decide +kernel)) (bs_in _ _))) rfl rfl rfl (by decide +kernel) ⟨(Nat.le_of_ble_eq_true rfl), (Nat.le_of_ble_eq_true rfl)⟩) ⟨fun a U g mk q => by obtain ⟨q0, q1, qK, qE⟩ := q; exact ⟨q0, q1, va_K.moved (u := U) (U := U.calling g mk a) (Vm.Alike.refl U.vm) qK, EVS.blind g mk a qE⟩, gH_rc hK hT hr_o0 shm_0 rfl, fun U hU hW => ⟨rfl, hU, va_K.moved hW.alike hK, hE.call hS hFc hU hW⟩⟩ rfl rfl hl.1 rfl (lv_room (Nat.le_of_ble_eq_true rfl)) dX12_tide_35 ⟨(Nat.le_of_ble_eq_true rfl), (Nat.le_of_ble_eq_true rfl)⟩) hS (fun q _ h => hFc q h) hFc (fun r34 u t H locs ht hvm hw35 hB _ _ hS => ?_)
      obtain ⟨hT, hF1⟩ := hB
      rw [ht] at hT hF1
      have hF := hF.more hF1 (by decide)
      try dsimp only at hw35
      obtain ⟨h37, hd38⟩ := hw35
      obtain rfl : (0 : Int32) = r34 := hd38.symm
      refine lv_if_eq (tgt := 42) hx hb dX12_tide_38 (by decide) (fun c39 => ?_) (fun c39 => absurd c39 (by decide))
      refine lv_aload_n hx hb dX12_tide_42 rfl (lv_at hl 0 rfl) ?_
      refine tw_get hx hb hts bF_X12 hown hK hT hr_o0 shm_0 rfl 1 (by decide) (ht_at hts 9 rfl) (fun _ h9 => h9) dX12_tide_43 (fun v9 m40 h9 => ?_)
      obtain ⟨rfl, hg41⟩ := h9 _ rfl
      refine lv_sipush (v := 1430) hx hb dX12_tide_46 (by decide) ?_
      refine lv_iload_n hx hb dX12_tide_49 rfl (lv_at hl 1 rfl) ?_
      refine lv_iadd hx hb dX12_tide_50 ?_
      refine lv_topi (fun x42 ex42 => ?_)
      have t43 : x42.toInt = 1430 + p0.toInt := ti_add ex42 (by decide) rfl (by omega) (by omega)
      refine lv_iload_n hx hb dX12_tide_51 rfl (lv_at hl 2 rfl) ?_
      refine tw_iast (i := x42) (x := p1) hx hb hK hT hG hS hg41 shm_2 rfl (vin_t (a := x42.toInt) rfl (by omega) (by omega)) (gp_of (gi_of (show p1.toInt = p1.toInt from rfl) (by omega) (by omega)) (w_tid (by have q9 := tn_of (show x42.toInt = x42.toInt from rfl) (show (0 : Int) ≤ x42.toInt from by omega); omega)) (wX_o (by have q9 := tn_of (show x42.toInt = x42.toInt from rfl) (show (0 : Int) ≤ x42.toInt from by omega); omega) (by omega))) dX12_tide_52 (fun H locs hT oq m44 oi hS => ?_)
      have hF := hF.ast hg41 skm_2 oq (by decide)
      refine lv_aload_n hx hb dX12_tide_53 rfl (lv_at hl 0 rfl) ?_
      refine lv_iconst (v := 0) hx hb dX12_tide_54 (by decide) ?_
      refine tw_put (v := .int 0) (ty := .int) hx hb hts bF_X12 tyX12 tyX12_ok nmX12 hown hK hT hG hS hr_o0 shm_0 rfl 9 (by decide) (ht_at hts 10 rfl) (fun _ h9 => h9) rfl (by decide +kernel) rfl rfl (gl_at rfl (gi_of (show (0 : Int32).toInt = 0 from (by decide)) (by first | decide | omega) (by first | decide | omega))) dX12_tide_55 (fun H locs hT oq m45 oj hS => ?_)
      have hF := hF.put hr_o0 skm_0 oq oj (by decide)
      exact W.vret hx hb hr (fun t ht hW => ⟨⟨(), rfl, (by exact trivial), by (try dsimp only); rw [ht]; exact ⟨hT, hF⟩⟩, hS.F ht⟩) hS.2.2 dX12_tide_58
    · have t47 : r23.toInt = 0 := ti_eq c29 rfl (by decide)
      have t48 : (400 : Int32).toInt = 400 := by decide
      have t49 : (-400 : Int32).toInt = (-400) := by decide
      have t50 : p1.toInt < (-400 : Int32).toInt ∨ (400 : Int32).toInt < p1.toInt := hi28 c29
      refine lv_iconst (v := 1) hx hb dX12_tide_29 (by decide) ?_
      refine lv_goto (tgt := 34) hx hb dX12_tide_30 (by decide) ?_
      refine lv_iconst (v := 1) hx hb dX12_tide_34 (by decide) ?_
      have hFc := gA_free hG hA hS
      refine va_calli (va_runV (As := [.int 1, .int 1]) (rest := []) ⟨hx, hb, hml, hown, hts⟩ (s_throwsIf l dC dI kA adK adV G H q wZ wN wH wB wC wL wK wU wV PI im PM PT lS lB lE lN o0 1 1 hT hr_o0 (rg_t (a := 1) (by decide) (by first | decide | omega) (by first | decide | omega)) hgz hgn hgh hgb hgc hgi hgu) (cwV 2 hts (goodIn_app (goodIn_r _ [7, 8, 9, 5] rfl (by decide +kernel)) (goodIn_ca (goodIn_r _ [6, 1] rfl (by decide +kernel)) (bs_in _ _))) rfl rfl rfl (by decide +kernel) ⟨(Nat.le_of_ble_eq_true rfl), (Nat.le_of_ble_eq_true rfl)⟩) ⟨fun a U g mk q => by obtain ⟨q0, q1, qK, qE⟩ := q; exact ⟨q0, q1, va_K.moved (u := U) (U := U.calling g mk a) (Vm.Alike.refl U.vm) qK, EVS.blind g mk a qE⟩, gH_rc hK hT hr_o0 shm_0 rfl, fun U hU hW => ⟨rfl, hU, va_K.moved hW.alike hK, hE.call hS hFc hU hW⟩⟩ rfl rfl hl.1 rfl (lv_room (Nat.le_of_ble_eq_true rfl)) dX12_tide_35 ⟨(Nat.le_of_ble_eq_true rfl), (Nat.le_of_ble_eq_true rfl)⟩) hS (fun q _ h => hFc q h) hFc (fun r51 u t H locs ht hvm hw52 hB _ _ hS => ?_)
      obtain ⟨hT, hF1⟩ := hB
      rw [ht] at hT hF1
      have hF := hF.more hF1 (by decide)
      try dsimp only at hw52
      obtain ⟨h54, hd55⟩ := hw52
      obtain rfl : (1 : Int32) = r51 := hd55.symm
      refine lv_if_eq (tgt := 42) hx hb dX12_tide_38 (by decide) (fun c56 => absurd c56 (by decide)) (fun c56 => ?_)
      exact W.vret hx hb hr (fun t ht hW => ⟨⟨(), rfl, (by exact trivial), by (try dsimp only); rw [ht]; exact ⟨hT, hF⟩⟩, hS.F ht⟩) hS.2.2 dX12_tide_41
def w_s_mayBuild : List Cond := .code yX12_mayBuild cX12_mayBuild 2 (some .boolean) :: (HAppend.hAppend (α := List Cond) (β := List Cond) (γ := List Cond) [.fieldLink RX12 194 "SeaLandModel" "thrown" "I", .code yX12_noSquare cX12_noSquare 1 (some .boolean), .code yX12_in cX12_in 3 (some .boolean), .methodLink RX12 197 yX12_in, .static yX12_in, .initialized RX12, .methodLink RX12 220 yX12_noSquare, .static yX12_noSquare, .code yX12_throwsIf cX12_throwsIf 3 (some .boolean), .methodLink RX12 224 yX12_throwsIf, .instanceMethod yX12_throwsIf, .selects RX12 yX12_throwsIf yX12_throwsIf, .code yX12_mayBuildOn cX12_mayBuildOn 5 (some .boolean), .code yX12_lastOf cX12_lastOf 5 (some .int), .fieldLink RX12 42 "SeaLandModel" "lines" "[I", .fieldLink RX12 45 "SeaLandModel" "sort" "[I", .fieldLink RX12 48 "SeaLandModel" "told" "[I", .methodLink RX12 492 yX12_lastOf, .instanceMethod yX12_lastOf, .selects RX12 yX12_lastOf yX12_lastOf, .fieldLink RX12 9 "SeaLandModel" "world" "[I", .code yX12_isDike cX12_isDike 2 (some .boolean), .code yX12_of cX12_of 3 (some .int), .code yX12_at cX12_at 2 (some .int), .methodLink RX12 214 yX12_at, .static yX12_at, .methodLink RX12 217 yX12_of, .instanceMethod yX12_of, .selects RX12 yX12_of yX12_of, .methodLink RX12 272 yX12_isDike, .instanceMethod yX12_isDike, .selects RX12 yX12_isDike yX12_isDike, .code yX12_steps cX12_steps 2 (some .int), .methodLink RX12 201 Lib.Math.abs.name, .static Lib.Math.abs.name, .initialized "java/lang/Math", .code Lib.Math.abs.name Lib.Math.abs.code 1 (some .int), .methodLink RX12 262 yX12_steps, .static yX12_steps, .methodLink RX12 279 yX12_mayBuildOn, .instanceMethod yX12_mayBuildOn, .selects RX12 yX12_mayBuildOn yX12_mayBuildOn] bs)
set_option maxHeartbeats 4000000 in
set_option maxRecDepth 100000 in
theorem s_mayBuild (l : Launch) (dC : Nat → ClassId) (dI : Nat → Nat → Nat) (kA : Nat → ClassId) (adK adV : Nat → Nat) (G : gT) (H0 : Heap) (q : Nat → Nat) (wZ wN : Nat → Int) (wH wB wC : Int) (wL wK : Nat → Prop) (wU wV : Nat → Nat) (PI : Nat → Int → Prop) (im : Int) (PM PT : Nat → Int → Prop) (lS lB lE : Nat → Nat → Int → Prop) (lN : Nat → Int) (o0 : Nat) (p0 : Int32)  (hT : gH (dC, dI) kA (SHm q (wP wZ wN wH wB wC wL wK wU wV) PI im PM PT lS lB lE lN) G H0) (hr_o0 : G o0 = some 0) (hgz : ∀ i, 0 ≤ wZ i) (hgn : ∀ i, 6500000 ≤ wN i ∧ wN i ≤ 20200000) (hgh : 0 ≤ wH ∧ wH ≤ 40000) (hgb : 0 ≤ wB ∧ wB ≤ 3850000) (hgc : 0 ≤ wC ∧ wC ≤ 30) (hgi : 0 ≤ im ∧ im ≤ 1) (hgu : ∀ a t, G a = some (t + 1) → a = q t) : Met l yX12_mayBuild w_s_mayBuild ({ frames := 4, cells := 0, slots := 0, locals := 88 }) (va_Pc [.ref o0, .int p0] (fun U => U.heap = H0 ∧ va_K (dC, dI) vwCl (tyl kA) U ∧ EVS adK adV (gA G H0.size) U U.heap)) (va_Qi (fun (r : Int32) (u : Unit) => (0 ≤ r.toInt ∧ r.toInt ≤ 1)) (fun (_ : Unit) (t : State) => gH (dC, dI) kA (SHm q (wP wZ wN wH wB wC wL wK wU wV) PI im PM PT lS lB lE lN) G t.heap ∧ gF (dC, dI) SKm G ([(0, 0)] : List (Nat × Nat)) H0 t.heap) (gA G H0.size)) 0 0 (gA G H0.size) := by
  refine Met.ofW (cc := cX12_mayBuild) (maxL := 2) (ret := (some .boolean)) (by decide) rfl ?_
  intro p e s m args below meth c s₁ B hml hv
  obtain ⟨rfl, hH0, hK, hE⟩ := hv
  have hx := B.exec
  have hb := B.bytes
  have hr := B.returns
  have hts := atoms_spec (ws := w_s_mayBuild) B.pre
  have hown : s.vm.findClass RX12 = some m.cls := findClass_of_methodNamed B.named
  have hlocks := B.notSynchronized
  subst hH0
  generalize hAe : gA G s.heap.size = A at hE ⊢
  have hA : ∀ q : Nat, s.heap.size ≤ q → A q := fun q h => by rw [← hAe]; exact Or.inr h
  have hG := gA_of hAe
  have hS : va_S A s.heap s.heap [] := va_S.rf
  have hF : gF (dC, dI) SKm G ([(0, 0)] : List (Nat × Nat)) s.heap s.heap := gF.rf
  have hl := lv_entry ([.ref o0, .int p0]) (n := 2) (Nat.le_of_ble_eq_true rfl)
  rw [lg_entry_eq]
  generalize (lg_sl ([.ref o0, .int p0]) ++ List.replicate (2 - (lg_sl ([.ref o0, .int p0])).length) Slot.unset).toArray = ls at hl ⊢
  have hl : lv_has ls 2 [(0, .ref o0), (1, .int p0)] := hl
  refine lv_aload_n hx hb dX12_mayBuild_0 rfl (lv_at hl 0 rfl) ?_
  refine lv_iconst (v := 0) hx hb dX12_mayBuild_1 (by decide) ?_
  refine tw_put (v := .int 0) (ty := .int) hx hb hts bF_X12 tyX12 tyX12_ok nmX12 hown hK hT hG hS hr_o0 shm_0 rfl 0 (by decide) (ht_at hts 0 rfl) (fun _ h9 => h9) rfl (by decide +kernel) rfl rfl (gl_at rfl (gi_all _)) dX12_mayBuild_2 (fun H locs hT oq m1 oj hS => ?_)
  have hF := hF.put hr_o0 skm_0 oq oj (by decide)
  refine lv_aload_n hx hb dX12_mayBuild_5 rfl (lv_at hl 0 rfl) ?_
  refine lv_iload_n hx hb dX12_mayBuild_6 rfl (lv_at hl 1 rfl) ?_
  have hFc := gA_free hG hA hS
  refine va_calli (va_runS (As := [.int p0]) (rest := [.ref o0]) ⟨hx, hb, hml, hown, hts⟩ (s_noSquare l dC dI kA adK adV G H q wZ wN wH wB wC wL wK wU wV PI im PM PT lS lB lE lN p0 hT hgz hgn hgh hgb hgc hgi hgu) (va_cwS 1 hts (goodIn_app (goodIn_r _ [7, 8, 6] rfl (by decide +kernel)) (goodIn_ca (goodIn_r _ [2, 3, 4, 5, 6] rfl (by decide +kernel)) (bs_in _ _))) rfl rfl rfl (by decide +kernel) ⟨(Nat.le_of_ble_eq_true rfl), (Nat.le_of_ble_eq_true rfl)⟩) ⟨fun a U g mk q => by obtain ⟨q0, q1, qK, qE⟩ := q; exact ⟨q0, q1, va_K.moved (u := U) (U := U.calling g mk a) (Vm.Alike.refl U.vm) qK, EVS.blind g mk a qE⟩, fun U hU hW => ⟨rfl, hU, va_K.moved hW.alike hK, hE.call hS hFc hU hW⟩⟩ rfl rfl hl.1 rfl (lv_room (Nat.le_of_ble_eq_true rfl)) dX12_mayBuild_7 ⟨(Nat.le_of_ble_eq_true rfl), (Nat.le_of_ble_eq_true rfl)⟩) hS (fun q _ h => hFc q h) hFc (fun r2 u t H locs ht hvm hw3 hB _ _ hS => ?_)
  obtain ⟨hT, hF1⟩ := hB
  rw [ht] at hT hF1
  have hF := hF.more hF1 (by decide)
  try dsimp only at hw3
  obtain ⟨h5, hi6⟩ := hw3
  refine lv_iconst (v := 1) hx hb dX12_mayBuild_10 (by decide) ?_
  have hFc := gA_free hG hA hS
  refine va_calli (va_runV (As := [.int r2, .int 1]) (rest := []) ⟨hx, hb, hml, hown, hts⟩ (s_throwsIf l dC dI kA adK adV G H q wZ wN wH wB wC wL wK wU wV PI im PM PT lS lB lE lN o0 r2 1 hT hr_o0 (by have q8 := ti_all r2; omega) hgz hgn hgh hgb hgc hgi hgu) (cwV 2 hts (goodIn_app (goodIn_r _ [10, 11, 12, 6] rfl (by decide +kernel)) (goodIn_ca (goodIn_r _ [9, 1] rfl (by decide +kernel)) (bs_in _ _))) rfl rfl rfl (by decide +kernel) ⟨(Nat.le_of_ble_eq_true rfl), (Nat.le_of_ble_eq_true rfl)⟩) ⟨fun a U g mk q => by obtain ⟨q0, q1, qK, qE⟩ := q; exact ⟨q0, q1, va_K.moved (u := U) (U := U.calling g mk a) (Vm.Alike.refl U.vm) qK, EVS.blind g mk a qE⟩, gH_rc hK hT hr_o0 shm_0 rfl, fun U hU hW => ⟨rfl, hU, va_K.moved hW.alike hK, hE.call hS hFc hU hW⟩⟩ rfl rfl hl.1 rfl (lv_room (Nat.le_of_ble_eq_true rfl)) dX12_mayBuild_11 ⟨(Nat.le_of_ble_eq_true rfl), (Nat.le_of_ble_eq_true rfl)⟩) hS (fun q _ h => hFc q h) hFc (fun r7 u t H locs ht hvm hw8 hB _ _ hS => ?_)
  obtain ⟨hT, hF1⟩ := hB
  rw [ht] at hT hF1
  have hF := hF.more hF1 (by decide)
  try dsimp only at hw8
  obtain ⟨h10, hd11⟩ := hw8
  obtain rfl : r2 = r7 := hd11.symm
  refine lv_if_ne (tgt := 29) hx hb dX12_mayBuild_14 (by decide) (fun c12 => ?_) (fun c12 => ?_)
  · have t13 : r2.toInt ≠ 0 := ti_ne c12 rfl (by decide)
    refine lv_iconst (v := 0) hx hb dX12_mayBuild_29 (by decide) ?_
    exact W.zret (v := 0) hx hb hr (by decide) (fun t ht hW => ⟨⟨0, (), rfl, (by exact (rg_t (a := 0) (by decide) (by first | decide | omega) (by first | decide | omega))), by (try dsimp only); rw [ht]; exact ⟨hT, hF⟩⟩, hS.F ht⟩) hS.2.2 dX12_mayBuild_30
  · have t14 : r2.toInt = 0 := ti_eq c12 rfl (by decide)
    have t15 : 0 ≤ p0.toInt ∧ p0.toInt ≤ 95 := hi6 c12
    refine lv_aload_n hx hb dX12_mayBuild_17 rfl (lv_at hl 0 rfl) ?_
    refine lv_iload_n hx hb dX12_mayBuild_18 rfl (lv_at hl 1 rfl) ?_
    have hFc := gA_free hG hA hS
    refine va_calli (va_runV (As := [.int p0]) (rest := []) ⟨hx, hb, hml, hown, hts⟩ (s_mayBuildOn l dC dI kA adK adV G H q wZ wN wH wB wC wL wK wU wV PI im PM PT lS lB lE lN o0 p0 hT hr_o0 hgz hgn hgh hgb hgc hgi hgu) (cwV 1 hts (goodIn_app (goodIn_r _ [40, 41, 42, 6] rfl (by decide +kernel)) (goodIn_ca (goodIn_r _ [13, 14, 15, 16, 17, 18, 19, 20, 6, 21, 22, 23, 24, 25, 26, 27, 28, 29, 30, 31, 32, 33, 34, 35, 36, 37, 38, 39] rfl (by decide +kernel)) (bs_in _ _))) rfl rfl rfl (by decide +kernel) ⟨(Nat.le_of_ble_eq_true rfl), (Nat.le_of_ble_eq_true rfl)⟩) ⟨fun a U g mk q => by obtain ⟨q0, q1, qK, qE⟩ := q; exact ⟨q0, q1, va_K.moved (u := U) (U := U.calling g mk a) (Vm.Alike.refl U.vm) qK, EVS.blind g mk a qE⟩, gH_rc hK hT hr_o0 shm_0 rfl, fun U hU hW => ⟨rfl, hU, va_K.moved hW.alike hK, hE.call hS hFc hU hW⟩⟩ rfl rfl hl.1 rfl (lv_room (Nat.le_of_ble_eq_true rfl)) dX12_mayBuild_19 ⟨(Nat.le_of_ble_eq_true rfl), (Nat.le_of_ble_eq_true rfl)⟩) hS (fun q _ h => hFc q h) hFc (fun r16 u t H locs ht hvm hw17 hB _ _ hS => ?_)
    obtain ⟨hT, hF1⟩ := hB
    rw [ht] at hT hF1
    have hF := hF.more hF1 (by decide)
    try dsimp only at hw17
    have h18 := hw17
    refine lv_if_eq (tgt := 29) hx hb dX12_mayBuild_22 (by decide) (fun c19 => ?_) (fun c19 => ?_)
    · have t20 : r16.toInt = 0 := ti_eq c19 rfl (by decide)
      refine lv_iconst (v := 0) hx hb dX12_mayBuild_29 (by decide) ?_
      exact W.zret (v := 0) hx hb hr (by decide) (fun t ht hW => ⟨⟨0, (), rfl, (by exact (rg_t (a := 0) (by decide) (by first | decide | omega) (by first | decide | omega))), by (try dsimp only); rw [ht]; exact ⟨hT, hF⟩⟩, hS.F ht⟩) hS.2.2 dX12_mayBuild_30
    · have t21 : r16.toInt ≠ 0 := ti_ne c19 rfl (by decide)
      refine lv_iconst (v := 1) hx hb dX12_mayBuild_25 (by decide) ?_
      refine lv_goto (tgt := 30) hx hb dX12_mayBuild_26 (by decide) ?_
      exact W.zret (v := 1) hx hb hr (by decide) (fun t ht hW => ⟨⟨1, (), rfl, (by exact (rg_t (a := 1) (by decide) (by first | decide | omega) (by first | decide | omega))), by (try dsimp only); rw [ht]; exact ⟨hT, hF⟩⟩, hS.F ht⟩) hS.2.2 dX12_mayBuild_30
def w_s_measure : List Cond := .code yX12_measure cX12_measure 3 (some .boolean) :: (HAppend.hAppend (α := List Cond) (β := List Cond) (γ := List Cond) [.fieldLink RX12 194 "SeaLandModel" "thrown" "I", .code yX12_noContract cX12_noContract 2 (some .boolean), .fieldLink RX12 533 "SeaLandModel" "contracts" "I", .code yX12_in cX12_in 3 (some .boolean), .methodLink RX12 197 yX12_in, .static yX12_in, .initialized RX12, .methodLink RX12 539 yX12_noContract, .instanceMethod yX12_noContract, .selects RX12 yX12_noContract yX12_noContract, .code yX12_throwsIf cX12_throwsIf 3 (some .boolean), .methodLink RX12 224 yX12_throwsIf, .instanceMethod yX12_throwsIf, .selects RX12 yX12_throwsIf yX12_throwsIf, .fieldLink RX12 158 "SeaLandModel" "isPaid" "[Z", .fieldLink RX12 155 "SeaLandModel" "isMeasured" "[Z", .fieldLink RX12 149 "SeaLandModel" "kLow" "[I", .fieldLink RX12 146 "SeaLandModel" "kBound" "[I", .methodLink RX12 211 Lib.Math.max.name, .static Lib.Math.max.name, .initialized "java/lang/Math", .code Lib.Math.max.name Lib.Math.max.code 2 (some .int), .fieldLink RX12 152 "SeaLandModel" "kHigh" "[I", .methodLink RX12 207 Lib.Math.min.name, .static Lib.Math.min.name, .code Lib.Math.min.name Lib.Math.min.code 2 (some .int), .code yX12_hasSpan cX12_hasSpan 2 (some .boolean), .methodLink RX12 542 yX12_hasSpan, .instanceMethod yX12_hasSpan, .selects RX12 yX12_hasSpan yX12_hasSpan] bs)
set_option maxHeartbeats 4000000 in
set_option maxRecDepth 100000 in
theorem s_measure (l : Launch) (dC : Nat → ClassId) (dI : Nat → Nat → Nat) (kA : Nat → ClassId) (adK adV : Nat → Nat) (G : gT) (H0 : Heap) (q : Nat → Nat) (wZ wN : Nat → Int) (wH wB wC : Int) (wL wK : Nat → Prop) (wU wV : Nat → Nat) (PI : Nat → Int → Prop) (im : Int) (PM PT : Nat → Int → Prop) (lS lB lE : Nat → Nat → Int → Prop) (lN : Nat → Int) (o0 : Nat) (p0 : Int32) (p1 : Int32)  (hT : gH (dC, dI) kA (SHm q (wP wZ wN wH wB wC wL wK wU wV) PI im PM PT lS lB lE lN) G H0) (hr_o0 : G o0 = some 0) (hgz : ∀ i, 0 ≤ wZ i) (hgn : ∀ i, 6500000 ≤ wN i ∧ wN i ≤ 20200000) (hgh : 0 ≤ wH ∧ wH ≤ 40000) (hgb : 0 ≤ wB ∧ wB ≤ 3850000) (hgc : 0 ≤ wC ∧ wC ≤ 30) (hgi : 0 ≤ im ∧ im ≤ 1) (hgu : ∀ a t, G a = some (t + 1) → a = q t) : Met l yX12_measure w_s_measure ({ frames := 2, cells := 0, slots := 0, locals := 43 }) (va_Pc [.ref o0, .int p0, .int p1] (fun U => U.heap = H0 ∧ va_K (dC, dI) vwCl (tyl kA) U ∧ EVS adK adV (gA G H0.size) U U.heap)) (va_Qi (fun (r : Int32) (u : Unit) => (0 ≤ r.toInt ∧ r.toInt ≤ 1)) (fun (_ : Unit) (t : State) => gH (dC, dI) kA (SHm q (wP wZ wN wH wB wC wL wK wU wV) PI im PM PT lS lB lE lN) G t.heap ∧ gF (dC, dI) SKm G ([(0, 0), (61, 0), (62, 0), (63, 0)] : List (Nat × Nat)) H0 t.heap) (gA G H0.size)) 0 0 (gA G H0.size) := by
  refine Met.ofW (cc := cX12_measure) (maxL := 3) (ret := (some .boolean)) (by decide) rfl ?_
  intro p e s m args below meth c s₁ B hml hv
  obtain ⟨rfl, hH0, hK, hE⟩ := hv
  have hx := B.exec
  have hb := B.bytes
  have hr := B.returns
  have hts := atoms_spec (ws := w_s_measure) B.pre
  have hown : s.vm.findClass RX12 = some m.cls := findClass_of_methodNamed B.named
  have hlocks := B.notSynchronized
  subst hH0
  generalize hAe : gA G s.heap.size = A at hE ⊢
  have hA : ∀ q : Nat, s.heap.size ≤ q → A q := fun q h => by rw [← hAe]; exact Or.inr h
  have hG := gA_of hAe
  have hS : va_S A s.heap s.heap [] := va_S.rf
  have hF : gF (dC, dI) SKm G ([(0, 0), (61, 0), (62, 0), (63, 0)] : List (Nat × Nat)) s.heap s.heap := gF.rf
  have hl := lv_entry ([.ref o0, .int p0, .int p1]) (n := 3) (Nat.le_of_ble_eq_true rfl)
  rw [lg_entry_eq]
  generalize (lg_sl ([.ref o0, .int p0, .int p1]) ++ List.replicate (3 - (lg_sl ([.ref o0, .int p0, .int p1])).length) Slot.unset).toArray = ls at hl ⊢
  have hl : lv_has ls 3 [(0, .ref o0), (1, .int p0), (2, .int p1)] := hl
  refine lv_aload_n hx hb dX12_measure_0 rfl (lv_at hl 0 rfl) ?_
  refine lv_iconst (v := 0) hx hb dX12_measure_1 (by decide) ?_
  refine tw_put (v := .int 0) (ty := .int) hx hb hts bF_X12 tyX12 tyX12_ok nmX12 hown hK hT hG hS hr_o0 shm_0 rfl 0 (by decide) (ht_at hts 0 rfl) (fun _ h9 => h9) rfl (by decide +kernel) rfl rfl (gl_at rfl (gi_all _)) dX12_measure_2 (fun H locs hT oq m1 oj hS => ?_)
  have hF := hF.put hr_o0 skm_0 oq oj (by decide)
  refine lv_aload_n hx hb dX12_measure_5 rfl (lv_at hl 0 rfl) ?_
  refine lv_aload_n hx hb dX12_measure_6 rfl (lv_at hl 0 rfl) ?_
  refine lv_iload_n hx hb dX12_measure_7 rfl (lv_at hl 1 rfl) ?_
  have hFc := gA_free hG hA hS
  refine va_calli (va_runV (As := [.int p0]) (rest := [.ref o0]) ⟨hx, hb, hml, hown, hts⟩ (s_noContract l dC dI kA adK adV G H q wZ wN wH wB wC wL wK wU wV PI im PM PT lS lB lE lN o0 p0 hT hr_o0 hgz hgn hgh hgb hgc hgi hgu) (cwV 1 hts (goodIn_app (goodIn_r _ [8, 9, 10, 7] rfl (by decide +kernel)) (goodIn_ca (goodIn_r _ [2, 3, 4, 5, 6, 7] rfl (by decide +kernel)) (bs_in _ _))) rfl rfl rfl (by decide +kernel) ⟨(Nat.le_of_ble_eq_true rfl), (Nat.le_of_ble_eq_true rfl)⟩) ⟨fun a U g mk q => by obtain ⟨q0, q1, qK, qE⟩ := q; exact ⟨q0, q1, va_K.moved (u := U) (U := U.calling g mk a) (Vm.Alike.refl U.vm) qK, EVS.blind g mk a qE⟩, gH_rc hK hT hr_o0 shm_0 rfl, fun U hU hW => ⟨rfl, hU, va_K.moved hW.alike hK, hE.call hS hFc hU hW⟩⟩ rfl rfl hl.1 rfl (lv_room (Nat.le_of_ble_eq_true rfl)) dX12_measure_8 ⟨(Nat.le_of_ble_eq_true rfl), (Nat.le_of_ble_eq_true rfl)⟩) hS (fun q _ h => hFc q h) hFc (fun r2 u t H locs ht hvm hw3 hB _ _ hS => ?_)
  obtain ⟨hT, hF1⟩ := hB
  rw [ht] at hT hF1
  have hF := hF.more hF1 (by decide)
  try dsimp only at hw3
  obtain ⟨h5, hi6⟩ := hw3
  refine lv_iconst (v := 1) hx hb dX12_measure_11 (by decide) ?_
  have hFc := gA_free hG hA hS
  refine va_calli (va_runV (As := [.int r2, .int 1]) (rest := []) ⟨hx, hb, hml, hown, hts⟩ (s_throwsIf l dC dI kA adK adV G H q wZ wN wH wB wC wL wK wU wV PI im PM PT lS lB lE lN o0 r2 1 hT hr_o0 (by have q8 := ti_all r2; omega) hgz hgn hgh hgb hgc hgi hgu) (cwV 2 hts (goodIn_app (goodIn_r _ [12, 13, 14, 7] rfl (by decide +kernel)) (goodIn_ca (goodIn_r _ [11, 1] rfl (by decide +kernel)) (bs_in _ _))) rfl rfl rfl (by decide +kernel) ⟨(Nat.le_of_ble_eq_true rfl), (Nat.le_of_ble_eq_true rfl)⟩) ⟨fun a U g mk q => by obtain ⟨q0, q1, qK, qE⟩ := q; exact ⟨q0, q1, va_K.moved (u := U) (U := U.calling g mk a) (Vm.Alike.refl U.vm) qK, EVS.blind g mk a qE⟩, gH_rc hK hT hr_o0 shm_0 rfl, fun U hU hW => ⟨rfl, hU, va_K.moved hW.alike hK, hE.call hS hFc hU hW⟩⟩ rfl rfl hl.1 rfl (lv_room (Nat.le_of_ble_eq_true rfl)) dX12_measure_12 ⟨(Nat.le_of_ble_eq_true rfl), (Nat.le_of_ble_eq_true rfl)⟩) hS (fun q _ h => hFc q h) hFc (fun r7 u t H locs ht hvm hw8 hB _ _ hS => ?_)
  obtain ⟨hT, hF1⟩ := hB
  rw [ht] at hT hF1
  have hF := hF.more hF1 (by decide)
  try dsimp only at hw8
  obtain ⟨h10, hd11⟩ := hw8
  obtain rfl : r2 = r7 := hd11.symm
  refine lv_if_ne (tgt := 56) hx hb dX12_measure_15 (by decide) (fun c12 => ?_) (fun c12 => ?_)
  · have t13 : r2.toInt ≠ 0 := ti_ne c12 rfl (by decide)
    refine lv_iconst (v := 0) hx hb dX12_measure_56 (by decide) ?_
    exact W.zret (v := 0) hx hb hr (by decide) (fun t ht hW => ⟨⟨0, (), rfl, (by exact (rg_t (a := 0) (by decide) (by first | decide | omega) (by first | decide | omega))), by (try dsimp only); rw [ht]; exact ⟨hT, hF⟩⟩, hS.F ht⟩) hS.2.2 dX12_measure_57
  · have t14 : r2.toInt = 0 := ti_eq c12 rfl (by decide)
    have t15 : 0 ≤ p0.toInt ∧ p0.toInt ≤ 39 := hi6 c12
    refine lv_aload_n hx hb dX12_measure_18 rfl (lv_at hl 0 rfl) ?_
    refine lv_iload_n hx hb dX12_measure_19 rfl (lv_at hl 2 rfl) ?_
    refine lv_iconst (v := 0) hx hb dX12_measure_20 (by decide) ?_
    refine lv_sipush (v := 2000) hx hb dX12_measure_21 (by decide) ?_
    have hFc := gA_free hG hA hS
    refine va_calli (va_runS (As := [.int p1, .int 0, .int 2000]) (rest := [.ref o0]) ⟨hx, hb, hml, hown, hts⟩ (s_in l dC dI kA adK adV G H q wZ wN wH wB wC wL wK wU wV PI im PM PT lS lB lE lN p1 0 2000 hT hgz hgn hgh hgb hgc hgi hgu) (va_cwS 3 hts (goodIn_app (goodIn_r _ [5, 6, 7] rfl (by decide +kernel)) (goodIn_ca (goodIn_r _ [4] rfl (by decide +kernel)) (bs_in _ _))) rfl rfl rfl (by decide +kernel) ⟨(Nat.le_of_ble_eq_true rfl), (Nat.le_of_ble_eq_true rfl)⟩) ⟨fun a U g mk q => by obtain ⟨q0, q1, qK, qE⟩ := q; exact ⟨q0, q1, va_K.moved (u := U) (U := U.calling g mk a) (Vm.Alike.refl U.vm) qK, EVS.blind g mk a qE⟩, fun U hU hW => ⟨rfl, hU, va_K.moved hW.alike hK, hE.call hS hFc hU hW⟩⟩ rfl rfl hl.1 rfl (lv_room (Nat.le_of_ble_eq_true rfl)) dX12_measure_24 ⟨(Nat.le_of_ble_eq_true rfl), (Nat.le_of_ble_eq_true rfl)⟩) hS (fun q _ h => hFc q h) hFc (fun r16 u t H locs ht hvm hw17 hB _ _ hS => ?_)
    obtain ⟨hT, hF1⟩ := hB
    rw [ht] at hT hF1
    have hF := hF.more hF1 (by decide)
    try dsimp only at hw17
    obtain ⟨h18, hi19, hi20⟩ := hw17
    refine lv_if_ne (tgt := 34) hx hb dX12_measure_27 (by decide) (fun c21 => ?_) (fun c21 => ?_)
    · have t22 : r16.toInt ≠ 0 := ti_ne c21 rfl (by decide)
      have t23 : (2000 : Int32).toInt = 2000 := by decide
      have t24 : (0 : Int32).toInt = 0 := by decide
      have t25 : (0 : Int32).toInt ≤ p1.toInt ∧ p1.toInt ≤ (2000 : Int32).toInt := hi19 ((bit_of ⟨by omega, by omega⟩).resolve_left c21)
      refine lv_iconst (v := 0) hx hb dX12_measure_34 (by decide) ?_
      refine lv_iconst (v := 2) hx hb dX12_measure_35 (by decide) ?_
      have hFc := gA_free hG hA hS
      refine va_calli (va_runV (As := [.int 0, .int 2]) (rest := []) ⟨hx, hb, hml, hown, hts⟩ (s_throwsIf l dC dI kA adK adV G H q wZ wN wH wB wC wL wK wU wV PI im PM PT lS lB lE lN o0 0 2 hT hr_o0 (rg_t (a := 0) (by decide) (by first | decide | omega) (by first | decide | omega)) hgz hgn hgh hgb hgc hgi hgu) (cwV 2 hts (goodIn_app (goodIn_r _ [12, 13, 14, 7] rfl (by decide +kernel)) (goodIn_ca (goodIn_r _ [11, 1] rfl (by decide +kernel)) (bs_in _ _))) rfl rfl rfl (by decide +kernel) ⟨(Nat.le_of_ble_eq_true rfl), (Nat.le_of_ble_eq_true rfl)⟩) ⟨fun a U g mk q => by obtain ⟨q0, q1, qK, qE⟩ := q; exact ⟨q0, q1, va_K.moved (u := U) (U := U.calling g mk a) (Vm.Alike.refl U.vm) qK, EVS.blind g mk a qE⟩, gH_rc hK hT hr_o0 shm_0 rfl, fun U hU hW => ⟨rfl, hU, va_K.moved hW.alike hK, hE.call hS hFc hU hW⟩⟩ rfl rfl hl.1 rfl (lv_room (Nat.le_of_ble_eq_true rfl)) dX12_measure_36 ⟨(Nat.le_of_ble_eq_true rfl), (Nat.le_of_ble_eq_true rfl)⟩) hS (fun q _ h => hFc q h) hFc (fun r26 u t H locs ht hvm hw27 hB _ _ hS => ?_)
      obtain ⟨hT, hF1⟩ := hB
      rw [ht] at hT hF1
      have hF := hF.more hF1 (by decide)
      try dsimp only at hw27
      obtain ⟨h28, hd29⟩ := hw27
      obtain rfl : (0 : Int32) = r26 := hd29.symm
      refine lv_if_ne (tgt := 56) hx hb dX12_measure_39 (by decide) (fun c30 => absurd c30 (by decide)) (fun c30 => ?_)
      refine lv_aload_n hx hb dX12_measure_42 rfl (lv_at hl 0 rfl) ?_
      refine lv_aload_n hx hb dX12_measure_43 rfl (lv_at hl 0 rfl) ?_
      refine tw_get hx hb hts bF_X12 hown hK hT hr_o0 shm_0 rfl 63 (by decide) (ht_at hts 14 rfl) (fun _ h9 => h9) dX12_measure_44 (fun v9 m31 h9 => ?_)
      obtain ⟨rfl, hg32⟩ := h9 _ rfl
      refine lv_iload_n hx hb dX12_measure_47 rfl (lv_at hl 1 rfl) ?_
      refine tw_zald (i := p0) hx hb hK hT hg32 shm_64 rfl (vin_t (a := p0.toInt) rfl (by omega) (by omega)) dX12_measure_48 (fun v9 m33 h9 => ?_)
      obtain ⟨x34, rfl, gx34, kx34⟩ := h9
      refine lv_iconst (v := 3) hx hb dX12_measure_49 (by decide) ?_
      have hFc := gA_free hG hA hS
      refine va_calli (va_runV (As := [.int x34, .int 3]) (rest := []) ⟨hx, hb, hml, hown, hts⟩ (s_throwsIf l dC dI kA adK adV G H q wZ wN wH wB wC wL wK wU wV PI im PM PT lS lB lE lN o0 x34 3 hT hr_o0 (by have q8 := ti_all x34; omega) hgz hgn hgh hgb hgc hgi hgu) (cwV 2 hts (goodIn_app (goodIn_r _ [12, 13, 14, 7] rfl (by decide +kernel)) (goodIn_ca (goodIn_r _ [11, 1] rfl (by decide +kernel)) (bs_in _ _))) rfl rfl rfl (by decide +kernel) ⟨(Nat.le_of_ble_eq_true rfl), (Nat.le_of_ble_eq_true rfl)⟩) ⟨fun a U g mk q => by obtain ⟨q0, q1, qK, qE⟩ := q; exact ⟨q0, q1, va_K.moved (u := U) (U := U.calling g mk a) (Vm.Alike.refl U.vm) qK, EVS.blind g mk a qE⟩, gH_rc hK hT hr_o0 shm_0 rfl, fun U hU hW => ⟨rfl, hU, va_K.moved hW.alike hK, hE.call hS hFc hU hW⟩⟩ rfl rfl hl.1 rfl (lv_room (Nat.le_of_ble_eq_true rfl)) dX12_measure_50 ⟨(Nat.le_of_ble_eq_true rfl), (Nat.le_of_ble_eq_true rfl)⟩) hS (fun q _ h => hFc q h) hFc (fun r35 u t H locs ht hvm hw36 hB _ _ hS => ?_)
      obtain ⟨hT, hF1⟩ := hB
      rw [ht] at hT hF1
      have hF := hF.more hF1 (by decide)
      try dsimp only at hw36
      obtain ⟨h38, hd39⟩ := hw36
      obtain rfl : x34 = r35 := hd39.symm
      refine lv_if_eq (tgt := 58) hx hb dX12_measure_53 (by decide) (fun c40 => ?_) (fun c40 => ?_)
      · have t41 : x34.toInt = 0 := ti_eq c40 rfl (by decide)
        refine lv_aload_n hx hb dX12_measure_58 rfl (lv_at hl 0 rfl) ?_
        refine tw_get hx hb hts bF_X12 hown hK hT hr_o0 shm_0 rfl 62 (by decide) (ht_at hts 15 rfl) (fun _ h9 => h9) dX12_measure_59 (fun v9 m42 h9 => ?_)
        obtain ⟨rfl, hg43⟩ := h9 _ rfl
        refine lv_iload_n hx hb dX12_measure_62 rfl (lv_at hl 1 rfl) ?_
        refine lv_iconst (v := 1) hx hb dX12_measure_63 (by decide) ?_
        refine tw_zast (i := p0) (x := 1) hx hb hK hT hG hS hg43 shm_63 rfl (vin_t (a := p0.toInt) rfl (by omega) (by omega)) (gi_z (rg_t (a := 1) (by decide) (by first | decide | omega) (by first | decide | omega)) (by decide) (by decide)) dX12_measure_64 (fun H locs hT oq m44 oi hS => ?_)
        have hF := hF.ast hg43 skm_63 oq (by decide)
        refine lv_aload_n hx hb dX12_measure_65 rfl (lv_at hl 0 rfl) ?_
        refine tw_get hx hb hts bF_X12 hown hK hT hr_o0 shm_0 rfl 60 (by decide) (ht_at hts 16 rfl) (fun _ h9 => h9) dX12_measure_66 (fun v9 m46 h9 => ?_)
        obtain ⟨rfl, hg47⟩ := h9 _ rfl
        refine lv_iload_n hx hb dX12_measure_69 rfl (lv_at hl 1 rfl) ?_
        refine lv_aload_n hx hb dX12_measure_70 rfl (lv_at hl 0 rfl) ?_
        refine tw_get hx hb hts bF_X12 hown hK hT hr_o0 shm_0 rfl 60 (by decide) (ht_at hts 16 rfl) (fun _ h9 => h9) dX12_measure_71 (fun v9 m48 h9 => ?_)
        obtain ⟨rfl, hg49⟩ := h9 _ rfl
        refine lv_iload_n hx hb dX12_measure_74 rfl (lv_at hl 1 rfl) ?_
        refine tw_iald (i := p0) hx hb hK hT hg47 shm_61 rfl (vin_t (a := p0.toInt) rfl (by omega) (by omega)) dX12_measure_75 (fun v9 m50 h9 => ?_)
        obtain ⟨x51, rfl, gx51, kx51⟩ := h9
        refine lv_iload_n hx hb dX12_measure_76 rfl (lv_at hl 2 rfl) ?_
        refine lv_aload_n hx hb dX12_measure_77 rfl (lv_at hl 0 rfl) ?_
        refine tw_get hx hb hts bF_X12 hown hK hT hr_o0 shm_0 rfl 59 (by decide) (ht_at hts 17 rfl) (fun _ h9 => h9) dX12_measure_78 (fun v9 m52 h9 => ?_)
        obtain ⟨rfl, hg53⟩ := h9 _ rfl
        refine lv_iload_n hx hb dX12_measure_81 rfl (lv_at hl 1 rfl) ?_
        refine tw_iald (i := p0) hx hb hK hT hg53 shm_60 rfl (vin_t (a := p0.toInt) rfl (by omega) (by omega)) dX12_measure_82 (fun v9 m54 h9 => ?_)
        obtain ⟨x55, rfl, gx55, kx55⟩ := h9
        refine lv_isub hx hb dX12_measure_83 ?_
        refine lv_topi (fun x56 ex56 => ?_)
        refine va_mmax hx hb (hml.trans hl.1.symm) hown (ht_at hts 18 rfl) (ht_at hts 19 rfl) (ht_at hts 20 rfl) (ht_at hts 21 rfl) (Nat.le_of_ble_eq_true rfl) (Nat.le_of_ble_eq_true rfl) (Nat.le_of_ble_eq_true rfl) (Nat.le_of_ble_eq_true rfl) dX12_measure_84 ?_
        refine lv_topi (fun x57 ex57 => ?_)
        have t58 : x51.toInt ≤ x57.toInt ∧ x56.toInt ≤ x57.toInt ∧ (x57.toInt = x51.toInt ∨ x57.toInt = x56.toInt) := mx_f ex57 rfl rfl
        refine tw_iast (i := p0) (x := x57) hx hb hK hT hG hS hg47 shm_61 rfl (vin_t (a := p0.toInt) rfl (by omega) (by omega)) (gi_all _) dX12_measure_87 (fun H locs hT oq m59 oi hS => ?_)
        have hF := hF.ast hg47 skm_61 oq (by decide)
        have m61 := (el_kept (oq _ (gne hg53 hg47 (by decide)))).trans m54
        refine lv_aload_n hx hb dX12_measure_88 rfl (lv_at hl 0 rfl) ?_
        refine tw_get hx hb hts bF_X12 hown hK hT hr_o0 shm_0 rfl 61 (by decide) (ht_at hts 22 rfl) (fun _ h9 => h9) dX12_measure_89 (fun v9 m62 h9 => ?_)
        obtain ⟨rfl, hg63⟩ := h9 _ rfl
        refine lv_iload_n hx hb dX12_measure_92 rfl (lv_at hl 1 rfl) ?_
        refine lv_aload_n hx hb dX12_measure_93 rfl (lv_at hl 0 rfl) ?_
        refine tw_get hx hb hts bF_X12 hown hK hT hr_o0 shm_0 rfl 61 (by decide) (ht_at hts 22 rfl) (fun _ h9 => h9) dX12_measure_94 (fun v9 m64 h9 => ?_)
        obtain ⟨rfl, hg65⟩ := h9 _ rfl
        refine lv_iload_n hx hb dX12_measure_97 rfl (lv_at hl 1 rfl) ?_
        refine tw_iald (i := p0) hx hb hK hT hg63 shm_62 rfl (vin_t (a := p0.toInt) rfl (by omega) (by omega)) dX12_measure_98 (fun v9 m66 h9 => ?_)
        obtain ⟨x67, rfl, gx67, kx67⟩ := h9
        refine lv_iload_n hx hb dX12_measure_99 rfl (lv_at hl 2 rfl) ?_
        refine lv_aload_n hx hb dX12_measure_100 rfl (lv_at hl 0 rfl) ?_
        refine tw_get hx hb hts bF_X12 hown hK hT hr_o0 shm_0 rfl 59 (by decide) (ht_at hts 17 rfl) (fun _ h9 => h9) dX12_measure_101 (fun v9 m68 h9 => ?_)
        obtain ⟨rfl, hg69⟩ := h9 _ rfl
        refine lv_iload_n hx hb dX12_measure_104 rfl (lv_at hl 1 rfl) ?_
        refine tw_iald (i := p0) hx hb hK hT hg53 shm_60 rfl (vin_t (a := p0.toInt) rfl (by omega) (by omega)) dX12_measure_105 (fun v9 m70 h9 => ?_)
        obtain ⟨x71, rfl, gx71, kx71⟩ := h9
        obtain rfl : x55 = x71 := (el_same m70 m61 rfl).symm
        refine lv_iadd hx hb dX12_measure_106 ?_
        refine lv_topi (fun x72 ex72 => ?_)
        refine va_mmin hx hb (hml.trans hl.1.symm) hown (ht_at hts 23 rfl) (ht_at hts 24 rfl) (ht_at hts 20 rfl) (ht_at hts 25 rfl) (Nat.le_of_ble_eq_true rfl) (Nat.le_of_ble_eq_true rfl) (Nat.le_of_ble_eq_true rfl) (Nat.le_of_ble_eq_true rfl) dX12_measure_107 ?_
        refine lv_topi (fun x73 ex73 => ?_)
        have t74 : x73.toInt ≤ x67.toInt ∧ x73.toInt ≤ x72.toInt ∧ (x73.toInt = x67.toInt ∨ x73.toInt = x72.toInt) := mn_f ex73 rfl rfl
        refine tw_iast (i := p0) (x := x73) hx hb hK hT hG hS hg63 shm_62 rfl (vin_t (a := p0.toInt) rfl (by omega) (by omega)) (gi_all _) dX12_measure_110 (fun H locs hT oq m75 oi hS => ?_)
        have hF := hF.ast hg63 skm_62 oq (by decide)
        refine lv_aload_n hx hb dX12_measure_111 rfl (lv_at hl 0 rfl) ?_
        refine lv_iload_n hx hb dX12_measure_112 rfl (lv_at hl 1 rfl) ?_
        have hFc := gA_free hG hA hS
        refine va_calli (va_runV (As := [.int p0]) (rest := []) ⟨hx, hb, hml, hown, hts⟩ (s_hasSpan l dC dI kA adK adV G H q wZ wN wH wB wC wL wK wU wV PI im PM PT lS lB lE lN o0 p0 hT hr_o0 (by have q8 := ti_all p0; omega) hgz hgn hgh hgb hgc hgi hgu) (cwV 1 hts (goodIn_app (goodIn_r _ [28, 29, 30, 7] rfl (by decide +kernel)) (goodIn_ca (goodIn_r _ [27, 16, 17, 23] rfl (by decide +kernel)) (bs_in _ _))) rfl rfl rfl (by decide +kernel) ⟨(Nat.le_of_ble_eq_true rfl), (Nat.le_of_ble_eq_true rfl)⟩) ⟨fun a U g mk q => by obtain ⟨q0, q1, qK, qE⟩ := q; exact ⟨q0, q1, va_K.moved (u := U) (U := U.calling g mk a) (Vm.Alike.refl U.vm) qK, EVS.blind g mk a qE⟩, gH_rc hK hT hr_o0 shm_0 rfl, fun U hU hW => ⟨rfl, hU, va_K.moved hW.alike hK, hE.call hS hFc hU hW⟩⟩ rfl rfl hl.1 rfl (lv_room (Nat.le_of_ble_eq_true rfl)) dX12_measure_113 ⟨(Nat.le_of_ble_eq_true rfl), (Nat.le_of_ble_eq_true rfl)⟩) hS (fun q _ h => hFc q h) hFc (fun r79 u t H locs ht hvm hw80 hB _ _ hS => ?_)
        obtain ⟨hT, hF1⟩ := hB
        rw [ht] at hT hF1
        have hF := hF.more hF1 (by decide)
        try dsimp only at hw80
        have h85 := hw80
        exact W.zret (v := r79) hx hb hr (nar_b (by have q8 := ti_all r79; omega)) (fun t ht hW => ⟨⟨r79, (), rfl, (by exact (by have q8 := ti_all r79; omega)), by (try dsimp only); rw [ht]; exact ⟨hT, hF⟩⟩, hS.F ht⟩) hS.2.2 dX12_measure_116
      · have t86 : x34.toInt ≠ 0 := ti_ne c40 rfl (by decide)
        refine lv_iconst (v := 0) hx hb dX12_measure_56 (by decide) ?_
        exact W.zret (v := 0) hx hb hr (by decide) (fun t ht hW => ⟨⟨0, (), rfl, (by exact (rg_t (a := 0) (by decide) (by first | decide | omega) (by first | decide | omega))), by (try dsimp only); rw [ht]; exact ⟨hT, hF⟩⟩, hS.F ht⟩) hS.2.2 dX12_measure_57
    · have t87 : r16.toInt = 0 := ti_eq c21 rfl (by decide)
      have t88 : (2000 : Int32).toInt = 2000 := by decide
      have t89 : (0 : Int32).toInt = 0 := by decide
      have t90 : p1.toInt < (0 : Int32).toInt ∨ (2000 : Int32).toInt < p1.toInt := hi20 c21
      refine lv_iconst (v := 1) hx hb dX12_measure_30 (by decide) ?_
      refine lv_goto (tgt := 35) hx hb dX12_measure_31 (by decide) ?_
      refine lv_iconst (v := 2) hx hb dX12_measure_35 (by decide) ?_
      have hFc := gA_free hG hA hS
      refine va_calli (va_runV (As := [.int 1, .int 2]) (rest := []) ⟨hx, hb, hml, hown, hts⟩ (s_throwsIf l dC dI kA adK adV G H q wZ wN wH wB wC wL wK wU wV PI im PM PT lS lB lE lN o0 1 2 hT hr_o0 (rg_t (a := 1) (by decide) (by first | decide | omega) (by first | decide | omega)) hgz hgn hgh hgb hgc hgi hgu) (cwV 2 hts (goodIn_app (goodIn_r _ [12, 13, 14, 7] rfl (by decide +kernel)) (goodIn_ca (goodIn_r _ [11, 1] rfl (by decide +kernel)) (bs_in _ _))) rfl rfl rfl (by decide +kernel) ⟨(Nat.le_of_ble_eq_true rfl), (Nat.le_of_ble_eq_true rfl)⟩) ⟨fun a U g mk q => by obtain ⟨q0, q1, qK, qE⟩ := q; exact ⟨q0, q1, va_K.moved (u := U) (U := U.calling g mk a) (Vm.Alike.refl U.vm) qK, EVS.blind g mk a qE⟩, gH_rc hK hT hr_o0 shm_0 rfl, fun U hU hW => ⟨rfl, hU, va_K.moved hW.alike hK, hE.call hS hFc hU hW⟩⟩ rfl rfl hl.1 rfl (lv_room (Nat.le_of_ble_eq_true rfl)) dX12_measure_36 ⟨(Nat.le_of_ble_eq_true rfl), (Nat.le_of_ble_eq_true rfl)⟩) hS (fun q _ h => hFc q h) hFc (fun r91 u t H locs ht hvm hw92 hB _ _ hS => ?_)
      obtain ⟨hT, hF1⟩ := hB
      rw [ht] at hT hF1
      have hF := hF.more hF1 (by decide)
      try dsimp only at hw92
      obtain ⟨h93, hd94⟩ := hw92
      obtain rfl : (1 : Int32) = r91 := hd94.symm
      refine lv_if_ne (tgt := 56) hx hb dX12_measure_39 (by decide) (fun c95 => ?_) (fun c95 => absurd c95 (by decide))
      refine lv_iconst (v := 0) hx hb dX12_measure_56 (by decide) ?_
      exact W.zret (v := 0) hx hb hr (by decide) (fun t ht hW => ⟨⟨0, (), rfl, (by exact (rg_t (a := 0) (by decide) (by first | decide | omega) (by first | decide | omega))), by (try dsimp only); rw [ht]; exact ⟨hT, hF⟩⟩, hS.F ht⟩) hS.2.2 dX12_measure_57
def w_s_pay : List Cond := .code yX12_pay cX12_pay 7 (some .int) :: (HAppend.hAppend (α := List Cond) (β := List Cond) (γ := List Cond) [.fieldLink RX12 194 "SeaLandModel" "thrown" "I", .code yX12_noContract cX12_noContract 2 (some .boolean), .fieldLink RX12 533 "SeaLandModel" "contracts" "I", .code yX12_in cX12_in 3 (some .boolean), .methodLink RX12 197 yX12_in, .static yX12_in, .initialized RX12, .methodLink RX12 539 yX12_noContract, .instanceMethod yX12_noContract, .selects RX12 yX12_noContract yX12_noContract, .code yX12_throwsIf cX12_throwsIf 3 (some .boolean), .methodLink RX12 224 yX12_throwsIf, .instanceMethod yX12_throwsIf, .selects RX12 yX12_throwsIf yX12_throwsIf, .fieldLink RX12 158 "SeaLandModel" "isPaid" "[Z", .code yX12_hasSpan cX12_hasSpan 2 (some .boolean), .fieldLink RX12 155 "SeaLandModel" "isMeasured" "[Z", .fieldLink RX12 149 "SeaLandModel" "kLow" "[I", .fieldLink RX12 152 "SeaLandModel" "kHigh" "[I", .methodLink RX12 542 yX12_hasSpan, .instanceMethod yX12_hasSpan, .selects RX12 yX12_hasSpan yX12_hasSpan, .fieldLink RX12 137 "SeaLandModel" "kWork" "[I", .code yX12_noWork cX12_noWork 2 (some .boolean), .fieldLink RX12 9 "SeaLandModel" "world" "[I", .methodLink RX12 269 yX12_noWork, .instanceMethod yX12_noWork, .selects RX12 yX12_noWork yX12_noWork, .fieldLink RX12 143 "SeaLandModel" "kPrice" "[I", .fieldLink RX12 519 "SeaLandModel" "board" "I", .code yX12_isDike cX12_isDike 2 (some .boolean), .code yX12_of cX12_of 3 (some .int), .code yX12_at cX12_at 2 (some .int), .methodLink RX12 214 yX12_at, .static yX12_at, .methodLink RX12 217 yX12_of, .instanceMethod yX12_of, .selects RX12 yX12_of yX12_of, .methodLink RX12 272 yX12_isDike, .instanceMethod yX12_isDike, .selects RX12 yX12_isDike yX12_isDike, .fieldLink RX12 140 "SeaLandModel" "kClay" "[I", .code yX12_lays cX12_lays 5 none, .fieldLink RX12 238 "SeaLandModel" "rows" "I", .methodLink RX12 275 yX12_lays, .instanceMethod yX12_lays, .selects RX12 yX12_lays yX12_lays] bs)
set_option maxHeartbeats 4000000 in
set_option maxRecDepth 100000 in
theorem s_pay (l : Launch) (dC : Nat → ClassId) (dI : Nat → Nat → Nat) (kA : Nat → ClassId) (adK adV : Nat → Nat) (G : gT) (H0 : Heap) (q : Nat → Nat) (wZ wN : Nat → Int) (wH wB wC : Int) (wL wK : Nat → Prop) (wU wV : Nat → Nat) (PI : Nat → Int → Prop) (im : Int) (PM PT : Nat → Int → Prop) (lS lB lE : Nat → Nat → Int → Prop) (lN : Nat → Int) (o0 : Nat) (p0 : Int32)  (hT : gH (dC, dI) kA (SHm q (wP wZ wN wH wB wC wL wK wU wV) PI im PM PT lS lB lE lN) G H0) (hr_o0 : G o0 = some 0) (hgz : ∀ i, 0 ≤ wZ i) (hgn : ∀ i, 6500000 ≤ wN i ∧ wN i ≤ 20200000) (hgh : 0 ≤ wH ∧ wH ≤ 40000) (hgb : 0 ≤ wB ∧ wB ≤ 3850000) (hgc : 0 ≤ wC ∧ wC ≤ 30) (hgi : 0 ≤ im ∧ im ≤ 1) (hgu : ∀ a t, G a = some (t + 1) → a = q t) : Met l yX12_pay w_s_pay ({ frames := 3, cells := 0, slots := 0, locals := 67 }) (va_Pc [.ref o0, .int p0] (fun U => U.heap = H0 ∧ va_K (dC, dI) vwCl (tyl kA) U ∧ EVS adK adV (gA G H0.size) U U.heap)) (va_Qi (fun (r : Int32) (u : Unit) => True) (fun (_ : Unit) (t : State) => gH (dC, dI) kA (SHm q (wP wZ wN wH wB wC wL wK wU wV) PI im PM PT lS lB lE lN) G t.heap ∧ gF (dC, dI) SKm G ([(0, 0), (0, 9), (0, 48), (2, 0), (64, 0)] : List (Nat × Nat)) H0 t.heap) (gA G H0.size)) 0 0 (gA G H0.size) := by
  refine Met.ofW (cc := cX12_pay) (maxL := 7) (ret := (some .int)) (by decide) rfl ?_
  intro p e s m args below meth c s₁ B hml hv
  obtain ⟨rfl, hH0, hK, hE⟩ := hv
  have hx := B.exec
  have hb := B.bytes
  have hr := B.returns
  have hts := atoms_spec (ws := w_s_pay) B.pre
  have hown : s.vm.findClass RX12 = some m.cls := findClass_of_methodNamed B.named
  have hlocks := B.notSynchronized
  subst hH0
  generalize hAe : gA G s.heap.size = A at hE ⊢
  have hA : ∀ q : Nat, s.heap.size ≤ q → A q := fun q h => by rw [← hAe]; exact Or.inr h
  have hG := gA_of hAe
  have hS : va_S A s.heap s.heap [] := va_S.rf
  have hF : gF (dC, dI) SKm G ([(0, 0), (0, 9), (0, 48), (2, 0), (64, 0)] : List (Nat × Nat)) s.heap s.heap := gF.rf
  have hl := lv_entry ([.ref o0, .int p0]) (n := 7) (Nat.le_of_ble_eq_true rfl)
  rw [lg_entry_eq]
  generalize (lg_sl ([.ref o0, .int p0]) ++ List.replicate (7 - (lg_sl ([.ref o0, .int p0])).length) Slot.unset).toArray = ls at hl ⊢
  have hl : lv_has ls 7 [(0, .ref o0), (1, .int p0)] := hl
  refine lv_aload_n hx hb dX12_pay_0 rfl (lv_at hl 0 rfl) ?_
  refine lv_iconst (v := 0) hx hb dX12_pay_1 (by decide) ?_
  refine tw_put (v := .int 0) (ty := .int) hx hb hts bF_X12 tyX12 tyX12_ok nmX12 hown hK hT hG hS hr_o0 shm_0 rfl 0 (by decide) (ht_at hts 0 rfl) (fun _ h9 => h9) rfl (by decide +kernel) rfl rfl (gl_at rfl (gi_all _)) dX12_pay_2 (fun H locs hT oq m1 oj hS => ?_)
  have hF := hF.put hr_o0 skm_0 oq oj (by decide)
  refine lv_aload_n hx hb dX12_pay_5 rfl (lv_at hl 0 rfl) ?_
  refine lv_aload_n hx hb dX12_pay_6 rfl (lv_at hl 0 rfl) ?_
  refine lv_iload_n hx hb dX12_pay_7 rfl (lv_at hl 1 rfl) ?_
  have hFc := gA_free hG hA hS
  refine va_calli (va_runV (As := [.int p0]) (rest := [.ref o0]) ⟨hx, hb, hml, hown, hts⟩ (s_noContract l dC dI kA adK adV G H q wZ wN wH wB wC wL wK wU wV PI im PM PT lS lB lE lN o0 p0 hT hr_o0 hgz hgn hgh hgb hgc hgi hgu) (cwV 1 hts (goodIn_app (goodIn_r _ [8, 9, 10, 7] rfl (by decide +kernel)) (goodIn_ca (goodIn_r _ [2, 3, 4, 5, 6, 7] rfl (by decide +kernel)) (bs_in _ _))) rfl rfl rfl (by decide +kernel) ⟨(Nat.le_of_ble_eq_true rfl), (Nat.le_of_ble_eq_true rfl)⟩) ⟨fun a U g mk q => by obtain ⟨q0, q1, qK, qE⟩ := q; exact ⟨q0, q1, va_K.moved (u := U) (U := U.calling g mk a) (Vm.Alike.refl U.vm) qK, EVS.blind g mk a qE⟩, gH_rc hK hT hr_o0 shm_0 rfl, fun U hU hW => ⟨rfl, hU, va_K.moved hW.alike hK, hE.call hS hFc hU hW⟩⟩ rfl rfl hl.1 rfl (lv_room (Nat.le_of_ble_eq_true rfl)) dX12_pay_8 ⟨(Nat.le_of_ble_eq_true rfl), (Nat.le_of_ble_eq_true rfl)⟩) hS (fun q _ h => hFc q h) hFc (fun r2 u t H locs ht hvm hw3 hB _ _ hS => ?_)
  obtain ⟨hT, hF1⟩ := hB
  rw [ht] at hT hF1
  have hF := hF.more hF1 (by decide)
  try dsimp only at hw3
  obtain ⟨h5, hi6⟩ := hw3
  refine lv_iconst (v := 1) hx hb dX12_pay_11 (by decide) ?_
  have hFc := gA_free hG hA hS
  refine va_calli (va_runV (As := [.int r2, .int 1]) (rest := []) ⟨hx, hb, hml, hown, hts⟩ (s_throwsIf l dC dI kA adK adV G H q wZ wN wH wB wC wL wK wU wV PI im PM PT lS lB lE lN o0 r2 1 hT hr_o0 (by have q8 := ti_all r2; omega) hgz hgn hgh hgb hgc hgi hgu) (cwV 2 hts (goodIn_app (goodIn_r _ [12, 13, 14, 7] rfl (by decide +kernel)) (goodIn_ca (goodIn_r _ [11, 1] rfl (by decide +kernel)) (bs_in _ _))) rfl rfl rfl (by decide +kernel) ⟨(Nat.le_of_ble_eq_true rfl), (Nat.le_of_ble_eq_true rfl)⟩) ⟨fun a U g mk q => by obtain ⟨q0, q1, qK, qE⟩ := q; exact ⟨q0, q1, va_K.moved (u := U) (U := U.calling g mk a) (Vm.Alike.refl U.vm) qK, EVS.blind g mk a qE⟩, gH_rc hK hT hr_o0 shm_0 rfl, fun U hU hW => ⟨rfl, hU, va_K.moved hW.alike hK, hE.call hS hFc hU hW⟩⟩ rfl rfl hl.1 rfl (lv_room (Nat.le_of_ble_eq_true rfl)) dX12_pay_12 ⟨(Nat.le_of_ble_eq_true rfl), (Nat.le_of_ble_eq_true rfl)⟩) hS (fun q _ h => hFc q h) hFc (fun r7 u t H locs ht hvm hw8 hB _ _ hS => ?_)
  obtain ⟨hT, hF1⟩ := hB
  rw [ht] at hT hF1
  have hF := hF.more hF1 (by decide)
  try dsimp only at hw8
  obtain ⟨h10, hd11⟩ := hw8
  obtain rfl : r2 = r7 := hd11.symm
  refine lv_if_ne (tgt := 35) hx hb dX12_pay_15 (by decide) (fun c12 => ?_) (fun c12 => ?_)
  · have t13 : r2.toInt ≠ 0 := ti_ne c12 rfl (by decide)
    refine lv_aload_n hx hb dX12_pay_35 rfl (lv_at hl 0 rfl) ?_
    refine tw_get hx hb hts bF_X12 hown hK hT hr_o0 shm_0 rfl 0 (by decide) (ht_at hts 0 rfl) (fun _ h9 => h9) dX12_pay_36 (fun v9 m14 h9 => ?_)
    obtain ⟨x15, rfl, gx15, kx15⟩ := h9 _ rfl
    refine lv_if_eq (tgt := 46) hx hb dX12_pay_39 (by decide) (fun c16 => ?_) (fun c16 => ?_)
    · have t17 : x15.toInt = 0 := ti_eq c16 rfl (by decide)
      refine lv_iconst (v := (-1)) hx hb dX12_pay_46 (by decide) ?_
      exact W.iret (v := (-1)) hx hb hr (fun t ht hW => ⟨⟨(-1), (), rfl, (by exact trivial), by (try dsimp only); rw [ht]; exact ⟨hT, hF⟩⟩, hS.F ht⟩) hS.2.2 dX12_pay_47
    · have t18 : x15.toInt ≠ 0 := ti_ne c16 rfl (by decide)
      refine lv_iconst (v := 0) hx hb dX12_pay_42 (by decide) ?_
      refine lv_goto (tgt := 47) hx hb dX12_pay_43 (by decide) ?_
      exact W.iret (v := 0) hx hb hr (fun t ht hW => ⟨⟨0, (), rfl, (by exact trivial), by (try dsimp only); rw [ht]; exact ⟨hT, hF⟩⟩, hS.F ht⟩) hS.2.2 dX12_pay_47
  · have t19 : r2.toInt = 0 := ti_eq c12 rfl (by decide)
    have t20 : 0 ≤ p0.toInt ∧ p0.toInt ≤ 39 := hi6 c12
    refine lv_aload_n hx hb dX12_pay_18 rfl (lv_at hl 0 rfl) ?_
    refine tw_get hx hb hts bF_X12 hown hK hT hr_o0 shm_0 rfl 63 (by decide) (ht_at hts 14 rfl) (fun _ h9 => h9) dX12_pay_19 (fun v9 m21 h9 => ?_)
    obtain ⟨rfl, hg22⟩ := h9 _ rfl
    refine lv_iload_n hx hb dX12_pay_22 rfl (lv_at hl 1 rfl) ?_
    refine tw_zald (i := p0) hx hb hK hT hg22 shm_64 rfl (vin_t (a := p0.toInt) rfl (by omega) (by omega)) dX12_pay_23 (fun v9 m23 h9 => ?_)
    obtain ⟨x24, rfl, gx24, kx24⟩ := h9
    refine lv_if_ne (tgt := 35) hx hb dX12_pay_24 (by decide) (fun c25 => ?_) (fun c25 => ?_)
    · have t26 : x24.toInt ≠ 0 := ti_ne c25 rfl (by decide)
      refine lv_aload_n hx hb dX12_pay_35 rfl (lv_at hl 0 rfl) ?_
      refine tw_get hx hb hts bF_X12 hown hK hT hr_o0 shm_0 rfl 0 (by decide) (ht_at hts 0 rfl) (fun _ h9 => h9) dX12_pay_36 (fun v9 m27 h9 => ?_)
      obtain ⟨x28, rfl, gx28, kx28⟩ := h9 _ rfl
      refine lv_if_eq (tgt := 46) hx hb dX12_pay_39 (by decide) (fun c29 => ?_) (fun c29 => ?_)
      · have t30 : x28.toInt = 0 := ti_eq c29 rfl (by decide)
        refine lv_iconst (v := (-1)) hx hb dX12_pay_46 (by decide) ?_
        exact W.iret (v := (-1)) hx hb hr (fun t ht hW => ⟨⟨(-1), (), rfl, (by exact trivial), by (try dsimp only); rw [ht]; exact ⟨hT, hF⟩⟩, hS.F ht⟩) hS.2.2 dX12_pay_47
      · have t31 : x28.toInt ≠ 0 := ti_ne c29 rfl (by decide)
        refine lv_iconst (v := 0) hx hb dX12_pay_42 (by decide) ?_
        refine lv_goto (tgt := 47) hx hb dX12_pay_43 (by decide) ?_
        exact W.iret (v := 0) hx hb hr (fun t ht hW => ⟨⟨0, (), rfl, (by exact trivial), by (try dsimp only); rw [ht]; exact ⟨hT, hF⟩⟩, hS.F ht⟩) hS.2.2 dX12_pay_47
    · have t32 : x24.toInt = 0 := ti_eq c25 rfl (by decide)
      refine lv_aload_n hx hb dX12_pay_27 rfl (lv_at hl 0 rfl) ?_
      refine lv_iload_n hx hb dX12_pay_28 rfl (lv_at hl 1 rfl) ?_
      have hFc := gA_free hG hA hS
      refine va_calli (va_runV (As := [.int p0]) (rest := []) ⟨hx, hb, hml, hown, hts⟩ (s_hasSpan l dC dI kA adK adV G H q wZ wN wH wB wC wL wK wU wV PI im PM PT lS lB lE lN o0 p0 hT hr_o0 (by have q8 := ti_all p0; omega) hgz hgn hgh hgb hgc hgi hgu) (cwV 1 hts (goodIn_app (goodIn_r _ [20, 21, 22, 7] rfl (by decide +kernel)) (goodIn_ca (goodIn_r _ [16, 17, 18, 19] rfl (by decide +kernel)) (bs_in _ _))) rfl rfl rfl (by decide +kernel) ⟨(Nat.le_of_ble_eq_true rfl), (Nat.le_of_ble_eq_true rfl)⟩) ⟨fun a U g mk q => by obtain ⟨q0, q1, qK, qE⟩ := q; exact ⟨q0, q1, va_K.moved (u := U) (U := U.calling g mk a) (Vm.Alike.refl U.vm) qK, EVS.blind g mk a qE⟩, gH_rc hK hT hr_o0 shm_0 rfl, fun U hU hW => ⟨rfl, hU, va_K.moved hW.alike hK, hE.call hS hFc hU hW⟩⟩ rfl rfl hl.1 rfl (lv_room (Nat.le_of_ble_eq_true rfl)) dX12_pay_29 ⟨(Nat.le_of_ble_eq_true rfl), (Nat.le_of_ble_eq_true rfl)⟩) hS (fun q _ h => hFc q h) hFc (fun r33 u t H locs ht hvm hw34 hB _ _ hS => ?_)
      obtain ⟨hT, hF1⟩ := hB
      rw [ht] at hT hF1
      have hF := hF.more hF1 (by decide)
      try dsimp only at hw34
      have h36 := hw34
      refine lv_if_ne (tgt := 48) hx hb dX12_pay_32 (by decide) (fun c37 => ?_) (fun c37 => ?_)
      · have t38 : r33.toInt ≠ 0 := ti_ne c37 rfl (by decide)
        refine lv_aload_n hx hb dX12_pay_48 rfl (lv_at hl 0 rfl) ?_
        refine tw_get hx hb hts bF_X12 hown hK hT hr_o0 shm_0 rfl 56 (by decide) (ht_at hts 22 rfl) (fun _ h9 => h9) dX12_pay_49 (fun v9 m39 h9 => ?_)
        obtain ⟨rfl, hg40⟩ := h9 _ rfl
        refine lv_iload_n hx hb dX12_pay_52 rfl (lv_at hl 1 rfl) ?_
        refine tw_iald (i := p0) hx hb hK hT hg40 shm_57 rfl (vin_t (a := p0.toInt) rfl (by omega) (by omega)) dX12_pay_53 (fun v9 m41 h9 => ?_)
        obtain ⟨x42, rfl, gx42, kx42⟩ := h9
        refine lv_istore_n (lv' := [(2, .int x42), (0, .ref o0), (1, .int p0)]) hx hb dX12_pay_54 rfl hl (by decide) rfl (fun ls hl => ?_)
        refine lv_aload_n hx hb dX12_pay_55 rfl (lv_at hl 1 rfl) ?_
        refine lv_iload_n hx hb dX12_pay_56 rfl (lv_at hl 0 rfl) ?_
        have hFc := gA_free hG hA hS
        refine va_calli (va_runV (As := [.int x42]) (rest := []) ⟨hx, hb, hml, hown, hts⟩ (s_noWork l dC dI kA adK adV G H q wZ wN wH wB wC wL wK wU wV PI im PM PT lS lB lE lN o0 x42 hT hr_o0 hgz hgn hgh hgb hgc hgi hgu) (cwV 1 hts (goodIn_app (goodIn_r _ [26, 27, 28, 7] rfl (by decide +kernel)) (goodIn_ca (goodIn_r _ [24, 25, 4, 5, 6, 7] rfl (by decide +kernel)) (bs_in _ _))) rfl rfl rfl (by decide +kernel) ⟨(Nat.le_of_ble_eq_true rfl), (Nat.le_of_ble_eq_true rfl)⟩) ⟨fun a U g mk q => by obtain ⟨q0, q1, qK, qE⟩ := q; exact ⟨q0, q1, va_K.moved (u := U) (U := U.calling g mk a) (Vm.Alike.refl U.vm) qK, EVS.blind g mk a qE⟩, gH_rc hK hT hr_o0 shm_0 rfl, fun U hU hW => ⟨rfl, hU, va_K.moved hW.alike hK, hE.call hS hFc hU hW⟩⟩ rfl rfl hl.1 rfl (lv_room (Nat.le_of_ble_eq_true rfl)) dX12_pay_57 ⟨(Nat.le_of_ble_eq_true rfl), (Nat.le_of_ble_eq_true rfl)⟩) hS (fun q _ h => hFc q h) hFc (fun r43 u t H locs ht hvm hw44 hB _ _ hS => ?_)
        obtain ⟨hT, hF1⟩ := hB
        rw [ht] at hT hF1
        have hF := hF.more hF1 (by decide)
        try dsimp only at hw44
        obtain ⟨h47, hi48⟩ := hw44
        refine lv_if_ne (tgt := 75) hx hb dX12_pay_60 (by decide) (fun c49 => ?_) (fun c49 => ?_)
        · have t50 : r43.toInt ≠ 0 := ti_ne c49 rfl (by decide)
          refine lv_iconst (v := 0) hx hb dX12_pay_75 (by decide) ?_
          refine lv_istore_n (lv' := [(3, .int 0), (2, .int x42), (0, .ref o0), (1, .int p0)]) hx hb dX12_pay_76 rfl hl (by decide) rfl (fun ls hl => ?_)
          refine lv_iload_n hx hb dX12_pay_77 rfl (lv_at hl 0 rfl) ?_
          refine lv_if_eq (tgt := 99) hx hb dX12_pay_78 (by decide) (fun c51 => ?_) (fun c51 => absurd c51 (by decide))
          refine lv_iconst (v := 0) hx hb dX12_pay_99 (by decide) ?_
          refine lv_istore (lv' := [(4, .int 0), (3, .int 0), (2, .int x42), (0, .ref o0), (1, .int p0)]) hx hb dX12_pay_100 hl (by decide) rfl (fun ls hl => ?_)
          refine lv_aload_n hx hb dX12_pay_102 rfl (lv_at hl 3 rfl) ?_
          refine tw_get hx hb hts bF_X12 hown hK hT hr_o0 shm_0 rfl 60 (by decide) (ht_at hts 17 rfl) (fun _ h9 => h9) dX12_pay_103 (fun v9 m52 h9 => ?_)
          obtain ⟨rfl, hg53⟩ := h9 _ rfl
          refine lv_iload_n hx hb dX12_pay_106 rfl (lv_at hl 4 rfl) ?_
          refine tw_iald (i := p0) hx hb hK hT hg53 shm_61 rfl (vin_t (a := p0.toInt) rfl (by omega) (by omega)) dX12_pay_107 (fun v9 m54 h9 => ?_)
          obtain ⟨x55, rfl, gx55, kx55⟩ := h9
          refine lv_istore (lv' := [(5, .int x55), (4, .int 0), (3, .int 0), (2, .int x42), (0, .ref o0), (1, .int p0)]) hx hb dX12_pay_108 hl (by decide) rfl (fun ls hl => ?_)
          refine lv_iload hx hb dX12_pay_110 (lv_at hl 0 rfl) ?_
          refine lv_iload hx hb dX12_pay_112 (lv_at hl 1 rfl) ?_
          refine lv_iconst (v := 1) hx hb dX12_pay_114 (by decide) ?_
          refine lv_icmp_ne (tgt := 126) hx hb dX12_pay_115 (by decide) (fun c56 => ?_) (fun c56 => absurd c56 (by decide))
          refine lv_iload hx hb dX12_pay_126 (lv_at hl 1 rfl) ?_
          refine lv_iconst (v := 2) hx hb dX12_pay_128 (by decide) ?_
          refine lv_icmp_ne (tgt := 139) hx hb dX12_pay_129 (by decide) (fun c57 => ?_) (fun c57 => absurd c57 (by decide))
          refine lv_iconst (v := 0) hx hb dX12_pay_139 (by decide) ?_
          refine lv_isub hx hb dX12_pay_140 ?_
          refine lv_topi (fun x58 ex58 => ?_)
          have t59 : -2147483648 ≤ x55.toInt ∧ x55.toInt ≤ 2147483647 := ti_all x55
          have t60 : x58.toInt = x55.toInt - 0 := ti_sub ex58 rfl (by decide) (by omega) (by omega)
          refine lv_istore (lv' := [(5, .int x58), (4, .int 0), (3, .int 0), (2, .int x42), (0, .ref o0), (1, .int p0)]) hx hb dX12_pay_141 hl (by decide) rfl (fun ls hl => ?_)
          refine lv_iload hx hb dX12_pay_143 (lv_at hl 0 rfl) ?_
          refine lv_aload_n hx hb dX12_pay_145 rfl (lv_at hl 4 rfl) ?_
          refine tw_get hx hb hts bF_X12 hown hK hT hr_o0 shm_0 rfl 58 (by decide) (ht_at hts 28 rfl) (fun _ h9 => h9) dX12_pay_146 (fun v9 m61 h9 => ?_)
          obtain ⟨rfl, hg62⟩ := h9 _ rfl
          refine lv_iload_n hx hb dX12_pay_149 rfl (lv_at hl 5 rfl) ?_
          refine tw_iald (i := p0) hx hb hK hT hg62 shm_59 rfl (vin_t (a := p0.toInt) rfl (by omega) (by omega)) dX12_pay_150 (fun v9 m63 h9 => ?_)
          obtain ⟨x64, rfl, gx64, kx64⟩ := h9
          refine lv_imul hx hb dX12_pay_151 ?_
          refine lv_topi (fun x65 ex65 => ?_)
          refine lv_istore (lv' := [(6, .int x65), (5, .int x58), (4, .int 0), (3, .int 0), (2, .int x42), (0, .ref o0), (1, .int p0)]) hx hb dX12_pay_152 hl (by decide) rfl (fun ls hl => ?_)
          refine lv_iload hx hb dX12_pay_154 (lv_at hl 0 rfl) ?_
          refine lv_aload_n hx hb dX12_pay_156 rfl (lv_at hl 5 rfl) ?_
          refine tw_get hx hb hts bF_X12 hown hK hT hr_o0 shm_0 rfl 48 (by decide) (ht_at hts 29 rfl) (fun _ h9 => h9) dX12_pay_157 (fun v9 m66 h9 => ?_)
          obtain ⟨x67, rfl, gx67, kx67⟩ := h9 _ rfl
          refine lv_icmp_le (tgt := 165) hx hb dX12_pay_160 (by decide) (fun c68 => ?_) (fun c68 => ?_)
          · have t69 : x65.toInt ≤ x67.toInt := ti_le c68 rfl rfl
            refine lv_aload_n hx hb dX12_pay_165 rfl (lv_at hl 5 rfl) ?_
            refine lv_dup hx hb dX12_pay_166 rfl ?_
            refine tw_getM (v := .int x67) hx hb hts bF_X12 hown hK hT hr_o0 shm_0 rfl 48 (by decide) (ht_at hts 29 rfl) (fun _ h9 => h9) m66 dX12_pay_167 ?_
            refine lv_iload hx hb dX12_pay_170 (lv_at hl 0 rfl) ?_
            refine lv_isub hx hb dX12_pay_172 ?_
            refine lv_topi (fun x70 ex70 => ?_)
            refine tw_put (v := .int x70) (ty := .int) hx hb hts bF_X12 tyX12 tyX12_ok nmX12 hown hK hT hG hS hr_o0 shm_0 rfl 48 (by decide) (ht_at hts 29 rfl) (fun _ h9 => h9) rfl (by decide +kernel) rfl rfl (gl_at rfl (gi_all _)) dX12_pay_173 (fun H locs hT oq m71 oj hS => ?_)
            have hF := hF.put hr_o0 skm_0 oq oj (by decide)
            refine lv_aload_n hx hb dX12_pay_176 rfl (lv_at hl 5 rfl) ?_
            refine tw_get hx hb hts bF_X12 hown hK hT hr_o0 shm_0 rfl 63 (by decide) (ht_at hts 14 rfl) (fun _ h9 => h9) dX12_pay_177 (fun v9 m76 h9 => ?_)
            obtain ⟨rfl, hg77⟩ := h9 _ rfl
            refine lv_iload_n hx hb dX12_pay_180 rfl (lv_at hl 6 rfl) ?_
            refine lv_iconst (v := 1) hx hb dX12_pay_181 (by decide) ?_
            refine tw_zast (i := p0) (x := 1) hx hb hK hT hG hS hg22 shm_64 rfl (vin_t (a := p0.toInt) rfl (by omega) (by omega)) (gi_z (rg_t (a := 1) (by decide) (by first | decide | omega) (by first | decide | omega)) (by decide) (by decide)) dX12_pay_182 (fun H locs hT oq m78 oi hS => ?_)
            have hF := hF.ast hg22 skm_64 oq (by decide)
            refine lv_iload hx hb dX12_pay_183 (lv_at hl 1 rfl) ?_
            refine lv_bipush (v := 10) hx hb dX12_pay_185 (by decide) ?_
            refine lv_icmp_lt (tgt := 230) hx hb dX12_pay_187 (by decide) (fun c83 => ?_) (fun c83 => ?_)
            · have t84 : x58.toInt < 10 := ti_lt c83 rfl (by decide)
              refine lv_iload hx hb dX12_pay_230 (lv_at hl 0 rfl) ?_
              exact W.iret (v := x65) hx hb hr (fun t ht hW => ⟨⟨x65, (), rfl, (by exact trivial), by (try dsimp only); rw [ht]; exact ⟨hT, hF⟩⟩, hS.F ht⟩) hS.2.2 dX12_pay_232
            · have t85 : 10 ≤ x58.toInt := ti_nlt c83 rfl (by decide)
              refine lv_iload_n hx hb dX12_pay_190 rfl (lv_at hl 3 rfl) ?_
              refine lv_if_eq (tgt := 230) hx hb dX12_pay_191 (by decide) (fun c86 => ?_) (fun c86 => absurd c86 (by decide))
              refine lv_iload hx hb dX12_pay_230 (lv_at hl 0 rfl) ?_
              exact W.iret (v := x65) hx hb hr (fun t ht hW => ⟨⟨x65, (), rfl, (by exact trivial), by (try dsimp only); rw [ht]; exact ⟨hT, hF⟩⟩, hS.F ht⟩) hS.2.2 dX12_pay_232
          · have t87 : x67.toInt < x65.toInt := ti_nle c68 rfl rfl
            refine lv_iconst (v := (-1)) hx hb dX12_pay_163 (by decide) ?_
            exact W.iret (v := (-1)) hx hb hr (fun t ht hW => ⟨⟨(-1), (), rfl, (by exact trivial), by (try dsimp only); rw [ht]; exact ⟨hT, hF⟩⟩, hS.F ht⟩) hS.2.2 dX12_pay_164
        · have t88 : r43.toInt = 0 := ti_eq c49 rfl (by decide)
          have t89 : 0 ≤ x42.toInt ∧ x42.toInt ≤ 29 ∧ x42.toInt < wC := hi48 c49
          refine lv_aload_n hx hb dX12_pay_63 rfl (lv_at hl 1 rfl) ?_
          refine lv_iload_n hx hb dX12_pay_64 rfl (lv_at hl 0 rfl) ?_
          have hFc := gA_free hG hA hS
          refine va_calli (va_runV (As := [.int x42]) (rest := []) ⟨hx, hb, hml, hown, hts⟩ (s_isDike l dC dI kA adK adV G H q wZ wN wH wB wC wL wK wU wV PI im PM PT lS lB lE lN o0 x42 hT hr_o0 (by have q8 := ti_all x42; omega) hgz hgn hgh hgb hgc hgi hgu) (cwV 1 hts (goodIn_app (goodIn_r _ [39, 40, 41, 7] rfl (by decide +kernel)) (goodIn_ca (goodIn_r _ [31, 32, 25, 33, 34, 35, 7, 36, 37, 38] rfl (by decide +kernel)) (bs_in _ _))) rfl rfl rfl (by decide +kernel) ⟨(Nat.le_of_ble_eq_true rfl), (Nat.le_of_ble_eq_true rfl)⟩) ⟨fun a U g mk q => by obtain ⟨q0, q1, qK, qE⟩ := q; exact ⟨q0, q1, va_K.moved (u := U) (U := U.calling g mk a) (Vm.Alike.refl U.vm) qK, EVS.blind g mk a qE⟩, gH_rc hK hT hr_o0 shm_0 rfl, fun U hU hW => ⟨rfl, hU, va_K.moved hW.alike hK, hE.call hS hFc hU hW⟩⟩ rfl rfl hl.1 rfl (lv_room (Nat.le_of_ble_eq_true rfl)) dX12_pay_65 ⟨(Nat.le_of_ble_eq_true rfl), (Nat.le_of_ble_eq_true rfl)⟩) hS (fun q _ h => hFc q h) hFc (fun r90 u t H locs ht hvm hw91 hB _ _ hS => ?_)
          obtain ⟨hT, hF1⟩ := hB
          rw [ht] at hT hF1
          have hF := hF.more hF1 (by decide)
          try dsimp only at hw91
          obtain ⟨h94, hi95⟩ := hw91
          refine lv_if_eq (tgt := 75) hx hb dX12_pay_68 (by decide) (fun c96 => ?_) (fun c96 => ?_)
          · have t97 : r90.toInt = 0 := ti_eq c96 rfl (by decide)
            refine lv_iconst (v := 0) hx hb dX12_pay_75 (by decide) ?_
            refine lv_istore_n (lv' := [(3, .int 0), (2, .int x42), (0, .ref o0), (1, .int p0)]) hx hb dX12_pay_76 rfl hl (by decide) rfl (fun ls hl => ?_)
            refine lv_iload_n hx hb dX12_pay_77 rfl (lv_at hl 0 rfl) ?_
            refine lv_if_eq (tgt := 99) hx hb dX12_pay_78 (by decide) (fun c98 => ?_) (fun c98 => absurd c98 (by decide))
            refine lv_iconst (v := 0) hx hb dX12_pay_99 (by decide) ?_
            refine lv_istore (lv' := [(4, .int 0), (3, .int 0), (2, .int x42), (0, .ref o0), (1, .int p0)]) hx hb dX12_pay_100 hl (by decide) rfl (fun ls hl => ?_)
            refine lv_aload_n hx hb dX12_pay_102 rfl (lv_at hl 3 rfl) ?_
            refine tw_get hx hb hts bF_X12 hown hK hT hr_o0 shm_0 rfl 60 (by decide) (ht_at hts 17 rfl) (fun _ h9 => h9) dX12_pay_103 (fun v9 m99 h9 => ?_)
            obtain ⟨rfl, hg100⟩ := h9 _ rfl
            refine lv_iload_n hx hb dX12_pay_106 rfl (lv_at hl 4 rfl) ?_
            refine tw_iald (i := p0) hx hb hK hT hg100 shm_61 rfl (vin_t (a := p0.toInt) rfl (by omega) (by omega)) dX12_pay_107 (fun v9 m101 h9 => ?_)
            obtain ⟨x102, rfl, gx102, kx102⟩ := h9
            refine lv_istore (lv' := [(5, .int x102), (4, .int 0), (3, .int 0), (2, .int x42), (0, .ref o0), (1, .int p0)]) hx hb dX12_pay_108 hl (by decide) rfl (fun ls hl => ?_)
            refine lv_iload hx hb dX12_pay_110 (lv_at hl 0 rfl) ?_
            refine lv_iload hx hb dX12_pay_112 (lv_at hl 1 rfl) ?_
            refine lv_iconst (v := 1) hx hb dX12_pay_114 (by decide) ?_
            refine lv_icmp_ne (tgt := 126) hx hb dX12_pay_115 (by decide) (fun c103 => ?_) (fun c103 => absurd c103 (by decide))
            refine lv_iload hx hb dX12_pay_126 (lv_at hl 1 rfl) ?_
            refine lv_iconst (v := 2) hx hb dX12_pay_128 (by decide) ?_
            refine lv_icmp_ne (tgt := 139) hx hb dX12_pay_129 (by decide) (fun c104 => ?_) (fun c104 => absurd c104 (by decide))
            refine lv_iconst (v := 0) hx hb dX12_pay_139 (by decide) ?_
            refine lv_isub hx hb dX12_pay_140 ?_
            refine lv_topi (fun x105 ex105 => ?_)
            have t106 : -2147483648 ≤ x102.toInt ∧ x102.toInt ≤ 2147483647 := ti_all x102
            have t107 : x105.toInt = x102.toInt - 0 := ti_sub ex105 rfl (by decide) (by omega) (by omega)
            refine lv_istore (lv' := [(5, .int x105), (4, .int 0), (3, .int 0), (2, .int x42), (0, .ref o0), (1, .int p0)]) hx hb dX12_pay_141 hl (by decide) rfl (fun ls hl => ?_)
            refine lv_iload hx hb dX12_pay_143 (lv_at hl 0 rfl) ?_
            refine lv_aload_n hx hb dX12_pay_145 rfl (lv_at hl 4 rfl) ?_
            refine tw_get hx hb hts bF_X12 hown hK hT hr_o0 shm_0 rfl 58 (by decide) (ht_at hts 28 rfl) (fun _ h9 => h9) dX12_pay_146 (fun v9 m108 h9 => ?_)
            obtain ⟨rfl, hg109⟩ := h9 _ rfl
            refine lv_iload_n hx hb dX12_pay_149 rfl (lv_at hl 5 rfl) ?_
            refine tw_iald (i := p0) hx hb hK hT hg109 shm_59 rfl (vin_t (a := p0.toInt) rfl (by omega) (by omega)) dX12_pay_150 (fun v9 m110 h9 => ?_)
            obtain ⟨x111, rfl, gx111, kx111⟩ := h9
            refine lv_imul hx hb dX12_pay_151 ?_
            refine lv_topi (fun x112 ex112 => ?_)
            refine lv_istore (lv' := [(6, .int x112), (5, .int x105), (4, .int 0), (3, .int 0), (2, .int x42), (0, .ref o0), (1, .int p0)]) hx hb dX12_pay_152 hl (by decide) rfl (fun ls hl => ?_)
            refine lv_iload hx hb dX12_pay_154 (lv_at hl 0 rfl) ?_
            refine lv_aload_n hx hb dX12_pay_156 rfl (lv_at hl 5 rfl) ?_
            refine tw_get hx hb hts bF_X12 hown hK hT hr_o0 shm_0 rfl 48 (by decide) (ht_at hts 29 rfl) (fun _ h9 => h9) dX12_pay_157 (fun v9 m113 h9 => ?_)
            obtain ⟨x114, rfl, gx114, kx114⟩ := h9 _ rfl
            refine lv_icmp_le (tgt := 165) hx hb dX12_pay_160 (by decide) (fun c115 => ?_) (fun c115 => ?_)
            · have t116 : x112.toInt ≤ x114.toInt := ti_le c115 rfl rfl
              refine lv_aload_n hx hb dX12_pay_165 rfl (lv_at hl 5 rfl) ?_
              refine lv_dup hx hb dX12_pay_166 rfl ?_
              refine tw_getM (v := .int x114) hx hb hts bF_X12 hown hK hT hr_o0 shm_0 rfl 48 (by decide) (ht_at hts 29 rfl) (fun _ h9 => h9) m113 dX12_pay_167 ?_
              refine lv_iload hx hb dX12_pay_170 (lv_at hl 0 rfl) ?_
              refine lv_isub hx hb dX12_pay_172 ?_
              refine lv_topi (fun x117 ex117 => ?_)
              refine tw_put (v := .int x117) (ty := .int) hx hb hts bF_X12 tyX12 tyX12_ok nmX12 hown hK hT hG hS hr_o0 shm_0 rfl 48 (by decide) (ht_at hts 29 rfl) (fun _ h9 => h9) rfl (by decide +kernel) rfl rfl (gl_at rfl (gi_all _)) dX12_pay_173 (fun H locs hT oq m118 oj hS => ?_)
              have hF := hF.put hr_o0 skm_0 oq oj (by decide)
              refine lv_aload_n hx hb dX12_pay_176 rfl (lv_at hl 5 rfl) ?_
              refine tw_get hx hb hts bF_X12 hown hK hT hr_o0 shm_0 rfl 63 (by decide) (ht_at hts 14 rfl) (fun _ h9 => h9) dX12_pay_177 (fun v9 m123 h9 => ?_)
              obtain ⟨rfl, hg124⟩ := h9 _ rfl
              refine lv_iload_n hx hb dX12_pay_180 rfl (lv_at hl 6 rfl) ?_
              refine lv_iconst (v := 1) hx hb dX12_pay_181 (by decide) ?_
              refine tw_zast (i := p0) (x := 1) hx hb hK hT hG hS hg22 shm_64 rfl (vin_t (a := p0.toInt) rfl (by omega) (by omega)) (gi_z (rg_t (a := 1) (by decide) (by first | decide | omega) (by first | decide | omega)) (by decide) (by decide)) dX12_pay_182 (fun H locs hT oq m125 oi hS => ?_)
              have hF := hF.ast hg22 skm_64 oq (by decide)
              refine lv_iload hx hb dX12_pay_183 (lv_at hl 1 rfl) ?_
              refine lv_bipush (v := 10) hx hb dX12_pay_185 (by decide) ?_
              refine lv_icmp_lt (tgt := 230) hx hb dX12_pay_187 (by decide) (fun c130 => ?_) (fun c130 => ?_)
              · have t131 : x105.toInt < 10 := ti_lt c130 rfl (by decide)
                refine lv_iload hx hb dX12_pay_230 (lv_at hl 0 rfl) ?_
                exact W.iret (v := x112) hx hb hr (fun t ht hW => ⟨⟨x112, (), rfl, (by exact trivial), by (try dsimp only); rw [ht]; exact ⟨hT, hF⟩⟩, hS.F ht⟩) hS.2.2 dX12_pay_232
              · have t132 : 10 ≤ x105.toInt := ti_nlt c130 rfl (by decide)
                refine lv_iload_n hx hb dX12_pay_190 rfl (lv_at hl 3 rfl) ?_
                refine lv_if_eq (tgt := 230) hx hb dX12_pay_191 (by decide) (fun c133 => ?_) (fun c133 => absurd c133 (by decide))
                refine lv_iload hx hb dX12_pay_230 (lv_at hl 0 rfl) ?_
                exact W.iret (v := x112) hx hb hr (fun t ht hW => ⟨⟨x112, (), rfl, (by exact trivial), by (try dsimp only); rw [ht]; exact ⟨hT, hF⟩⟩, hS.F ht⟩) hS.2.2 dX12_pay_232
            · have t134 : x114.toInt < x112.toInt := ti_nle c115 rfl rfl
              refine lv_iconst (v := (-1)) hx hb dX12_pay_163 (by decide) ?_
              exact W.iret (v := (-1)) hx hb hr (fun t ht hW => ⟨⟨(-1), (), rfl, (by exact trivial), by (try dsimp only); rw [ht]; exact ⟨hT, hF⟩⟩, hS.F ht⟩) hS.2.2 dX12_pay_164
          · have t135 : r90.toInt ≠ 0 := ti_ne c96 rfl (by decide)
            have t136 : x42.toInt < wC → wK x42.toNatClampNeg := hi95 ((bit_of ⟨by omega, by omega⟩).resolve_left c96)
            refine lv_iconst (v := 1) hx hb dX12_pay_71 (by decide) ?_
            refine lv_goto (tgt := 76) hx hb dX12_pay_72 (by decide) ?_
            refine lv_istore_n (lv' := [(3, .int 1), (2, .int x42), (0, .ref o0), (1, .int p0)]) hx hb dX12_pay_76 rfl hl (by decide) rfl (fun ls hl => ?_)
            refine lv_iload_n hx hb dX12_pay_77 rfl (lv_at hl 0 rfl) ?_
            refine lv_if_eq (tgt := 99) hx hb dX12_pay_78 (by decide) (fun c137 => absurd c137 (by decide)) (fun c137 => ?_)
            refine lv_aload_n hx hb dX12_pay_81 rfl (lv_at hl 2 rfl) ?_
            refine tw_get hx hb hts bF_X12 hown hK hT hr_o0 shm_0 rfl 1 (by decide) (ht_at hts 24 rfl) (fun _ h9 => h9) dX12_pay_82 (fun v9 m138 h9 => ?_)
            obtain ⟨rfl, hg139⟩ := h9 _ rfl
            refine lv_sipush (v := 192) hx hb dX12_pay_85 (by decide) ?_
            refine lv_aload_n hx hb dX12_pay_88 rfl (lv_at hl 2 rfl) ?_
            refine lv_iload_n hx hb dX12_pay_89 rfl (lv_at hl 1 rfl) ?_
            refine lv_iconst (v := 1) hx hb dX12_pay_90 (by decide) ?_
            have hFc := gA_free hG hA hS
            refine va_calli (va_runV (As := [.int x42, .int 1]) (rest := [.int 192, .ref (q 1)]) ⟨hx, hb, hml, hown, hts⟩ (s_of1 l dC dI kA adK adV G H q wZ wN wH wB wC wL wK wU wV PI im PM PT lS lB lE lN o0 x42 hT hr_o0 (by have q8 := ti_all x42; omega) hgz hgn hgh hgb hgc hgi hgu) (cwV 2 hts (goodIn_app (goodIn_r _ [36, 37, 38, 7] rfl (by decide +kernel)) (goodIn_ca (goodIn_r _ [32, 25, 33, 34, 35, 7] rfl (by decide +kernel)) (bs_in _ _))) rfl rfl rfl (by decide +kernel) ⟨(Nat.le_of_ble_eq_true rfl), (Nat.le_of_ble_eq_true rfl)⟩) ⟨fun a U g mk q => by obtain ⟨q0, q1, qK, qE⟩ := q; exact ⟨q0, q1, va_K.moved (u := U) (U := U.calling g mk a) (Vm.Alike.refl U.vm) qK, EVS.blind g mk a qE⟩, gH_rc hK hT hr_o0 shm_0 rfl, fun U hU hW => ⟨rfl, hU, va_K.moved hW.alike hK, hE.call hS hFc hU hW⟩⟩ rfl rfl hl.1 rfl (lv_room (Nat.le_of_ble_eq_true rfl)) dX12_pay_91 ⟨(Nat.le_of_ble_eq_true rfl), (Nat.le_of_ble_eq_true rfl)⟩) hS (fun q _ h => hFc q h) hFc (fun r140 u t H locs ht hvm hw141 hB _ _ hS => ?_)
            obtain ⟨hT, hF1⟩ := hB
            rw [ht] at hT hF1
            have hF := hF.more hF1 (by decide)
            try dsimp only at hw141
            obtain ⟨h144, ⟨ix145, hix145, m146⟩⟩ := hw141
            refine lv_iadd hx hb dX12_pay_94 ?_
            refine lv_topi (fun x148 ex148 => ?_)
            have t149 : x148.toInt = 192 + r140.toInt := ti_add ex148 (by decide) rfl (by omega) (by omega)
            refine tw_iald (i := x148) hx hb hK hT hg139 shm_2 rfl (vin_t (a := x148.toInt) rfl (by omega) (by omega)) dX12_pay_95 (fun v9 m150 h9 => ?_)
            obtain ⟨x151, rfl, gx151, kx151⟩ := (gp_at h9 (w_fre (by have q9 := tn_of (show x148.toInt = x148.toInt from rfl) (show (0 : Int) ≤ x148.toInt from by omega); omega)))
            refine lv_goto (tgt := 100) hx hb dX12_pay_96 (by decide) ?_
            refine lv_istore (lv' := [(4, .int x151), (3, .int 1), (2, .int x42), (0, .ref o0), (1, .int p0)]) hx hb dX12_pay_100 hl (by decide) rfl (fun ls hl => ?_)
            refine lv_aload_n hx hb dX12_pay_102 rfl (lv_at hl 3 rfl) ?_
            refine tw_get hx hb hts bF_X12 hown hK hT hr_o0 shm_0 rfl 60 (by decide) (ht_at hts 17 rfl) (fun _ h9 => h9) dX12_pay_103 (fun v9 m152 h9 => ?_)
            obtain ⟨rfl, hg153⟩ := h9 _ rfl
            refine lv_iload_n hx hb dX12_pay_106 rfl (lv_at hl 4 rfl) ?_
            refine tw_iald (i := p0) hx hb hK hT hg153 shm_61 rfl (vin_t (a := p0.toInt) rfl (by omega) (by omega)) dX12_pay_107 (fun v9 m154 h9 => ?_)
            obtain ⟨x155, rfl, gx155, kx155⟩ := h9
            refine lv_istore (lv' := [(5, .int x155), (4, .int x151), (3, .int 1), (2, .int x42), (0, .ref o0), (1, .int p0)]) hx hb dX12_pay_108 hl (by decide) rfl (fun ls hl => ?_)
            refine lv_iload hx hb dX12_pay_110 (lv_at hl 0 rfl) ?_
            refine lv_iload hx hb dX12_pay_112 (lv_at hl 1 rfl) ?_
            refine lv_iconst (v := 1) hx hb dX12_pay_114 (by decide) ?_
            refine lv_icmp_ne (tgt := 126) hx hb dX12_pay_115 (by decide) (fun c156 => ?_) (fun c156 => ?_)
            · have t157 : x151.toInt ≠ 1 := ti_ne c156 rfl (by decide)
              refine lv_iload hx hb dX12_pay_126 (lv_at hl 1 rfl) ?_
              refine lv_iconst (v := 2) hx hb dX12_pay_128 (by decide) ?_
              refine lv_icmp_ne (tgt := 139) hx hb dX12_pay_129 (by decide) (fun c158 => ?_) (fun c158 => ?_)
              · have t159 : x151.toInt ≠ 2 := ti_ne c158 rfl (by decide)
                refine lv_iconst (v := 0) hx hb dX12_pay_139 (by decide) ?_
                refine lv_isub hx hb dX12_pay_140 ?_
                refine lv_topi (fun x160 ex160 => ?_)
                have t161 : -2147483648 ≤ x155.toInt ∧ x155.toInt ≤ 2147483647 := ti_all x155
                have t162 : x160.toInt = x155.toInt - 0 := ti_sub ex160 rfl (by decide) (by omega) (by omega)
                refine lv_istore (lv' := [(5, .int x160), (4, .int x151), (3, .int 1), (2, .int x42), (0, .ref o0), (1, .int p0)]) hx hb dX12_pay_141 hl (by decide) rfl (fun ls hl => ?_)
                refine lv_iload hx hb dX12_pay_143 (lv_at hl 0 rfl) ?_
                refine lv_aload_n hx hb dX12_pay_145 rfl (lv_at hl 4 rfl) ?_
                refine tw_get hx hb hts bF_X12 hown hK hT hr_o0 shm_0 rfl 58 (by decide) (ht_at hts 28 rfl) (fun _ h9 => h9) dX12_pay_146 (fun v9 m163 h9 => ?_)
                obtain ⟨rfl, hg164⟩ := h9 _ rfl
                refine lv_iload_n hx hb dX12_pay_149 rfl (lv_at hl 5 rfl) ?_
                refine tw_iald (i := p0) hx hb hK hT hg164 shm_59 rfl (vin_t (a := p0.toInt) rfl (by omega) (by omega)) dX12_pay_150 (fun v9 m165 h9 => ?_)
                obtain ⟨x166, rfl, gx166, kx166⟩ := h9
                refine lv_imul hx hb dX12_pay_151 ?_
                refine lv_topi (fun x167 ex167 => ?_)
                refine lv_istore (lv' := [(6, .int x167), (5, .int x160), (4, .int x151), (3, .int 1), (2, .int x42), (0, .ref o0), (1, .int p0)]) hx hb dX12_pay_152 hl (by decide) rfl (fun ls hl => ?_)
                refine lv_iload hx hb dX12_pay_154 (lv_at hl 0 rfl) ?_
                refine lv_aload_n hx hb dX12_pay_156 rfl (lv_at hl 5 rfl) ?_
                refine tw_get hx hb hts bF_X12 hown hK hT hr_o0 shm_0 rfl 48 (by decide) (ht_at hts 29 rfl) (fun _ h9 => h9) dX12_pay_157 (fun v9 m168 h9 => ?_)
                obtain ⟨x169, rfl, gx169, kx169⟩ := h9 _ rfl
                refine lv_icmp_le (tgt := 165) hx hb dX12_pay_160 (by decide) (fun c170 => ?_) (fun c170 => ?_)
                · have t171 : x167.toInt ≤ x169.toInt := ti_le c170 rfl rfl
                  refine lv_aload_n hx hb dX12_pay_165 rfl (lv_at hl 5 rfl) ?_
                  refine lv_dup hx hb dX12_pay_166 rfl ?_
                  refine tw_getM (v := .int x169) hx hb hts bF_X12 hown hK hT hr_o0 shm_0 rfl 48 (by decide) (ht_at hts 29 rfl) (fun _ h9 => h9) m168 dX12_pay_167 ?_
                  refine lv_iload hx hb dX12_pay_170 (lv_at hl 0 rfl) ?_
                  refine lv_isub hx hb dX12_pay_172 ?_
                  refine lv_topi (fun x172 ex172 => ?_)
                  refine tw_put (v := .int x172) (ty := .int) hx hb hts bF_X12 tyX12 tyX12_ok nmX12 hown hK hT hG hS hr_o0 shm_0 rfl 48 (by decide) (ht_at hts 29 rfl) (fun _ h9 => h9) rfl (by decide +kernel) rfl rfl (gl_at rfl (gi_all _)) dX12_pay_173 (fun H locs hT oq m173 oj hS => ?_)
                  have hF := hF.put hr_o0 skm_0 oq oj (by decide)
                  refine lv_aload_n hx hb dX12_pay_176 rfl (lv_at hl 5 rfl) ?_
                  refine tw_get hx hb hts bF_X12 hown hK hT hr_o0 shm_0 rfl 63 (by decide) (ht_at hts 14 rfl) (fun _ h9 => h9) dX12_pay_177 (fun v9 m180 h9 => ?_)
                  obtain ⟨rfl, hg181⟩ := h9 _ rfl
                  refine lv_iload_n hx hb dX12_pay_180 rfl (lv_at hl 6 rfl) ?_
                  refine lv_iconst (v := 1) hx hb dX12_pay_181 (by decide) ?_
                  refine tw_zast (i := p0) (x := 1) hx hb hK hT hG hS hg22 shm_64 rfl (vin_t (a := p0.toInt) rfl (by omega) (by omega)) (gi_z (rg_t (a := 1) (by decide) (by first | decide | omega) (by first | decide | omega)) (by decide) (by decide)) dX12_pay_182 (fun H locs hT oq m182 oi hS => ?_)
                  have hF := hF.ast hg22 skm_64 oq (by decide)
                  refine lv_iload hx hb dX12_pay_183 (lv_at hl 1 rfl) ?_
                  refine lv_bipush (v := 10) hx hb dX12_pay_185 (by decide) ?_
                  refine lv_icmp_lt (tgt := 230) hx hb dX12_pay_187 (by decide) (fun c189 => ?_) (fun c189 => ?_)
                  · have t190 : x160.toInt < 10 := ti_lt c189 rfl (by decide)
                    refine lv_iload hx hb dX12_pay_230 (lv_at hl 0 rfl) ?_
                    exact W.iret (v := x167) hx hb hr (fun t ht hW => ⟨⟨x167, (), rfl, (by exact trivial), by (try dsimp only); rw [ht]; exact ⟨hT, hF⟩⟩, hS.F ht⟩) hS.2.2 dX12_pay_232
                  · have t191 : 10 ≤ x160.toInt := ti_nlt c189 rfl (by decide)
                    refine lv_iload_n hx hb dX12_pay_190 rfl (lv_at hl 3 rfl) ?_
                    refine lv_if_eq (tgt := 230) hx hb dX12_pay_191 (by decide) (fun c192 => absurd c192 (by decide)) (fun c192 => ?_)
                    refine lv_aload_n hx hb dX12_pay_194 rfl (lv_at hl 5 rfl) ?_
                    refine lv_iload_n hx hb dX12_pay_195 rfl (lv_at hl 4 rfl) ?_
                    refine lv_iconst (v := 0) hx hb dX12_pay_196 (by decide) ?_
                    have hFc := gA_free hG hA hS
                    refine va_calli (va_runV (As := [.int x42, .int 0]) (rest := []) ⟨hx, hb, hml, hown, hts⟩ (s_of0 l dC dI kA adK adV G H q wZ wN wH wB wC wL wK wU wV PI im PM PT lS lB lE lN o0 x42 hT hr_o0 (by have q8 := ti_all x42; omega) hgz hgn hgh hgb hgc hgi hgu) (cwV 2 hts (goodIn_app (goodIn_r _ [36, 37, 38, 7] rfl (by decide +kernel)) (goodIn_ca (goodIn_r _ [32, 25, 33, 34, 35, 7] rfl (by decide +kernel)) (bs_in _ _))) rfl rfl rfl (by decide +kernel) ⟨(Nat.le_of_ble_eq_true rfl), (Nat.le_of_ble_eq_true rfl)⟩) ⟨fun a U g mk q => by obtain ⟨q0, q1, qK, qE⟩ := q; exact ⟨q0, q1, va_K.moved (u := U) (U := U.calling g mk a) (Vm.Alike.refl U.vm) qK, EVS.blind g mk a qE⟩, gH_rc hK hT hr_o0 shm_0 rfl, fun U hU hW => ⟨rfl, hU, va_K.moved hW.alike hK, hE.call hS hFc hU hW⟩⟩ rfl rfl hl.1 rfl (lv_room (Nat.le_of_ble_eq_true rfl)) dX12_pay_197 ⟨(Nat.le_of_ble_eq_true rfl), (Nat.le_of_ble_eq_true rfl)⟩) hS (fun q _ h => hFc q h) hFc (fun r193 u t H locs ht hvm hw194 hB _ _ hS => ?_)
                    obtain ⟨hT, hF1⟩ := hB
                    rw [ht] at hT hF1
                    have hF := hF.more hF1 (by decide)
                    try dsimp only at hw194
                    have ⟨ix201, hix201, m202⟩ := hw194
                    refine lv_if_ne (tgt := 230) hx hb dX12_pay_200 (by decide) (fun c204 => ?_) (fun c204 => ?_)
                    · have t205 : r193.toInt ≠ 0 := ti_ne c204 rfl (by decide)
                      refine lv_iload hx hb dX12_pay_230 (lv_at hl 0 rfl) ?_
                      exact W.iret (v := x167) hx hb hr (fun t ht hW => ⟨⟨x167, (), rfl, (by exact trivial), by (try dsimp only); rw [ht]; exact ⟨hT, hF⟩⟩, hS.F ht⟩) hS.2.2 dX12_pay_232
                    · have t206 : r193.toInt = 0 := ti_eq c204 rfl (by decide)
                      refine lv_aload_n hx hb dX12_pay_203 rfl (lv_at hl 5 rfl) ?_
                      refine lv_iload_n hx hb dX12_pay_204 rfl (lv_at hl 4 rfl) ?_
                      refine lv_iconst (v := 4) hx hb dX12_pay_205 (by decide) ?_
                      have hFc := gA_free hG hA hS
                      refine va_calli (va_runV (As := [.int x42, .int 4]) (rest := []) ⟨hx, hb, hml, hown, hts⟩ (s_of4 l dC dI kA adK adV G H q wZ wN wH wB wC wL wK wU wV PI im PM PT lS lB lE lN o0 x42 hT hr_o0 (by have q8 := ti_all x42; omega) hgz hgn hgh hgb hgc hgi hgu) (cwV 2 hts (goodIn_app (goodIn_r _ [36, 37, 38, 7] rfl (by decide +kernel)) (goodIn_ca (goodIn_r _ [32, 25, 33, 34, 35, 7] rfl (by decide +kernel)) (bs_in _ _))) rfl rfl rfl (by decide +kernel) ⟨(Nat.le_of_ble_eq_true rfl), (Nat.le_of_ble_eq_true rfl)⟩) ⟨fun a U g mk q => by obtain ⟨q0, q1, qK, qE⟩ := q; exact ⟨q0, q1, va_K.moved (u := U) (U := U.calling g mk a) (Vm.Alike.refl U.vm) qK, EVS.blind g mk a qE⟩, gH_rc hK hT hr_o0 shm_0 rfl, fun U hU hW => ⟨rfl, hU, va_K.moved hW.alike hK, hE.call hS hFc hU hW⟩⟩ rfl rfl hl.1 rfl (lv_room (Nat.le_of_ble_eq_true rfl)) dX12_pay_206 ⟨(Nat.le_of_ble_eq_true rfl), (Nat.le_of_ble_eq_true rfl)⟩) hS (fun q _ h => hFc q h) hFc (fun r207 u t H locs ht hvm hw208 hB _ _ hS => ?_)
                      obtain ⟨hT, hF1⟩ := hB
                      rw [ht] at hT hF1
                      have hF := hF.more hF1 (by decide)
                      try dsimp only at hw208
                      obtain ⟨h216, ⟨ix217, hix217, m218⟩⟩ := hw208
                      have m219 := (el_kept (hF1.arr hg139 skm_2 (by decide))).trans m218
                      refine lv_bipush (v := 6) hx hb dX12_pay_209 (by decide) ?_
                      refine lv_icmp_ge (tgt := 230) hx hb dX12_pay_211 (by decide) (fun c220 => ?_) (fun c220 => ?_)
                      · have t221 : 6 ≤ r207.toInt := ti_le c220 (by decide) rfl
                        refine lv_iload hx hb dX12_pay_230 (lv_at hl 0 rfl) ?_
                        exact W.iret (v := x167) hx hb hr (fun t ht hW => ⟨⟨x167, (), rfl, (by exact trivial), by (try dsimp only); rw [ht]; exact ⟨hT, hF⟩⟩, hS.F ht⟩) hS.2.2 dX12_pay_232
                      · have t222 : r207.toInt < 6 := ti_nle c220 (by decide) rfl
                        refine lv_aload_n hx hb dX12_pay_214 rfl (lv_at hl 5 rfl) ?_
                        refine lv_iload_n hx hb dX12_pay_215 rfl (lv_at hl 4 rfl) ?_
                        refine lv_iload hx hb dX12_pay_216 (lv_at hl 1 rfl) ?_
                        refine lv_bipush (v := 10) hx hb dX12_pay_218 (by decide) ?_
                        refine lv_idiv hx hb dX12_pay_220 (by decide) ?_
                        refine lv_topi (fun x223 ex223 => ?_)
                        have t224 : x223.toInt = x160.toInt / 10 := ti_div ex223 rfl (by decide) (by omega) (by omega)
                        refine lv_aload_n hx hb dX12_pay_221 rfl (lv_at hl 5 rfl) ?_
                        refine tw_get hx hb hts bF_X12 hown hK hT hr_o0 shm_0 rfl 57 (by decide) (ht_at hts 41 rfl) (fun _ h9 => h9) dX12_pay_222 (fun v9 m225 h9 => ?_)
                        obtain ⟨rfl, hg226⟩ := h9 _ rfl
                        refine lv_iload_n hx hb dX12_pay_225 rfl (lv_at hl 6 rfl) ?_
                        refine tw_iald (i := p0) hx hb hK hT hg226 shm_58 rfl (vin_t (a := p0.toInt) rfl (by omega) (by omega)) dX12_pay_226 (fun v9 m227 h9 => ?_)
                        obtain ⟨x228, rfl, gx228, kx228⟩ := h9
                        have hFc := gA_free hG hA hS
                        refine va_callv (va_runV (As := [.int x42, .int x223, .int x228]) (rest := []) ⟨hx, hb, hml, hown, hts⟩ (s_lays l dC dI kA adK adV G H q wZ wN wH wB wC wL wK wU wV PI im PM PT lS lB lE lN o0 x42 x223 x228 r207 ix217 hT hr_o0 (by have q8 := ti_all x42; omega) (by have q8 := ti_all x228; omega) (by have q9 := (show ix217.toInt = ix217.toInt from rfl); have := (show x42.toInt = x42.toInt from rfl); omega) m219 (by have q8 := ti_all r207; omega) hgz hgn hgh hgb hgc hgi hgu) (cwV 3 hts (goodIn_app (goodIn_r _ [45, 46, 47, 7] rfl (by decide +kernel)) (goodIn_ca (goodIn_r _ [43, 32, 25, 33, 34, 35, 7, 36, 37, 38, 44] rfl (by decide +kernel)) (bs_in _ _))) rfl rfl rfl (by decide +kernel) ⟨(Nat.le_of_ble_eq_true rfl), (Nat.le_of_ble_eq_true rfl)⟩) ⟨fun a U g mk q => by obtain ⟨q0, q1, qK, qE⟩ := q; exact ⟨q0, q1, va_K.moved (u := U) (U := U.calling g mk a) (Vm.Alike.refl U.vm) qK, EVS.blind g mk a qE⟩, gH_rc hK hT hr_o0 shm_0 rfl, fun U hU hW => ⟨rfl, hU, va_K.moved hW.alike hK, hE.call hS hFc hU hW⟩⟩ rfl rfl hl.1 rfl (lv_room (Nat.le_of_ble_eq_true rfl)) dX12_pay_227 ⟨(Nat.le_of_ble_eq_true rfl), (Nat.le_of_ble_eq_true rfl)⟩) hS (fun q _ h => hFc q h) hFc (fun u t H locs ht hvm hw230 hB _ _ hS => ?_)
                        obtain ⟨hT, hF1⟩ := hB
                        rw [ht] at hT hF1
                        have hF := hF.more hF1 (by decide)
                        try dsimp only at hw230
                        refine lv_iload hx hb dX12_pay_230 (lv_at hl 0 rfl) ?_
                        exact W.iret (v := x167) hx hb hr (fun t ht hW => ⟨⟨x167, (), rfl, (by exact trivial), by (try dsimp only); rw [ht]; exact ⟨hT, hF⟩⟩, hS.F ht⟩) hS.2.2 dX12_pay_232
                · have t240 : x169.toInt < x167.toInt := ti_nle c170 rfl rfl
                  refine lv_iconst (v := (-1)) hx hb dX12_pay_163 (by decide) ?_
                  exact W.iret (v := (-1)) hx hb hr (fun t ht hW => ⟨⟨(-1), (), rfl, (by exact trivial), by (try dsimp only); rw [ht]; exact ⟨hT, hF⟩⟩, hS.F ht⟩) hS.2.2 dX12_pay_164
              · have t241 : x151.toInt = 2 := ti_eq c158 rfl (by decide)
                refine lv_iload hx hb dX12_pay_132 (lv_at hl 0 rfl) ?_
                refine lv_iconst (v := 5) hx hb dX12_pay_134 (by decide) ?_
                have t242 : -2147483648 ≤ x155.toInt ∧ x155.toInt ≤ 2147483647 := ti_all x155
                refine lv_idiv hx hb dX12_pay_135 (by decide) ?_
                refine lv_topi (fun x243 ex243 => ?_)
                have t244 : (0 ≤ x155.toInt ∧ x243.toInt = x155.toInt / 5) ∨ (x155.toInt < 0 ∧ x243.toInt = -((-x155.toInt) / 5)) := ti_divs ex243 rfl (by decide) (by decide)
                refine lv_goto (tgt := 140) hx hb dX12_pay_136 (by decide) ?_
                refine lv_isub hx hb dX12_pay_140 ?_
                refine lv_topi (fun x245 ex245 => ?_)
                refine lv_istore (lv' := [(5, .int x245), (4, .int x151), (3, .int 1), (2, .int x42), (0, .ref o0), (1, .int p0)]) hx hb dX12_pay_141 hl (by decide) rfl (fun ls hl => ?_)
                refine lv_iload hx hb dX12_pay_143 (lv_at hl 0 rfl) ?_
                refine lv_aload_n hx hb dX12_pay_145 rfl (lv_at hl 4 rfl) ?_
                refine tw_get hx hb hts bF_X12 hown hK hT hr_o0 shm_0 rfl 58 (by decide) (ht_at hts 28 rfl) (fun _ h9 => h9) dX12_pay_146 (fun v9 m246 h9 => ?_)
                obtain ⟨rfl, hg247⟩ := h9 _ rfl
                refine lv_iload_n hx hb dX12_pay_149 rfl (lv_at hl 5 rfl) ?_
                refine tw_iald (i := p0) hx hb hK hT hg247 shm_59 rfl (vin_t (a := p0.toInt) rfl (by omega) (by omega)) dX12_pay_150 (fun v9 m248 h9 => ?_)
                obtain ⟨x249, rfl, gx249, kx249⟩ := h9
                refine lv_imul hx hb dX12_pay_151 ?_
                refine lv_topi (fun x250 ex250 => ?_)
                refine lv_istore (lv' := [(6, .int x250), (5, .int x245), (4, .int x151), (3, .int 1), (2, .int x42), (0, .ref o0), (1, .int p0)]) hx hb dX12_pay_152 hl (by decide) rfl (fun ls hl => ?_)
                refine lv_iload hx hb dX12_pay_154 (lv_at hl 0 rfl) ?_
                refine lv_aload_n hx hb dX12_pay_156 rfl (lv_at hl 5 rfl) ?_
                refine tw_get hx hb hts bF_X12 hown hK hT hr_o0 shm_0 rfl 48 (by decide) (ht_at hts 29 rfl) (fun _ h9 => h9) dX12_pay_157 (fun v9 m251 h9 => ?_)
                obtain ⟨x252, rfl, gx252, kx252⟩ := h9 _ rfl
                refine lv_icmp_le (tgt := 165) hx hb dX12_pay_160 (by decide) (fun c253 => ?_) (fun c253 => ?_)
                · have t254 : x250.toInt ≤ x252.toInt := ti_le c253 rfl rfl
                  refine lv_aload_n hx hb dX12_pay_165 rfl (lv_at hl 5 rfl) ?_
                  refine lv_dup hx hb dX12_pay_166 rfl ?_
                  refine tw_getM (v := .int x252) hx hb hts bF_X12 hown hK hT hr_o0 shm_0 rfl 48 (by decide) (ht_at hts 29 rfl) (fun _ h9 => h9) m251 dX12_pay_167 ?_
                  refine lv_iload hx hb dX12_pay_170 (lv_at hl 0 rfl) ?_
                  refine lv_isub hx hb dX12_pay_172 ?_
                  refine lv_topi (fun x255 ex255 => ?_)
                  refine tw_put (v := .int x255) (ty := .int) hx hb hts bF_X12 tyX12 tyX12_ok nmX12 hown hK hT hG hS hr_o0 shm_0 rfl 48 (by decide) (ht_at hts 29 rfl) (fun _ h9 => h9) rfl (by decide +kernel) rfl rfl (gl_at rfl (gi_all _)) dX12_pay_173 (fun H locs hT oq m256 oj hS => ?_)
                  have hF := hF.put hr_o0 skm_0 oq oj (by decide)
                  refine lv_aload_n hx hb dX12_pay_176 rfl (lv_at hl 5 rfl) ?_
                  refine tw_get hx hb hts bF_X12 hown hK hT hr_o0 shm_0 rfl 63 (by decide) (ht_at hts 14 rfl) (fun _ h9 => h9) dX12_pay_177 (fun v9 m263 h9 => ?_)
                  obtain ⟨rfl, hg264⟩ := h9 _ rfl
                  refine lv_iload_n hx hb dX12_pay_180 rfl (lv_at hl 6 rfl) ?_
                  refine lv_iconst (v := 1) hx hb dX12_pay_181 (by decide) ?_
                  refine tw_zast (i := p0) (x := 1) hx hb hK hT hG hS hg22 shm_64 rfl (vin_t (a := p0.toInt) rfl (by omega) (by omega)) (gi_z (rg_t (a := 1) (by decide) (by first | decide | omega) (by first | decide | omega)) (by decide) (by decide)) dX12_pay_182 (fun H locs hT oq m265 oi hS => ?_)
                  have hF := hF.ast hg22 skm_64 oq (by decide)
                  refine lv_iload hx hb dX12_pay_183 (lv_at hl 1 rfl) ?_
                  refine lv_bipush (v := 10) hx hb dX12_pay_185 (by decide) ?_
                  refine lv_icmp_lt (tgt := 230) hx hb dX12_pay_187 (by decide) (fun c272 => ?_) (fun c272 => ?_)
                  · have t273 : x245.toInt < 10 := ti_lt c272 rfl (by decide)
                    refine lv_iload hx hb dX12_pay_230 (lv_at hl 0 rfl) ?_
                    exact W.iret (v := x250) hx hb hr (fun t ht hW => ⟨⟨x250, (), rfl, (by exact trivial), by (try dsimp only); rw [ht]; exact ⟨hT, hF⟩⟩, hS.F ht⟩) hS.2.2 dX12_pay_232
                  · have t274 : 10 ≤ x245.toInt := ti_nlt c272 rfl (by decide)
                    refine lv_iload_n hx hb dX12_pay_190 rfl (lv_at hl 3 rfl) ?_
                    refine lv_if_eq (tgt := 230) hx hb dX12_pay_191 (by decide) (fun c275 => absurd c275 (by decide)) (fun c275 => ?_)
                    refine lv_aload_n hx hb dX12_pay_194 rfl (lv_at hl 5 rfl) ?_
                    refine lv_iload_n hx hb dX12_pay_195 rfl (lv_at hl 4 rfl) ?_
                    refine lv_iconst (v := 0) hx hb dX12_pay_196 (by decide) ?_
                    have hFc := gA_free hG hA hS
                    refine va_calli (va_runV (As := [.int x42, .int 0]) (rest := []) ⟨hx, hb, hml, hown, hts⟩ (s_of0 l dC dI kA adK adV G H q wZ wN wH wB wC wL wK wU wV PI im PM PT lS lB lE lN o0 x42 hT hr_o0 (by have q8 := ti_all x42; omega) hgz hgn hgh hgb hgc hgi hgu) (cwV 2 hts (goodIn_app (goodIn_r _ [36, 37, 38, 7] rfl (by decide +kernel)) (goodIn_ca (goodIn_r _ [32, 25, 33, 34, 35, 7] rfl (by decide +kernel)) (bs_in _ _))) rfl rfl rfl (by decide +kernel) ⟨(Nat.le_of_ble_eq_true rfl), (Nat.le_of_ble_eq_true rfl)⟩) ⟨fun a U g mk q => by obtain ⟨q0, q1, qK, qE⟩ := q; exact ⟨q0, q1, va_K.moved (u := U) (U := U.calling g mk a) (Vm.Alike.refl U.vm) qK, EVS.blind g mk a qE⟩, gH_rc hK hT hr_o0 shm_0 rfl, fun U hU hW => ⟨rfl, hU, va_K.moved hW.alike hK, hE.call hS hFc hU hW⟩⟩ rfl rfl hl.1 rfl (lv_room (Nat.le_of_ble_eq_true rfl)) dX12_pay_197 ⟨(Nat.le_of_ble_eq_true rfl), (Nat.le_of_ble_eq_true rfl)⟩) hS (fun q _ h => hFc q h) hFc (fun r276 u t H locs ht hvm hw277 hB _ _ hS => ?_)
                    obtain ⟨hT, hF1⟩ := hB
                    rw [ht] at hT hF1
                    have hF := hF.more hF1 (by decide)
                    try dsimp only at hw277
                    have ⟨ix284, hix284, m285⟩ := hw277
                    refine lv_if_ne (tgt := 230) hx hb dX12_pay_200 (by decide) (fun c287 => ?_) (fun c287 => ?_)
                    · have t288 : r276.toInt ≠ 0 := ti_ne c287 rfl (by decide)
                      refine lv_iload hx hb dX12_pay_230 (lv_at hl 0 rfl) ?_
                      exact W.iret (v := x250) hx hb hr (fun t ht hW => ⟨⟨x250, (), rfl, (by exact trivial), by (try dsimp only); rw [ht]; exact ⟨hT, hF⟩⟩, hS.F ht⟩) hS.2.2 dX12_pay_232
                    · have t289 : r276.toInt = 0 := ti_eq c287 rfl (by decide)
                      refine lv_aload_n hx hb dX12_pay_203 rfl (lv_at hl 5 rfl) ?_
                      refine lv_iload_n hx hb dX12_pay_204 rfl (lv_at hl 4 rfl) ?_
                      refine lv_iconst (v := 4) hx hb dX12_pay_205 (by decide) ?_
                      have hFc := gA_free hG hA hS
                      refine va_calli (va_runV (As := [.int x42, .int 4]) (rest := []) ⟨hx, hb, hml, hown, hts⟩ (s_of4 l dC dI kA adK adV G H q wZ wN wH wB wC wL wK wU wV PI im PM PT lS lB lE lN o0 x42 hT hr_o0 (by have q8 := ti_all x42; omega) hgz hgn hgh hgb hgc hgi hgu) (cwV 2 hts (goodIn_app (goodIn_r _ [36, 37, 38, 7] rfl (by decide +kernel)) (goodIn_ca (goodIn_r _ [32, 25, 33, 34, 35, 7] rfl (by decide +kernel)) (bs_in _ _))) rfl rfl rfl (by decide +kernel) ⟨(Nat.le_of_ble_eq_true rfl), (Nat.le_of_ble_eq_true rfl)⟩) ⟨fun a U g mk q => by obtain ⟨q0, q1, qK, qE⟩ := q; exact ⟨q0, q1, va_K.moved (u := U) (U := U.calling g mk a) (Vm.Alike.refl U.vm) qK, EVS.blind g mk a qE⟩, gH_rc hK hT hr_o0 shm_0 rfl, fun U hU hW => ⟨rfl, hU, va_K.moved hW.alike hK, hE.call hS hFc hU hW⟩⟩ rfl rfl hl.1 rfl (lv_room (Nat.le_of_ble_eq_true rfl)) dX12_pay_206 ⟨(Nat.le_of_ble_eq_true rfl), (Nat.le_of_ble_eq_true rfl)⟩) hS (fun q _ h => hFc q h) hFc (fun r290 u t H locs ht hvm hw291 hB _ _ hS => ?_)
                      obtain ⟨hT, hF1⟩ := hB
                      rw [ht] at hT hF1
                      have hF := hF.more hF1 (by decide)
                      try dsimp only at hw291
                      obtain ⟨h299, ⟨ix300, hix300, m301⟩⟩ := hw291
                      have m302 := (el_kept (hF1.arr hg139 skm_2 (by decide))).trans m301
                      refine lv_bipush (v := 6) hx hb dX12_pay_209 (by decide) ?_
                      refine lv_icmp_ge (tgt := 230) hx hb dX12_pay_211 (by decide) (fun c303 => ?_) (fun c303 => ?_)
                      · have t304 : 6 ≤ r290.toInt := ti_le c303 (by decide) rfl
                        refine lv_iload hx hb dX12_pay_230 (lv_at hl 0 rfl) ?_
                        exact W.iret (v := x250) hx hb hr (fun t ht hW => ⟨⟨x250, (), rfl, (by exact trivial), by (try dsimp only); rw [ht]; exact ⟨hT, hF⟩⟩, hS.F ht⟩) hS.2.2 dX12_pay_232
                      · have t305 : r290.toInt < 6 := ti_nle c303 (by decide) rfl
                        refine lv_aload_n hx hb dX12_pay_214 rfl (lv_at hl 5 rfl) ?_
                        refine lv_iload_n hx hb dX12_pay_215 rfl (lv_at hl 4 rfl) ?_
                        refine lv_iload hx hb dX12_pay_216 (lv_at hl 1 rfl) ?_
                        refine lv_bipush (v := 10) hx hb dX12_pay_218 (by decide) ?_
                        refine lv_idiv hx hb dX12_pay_220 (by decide) ?_
                        refine lv_topi (fun x306 ex306 => ?_)
                        have t307 : x306.toInt = x245.toInt / 10 := ti_div ex306 rfl (by decide) (by omega) (by omega)
                        refine lv_aload_n hx hb dX12_pay_221 rfl (lv_at hl 5 rfl) ?_
                        refine tw_get hx hb hts bF_X12 hown hK hT hr_o0 shm_0 rfl 57 (by decide) (ht_at hts 41 rfl) (fun _ h9 => h9) dX12_pay_222 (fun v9 m308 h9 => ?_)
                        obtain ⟨rfl, hg309⟩ := h9 _ rfl
                        refine lv_iload_n hx hb dX12_pay_225 rfl (lv_at hl 6 rfl) ?_
                        refine tw_iald (i := p0) hx hb hK hT hg309 shm_58 rfl (vin_t (a := p0.toInt) rfl (by omega) (by omega)) dX12_pay_226 (fun v9 m310 h9 => ?_)
                        obtain ⟨x311, rfl, gx311, kx311⟩ := h9
                        have hFc := gA_free hG hA hS
                        refine va_callv (va_runV (As := [.int x42, .int x306, .int x311]) (rest := []) ⟨hx, hb, hml, hown, hts⟩ (s_lays l dC dI kA adK adV G H q wZ wN wH wB wC wL wK wU wV PI im PM PT lS lB lE lN o0 x42 x306 x311 r290 ix300 hT hr_o0 (by have q8 := ti_all x42; omega) (by have q8 := ti_all x311; omega) (by have q9 := (show ix300.toInt = ix300.toInt from rfl); have := (show x42.toInt = x42.toInt from rfl); omega) m302 (by have q8 := ti_all r290; omega) hgz hgn hgh hgb hgc hgi hgu) (cwV 3 hts (goodIn_app (goodIn_r _ [45, 46, 47, 7] rfl (by decide +kernel)) (goodIn_ca (goodIn_r _ [43, 32, 25, 33, 34, 35, 7, 36, 37, 38, 44] rfl (by decide +kernel)) (bs_in _ _))) rfl rfl rfl (by decide +kernel) ⟨(Nat.le_of_ble_eq_true rfl), (Nat.le_of_ble_eq_true rfl)⟩) ⟨fun a U g mk q => by obtain ⟨q0, q1, qK, qE⟩ := q; exact ⟨q0, q1, va_K.moved (u := U) (U := U.calling g mk a) (Vm.Alike.refl U.vm) qK, EVS.blind g mk a qE⟩, gH_rc hK hT hr_o0 shm_0 rfl, fun U hU hW => ⟨rfl, hU, va_K.moved hW.alike hK, hE.call hS hFc hU hW⟩⟩ rfl rfl hl.1 rfl (lv_room (Nat.le_of_ble_eq_true rfl)) dX12_pay_227 ⟨(Nat.le_of_ble_eq_true rfl), (Nat.le_of_ble_eq_true rfl)⟩) hS (fun q _ h => hFc q h) hFc (fun u t H locs ht hvm hw313 hB _ _ hS => ?_)
                        obtain ⟨hT, hF1⟩ := hB
                        rw [ht] at hT hF1
                        have hF := hF.more hF1 (by decide)
                        try dsimp only at hw313
                        refine lv_iload hx hb dX12_pay_230 (lv_at hl 0 rfl) ?_
                        exact W.iret (v := x250) hx hb hr (fun t ht hW => ⟨⟨x250, (), rfl, (by exact trivial), by (try dsimp only); rw [ht]; exact ⟨hT, hF⟩⟩, hS.F ht⟩) hS.2.2 dX12_pay_232
                · have t323 : x252.toInt < x250.toInt := ti_nle c253 rfl rfl
                  refine lv_iconst (v := (-1)) hx hb dX12_pay_163 (by decide) ?_
                  exact W.iret (v := (-1)) hx hb hr (fun t ht hW => ⟨⟨(-1), (), rfl, (by exact trivial), by (try dsimp only); rw [ht]; exact ⟨hT, hF⟩⟩, hS.F ht⟩) hS.2.2 dX12_pay_164
            · have t324 : x151.toInt = 1 := ti_eq c156 rfl (by decide)
              refine lv_iload hx hb dX12_pay_118 (lv_at hl 0 rfl) ?_
              refine lv_bipush (v := 10) hx hb dX12_pay_120 (by decide) ?_
              have t325 : -2147483648 ≤ x155.toInt ∧ x155.toInt ≤ 2147483647 := ti_all x155
              refine lv_idiv hx hb dX12_pay_122 (by decide) ?_
              refine lv_topi (fun x326 ex326 => ?_)
              have t327 : (0 ≤ x155.toInt ∧ x326.toInt = x155.toInt / 10) ∨ (x155.toInt < 0 ∧ x326.toInt = -((-x155.toInt) / 10)) := ti_divs ex326 rfl (by decide) (by decide)
              refine lv_goto (tgt := 140) hx hb dX12_pay_123 (by decide) ?_
              refine lv_isub hx hb dX12_pay_140 ?_
              refine lv_topi (fun x328 ex328 => ?_)
              refine lv_istore (lv' := [(5, .int x328), (4, .int x151), (3, .int 1), (2, .int x42), (0, .ref o0), (1, .int p0)]) hx hb dX12_pay_141 hl (by decide) rfl (fun ls hl => ?_)
              refine lv_iload hx hb dX12_pay_143 (lv_at hl 0 rfl) ?_
              refine lv_aload_n hx hb dX12_pay_145 rfl (lv_at hl 4 rfl) ?_
              refine tw_get hx hb hts bF_X12 hown hK hT hr_o0 shm_0 rfl 58 (by decide) (ht_at hts 28 rfl) (fun _ h9 => h9) dX12_pay_146 (fun v9 m329 h9 => ?_)
              obtain ⟨rfl, hg330⟩ := h9 _ rfl
              refine lv_iload_n hx hb dX12_pay_149 rfl (lv_at hl 5 rfl) ?_
              refine tw_iald (i := p0) hx hb hK hT hg330 shm_59 rfl (vin_t (a := p0.toInt) rfl (by omega) (by omega)) dX12_pay_150 (fun v9 m331 h9 => ?_)
              obtain ⟨x332, rfl, gx332, kx332⟩ := h9
              refine lv_imul hx hb dX12_pay_151 ?_
              refine lv_topi (fun x333 ex333 => ?_)
              refine lv_istore (lv' := [(6, .int x333), (5, .int x328), (4, .int x151), (3, .int 1), (2, .int x42), (0, .ref o0), (1, .int p0)]) hx hb dX12_pay_152 hl (by decide) rfl (fun ls hl => ?_)
              refine lv_iload hx hb dX12_pay_154 (lv_at hl 0 rfl) ?_
              refine lv_aload_n hx hb dX12_pay_156 rfl (lv_at hl 5 rfl) ?_
              refine tw_get hx hb hts bF_X12 hown hK hT hr_o0 shm_0 rfl 48 (by decide) (ht_at hts 29 rfl) (fun _ h9 => h9) dX12_pay_157 (fun v9 m334 h9 => ?_)
              obtain ⟨x335, rfl, gx335, kx335⟩ := h9 _ rfl
              refine lv_icmp_le (tgt := 165) hx hb dX12_pay_160 (by decide) (fun c336 => ?_) (fun c336 => ?_)
              · have t337 : x333.toInt ≤ x335.toInt := ti_le c336 rfl rfl
                refine lv_aload_n hx hb dX12_pay_165 rfl (lv_at hl 5 rfl) ?_
                refine lv_dup hx hb dX12_pay_166 rfl ?_
                refine tw_getM (v := .int x335) hx hb hts bF_X12 hown hK hT hr_o0 shm_0 rfl 48 (by decide) (ht_at hts 29 rfl) (fun _ h9 => h9) m334 dX12_pay_167 ?_
                refine lv_iload hx hb dX12_pay_170 (lv_at hl 0 rfl) ?_
                refine lv_isub hx hb dX12_pay_172 ?_
                refine lv_topi (fun x338 ex338 => ?_)
                refine tw_put (v := .int x338) (ty := .int) hx hb hts bF_X12 tyX12 tyX12_ok nmX12 hown hK hT hG hS hr_o0 shm_0 rfl 48 (by decide) (ht_at hts 29 rfl) (fun _ h9 => h9) rfl (by decide +kernel) rfl rfl (gl_at rfl (gi_all _)) dX12_pay_173 (fun H locs hT oq m339 oj hS => ?_)
                have hF := hF.put hr_o0 skm_0 oq oj (by decide)
                refine lv_aload_n hx hb dX12_pay_176 rfl (lv_at hl 5 rfl) ?_
                refine tw_get hx hb hts bF_X12 hown hK hT hr_o0 shm_0 rfl 63 (by decide) (ht_at hts 14 rfl) (fun _ h9 => h9) dX12_pay_177 (fun v9 m346 h9 => ?_)
                obtain ⟨rfl, hg347⟩ := h9 _ rfl
                refine lv_iload_n hx hb dX12_pay_180 rfl (lv_at hl 6 rfl) ?_
                refine lv_iconst (v := 1) hx hb dX12_pay_181 (by decide) ?_
                refine tw_zast (i := p0) (x := 1) hx hb hK hT hG hS hg22 shm_64 rfl (vin_t (a := p0.toInt) rfl (by omega) (by omega)) (gi_z (rg_t (a := 1) (by decide) (by first | decide | omega) (by first | decide | omega)) (by decide) (by decide)) dX12_pay_182 (fun H locs hT oq m348 oi hS => ?_)
                have hF := hF.ast hg22 skm_64 oq (by decide)
                refine lv_iload hx hb dX12_pay_183 (lv_at hl 1 rfl) ?_
                refine lv_bipush (v := 10) hx hb dX12_pay_185 (by decide) ?_
                refine lv_icmp_lt (tgt := 230) hx hb dX12_pay_187 (by decide) (fun c355 => ?_) (fun c355 => ?_)
                · have t356 : x328.toInt < 10 := ti_lt c355 rfl (by decide)
                  refine lv_iload hx hb dX12_pay_230 (lv_at hl 0 rfl) ?_
                  exact W.iret (v := x333) hx hb hr (fun t ht hW => ⟨⟨x333, (), rfl, (by exact trivial), by (try dsimp only); rw [ht]; exact ⟨hT, hF⟩⟩, hS.F ht⟩) hS.2.2 dX12_pay_232
                · have t357 : 10 ≤ x328.toInt := ti_nlt c355 rfl (by decide)
                  refine lv_iload_n hx hb dX12_pay_190 rfl (lv_at hl 3 rfl) ?_
                  refine lv_if_eq (tgt := 230) hx hb dX12_pay_191 (by decide) (fun c358 => absurd c358 (by decide)) (fun c358 => ?_)
                  refine lv_aload_n hx hb dX12_pay_194 rfl (lv_at hl 5 rfl) ?_
                  refine lv_iload_n hx hb dX12_pay_195 rfl (lv_at hl 4 rfl) ?_
                  refine lv_iconst (v := 0) hx hb dX12_pay_196 (by decide) ?_
                  have hFc := gA_free hG hA hS
                  refine va_calli (va_runV (As := [.int x42, .int 0]) (rest := []) ⟨hx, hb, hml, hown, hts⟩ (s_of0 l dC dI kA adK adV G H q wZ wN wH wB wC wL wK wU wV PI im PM PT lS lB lE lN o0 x42 hT hr_o0 (by have q8 := ti_all x42; omega) hgz hgn hgh hgb hgc hgi hgu) (cwV 2 hts (goodIn_app (goodIn_r _ [36, 37, 38, 7] rfl (by decide +kernel)) (goodIn_ca (goodIn_r _ [32, 25, 33, 34, 35, 7] rfl (by decide +kernel)) (bs_in _ _))) rfl rfl rfl (by decide +kernel) ⟨(Nat.le_of_ble_eq_true rfl), (Nat.le_of_ble_eq_true rfl)⟩) ⟨fun a U g mk q => by obtain ⟨q0, q1, qK, qE⟩ := q; exact ⟨q0, q1, va_K.moved (u := U) (U := U.calling g mk a) (Vm.Alike.refl U.vm) qK, EVS.blind g mk a qE⟩, gH_rc hK hT hr_o0 shm_0 rfl, fun U hU hW => ⟨rfl, hU, va_K.moved hW.alike hK, hE.call hS hFc hU hW⟩⟩ rfl rfl hl.1 rfl (lv_room (Nat.le_of_ble_eq_true rfl)) dX12_pay_197 ⟨(Nat.le_of_ble_eq_true rfl), (Nat.le_of_ble_eq_true rfl)⟩) hS (fun q _ h => hFc q h) hFc (fun r359 u t H locs ht hvm hw360 hB _ _ hS => ?_)
                  obtain ⟨hT, hF1⟩ := hB
                  rw [ht] at hT hF1
                  have hF := hF.more hF1 (by decide)
                  try dsimp only at hw360
                  have ⟨ix367, hix367, m368⟩ := hw360
                  refine lv_if_ne (tgt := 230) hx hb dX12_pay_200 (by decide) (fun c370 => ?_) (fun c370 => ?_)
                  · have t371 : r359.toInt ≠ 0 := ti_ne c370 rfl (by decide)
                    refine lv_iload hx hb dX12_pay_230 (lv_at hl 0 rfl) ?_
                    exact W.iret (v := x333) hx hb hr (fun t ht hW => ⟨⟨x333, (), rfl, (by exact trivial), by (try dsimp only); rw [ht]; exact ⟨hT, hF⟩⟩, hS.F ht⟩) hS.2.2 dX12_pay_232
                  · have t372 : r359.toInt = 0 := ti_eq c370 rfl (by decide)
                    refine lv_aload_n hx hb dX12_pay_203 rfl (lv_at hl 5 rfl) ?_
                    refine lv_iload_n hx hb dX12_pay_204 rfl (lv_at hl 4 rfl) ?_
                    refine lv_iconst (v := 4) hx hb dX12_pay_205 (by decide) ?_
                    have hFc := gA_free hG hA hS
                    refine va_calli (va_runV (As := [.int x42, .int 4]) (rest := []) ⟨hx, hb, hml, hown, hts⟩ (s_of4 l dC dI kA adK adV G H q wZ wN wH wB wC wL wK wU wV PI im PM PT lS lB lE lN o0 x42 hT hr_o0 (by have q8 := ti_all x42; omega) hgz hgn hgh hgb hgc hgi hgu) (cwV 2 hts (goodIn_app (goodIn_r _ [36, 37, 38, 7] rfl (by decide +kernel)) (goodIn_ca (goodIn_r _ [32, 25, 33, 34, 35, 7] rfl (by decide +kernel)) (bs_in _ _))) rfl rfl rfl (by decide +kernel) ⟨(Nat.le_of_ble_eq_true rfl), (Nat.le_of_ble_eq_true rfl)⟩) ⟨fun a U g mk q => by obtain ⟨q0, q1, qK, qE⟩ := q; exact ⟨q0, q1, va_K.moved (u := U) (U := U.calling g mk a) (Vm.Alike.refl U.vm) qK, EVS.blind g mk a qE⟩, gH_rc hK hT hr_o0 shm_0 rfl, fun U hU hW => ⟨rfl, hU, va_K.moved hW.alike hK, hE.call hS hFc hU hW⟩⟩ rfl rfl hl.1 rfl (lv_room (Nat.le_of_ble_eq_true rfl)) dX12_pay_206 ⟨(Nat.le_of_ble_eq_true rfl), (Nat.le_of_ble_eq_true rfl)⟩) hS (fun q _ h => hFc q h) hFc (fun r373 u t H locs ht hvm hw374 hB _ _ hS => ?_)
                    obtain ⟨hT, hF1⟩ := hB
                    rw [ht] at hT hF1
                    have hF := hF.more hF1 (by decide)
                    try dsimp only at hw374
                    obtain ⟨h382, ⟨ix383, hix383, m384⟩⟩ := hw374
                    have m385 := (el_kept (hF1.arr hg139 skm_2 (by decide))).trans m384
                    refine lv_bipush (v := 6) hx hb dX12_pay_209 (by decide) ?_
                    refine lv_icmp_ge (tgt := 230) hx hb dX12_pay_211 (by decide) (fun c386 => ?_) (fun c386 => ?_)
                    · have t387 : 6 ≤ r373.toInt := ti_le c386 (by decide) rfl
                      refine lv_iload hx hb dX12_pay_230 (lv_at hl 0 rfl) ?_
                      exact W.iret (v := x333) hx hb hr (fun t ht hW => ⟨⟨x333, (), rfl, (by exact trivial), by (try dsimp only); rw [ht]; exact ⟨hT, hF⟩⟩, hS.F ht⟩) hS.2.2 dX12_pay_232
                    · have t388 : r373.toInt < 6 := ti_nle c386 (by decide) rfl
                      refine lv_aload_n hx hb dX12_pay_214 rfl (lv_at hl 5 rfl) ?_
                      refine lv_iload_n hx hb dX12_pay_215 rfl (lv_at hl 4 rfl) ?_
                      refine lv_iload hx hb dX12_pay_216 (lv_at hl 1 rfl) ?_
                      refine lv_bipush (v := 10) hx hb dX12_pay_218 (by decide) ?_
                      refine lv_idiv hx hb dX12_pay_220 (by decide) ?_
                      refine lv_topi (fun x389 ex389 => ?_)
                      have t390 : x389.toInt = x328.toInt / 10 := ti_div ex389 rfl (by decide) (by omega) (by omega)
                      refine lv_aload_n hx hb dX12_pay_221 rfl (lv_at hl 5 rfl) ?_
                      refine tw_get hx hb hts bF_X12 hown hK hT hr_o0 shm_0 rfl 57 (by decide) (ht_at hts 41 rfl) (fun _ h9 => h9) dX12_pay_222 (fun v9 m391 h9 => ?_)
                      obtain ⟨rfl, hg392⟩ := h9 _ rfl
                      refine lv_iload_n hx hb dX12_pay_225 rfl (lv_at hl 6 rfl) ?_
                      refine tw_iald (i := p0) hx hb hK hT hg392 shm_58 rfl (vin_t (a := p0.toInt) rfl (by omega) (by omega)) dX12_pay_226 (fun v9 m393 h9 => ?_)
                      obtain ⟨x394, rfl, gx394, kx394⟩ := h9
                      have hFc := gA_free hG hA hS
                      refine va_callv (va_runV (As := [.int x42, .int x389, .int x394]) (rest := []) ⟨hx, hb, hml, hown, hts⟩ (s_lays l dC dI kA adK adV G H q wZ wN wH wB wC wL wK wU wV PI im PM PT lS lB lE lN o0 x42 x389 x394 r373 ix383 hT hr_o0 (by have q8 := ti_all x42; omega) (by have q8 := ti_all x394; omega) (by have q9 := (show ix383.toInt = ix383.toInt from rfl); have := (show x42.toInt = x42.toInt from rfl); omega) m385 (by have q8 := ti_all r373; omega) hgz hgn hgh hgb hgc hgi hgu) (cwV 3 hts (goodIn_app (goodIn_r _ [45, 46, 47, 7] rfl (by decide +kernel)) (goodIn_ca (goodIn_r _ [43, 32, 25, 33, 34, 35, 7, 36, 37, 38, 44] rfl (by decide +kernel)) (bs_in _ _))) rfl rfl rfl (by decide +kernel) ⟨(Nat.le_of_ble_eq_true rfl), (Nat.le_of_ble_eq_true rfl)⟩) ⟨fun a U g mk q => by obtain ⟨q0, q1, qK, qE⟩ := q; exact ⟨q0, q1, va_K.moved (u := U) (U := U.calling g mk a) (Vm.Alike.refl U.vm) qK, EVS.blind g mk a qE⟩, gH_rc hK hT hr_o0 shm_0 rfl, fun U hU hW => ⟨rfl, hU, va_K.moved hW.alike hK, hE.call hS hFc hU hW⟩⟩ rfl rfl hl.1 rfl (lv_room (Nat.le_of_ble_eq_true rfl)) dX12_pay_227 ⟨(Nat.le_of_ble_eq_true rfl), (Nat.le_of_ble_eq_true rfl)⟩) hS (fun q _ h => hFc q h) hFc (fun u t H locs ht hvm hw396 hB _ _ hS => ?_)
                      obtain ⟨hT, hF1⟩ := hB
                      rw [ht] at hT hF1
                      have hF := hF.more hF1 (by decide)
                      try dsimp only at hw396
                      refine lv_iload hx hb dX12_pay_230 (lv_at hl 0 rfl) ?_
                      exact W.iret (v := x333) hx hb hr (fun t ht hW => ⟨⟨x333, (), rfl, (by exact trivial), by (try dsimp only); rw [ht]; exact ⟨hT, hF⟩⟩, hS.F ht⟩) hS.2.2 dX12_pay_232
              · have t406 : x335.toInt < x333.toInt := ti_nle c336 rfl rfl
                refine lv_iconst (v := (-1)) hx hb dX12_pay_163 (by decide) ?_
                exact W.iret (v := (-1)) hx hb hr (fun t ht hW => ⟨⟨(-1), (), rfl, (by exact trivial), by (try dsimp only); rw [ht]; exact ⟨hT, hF⟩⟩, hS.F ht⟩) hS.2.2 dX12_pay_164
      · have t407 : r33.toInt = 0 := ti_eq c37 rfl (by decide)
        refine lv_aload_n hx hb dX12_pay_35 rfl (lv_at hl 0 rfl) ?_
        refine tw_get hx hb hts bF_X12 hown hK hT hr_o0 shm_0 rfl 0 (by decide) (ht_at hts 0 rfl) (fun _ h9 => h9) dX12_pay_36 (fun v9 m408 h9 => ?_)
        obtain ⟨x409, rfl, gx409, kx409⟩ := h9 _ rfl
        refine lv_if_eq (tgt := 46) hx hb dX12_pay_39 (by decide) (fun c410 => ?_) (fun c410 => ?_)
        · have t411 : x409.toInt = 0 := ti_eq c410 rfl (by decide)
          refine lv_iconst (v := (-1)) hx hb dX12_pay_46 (by decide) ?_
          exact W.iret (v := (-1)) hx hb hr (fun t ht hW => ⟨⟨(-1), (), rfl, (by exact trivial), by (try dsimp only); rw [ht]; exact ⟨hT, hF⟩⟩, hS.F ht⟩) hS.2.2 dX12_pay_47
        · have t412 : x409.toInt ≠ 0 := ti_ne c410 rfl (by decide)
          refine lv_iconst (v := 0) hx hb dX12_pay_42 (by decide) ?_
          refine lv_goto (tgt := 47) hx hb dX12_pay_43 (by decide) ?_
          exact W.iret (v := 0) hx hb hr (fun t ht hW => ⟨⟨0, (), rfl, (by exact trivial), by (try dsimp only); rw [ht]; exact ⟨hT, hF⟩⟩, hS.F ht⟩) hS.2.2 dX12_pay_47
