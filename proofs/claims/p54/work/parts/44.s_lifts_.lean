def w_s_lifts_ : List Cond := .code yX12_lifts_ cX12_lifts_ 13 (some .int) :: (HAppend.hAppend (α := List Cond) (β := List Cond) (γ := List Cond) [.fieldLink RX12 194 "SeaLandModel" "thrown" "I", .code yX12_in cX12_in 3 (some .boolean), .methodLink RX12 197 yX12_in, .static yX12_in, .initialized RX12, .code yX12_throwsIf cX12_throwsIf 3 (some .boolean), .methodLink RX12 224 yX12_throwsIf, .instanceMethod yX12_throwsIf, .selects RX12 yX12_throwsIf yX12_throwsIf, .fieldLink RX12 9 "SeaLandModel" "world" "[I", .constant RX12 538 1000000000, .fieldLink RX12 161 "SeaLandModel" "best" "[I", .methodLink RX12 207 Lib.Math.min.name, .static Lib.Math.min.name, .initialized "java/lang/Math", .code Lib.Math.min.name Lib.Math.min.code 2 (some .int), .fieldLink RX12 164 "SeaLandModel" "next" "[I", .code yJ6_bitCount_0f7a4 cJ6_bitCount_0f7a4 1 (some .int), .constant RJ6 265 1431655765, .constant RJ6 266 858993459, .constant RJ6 267 252645135, .methodLink RX12 545 yJ6_bitCount_0f7a4, .static yJ6_bitCount_0f7a4, .initialized RJ6, .methodLink RX12 211 Lib.Math.max.name, .static Lib.Math.max.name, .code Lib.Math.max.name Lib.Math.max.code 2 (some .int), .code yX12_of cX12_of 3 (some .int), .code yX12_at cX12_at 2 (some .int), .methodLink RX12 214 yX12_at, .static yX12_at, .methodLink RX12 217 yX12_of, .instanceMethod yX12_of, .selects RX12 yX12_of yX12_of, .code yX12_hour cX12_hour 1 (some .int), .methodLink RX12 228 yX12_hour, .instanceMethod yX12_hour, .selects RX12 yX12_hour yX12_hour, .code yX12_wind cX12_wind 7 (some .int), .code yX12_telling cX12_telling 6 (some .int), .methodLink RX12 243 yX12_telling, .instanceMethod yX12_telling, .selects RX12 yX12_telling yX12_telling, .methodLink RX12 250 yX12_wind, .instanceMethod yX12_wind, .selects RX12 yX12_wind yX12_wind, .fieldLink RX12 167 "SeaLandModel" "powers" "[I"] bs)
set_option maxHeartbeats 4000000 in
set_option maxRecDepth 100000 in
theorem s_lifts_ (l : Launch) (dC : Nat → ClassId) (dI : Nat → Nat → Nat) (kA : Nat → ClassId) (adK adV : Nat → Nat) (G : gT) (H0 : Heap) (q : Nat → Nat) (wZ wN : Nat → Int) (wH wB wC : Int) (wL wK : Nat → Prop) (wU wV : Nat → Nat) (PI : Nat → Int → Prop) (im : Int) (PM PT : Nat → Int → Prop) (lS lB lE : Nat → Nat → Int → Prop) (lN : Nat → Int) (o0 : Nat) (p0 : Int32) (p1 : Int32) (p2 : Int32) (p3 : Int32)  (hT : gH (dC, dI) kA (SHm q (wP wZ wN wH wB wC wL wK wU wV) PI im PM PT lS lB lE lN) G H0) (hr_o0 : G o0 = some 0) (hgz : ∀ i, 0 ≤ wZ i) (hgn : ∀ i, 6500000 ≤ wN i ∧ wN i ≤ 20200000) (hgh : 0 ≤ wH ∧ wH ≤ 40000) (hgb : 0 ≤ wB ∧ wB ≤ 3850000) (hgc : 0 ≤ wC ∧ wC ≤ 30) (hgi : 0 ≤ im ∧ im ≤ 1) (hgu : ∀ a t, G a = some (t + 1) → a = q t) : Met l yX12_lifts_ w_s_lifts_ ({ frames := 2, cells := 0, slots := 0, locals := 66 }) (va_Pc [.ref o0, .int p0, .int p1, .int p2, .int p3] (fun U => U.heap = H0 ∧ va_K (dC, dI) vwCl (tyl kA) U ∧ EVS adK adV (gA G H0.size) U U.heap)) (va_Qi (fun (r : Int32) (u : Unit) => (-2147483648 ≤ r.toInt ∧ r.toInt ≤ 999999999)) (fun (_ : Unit) (t : State) => gH (dC, dI) kA (SHm q (wP wZ wN wH wB wC wL wK wU wV) PI im PM PT lS lB lE lN) G t.heap ∧ gF (dC, dI) SKm G ([(0, 0), (66, 0), (67, 0), (68, 0)] : List (Nat × Nat)) H0 t.heap) (gA G H0.size)) 0 0 (gA G H0.size) := by
  refine Met.ofW (cc := cX12_lifts_) (maxL := 13) (ret := (some .int)) (by decide) rfl ?_
  intro p e s m args below meth c s₁ B hml hv
  obtain ⟨rfl, hH0, hK, hE⟩ := hv
  have hx := B.exec
  have hb := B.bytes
  have hr := B.returns
  have hts := atoms_spec (ws := w_s_lifts_) B.pre
  have hown : s.vm.findClass RX12 = some m.cls := findClass_of_methodNamed B.named
  have hlocks := B.notSynchronized
  subst hH0
  generalize hAe : gA G s.heap.size = A at hE ⊢
  have hA : ∀ q : Nat, s.heap.size ≤ q → A q := fun q h => by rw [← hAe]; exact Or.inr h
  have hG := gA_of hAe
  have hS : va_S A s.heap s.heap [] := va_S.rf
  have hF : gF (dC, dI) SKm G ([(0, 0), (66, 0), (67, 0), (68, 0)] : List (Nat × Nat)) s.heap s.heap := gF.rf
  have hl := lv_entry ([.ref o0, .int p0, .int p1, .int p2, .int p3]) (n := 13) (Nat.le_of_ble_eq_true rfl)
  rw [lg_entry_eq]
  generalize (lg_sl ([.ref o0, .int p0, .int p1, .int p2, .int p3]) ++ List.replicate (13 - (lg_sl ([.ref o0, .int p0, .int p1, .int p2, .int p3])).length) Slot.unset).toArray = ls at hl ⊢
  have hl : lv_has ls 13 [(0, .ref o0), (1, .int p0), (2, .int p1), (3, .int p2), (4, .int p3)] := hl
  refine lv_aload_n hx hb dX12_lifts__0 rfl (lv_at hl 0 rfl) ?_
  refine lv_iconst (v := 0) hx hb dX12_lifts__1 (by decide) ?_
  refine tw_put (v := .int 0) (ty := .int) hx hb hts bF_X12 tyX12 tyX12_ok nmX12 hown hK hT hG hS hr_o0 shm_0 rfl 0 (by decide) (ht_at hts 0 rfl) (fun _ h9 => h9) rfl (by decide +kernel) rfl rfl (gl_at rfl (gi_all _)) dX12_lifts__2 (fun H locs hT oq m1 oj hS => ?_)
  have hF := hF.put hr_o0 skm_0 oq oj (by decide)
  refine lv_aload_n hx hb dX12_lifts__5 rfl (lv_at hl 0 rfl) ?_
  refine lv_iload_n hx hb dX12_lifts__6 rfl (lv_at hl 1 rfl) ?_
  refine lv_iconst (v := 0) hx hb dX12_lifts__7 (by decide) ?_
  refine lv_sipush (v := 1000) hx hb dX12_lifts__8 (by decide) ?_
  have hFc := gA_free hG hA hS
  refine va_calli (va_runS (As := [.int p0, .int 0, .int 1000]) (rest := [.ref o0]) ⟨hx, hb, hml, hown, hts⟩ (s_in l dC dI kA adK adV G H q wZ wN wH wB wC wL wK wU wV PI im PM PT lS lB lE lN p0 0 1000 hT hgz hgn hgh hgb hgc hgi hgu) (va_cwS 3 hts (goodIn_app (goodIn_r _ [3, 4, 5] rfl (by decide +kernel)) (goodIn_ca (goodIn_r _ [2] rfl (by decide +kernel)) (bs_in _ _))) rfl rfl rfl (by decide +kernel) ⟨(Nat.le_of_ble_eq_true rfl), (Nat.le_of_ble_eq_true rfl)⟩) ⟨fun a U g mk q => by obtain ⟨q0, q1, qK, qE⟩ := q; exact ⟨q0, q1, va_K.moved (u := U) (U := U.calling g mk a) (Vm.Alike.refl U.vm) qK, EVS.blind g mk a qE⟩, fun U hU hW => ⟨rfl, hU, va_K.moved hW.alike hK, hE.call hS hFc hU hW⟩⟩ rfl rfl hl.1 rfl (lv_room (Nat.le_of_ble_eq_true rfl)) dX12_lifts__11 ⟨(Nat.le_of_ble_eq_true rfl), (Nat.le_of_ble_eq_true rfl)⟩) hS (fun q _ h => hFc q h) hFc (fun r2 u t H locs ht hvm hw3 hB _ _ hS => ?_)
  obtain ⟨hT, hF1⟩ := hB
  rw [ht] at hT hF1
  have hF := hF.more hF1 (by decide)
  try dsimp only at hw3
  obtain ⟨h5, hi6, hi7⟩ := hw3
  refine lv_if_eq (tgt := 49) hx hb dX12_lifts__14 (by decide) (fun c8 => ?_) (fun c8 => ?_)
  · have t9 : r2.toInt = 0 := ti_eq c8 rfl (by decide)
    have t10 : (1000 : Int32).toInt = 1000 := by decide
    have t11 : (0 : Int32).toInt = 0 := by decide
    have t12 : p0.toInt < (0 : Int32).toInt ∨ (1000 : Int32).toInt < p0.toInt := hi7 c8
    refine lv_iconst (v := 1) hx hb dX12_lifts__49 (by decide) ?_
    refine lv_goto (tgt := 54) hx hb dX12_lifts__50 (by decide) ?_
    refine lv_iconst (v := 1) hx hb dX12_lifts__54 (by decide) ?_
    have hFc := gA_free hG hA hS
    refine va_calli (va_runV (As := [.int 1, .int 1]) (rest := []) ⟨hx, hb, hml, hown, hts⟩ (s_throwsIf l dC dI kA adK adV G H q wZ wN wH wB wC wL wK wU wV PI im PM PT lS lB lE lN o0 1 1 hT hr_o0 (rg_t (a := 1) (by decide) (by first | decide | omega) (by first | decide | omega)) hgz hgn hgh hgb hgc hgi hgu) (cwV 2 hts (goodIn_app (goodIn_r _ [7, 8, 9, 5] rfl (by decide +kernel)) (goodIn_ca (goodIn_r _ [6, 1] rfl (by decide +kernel)) (bs_in _ _))) rfl rfl rfl (by decide +kernel) ⟨(Nat.le_of_ble_eq_true rfl), (Nat.le_of_ble_eq_true rfl)⟩) ⟨fun a U g mk q => by obtain ⟨q0, q1, qK, qE⟩ := q; exact ⟨q0, q1, va_K.moved (u := U) (U := U.calling g mk a) (Vm.Alike.refl U.vm) qK, EVS.blind g mk a qE⟩, gH_rc hK hT hr_o0 shm_0 rfl, fun U hU hW => ⟨rfl, hU, va_K.moved hW.alike hK, hE.call hS hFc hU hW⟩⟩ rfl rfl hl.1 rfl (lv_room (Nat.le_of_ble_eq_true rfl)) dX12_lifts__55 ⟨(Nat.le_of_ble_eq_true rfl), (Nat.le_of_ble_eq_true rfl)⟩) hS (fun q _ h => hFc q h) hFc (fun r13 u t H locs ht hvm hw14 hB _ _ hS => ?_)
    obtain ⟨hT, hF1⟩ := hB
    rw [ht] at hT hF1
    have hF := hF.more hF1 (by decide)
    try dsimp only at hw14
    obtain ⟨h16, hd17⟩ := hw14
    obtain rfl : (1 : Int32) = r13 := hd17.symm
    refine lv_if_eq (tgt := 63) hx hb dX12_lifts__58 (by decide) (fun c18 => absurd c18 (by decide)) (fun c18 => ?_)
    refine lv_iconst (v := 0) hx hb dX12_lifts__61 (by decide) ?_
    exact W.iret (v := 0) hx hb hr (fun t ht hW => ⟨⟨0, (), rfl, (by exact (rg_t (a := 0) (by decide) (by first | decide | omega) (by first | decide | omega))), by (try dsimp only); rw [ht]; exact ⟨hT, hF⟩⟩, hS.F ht⟩) hS.2.2 dX12_lifts__62
  · have t19 : r2.toInt ≠ 0 := ti_ne c8 rfl (by decide)
    have t20 : (1000 : Int32).toInt = 1000 := by decide
    have t21 : (0 : Int32).toInt = 0 := by decide
    have t22 : (0 : Int32).toInt ≤ p0.toInt ∧ p0.toInt ≤ (1000 : Int32).toInt := hi6 ((bit_of ⟨by omega, by omega⟩).resolve_left c8)
    refine lv_iload_n hx hb dX12_lifts__17 rfl (lv_at hl 2 rfl) ?_
    refine lv_iconst (v := 0) hx hb dX12_lifts__18 (by decide) ?_
    refine lv_bipush (v := 100) hx hb dX12_lifts__19 (by decide) ?_
    have hFc := gA_free hG hA hS
    refine va_calli (va_runS (As := [.int p1, .int 0, .int 100]) (rest := [.ref o0]) ⟨hx, hb, hml, hown, hts⟩ (s_in l dC dI kA adK adV G H q wZ wN wH wB wC wL wK wU wV PI im PM PT lS lB lE lN p1 0 100 hT hgz hgn hgh hgb hgc hgi hgu) (va_cwS 3 hts (goodIn_app (goodIn_r _ [3, 4, 5] rfl (by decide +kernel)) (goodIn_ca (goodIn_r _ [2] rfl (by decide +kernel)) (bs_in _ _))) rfl rfl rfl (by decide +kernel) ⟨(Nat.le_of_ble_eq_true rfl), (Nat.le_of_ble_eq_true rfl)⟩) ⟨fun a U g mk q => by obtain ⟨q0, q1, qK, qE⟩ := q; exact ⟨q0, q1, va_K.moved (u := U) (U := U.calling g mk a) (Vm.Alike.refl U.vm) qK, EVS.blind g mk a qE⟩, fun U hU hW => ⟨rfl, hU, va_K.moved hW.alike hK, hE.call hS hFc hU hW⟩⟩ rfl rfl hl.1 rfl (lv_room (Nat.le_of_ble_eq_true rfl)) dX12_lifts__21 ⟨(Nat.le_of_ble_eq_true rfl), (Nat.le_of_ble_eq_true rfl)⟩) hS (fun q _ h => hFc q h) hFc (fun r23 u t H locs ht hvm hw24 hB _ _ hS => ?_)
    obtain ⟨hT, hF1⟩ := hB
    rw [ht] at hT hF1
    have hF := hF.more hF1 (by decide)
    try dsimp only at hw24
    obtain ⟨h26, hi27, hi28⟩ := hw24
    refine lv_if_eq (tgt := 49) hx hb dX12_lifts__24 (by decide) (fun c29 => ?_) (fun c29 => ?_)
    · have t30 : r23.toInt = 0 := ti_eq c29 rfl (by decide)
      have t31 : (100 : Int32).toInt = 100 := by decide
      have t32 : (0 : Int32).toInt = 0 := by decide
      have t33 : p1.toInt < (0 : Int32).toInt ∨ (100 : Int32).toInt < p1.toInt := hi28 c29
      refine lv_iconst (v := 1) hx hb dX12_lifts__49 (by decide) ?_
      refine lv_goto (tgt := 54) hx hb dX12_lifts__50 (by decide) ?_
      refine lv_iconst (v := 1) hx hb dX12_lifts__54 (by decide) ?_
      have hFc := gA_free hG hA hS
      refine va_calli (va_runV (As := [.int 1, .int 1]) (rest := []) ⟨hx, hb, hml, hown, hts⟩ (s_throwsIf l dC dI kA adK adV G H q wZ wN wH wB wC wL wK wU wV PI im PM PT lS lB lE lN o0 1 1 hT hr_o0 (rg_t (a := 1) (by decide) (by first | decide | omega) (by first | decide | omega)) hgz hgn hgh hgb hgc hgi hgu) (cwV 2 hts (goodIn_app (goodIn_r _ [7, 8, 9, 5] rfl (by decide +kernel)) (goodIn_ca (goodIn_r _ [6, 1] rfl (by decide +kernel)) (bs_in _ _))) rfl rfl rfl (by decide +kernel) ⟨(Nat.le_of_ble_eq_true rfl), (Nat.le_of_ble_eq_true rfl)⟩) ⟨fun a U g mk q => by obtain ⟨q0, q1, qK, qE⟩ := q; exact ⟨q0, q1, va_K.moved (u := U) (U := U.calling g mk a) (Vm.Alike.refl U.vm) qK, EVS.blind g mk a qE⟩, gH_rc hK hT hr_o0 shm_0 rfl, fun U hU hW => ⟨rfl, hU, va_K.moved hW.alike hK, hE.call hS hFc hU hW⟩⟩ rfl rfl hl.1 rfl (lv_room (Nat.le_of_ble_eq_true rfl)) dX12_lifts__55 ⟨(Nat.le_of_ble_eq_true rfl), (Nat.le_of_ble_eq_true rfl)⟩) hS (fun q _ h => hFc q h) hFc (fun r34 u t H locs ht hvm hw35 hB _ _ hS => ?_)
      obtain ⟨hT, hF1⟩ := hB
      rw [ht] at hT hF1
      have hF := hF.more hF1 (by decide)
      try dsimp only at hw35
      obtain ⟨h37, hd38⟩ := hw35
      obtain rfl : (1 : Int32) = r34 := hd38.symm
      refine lv_if_eq (tgt := 63) hx hb dX12_lifts__58 (by decide) (fun c39 => absurd c39 (by decide)) (fun c39 => ?_)
      refine lv_iconst (v := 0) hx hb dX12_lifts__61 (by decide) ?_
      exact W.iret (v := 0) hx hb hr (fun t ht hW => ⟨⟨0, (), rfl, (by exact (rg_t (a := 0) (by decide) (by first | decide | omega) (by first | decide | omega))), by (try dsimp only); rw [ht]; exact ⟨hT, hF⟩⟩, hS.F ht⟩) hS.2.2 dX12_lifts__62
    · have t40 : r23.toInt ≠ 0 := ti_ne c29 rfl (by decide)
      have t41 : (100 : Int32).toInt = 100 := by decide
      have t42 : (0 : Int32).toInt = 0 := by decide
      have t43 : (0 : Int32).toInt ≤ p1.toInt ∧ p1.toInt ≤ (100 : Int32).toInt := hi27 ((bit_of ⟨by omega, by omega⟩).resolve_left c29)
      refine lv_iload_n hx hb dX12_lifts__27 rfl (lv_at hl 3 rfl) ?_
      refine lv_iconst (v := 1) hx hb dX12_lifts__28 (by decide) ?_
      refine lv_bipush (v := 24) hx hb dX12_lifts__29 (by decide) ?_
      have hFc := gA_free hG hA hS
      refine va_calli (va_runS (As := [.int p2, .int 1, .int 24]) (rest := [.ref o0]) ⟨hx, hb, hml, hown, hts⟩ (s_in l dC dI kA adK adV G H q wZ wN wH wB wC wL wK wU wV PI im PM PT lS lB lE lN p2 1 24 hT hgz hgn hgh hgb hgc hgi hgu) (va_cwS 3 hts (goodIn_app (goodIn_r _ [3, 4, 5] rfl (by decide +kernel)) (goodIn_ca (goodIn_r _ [2] rfl (by decide +kernel)) (bs_in _ _))) rfl rfl rfl (by decide +kernel) ⟨(Nat.le_of_ble_eq_true rfl), (Nat.le_of_ble_eq_true rfl)⟩) ⟨fun a U g mk q => by obtain ⟨q0, q1, qK, qE⟩ := q; exact ⟨q0, q1, va_K.moved (u := U) (U := U.calling g mk a) (Vm.Alike.refl U.vm) qK, EVS.blind g mk a qE⟩, fun U hU hW => ⟨rfl, hU, va_K.moved hW.alike hK, hE.call hS hFc hU hW⟩⟩ rfl rfl hl.1 rfl (lv_room (Nat.le_of_ble_eq_true rfl)) dX12_lifts__31 ⟨(Nat.le_of_ble_eq_true rfl), (Nat.le_of_ble_eq_true rfl)⟩) hS (fun q _ h => hFc q h) hFc (fun r44 u t H locs ht hvm hw45 hB _ _ hS => ?_)
      obtain ⟨hT, hF1⟩ := hB
      rw [ht] at hT hF1
      have hF := hF.more hF1 (by decide)
      try dsimp only at hw45
      obtain ⟨h47, hi48, hi49⟩ := hw45
      refine lv_if_eq (tgt := 49) hx hb dX12_lifts__34 (by decide) (fun c50 => ?_) (fun c50 => ?_)
      · have t51 : r44.toInt = 0 := ti_eq c50 rfl (by decide)
        have t52 : (24 : Int32).toInt = 24 := by decide
        have t53 : (1 : Int32).toInt = 1 := by decide
        have t54 : p2.toInt < (1 : Int32).toInt ∨ (24 : Int32).toInt < p2.toInt := hi49 c50
        refine lv_iconst (v := 1) hx hb dX12_lifts__49 (by decide) ?_
        refine lv_goto (tgt := 54) hx hb dX12_lifts__50 (by decide) ?_
        refine lv_iconst (v := 1) hx hb dX12_lifts__54 (by decide) ?_
        have hFc := gA_free hG hA hS
        refine va_calli (va_runV (As := [.int 1, .int 1]) (rest := []) ⟨hx, hb, hml, hown, hts⟩ (s_throwsIf l dC dI kA adK adV G H q wZ wN wH wB wC wL wK wU wV PI im PM PT lS lB lE lN o0 1 1 hT hr_o0 (rg_t (a := 1) (by decide) (by first | decide | omega) (by first | decide | omega)) hgz hgn hgh hgb hgc hgi hgu) (cwV 2 hts (goodIn_app (goodIn_r _ [7, 8, 9, 5] rfl (by decide +kernel)) (goodIn_ca (goodIn_r _ [6, 1] rfl (by decide +kernel)) (bs_in _ _))) rfl rfl rfl (by decide +kernel) ⟨(Nat.le_of_ble_eq_true rfl), (Nat.le_of_ble_eq_true rfl)⟩) ⟨fun a U g mk q => by obtain ⟨q0, q1, qK, qE⟩ := q; exact ⟨q0, q1, va_K.moved (u := U) (U := U.calling g mk a) (Vm.Alike.refl U.vm) qK, EVS.blind g mk a qE⟩, gH_rc hK hT hr_o0 shm_0 rfl, fun U hU hW => ⟨rfl, hU, va_K.moved hW.alike hK, hE.call hS hFc hU hW⟩⟩ rfl rfl hl.1 rfl (lv_room (Nat.le_of_ble_eq_true rfl)) dX12_lifts__55 ⟨(Nat.le_of_ble_eq_true rfl), (Nat.le_of_ble_eq_true rfl)⟩) hS (fun q _ h => hFc q h) hFc (fun r55 u t H locs ht hvm hw56 hB _ _ hS => ?_)
        obtain ⟨hT, hF1⟩ := hB
        rw [ht] at hT hF1
        have hF := hF.more hF1 (by decide)
        try dsimp only at hw56
        obtain ⟨h58, hd59⟩ := hw56
        obtain rfl : (1 : Int32) = r55 := hd59.symm
        refine lv_if_eq (tgt := 63) hx hb dX12_lifts__58 (by decide) (fun c60 => absurd c60 (by decide)) (fun c60 => ?_)
        refine lv_iconst (v := 0) hx hb dX12_lifts__61 (by decide) ?_
        exact W.iret (v := 0) hx hb hr (fun t ht hW => ⟨⟨0, (), rfl, (by exact (rg_t (a := 0) (by decide) (by first | decide | omega) (by first | decide | omega))), by (try dsimp only); rw [ht]; exact ⟨hT, hF⟩⟩, hS.F ht⟩) hS.2.2 dX12_lifts__62
      · have t61 : r44.toInt ≠ 0 := ti_ne c50 rfl (by decide)
        have t62 : (24 : Int32).toInt = 24 := by decide
        have t63 : (1 : Int32).toInt = 1 := by decide
        have t64 : (1 : Int32).toInt ≤ p2.toInt ∧ p2.toInt ≤ (24 : Int32).toInt := hi48 ((bit_of ⟨by omega, by omega⟩).resolve_left c50)
        refine lv_iload hx hb dX12_lifts__37 (lv_at hl 4 rfl) ?_
        refine lv_iconst (v := 0) hx hb dX12_lifts__39 (by decide) ?_
        refine lv_sipush (v := 1000) hx hb dX12_lifts__40 (by decide) ?_
        have hFc := gA_free hG hA hS
        refine va_calli (va_runS (As := [.int p3, .int 0, .int 1000]) (rest := [.ref o0]) ⟨hx, hb, hml, hown, hts⟩ (s_in l dC dI kA adK adV G H q wZ wN wH wB wC wL wK wU wV PI im PM PT lS lB lE lN p3 0 1000 hT hgz hgn hgh hgb hgc hgi hgu) (va_cwS 3 hts (goodIn_app (goodIn_r _ [3, 4, 5] rfl (by decide +kernel)) (goodIn_ca (goodIn_r _ [2] rfl (by decide +kernel)) (bs_in _ _))) rfl rfl rfl (by decide +kernel) ⟨(Nat.le_of_ble_eq_true rfl), (Nat.le_of_ble_eq_true rfl)⟩) ⟨fun a U g mk q => by obtain ⟨q0, q1, qK, qE⟩ := q; exact ⟨q0, q1, va_K.moved (u := U) (U := U.calling g mk a) (Vm.Alike.refl U.vm) qK, EVS.blind g mk a qE⟩, fun U hU hW => ⟨rfl, hU, va_K.moved hW.alike hK, hE.call hS hFc hU hW⟩⟩ rfl rfl hl.1 rfl (lv_room (Nat.le_of_ble_eq_true rfl)) dX12_lifts__43 ⟨(Nat.le_of_ble_eq_true rfl), (Nat.le_of_ble_eq_true rfl)⟩) hS (fun q _ h => hFc q h) hFc (fun r65 u t H locs ht hvm hw66 hB _ _ hS => ?_)
        obtain ⟨hT, hF1⟩ := hB
        rw [ht] at hT hF1
        have hF := hF.more hF1 (by decide)
        try dsimp only at hw66
        obtain ⟨h68, hi69, hi70⟩ := hw66
        refine lv_if_ne (tgt := 53) hx hb dX12_lifts__46 (by decide) (fun c71 => ?_) (fun c71 => ?_)
        · have t72 : r65.toInt ≠ 0 := ti_ne c71 rfl (by decide)
          have t73 : (1000 : Int32).toInt = 1000 := by decide
          have t74 : (0 : Int32).toInt = 0 := by decide
          have t75 : (0 : Int32).toInt ≤ p3.toInt ∧ p3.toInt ≤ (1000 : Int32).toInt := hi69 ((bit_of ⟨by omega, by omega⟩).resolve_left c71)
          refine lv_iconst (v := 0) hx hb dX12_lifts__53 (by decide) ?_
          refine lv_iconst (v := 1) hx hb dX12_lifts__54 (by decide) ?_
          have hFc := gA_free hG hA hS
          refine va_calli (va_runV (As := [.int 0, .int 1]) (rest := []) ⟨hx, hb, hml, hown, hts⟩ (s_throwsIf l dC dI kA adK adV G H q wZ wN wH wB wC wL wK wU wV PI im PM PT lS lB lE lN o0 0 1 hT hr_o0 (rg_t (a := 0) (by decide) (by first | decide | omega) (by first | decide | omega)) hgz hgn hgh hgb hgc hgi hgu) (cwV 2 hts (goodIn_app (goodIn_r _ [7, 8, 9, 5] rfl (by decide +kernel)) (goodIn_ca (goodIn_r _ [6, 1] rfl (by decide +kernel)) (bs_in _ _))) rfl rfl rfl (by decide +kernel) ⟨(Nat.le_of_ble_eq_true rfl), (Nat.le_of_ble_eq_true rfl)⟩) ⟨fun a U g mk q => by obtain ⟨q0, q1, qK, qE⟩ := q; exact ⟨q0, q1, va_K.moved (u := U) (U := U.calling g mk a) (Vm.Alike.refl U.vm) qK, EVS.blind g mk a qE⟩, gH_rc hK hT hr_o0 shm_0 rfl, fun U hU hW => ⟨rfl, hU, va_K.moved hW.alike hK, hE.call hS hFc hU hW⟩⟩ rfl rfl hl.1 rfl (lv_room (Nat.le_of_ble_eq_true rfl)) dX12_lifts__55 ⟨(Nat.le_of_ble_eq_true rfl), (Nat.le_of_ble_eq_true rfl)⟩) hS (fun q _ h => hFc q h) hFc (fun r76 u t H locs ht hvm hw77 hB _ _ hS => ?_)
          obtain ⟨hT, hF1⟩ := hB
          rw [ht] at hT hF1
          have hF := hF.more hF1 (by decide)
          try dsimp only at hw77
          obtain ⟨h79, hd80⟩ := hw77
          obtain rfl : (0 : Int32) = r76 := hd80.symm
          refine lv_if_eq (tgt := 63) hx hb dX12_lifts__58 (by decide) (fun c81 => ?_) (fun c81 => absurd c81 (by decide))
          refine lv_iconst (v := 0) hx hb dX12_lifts__63 (by decide) ?_
          refine lv_istore (lv' := [(5, .int 0), (0, .ref o0), (1, .int p0), (2, .int p1), (3, .int p2), (4, .int p3)]) hx hb dX12_lifts__64 hl (by decide) rfl (fun ls hl => ?_)
          refine lv_iconst (v := 0) hx hb dX12_lifts__66 (by decide) ?_
          refine lv_istore (lv' := [(6, .int 0), (5, .int 0), (0, .ref o0), (1, .int p0), (2, .int p1), (3, .int p2), (4, .int p3)]) hx hb dX12_lifts__67 hl (by decide) rfl (fun ls hl => ?_)
          have key3893 : ∀ (n3893 i82 : Nat), i82 + n3893 = 30 → 0 ≤ i82 → ∀ (z83 : Int32), ((0 ≤ z83.toInt ∧ z83.toInt ≤ 5)) → ∀ (H : Heap) (locs : List Loc), gH (dC, dI) kA (SHm q (wP wZ wN wH wB wC wL wK wU wV) PI im PM PT lS lB lE lN) G H → gF (dC, dI) SKm G ([(0, 0), (66, 0), (67, 0), (68, 0)] : List (Nat × Nat)) s.heap H → va_S A s.heap H locs → ∀ ls : Array Slot, lv_has ls 13 [(6, .int (nI i82)), (5, .int z83), (0, .ref o0), (1, .int p0), (2, .int p1), (3, .int p2), (4, .int p3)] → W p l e (headSpec w_s_lifts_ ({ frames := 2, cells := 0, slots := 0, locals := 66 })).room s m #[.ref o0, .int p0, .int p1, .int p2, .int p3] below meth c H locs 0 0 (MQ below (va_Qi (fun (r : Int32) (u : Unit) => (-2147483648 ≤ r.toInt ∧ r.toInt ≤ 999999999)) (fun (_ : Unit) (t : State) => gH (dC, dI) kA (SHm q (wP wZ wN wH wB wC wL wK wU wV) PI im PM PT lS lB lE lN) G t.heap ∧ gF (dC, dI) SKm G ([(0, 0), (66, 0), (67, 0), (68, 0)] : List (Nat × Nat)) s.heap t.heap) A) #[.ref o0, .int p0, .int p1, .int p2, .int p3] s 0 0 A) (F0 m 69 ls []) := by
            intro n3893
            induction n3893 with
            | zero =>
              intro i82 hn3893 hlo3894 z83 h84 H locs hT hF hS  ls hl
              obtain rfl : 30 = i82 := by omega
              refine lv_iload hx hb dX12_lifts__69 (lv_at hl 0 rfl) ?_
              refine lv_aload_n hx hb dX12_lifts__71 rfl (lv_at hl 2 rfl) ?_
              refine tw_get hx hb hts bF_X12 hown hK hT hr_o0 shm_0 rfl 1 (by decide) (ht_at hts 9 rfl) (fun _ h9 => h9) dX12_lifts__72 (fun v9 m3895 h9 => ?_)
              obtain ⟨rfl, hg3896⟩ := h9 _ rfl
              refine lv_sipush (v := 1428) hx hb dX12_lifts__75 (by decide) ?_
              refine tw_iald (i := 1428) hx hb hK hT hg3896 shm_2 rfl (by unfold vp_in; decide) dX12_lifts__78 (fun v9 m3897 h9 => ?_)
              obtain ⟨x3898, rfl, gx3898, kx3898⟩ := (gp_at h9 (w_wct (by have q9 := tn_of (show (1428 : Int32).toInt = 1428 from (by decide)) (show (0 : Int) ≤ 1428 from by omega); omega)))
              refine lv_icmp_ge (tgt := 126) hx hb dX12_lifts__79 (by decide) (fun c3899 => ?_) (fun c3899 => (by exfalso; have q9 : ((30 : Nat) : Int) < x3898.toInt := ti_nle c3899 rfl (nI_toInt (by omega)); omega))
              have t3900 : x3898.toInt ≤ ((30 : Nat) : Int) := ti_le c3899 rfl (nI_toInt (by omega))
              refine lv_iconst (v := 0) hx hb dX12_lifts__126 (by decide) ?_
              refine lv_istore (lv' := [(6, .int 0), (5, .int z83), (0, .ref o0), (1, .int p0), (2, .int p1), (3, .int p2), (4, .int p3)]) hx hb dX12_lifts__127 hl (by decide) rfl (fun ls hl => ?_)
              have key3914 : ∀ (n3914 i3901 : Nat), i3901 + n3914 = 1001 → 0 ≤ i3901 → ∀ (H : Heap) (locs : List Loc), gH (dC, dI) kA (SHm q (wP wZ wN wH wB wC wL wK wU wV) PI im PM PT lS lB lE lN) G H → gF (dC, dI) SKm G ([(0, 0), (66, 0), (67, 0), (68, 0)] : List (Nat × Nat)) s.heap H → va_S A s.heap H locs → el H (q 1) (1428 : Int32).toNatClampNeg = some (.int x3898) → ∀ ls : Array Slot, lv_has ls 13 [(6, .int (nI i3901)), (5, .int z83), (0, .ref o0), (1, .int p0), (2, .int p1), (3, .int p2), (4, .int p3)] → W p l e (headSpec w_s_lifts_ ({ frames := 2, cells := 0, slots := 0, locals := 66 })).room s m #[.ref o0, .int p0, .int p1, .int p2, .int p3] below meth c H locs 0 0 (MQ below (va_Qi (fun (r : Int32) (u : Unit) => (-2147483648 ≤ r.toInt ∧ r.toInt ≤ 999999999)) (fun (_ : Unit) (t : State) => gH (dC, dI) kA (SHm q (wP wZ wN wH wB wC wL wK wU wV) PI im PM PT lS lB lE lN) G t.heap ∧ gF (dC, dI) SKm G ([(0, 0), (66, 0), (67, 0), (68, 0)] : List (Nat × Nat)) s.heap t.heap) A) #[.ref o0, .int p0, .int p1, .int p2, .int p3] s 0 0 A) (F0 m 129 ls []) := by
                intro n3914
                induction n3914 with
                | zero =>
                  intro i3901 hn3914 hlo3915  H locs hT hF hS m3902 ls hl
                  obtain rfl : 1001 = i3901 := by omega
                  refine lv_iload hx hb dX12_lifts__129 (lv_at hl 0 rfl) ?_
                  refine lv_sipush (v := 1001) hx hb dX12_lifts__131 (by decide) ?_
                  refine lv_icmp_ge (tgt := 163) hx hb dX12_lifts__134 (by decide) (fun c3916 => ?_) (fun c3916 => (by exfalso; have q9 : ((1001 : Nat) : Int) < 1001 := ti_nle c3916 (by decide) (nI_toInt (by omega)); omega))
                  have t3917 : 1001 ≤ ((1001 : Nat) : Int) := ti_le c3916 (by decide) (nI_toInt (by omega))
                  refine lv_iconst (v := 1) hx hb dX12_lifts__163 (by decide) ?_
                  refine lv_istore (lv' := [(6, .int 1), (5, .int z83), (0, .ref o0), (1, .int p0), (2, .int p1), (3, .int p2), (4, .int p3)]) hx hb dX12_lifts__164 hl (by decide) rfl (fun ls hl => ?_)
                  have key9554 : ∀ (n9554 i3918 : Nat), i3918 + n9554 = 25 → 1 ≤ i3918 → ∀ (H : Heap) (locs : List Loc), gH (dC, dI) kA (SHm q (wP wZ wN wH wB wC wL wK wU wV) PI im PM PT lS lB lE lN) G H → gF (dC, dI) SKm G ([(0, 0), (66, 0), (67, 0), (68, 0)] : List (Nat × Nat)) s.heap H → va_S A s.heap H locs → el H (q 1) (1428 : Int32).toNatClampNeg = some (.int x3898) → ∀ ls : Array Slot, lv_has ls 13 [(6, .int (nI i3918)), (5, .int z83), (0, .ref o0), (1, .int p0), (2, .int p1), (3, .int p2), (4, .int p3)] → W p l e (headSpec w_s_lifts_ ({ frames := 2, cells := 0, slots := 0, locals := 66 })).room s m #[.ref o0, .int p0, .int p1, .int p2, .int p3] below meth c H locs 0 0 (MQ below (va_Qi (fun (r : Int32) (u : Unit) => (-2147483648 ≤ r.toInt ∧ r.toInt ≤ 999999999)) (fun (_ : Unit) (t : State) => gH (dC, dI) kA (SHm q (wP wZ wN wH wB wC wL wK wU wV) PI im PM PT lS lB lE lN) G t.heap ∧ gF (dC, dI) SKm G ([(0, 0), (66, 0), (67, 0), (68, 0)] : List (Nat × Nat)) s.heap t.heap) A) #[.ref o0, .int p0, .int p1, .int p2, .int p3] s 0 0 A) (F0 m 166 ls []) := by
                    intro n9554
                    induction n9554 with
                    | zero =>
                      intro i3918 hn9554 hlo9555  H locs hT hF hS m3919 ls hl
                      obtain rfl : 25 = i3918 := by omega
                      refine lv_iload hx hb dX12_lifts__166 (lv_at hl 0 rfl) ?_
                      refine lv_iload_n hx hb dX12_lifts__168 rfl (lv_at hl 5 rfl) ?_
                      refine lv_icmp_gt (tgt := 449) hx hb dX12_lifts__169 (by decide) (fun c9556 => ?_) (fun c9556 => (by exfalso; have q9 : ((25 : Nat) : Int) ≤ p2.toInt := ti_nlt c9556 rfl (nI_toInt (by omega)); omega))
                      have t9557 : p2.toInt < ((25 : Nat) : Int) := ti_lt c9556 rfl (nI_toInt (by omega))
                      refine lv_ldcw (v := 1000000000) hx hb hown (ht_at hts 10 rfl) dX12_lifts__449 ?_
                      refine lv_istore (lv' := [(6, .int 1000000000), (5, .int z83), (0, .ref o0), (1, .int p0), (2, .int p1), (3, .int p2), (4, .int p3)]) hx hb dX12_lifts__452 hl (by decide) rfl (fun ls hl => ?_)
                      refine lv_iconst (v := 0) hx hb dX12_lifts__454 (by decide) ?_
                      refine lv_istore (lv' := [(7, .int 0), (6, .int 1000000000), (5, .int z83), (0, .ref o0), (1, .int p0), (2, .int p1), (3, .int p2), (4, .int p3)]) hx hb dX12_lifts__455 hl (by decide) rfl (fun ls hl => ?_)
                      have jn9583 : ∀ (z9580 : Int32), ((-2147483648 ≤ z9580.toInt ∧ z9580.toInt ≤ 1000000000)) → ∀ (H : Heap) (locs : List Loc), gH (dC, dI) kA (SHm q (wP wZ wN wH wB wC wL wK wU wV) PI im PM PT lS lB lE lN) G H → gF (dC, dI) SKm G ([(0, 0), (66, 0), (67, 0), (68, 0)] : List (Nat × Nat)) s.heap H → va_S A s.heap H locs → el H (q 1) (1428 : Int32).toNatClampNeg = some (.int x3898) → ∀ ls : Array Slot, lv_has ls 13 [(7, .int (nI 1001)), (6, .int z9580), (5, .int z83), (0, .ref o0), (1, .int p0), (2, .int p1), (3, .int p2), (4, .int p3)] → W p l e (headSpec w_s_lifts_ ({ frames := 2, cells := 0, slots := 0, locals := 66 })).room s m #[.ref o0, .int p0, .int p1, .int p2, .int p3] below meth c H locs 0 0 (MQ below (va_Qi (fun (r : Int32) (u : Unit) => (-2147483648 ≤ r.toInt ∧ r.toInt ≤ 999999999)) (fun (_ : Unit) (t : State) => gH (dC, dI) kA (SHm q (wP wZ wN wH wB wC wL wK wU wV) PI im PM PT lS lB lE lN) G t.heap ∧ gF (dC, dI) SKm G ([(0, 0), (66, 0), (67, 0), (68, 0)] : List (Nat × Nat)) s.heap t.heap) A) #[.ref o0, .int p0, .int p1, .int p2, .int p3] s 0 0 A) (F0 m 485 ls []) := by
                        intro z9580 h9581 H locs hT hF hS m9582 ls hl
                        refine lv_iload hx hb dX12_lifts__485 (lv_at hl 1 rfl) ?_
                        refine lv_ldcw (v := 1000000000) hx hb hown (ht_at hts 10 rfl) dX12_lifts__487 ?_
                        refine lv_icmp_ne (tgt := 497) hx hb dX12_lifts__490 (by decide) (fun c9584 => ?_) (fun c9584 => ?_)
                        · have t9585 : z9580.toInt ≠ 1000000000 := ti_ne c9584 rfl (by decide)
                          refine lv_iload hx hb dX12_lifts__497 (lv_at hl 1 rfl) ?_
                          exact W.iret (v := z9580) hx hb hr (fun t ht hW => ⟨⟨z9580, (), rfl, (by exact (by have q8 := ti_all z9580; omega)), by (try dsimp only); rw [ht]; exact ⟨hT, hF⟩⟩, hS.F ht⟩) hS.2.2 dX12_lifts__499
                        · have t9586 : z9580.toInt = 1000000000 := ti_eq c9584 rfl (by decide)
                          refine lv_iconst (v := (-1)) hx hb dX12_lifts__493 (by decide) ?_
                          refine lv_goto (tgt := 499) hx hb dX12_lifts__494 (by decide) ?_
                          exact W.iret (v := (-1)) hx hb hr (fun t ht hW => ⟨⟨(-1), (), rfl, (by exact (rg_t (a := (-1)) (by decide) (by first | decide | omega) (by first | decide | omega))), by (try dsimp only); rw [ht]; exact ⟨hT, hF⟩⟩, hS.F ht⟩) hS.2.2 dX12_lifts__499
                      have key9587 : ∀ (n9587 i9558 : Nat), i9558 + n9587 = 1001 → 0 ≤ i9558 → ∀ (z9559 : Int32), ((-2147483648 ≤ z9559.toInt ∧ z9559.toInt ≤ 1000000000)) → ∀ (H : Heap) (locs : List Loc), gH (dC, dI) kA (SHm q (wP wZ wN wH wB wC wL wK wU wV) PI im PM PT lS lB lE lN) G H → gF (dC, dI) SKm G ([(0, 0), (66, 0), (67, 0), (68, 0)] : List (Nat × Nat)) s.heap H → va_S A s.heap H locs → el H (q 1) (1428 : Int32).toNatClampNeg = some (.int x3898) → ∀ ls : Array Slot, lv_has ls 13 [(7, .int (nI i9558)), (6, .int z9559), (5, .int z83), (0, .ref o0), (1, .int p0), (2, .int p1), (3, .int p2), (4, .int p3)] → W p l e (headSpec w_s_lifts_ ({ frames := 2, cells := 0, slots := 0, locals := 66 })).room s m #[.ref o0, .int p0, .int p1, .int p2, .int p3] below meth c H locs 0 0 (MQ below (va_Qi (fun (r : Int32) (u : Unit) => (-2147483648 ≤ r.toInt ∧ r.toInt ≤ 999999999)) (fun (_ : Unit) (t : State) => gH (dC, dI) kA (SHm q (wP wZ wN wH wB wC wL wK wU wV) PI im PM PT lS lB lE lN) G t.heap ∧ gF (dC, dI) SKm G ([(0, 0), (66, 0), (67, 0), (68, 0)] : List (Nat × Nat)) s.heap t.heap) A) #[.ref o0, .int p0, .int p1, .int p2, .int p3] s 0 0 A) (F0 m 457 ls []) := by
                        intro n9587
                        induction n9587 with
                        | zero =>
                          intro i9558 hn9587 hlo9588 z9559 h9560 H locs hT hF hS m9561 ls hl
                          obtain rfl : 1001 = i9558 := by omega
                          refine lv_iload hx hb dX12_lifts__457 (lv_at hl 0 rfl) ?_
                          refine lv_sipush (v := 1001) hx hb dX12_lifts__459 (by decide) ?_
                          refine lv_icmp_ge (tgt := 485) hx hb dX12_lifts__462 (by decide) (fun c9589 => ?_) (fun c9589 => (by exfalso; have q9 : ((1001 : Nat) : Int) < 1001 := ti_nle c9589 (by decide) (nI_toInt (by omega)); omega))
                          have t9590 : 1001 ≤ ((1001 : Nat) : Int) := ti_le c9589 (by decide) (nI_toInt (by omega))
                          exact jn9583 z9559 (by have q8 := ti_all z9559; omega) _ _ hT hF hS m9561 ls (lv_sub hl [0, 1, 2, 3, 4, 5, 6, 7] rfl)
                        | succ n9587 ih9587 =>
                          intro i9558 hn9587 hlo9588 z9559 h9560 H locs hT hF hS m9561 ls hl
                          have hlt9590 : i9558 < 1001 := by omega
                          refine lv_iload hx hb dX12_lifts__457 (lv_at hl 0 rfl) ?_
                          refine lv_sipush (v := 1001) hx hb dX12_lifts__459 (by decide) ?_
                          refine lv_icmp_ge (tgt := 485) hx hb dX12_lifts__462 (by decide) (fun c9591 => (by exfalso; have q9 : 1001 ≤ ((i9558 : Nat) : Int) := ti_le c9591 (by decide) (nI_toInt (by omega)); omega)) (fun c9591 => ?_)
                          have t9592 : ((i9558 : Nat) : Int) < 1001 := ti_nle c9591 (by decide) (nI_toInt (by omega))
                          refine lv_iload hx hb dX12_lifts__465 (lv_at hl 1 rfl) ?_
                          refine lv_aload_n hx hb dX12_lifts__467 rfl (lv_at hl 3 rfl) ?_
                          refine tw_get hx hb hts bF_X12 hown hK hT hr_o0 shm_0 rfl 65 (by decide) (ht_at hts 11 rfl) (fun _ h9 => h9) dX12_lifts__468 (fun v9 m9593 h9 => ?_)
                          obtain ⟨rfl, hg9594⟩ := h9 _ rfl
                          refine lv_iload hx hb dX12_lifts__471 (lv_at hl 0 rfl) ?_
                          refine tw_iald (i := (nI i9558)) hx hb hK hT hg9594 shm_66 rfl (vp_in_nI (by omega) (by decide)) dX12_lifts__473 (fun v9 m9595 h9 => ?_)
                          obtain ⟨x9596, rfl, gx9596, kx9596⟩ := h9
                          refine va_mmin hx hb (hml.trans hl.1.symm) hown (ht_at hts 12 rfl) (ht_at hts 13 rfl) (ht_at hts 14 rfl) (ht_at hts 15 rfl) (Nat.le_of_ble_eq_true rfl) (Nat.le_of_ble_eq_true rfl) (Nat.le_of_ble_eq_true rfl) (Nat.le_of_ble_eq_true rfl) dX12_lifts__474 ?_
                          refine lv_topi (fun x9597 ex9597 => ?_)
                          have t9598 : x9597.toInt ≤ z9559.toInt ∧ x9597.toInt ≤ x9596.toInt ∧ (x9597.toInt = z9559.toInt ∨ x9597.toInt = x9596.toInt) := mn_f ex9597 rfl rfl
                          refine lv_istore (lv' := [(6, .int x9597), (7, .int (nI i9558)), (5, .int z83), (0, .ref o0), (1, .int p0), (2, .int p1), (3, .int p2), (4, .int p3)]) hx hb dX12_lifts__477 hl (by decide) rfl (fun ls hl => ?_)
                          refine lv_iinc (v := nI (i9558 + 1)) (lv' := [(7, .int (nI (i9558 + 1))), (6, .int x9597), (5, .int z83), (0, .ref o0), (1, .int p0), (2, .int p1), (3, .int p2), (4, .int p3)]) hx hb dX12_lifts__479 hl (k := 1) rfl (nI_add i9558 1) (by decide) rfl (fun ls hl => ?_)
                          refine lv_goto (tgt := 457) hx hb dX12_lifts__482 (by decide) ?_
                          exact ih9587 (i9558 + 1) (by omega) (by omega) x9597 (by have q8 := ti_all x9597; omega) _ _ hT hF hS m9561 ls (lv_sub hl [0, 1, 2, 3, 4, 5, 6, 7] rfl)
                      exact key9587 (1001 - 0) 0 (by omega) (Nat.le_refl _) 1000000000 (rg_t (a := 1000000000) (by decide) (by first | decide | omega) (by first | decide | omega)) _ _ hT hF hS m3919 ls (lv_sub hl [0, 1, 2, 3, 4, 5, 6, 7] rfl)
                    | succ n9554 ih9554 =>
                      intro i3918 hn9554 hlo9555  H locs hT hF hS m3919 ls hl
                      have hlt9598 : i3918 < 25 := by omega
                      refine lv_iload hx hb dX12_lifts__166 (lv_at hl 0 rfl) ?_
                      refine lv_iload_n hx hb dX12_lifts__168 rfl (lv_at hl 5 rfl) ?_
                      refine lv_icmp_gt (tgt := 449) hx hb dX12_lifts__169 (by decide) (fun c9599 => ?_) (fun c9599 => ?_)
                      · have t9600 : p2.toInt < ((i3918 : Nat) : Int) := ti_lt c9599 rfl (nI_toInt (by omega))
                        refine lv_ldcw (v := 1000000000) hx hb hown (ht_at hts 10 rfl) dX12_lifts__449 ?_
                        refine lv_istore (lv' := [(6, .int 1000000000), (5, .int z83), (0, .ref o0), (1, .int p0), (2, .int p1), (3, .int p2), (4, .int p3)]) hx hb dX12_lifts__452 hl (by decide) rfl (fun ls hl => ?_)
                        refine lv_iconst (v := 0) hx hb dX12_lifts__454 (by decide) ?_
                        refine lv_istore (lv' := [(7, .int 0), (6, .int 1000000000), (5, .int z83), (0, .ref o0), (1, .int p0), (2, .int p1), (3, .int p2), (4, .int p3)]) hx hb dX12_lifts__455 hl (by decide) rfl (fun ls hl => ?_)
                        have jn9626 : ∀ (z9623 : Int32), ((-2147483648 ≤ z9623.toInt ∧ z9623.toInt ≤ 1000000000)) → ∀ (H : Heap) (locs : List Loc), gH (dC, dI) kA (SHm q (wP wZ wN wH wB wC wL wK wU wV) PI im PM PT lS lB lE lN) G H → gF (dC, dI) SKm G ([(0, 0), (66, 0), (67, 0), (68, 0)] : List (Nat × Nat)) s.heap H → va_S A s.heap H locs → el H (q 1) (1428 : Int32).toNatClampNeg = some (.int x3898) → ∀ ls : Array Slot, lv_has ls 13 [(7, .int (nI 1001)), (6, .int z9623), (5, .int z83), (0, .ref o0), (1, .int p0), (2, .int p1), (3, .int p2), (4, .int p3)] → W p l e (headSpec w_s_lifts_ ({ frames := 2, cells := 0, slots := 0, locals := 66 })).room s m #[.ref o0, .int p0, .int p1, .int p2, .int p3] below meth c H locs 0 0 (MQ below (va_Qi (fun (r : Int32) (u : Unit) => (-2147483648 ≤ r.toInt ∧ r.toInt ≤ 999999999)) (fun (_ : Unit) (t : State) => gH (dC, dI) kA (SHm q (wP wZ wN wH wB wC wL wK wU wV) PI im PM PT lS lB lE lN) G t.heap ∧ gF (dC, dI) SKm G ([(0, 0), (66, 0), (67, 0), (68, 0)] : List (Nat × Nat)) s.heap t.heap) A) #[.ref o0, .int p0, .int p1, .int p2, .int p3] s 0 0 A) (F0 m 485 ls []) := by
                          intro z9623 h9624 H locs hT hF hS m9625 ls hl
                          refine lv_iload hx hb dX12_lifts__485 (lv_at hl 1 rfl) ?_
                          refine lv_ldcw (v := 1000000000) hx hb hown (ht_at hts 10 rfl) dX12_lifts__487 ?_
                          refine lv_icmp_ne (tgt := 497) hx hb dX12_lifts__490 (by decide) (fun c9627 => ?_) (fun c9627 => ?_)
                          · have t9628 : z9623.toInt ≠ 1000000000 := ti_ne c9627 rfl (by decide)
                            refine lv_iload hx hb dX12_lifts__497 (lv_at hl 1 rfl) ?_
                            exact W.iret (v := z9623) hx hb hr (fun t ht hW => ⟨⟨z9623, (), rfl, (by exact (by have q8 := ti_all z9623; omega)), by (try dsimp only); rw [ht]; exact ⟨hT, hF⟩⟩, hS.F ht⟩) hS.2.2 dX12_lifts__499
                          · have t9629 : z9623.toInt = 1000000000 := ti_eq c9627 rfl (by decide)
                            refine lv_iconst (v := (-1)) hx hb dX12_lifts__493 (by decide) ?_
                            refine lv_goto (tgt := 499) hx hb dX12_lifts__494 (by decide) ?_
                            exact W.iret (v := (-1)) hx hb hr (fun t ht hW => ⟨⟨(-1), (), rfl, (by exact (rg_t (a := (-1)) (by decide) (by first | decide | omega) (by first | decide | omega))), by (try dsimp only); rw [ht]; exact ⟨hT, hF⟩⟩, hS.F ht⟩) hS.2.2 dX12_lifts__499
                        have key9630 : ∀ (n9630 i9601 : Nat), i9601 + n9630 = 1001 → 0 ≤ i9601 → ∀ (z9602 : Int32), ((-2147483648 ≤ z9602.toInt ∧ z9602.toInt ≤ 1000000000)) → ∀ (H : Heap) (locs : List Loc), gH (dC, dI) kA (SHm q (wP wZ wN wH wB wC wL wK wU wV) PI im PM PT lS lB lE lN) G H → gF (dC, dI) SKm G ([(0, 0), (66, 0), (67, 0), (68, 0)] : List (Nat × Nat)) s.heap H → va_S A s.heap H locs → el H (q 1) (1428 : Int32).toNatClampNeg = some (.int x3898) → ∀ ls : Array Slot, lv_has ls 13 [(7, .int (nI i9601)), (6, .int z9602), (5, .int z83), (0, .ref o0), (1, .int p0), (2, .int p1), (3, .int p2), (4, .int p3)] → W p l e (headSpec w_s_lifts_ ({ frames := 2, cells := 0, slots := 0, locals := 66 })).room s m #[.ref o0, .int p0, .int p1, .int p2, .int p3] below meth c H locs 0 0 (MQ below (va_Qi (fun (r : Int32) (u : Unit) => (-2147483648 ≤ r.toInt ∧ r.toInt ≤ 999999999)) (fun (_ : Unit) (t : State) => gH (dC, dI) kA (SHm q (wP wZ wN wH wB wC wL wK wU wV) PI im PM PT lS lB lE lN) G t.heap ∧ gF (dC, dI) SKm G ([(0, 0), (66, 0), (67, 0), (68, 0)] : List (Nat × Nat)) s.heap t.heap) A) #[.ref o0, .int p0, .int p1, .int p2, .int p3] s 0 0 A) (F0 m 457 ls []) := by
                          intro n9630
                          induction n9630 with
                          | zero =>
                            intro i9601 hn9630 hlo9631 z9602 h9603 H locs hT hF hS m9604 ls hl
                            obtain rfl : 1001 = i9601 := by omega
                            refine lv_iload hx hb dX12_lifts__457 (lv_at hl 0 rfl) ?_
                            refine lv_sipush (v := 1001) hx hb dX12_lifts__459 (by decide) ?_
                            refine lv_icmp_ge (tgt := 485) hx hb dX12_lifts__462 (by decide) (fun c9632 => ?_) (fun c9632 => (by exfalso; have q9 : ((1001 : Nat) : Int) < 1001 := ti_nle c9632 (by decide) (nI_toInt (by omega)); omega))
                            have t9633 : 1001 ≤ ((1001 : Nat) : Int) := ti_le c9632 (by decide) (nI_toInt (by omega))
                            exact jn9626 z9602 (by have q8 := ti_all z9602; omega) _ _ hT hF hS m9604 ls (lv_sub hl [0, 1, 2, 3, 4, 5, 6, 7] rfl)
                          | succ n9630 ih9630 =>
                            intro i9601 hn9630 hlo9631 z9602 h9603 H locs hT hF hS m9604 ls hl
                            have hlt9633 : i9601 < 1001 := by omega
                            refine lv_iload hx hb dX12_lifts__457 (lv_at hl 0 rfl) ?_
                            refine lv_sipush (v := 1001) hx hb dX12_lifts__459 (by decide) ?_
                            refine lv_icmp_ge (tgt := 485) hx hb dX12_lifts__462 (by decide) (fun c9634 => (by exfalso; have q9 : 1001 ≤ ((i9601 : Nat) : Int) := ti_le c9634 (by decide) (nI_toInt (by omega)); omega)) (fun c9634 => ?_)
                            have t9635 : ((i9601 : Nat) : Int) < 1001 := ti_nle c9634 (by decide) (nI_toInt (by omega))
                            refine lv_iload hx hb dX12_lifts__465 (lv_at hl 1 rfl) ?_
                            refine lv_aload_n hx hb dX12_lifts__467 rfl (lv_at hl 3 rfl) ?_
                            refine tw_get hx hb hts bF_X12 hown hK hT hr_o0 shm_0 rfl 65 (by decide) (ht_at hts 11 rfl) (fun _ h9 => h9) dX12_lifts__468 (fun v9 m9636 h9 => ?_)
                            obtain ⟨rfl, hg9637⟩ := h9 _ rfl
                            refine lv_iload hx hb dX12_lifts__471 (lv_at hl 0 rfl) ?_
                            refine tw_iald (i := (nI i9601)) hx hb hK hT hg9637 shm_66 rfl (vp_in_nI (by omega) (by decide)) dX12_lifts__473 (fun v9 m9638 h9 => ?_)
                            obtain ⟨x9639, rfl, gx9639, kx9639⟩ := h9
                            refine va_mmin hx hb (hml.trans hl.1.symm) hown (ht_at hts 12 rfl) (ht_at hts 13 rfl) (ht_at hts 14 rfl) (ht_at hts 15 rfl) (Nat.le_of_ble_eq_true rfl) (Nat.le_of_ble_eq_true rfl) (Nat.le_of_ble_eq_true rfl) (Nat.le_of_ble_eq_true rfl) dX12_lifts__474 ?_
                            refine lv_topi (fun x9640 ex9640 => ?_)
                            have t9641 : x9640.toInt ≤ z9602.toInt ∧ x9640.toInt ≤ x9639.toInt ∧ (x9640.toInt = z9602.toInt ∨ x9640.toInt = x9639.toInt) := mn_f ex9640 rfl rfl
                            refine lv_istore (lv' := [(6, .int x9640), (7, .int (nI i9601)), (5, .int z83), (0, .ref o0), (1, .int p0), (2, .int p1), (3, .int p2), (4, .int p3)]) hx hb dX12_lifts__477 hl (by decide) rfl (fun ls hl => ?_)
                            refine lv_iinc (v := nI (i9601 + 1)) (lv' := [(7, .int (nI (i9601 + 1))), (6, .int x9640), (5, .int z83), (0, .ref o0), (1, .int p0), (2, .int p1), (3, .int p2), (4, .int p3)]) hx hb dX12_lifts__479 hl (k := 1) rfl (nI_add i9601 1) (by decide) rfl (fun ls hl => ?_)
                            refine lv_goto (tgt := 457) hx hb dX12_lifts__482 (by decide) ?_
                            exact ih9630 (i9601 + 1) (by omega) (by omega) x9640 (by have q8 := ti_all x9640; omega) _ _ hT hF hS m9604 ls (lv_sub hl [0, 1, 2, 3, 4, 5, 6, 7] rfl)
                        exact key9630 (1001 - 0) 0 (by omega) (Nat.le_refl _) 1000000000 (rg_t (a := 1000000000) (by decide) (by first | decide | omega) (by first | decide | omega)) _ _ hT hF hS m3919 ls (lv_sub hl [0, 1, 2, 3, 4, 5, 6, 7] rfl)
                      · have t9642 : ((i3918 : Nat) : Int) ≤ p2.toInt := ti_nlt c9599 rfl (nI_toInt (by omega))
                        refine lv_iconst (v := 0) hx hb dX12_lifts__172 (by decide) ?_
                        refine lv_istore (lv' := [(7, .int 0), (6, .int (nI i3918)), (5, .int z83), (0, .ref o0), (1, .int p0), (2, .int p1), (3, .int p2), (4, .int p3)]) hx hb dX12_lifts__173 hl (by decide) rfl (fun ls hl => ?_)
                        refine lv_iconst (v := 0) hx hb dX12_lifts__175 (by decide) ?_
                        refine lv_istore (lv' := [(8, .int 0), (7, .int 0), (6, .int (nI i3918)), (5, .int z83), (0, .ref o0), (1, .int p0), (2, .int p1), (3, .int p2), (4, .int p3)]) hx hb dX12_lifts__176 hl (by decide) rfl (fun ls hl => ?_)
                        have key10259 : ∀ (n10259 i9643 : Nat), i9643 + n10259 = 29 → 0 ≤ i9643 → ∀ (z9644 : Int32), ∀ (H : Heap) (locs : List Loc), gH (dC, dI) kA (SHm q (wP wZ wN wH wB wC wL wK wU wV) PI im PM PT lS lB lE lN) G H → gF (dC, dI) SKm G ([(0, 0), (66, 0), (67, 0), (68, 0)] : List (Nat × Nat)) s.heap H → va_S A s.heap H locs → el H (q 1) (1428 : Int32).toNatClampNeg = some (.int x3898) → ∀ ls : Array Slot, lv_has ls 13 [(8, .int (nI i9643)), (7, .int z9644), (6, .int (nI i3918)), (5, .int z83), (0, .ref o0), (1, .int p0), (2, .int p1), (3, .int p2), (4, .int p3)] → W p l e (headSpec w_s_lifts_ ({ frames := 2, cells := 0, slots := 0, locals := 66 })).room s m #[.ref o0, .int p0, .int p1, .int p2, .int p3] below meth c H locs 0 0 (MQ below (va_Qi (fun (r : Int32) (u : Unit) => (-2147483648 ≤ r.toInt ∧ r.toInt ≤ 999999999)) (fun (_ : Unit) (t : State) => gH (dC, dI) kA (SHm q (wP wZ wN wH wB wC wL wK wU wV) PI im PM PT lS lB lE lN) G t.heap ∧ gF (dC, dI) SKm G ([(0, 0), (66, 0), (67, 0), (68, 0)] : List (Nat × Nat)) s.heap t.heap) A) #[.ref o0, .int p0, .int p1, .int p2, .int p3] s 0 0 A) (F0 m 178 ls []) := by
                          intro n10259
                          induction n10259 with
                          | zero =>
                            intro i9643 hn10259 hlo10260 z9644 H locs hT hF hS m9645 ls hl
                            obtain rfl : 29 = i9643 := by omega
                            refine lv_iload hx hb dX12_lifts__178 (lv_at hl 0 rfl) ?_
                            refine lv_aload_n hx hb dX12_lifts__180 rfl (lv_at hl 4 rfl) ?_
                            refine tw_get hx hb hts bF_X12 hown hK hT hr_o0 shm_0 rfl 1 (by decide) (ht_at hts 9 rfl) (fun _ h9 => h9) dX12_lifts__181 (fun v9 m10261 h9 => ?_)
                            obtain ⟨rfl, hg10262⟩ := h9 _ rfl
                            refine lv_sipush (v := 1428) hx hb dX12_lifts__184 (by decide) ?_
                            refine tw_iald (i := 1428) hx hb hK hT hg3896 shm_2 rfl (by unfold vp_in; decide) dX12_lifts__187 (fun v9 m10263 h9 => ?_)
                            obtain ⟨x10264, rfl, gx10264, kx10264⟩ := (gp_at h9 (w_wct (by have q9 := tn_of (show (1428 : Int32).toInt = 1428 from (by decide)) (show (0 : Int) ≤ 1428 from by omega); omega)))
                            obtain rfl : x3898 = x10264 := (el_same m10263 m9645 rfl).symm
                            refine lv_icmp_ge (tgt := 236) hx hb dX12_lifts__188 (by decide) (fun c10265 => ?_) (fun c10265 => ?_)
                            · have t10266 : x3898.toInt ≤ ((29 : Nat) : Int) := ti_le c10265 rfl (nI_toInt (by omega))
                              refine lv_iconst (v := 0) hx hb dX12_lifts__236 (by decide) ?_
                              refine lv_istore (lv' := [(8, .int 0), (7, .int z9644), (6, .int (nI i3918)), (5, .int z83), (0, .ref o0), (1, .int p0), (2, .int p1), (3, .int p2), (4, .int p3)]) hx hb dX12_lifts__237 hl (by decide) rfl (fun ls hl => ?_)
                              have key10275 : ∀ (n10275 i10267 : Nat), i10267 + n10275 = 1001 → 0 ≤ i10267 → ∀ (H : Heap) (locs : List Loc), gH (dC, dI) kA (SHm q (wP wZ wN wH wB wC wL wK wU wV) PI im PM PT lS lB lE lN) G H → gF (dC, dI) SKm G ([(0, 0), (66, 0), (67, 0), (68, 0)] : List (Nat × Nat)) s.heap H → va_S A s.heap H locs → el H (q 1) (1428 : Int32).toNatClampNeg = some (.int x3898) → ∀ ls : Array Slot, lv_has ls 13 [(8, .int (nI i10267)), (7, .int z9644), (6, .int (nI i3918)), (5, .int z83), (0, .ref o0), (1, .int p0), (2, .int p1), (3, .int p2), (4, .int p3)] → W p l e (headSpec w_s_lifts_ ({ frames := 2, cells := 0, slots := 0, locals := 66 })).room s m #[.ref o0, .int p0, .int p1, .int p2, .int p3] below meth c H locs 0 0 (MQ below (va_Qi (fun (r : Int32) (u : Unit) => (-2147483648 ≤ r.toInt ∧ r.toInt ≤ 999999999)) (fun (_ : Unit) (t : State) => gH (dC, dI) kA (SHm q (wP wZ wN wH wB wC wL wK wU wV) PI im PM PT lS lB lE lN) G t.heap ∧ gF (dC, dI) SKm G ([(0, 0), (66, 0), (67, 0), (68, 0)] : List (Nat × Nat)) s.heap t.heap) A) #[.ref o0, .int p0, .int p1, .int p2, .int p3] s 0 0 A) (F0 m 239 ls []) := by
                                intro n10275
                                induction n10275 with
                                | zero =>
                                  intro i10267 hn10275 hlo10276  H locs hT hF hS m10268 ls hl
                                  obtain rfl : 1001 = i10267 := by omega
                                  refine lv_iload hx hb dX12_lifts__239 (lv_at hl 0 rfl) ?_
                                  refine lv_sipush (v := 1001) hx hb dX12_lifts__241 (by decide) ?_
                                  refine lv_icmp_ge (tgt := 263) hx hb dX12_lifts__244 (by decide) (fun c10277 => ?_) (fun c10277 => (by exfalso; have q9 : ((1001 : Nat) : Int) < 1001 := ti_nle c10277 (by decide) (nI_toInt (by omega)); omega))
                                  have t10278 : 1001 ≤ ((1001 : Nat) : Int) := ti_le c10277 (by decide) (nI_toInt (by omega))
                                  refine lv_iconst (v := 0) hx hb dX12_lifts__263 (by decide) ?_
                                  refine lv_istore (lv' := [(8, .int 0), (7, .int z9644), (6, .int (nI i3918)), (5, .int z83), (0, .ref o0), (1, .int p0), (2, .int p1), (3, .int p2), (4, .int p3)]) hx hb dX12_lifts__264 hl (by decide) rfl (fun ls hl => ?_)
                                  have key10538 : ∀ (n10538 i10279 : Nat), i10279 + n10538 = 2147483647 → 0 ≤ i10279 → ∀ (H : Heap) (locs : List Loc), gH (dC, dI) kA (SHm q (wP wZ wN wH wB wC wL wK wU wV) PI im PM PT lS lB lE lN) G H → gF (dC, dI) SKm G ([(0, 0), (66, 0), (67, 0), (68, 0)] : List (Nat × Nat)) s.heap H → va_S A s.heap H locs → el H (q 1) (1428 : Int32).toNatClampNeg = some (.int x3898) → ∀ ls : Array Slot, lv_has ls 13 [(8, .int (nI i10279)), (7, .int z9644), (6, .int (nI i3918)), (5, .int z83), (0, .ref o0), (1, .int p0), (2, .int p1), (3, .int p2), (4, .int p3)] → W p l e (headSpec w_s_lifts_ ({ frames := 2, cells := 0, slots := 0, locals := 66 })).room s m #[.ref o0, .int p0, .int p1, .int p2, .int p3] below meth c H locs 0 0 (MQ below (va_Qi (fun (r : Int32) (u : Unit) => (-2147483648 ≤ r.toInt ∧ r.toInt ≤ 999999999)) (fun (_ : Unit) (t : State) => gH (dC, dI) kA (SHm q (wP wZ wN wH wB wC wL wK wU wV) PI im PM PT lS lB lE lN) G t.heap ∧ gF (dC, dI) SKm G ([(0, 0), (66, 0), (67, 0), (68, 0)] : List (Nat × Nat)) s.heap t.heap) A) #[.ref o0, .int p0, .int p1, .int p2, .int p3] s 0 0 A) (F0 m 266 ls []) := by
                                    intro n10538
                                    induction n10538 with
                                    | zero =>
                                      intro i10279 hn10538 hlo10539  H locs hT hF hS m10280 ls hl
                                      obtain rfl : 2147483647 = i10279 := by omega
                                      refine lv_iload hx hb dX12_lifts__266 (lv_at hl 0 rfl) ?_
                                      refine lv_iconst (v := 1) hx hb dX12_lifts__268 (by decide) ?_
                                      refine lv_iload hx hb dX12_lifts__269 (lv_at hl 3 rfl) ?_
                                      refine lv_ishl hx hb dX12_lifts__271 ?_
                                      refine lv_topi (fun x10540 ex10540 => ?_)
                                      refine lv_icmp_ge (tgt := 412) hx hb dX12_lifts__272 (by decide) (fun c10541 => ?_) (fun c10541 => (by exfalso; have q9 : ((2147483647 : Nat) : Int) < x10540.toInt := ti_nle c10541 rfl (nI_toInt (by omega)); have := ti_all x10540; omega))
                                      have t10542 : x10540.toInt ≤ ((2147483647 : Nat) : Int) := ti_le c10541 rfl (nI_toInt (by omega))
                                      refine lv_iconst (v := 0) hx hb dX12_lifts__412 (by decide) ?_
                                      refine lv_istore (lv' := [(8, .int 0), (7, .int z9644), (6, .int (nI i3918)), (5, .int z83), (0, .ref o0), (1, .int p0), (2, .int p1), (3, .int p2), (4, .int p3)]) hx hb dX12_lifts__413 hl (by decide) rfl (fun ls hl => ?_)
                                      have key10556 : ∀ (n10556 i10543 : Nat), i10543 + n10556 = 1001 → 0 ≤ i10543 → ∀ (H : Heap) (locs : List Loc), gH (dC, dI) kA (SHm q (wP wZ wN wH wB wC wL wK wU wV) PI im PM PT lS lB lE lN) G H → gF (dC, dI) SKm G ([(0, 0), (66, 0), (67, 0), (68, 0)] : List (Nat × Nat)) s.heap H → va_S A s.heap H locs → el H (q 1) (1428 : Int32).toNatClampNeg = some (.int x3898) → ∀ ls : Array Slot, lv_has ls 13 [(8, .int (nI i10543)), (7, .int z9644), (6, .int (nI i3918)), (5, .int z83), (0, .ref o0), (1, .int p0), (2, .int p1), (3, .int p2), (4, .int p3)] → W p l e (headSpec w_s_lifts_ ({ frames := 2, cells := 0, slots := 0, locals := 66 })).room s m #[.ref o0, .int p0, .int p1, .int p2, .int p3] below meth c H locs 0 0 (MQ below (va_Qi (fun (r : Int32) (u : Unit) => (-2147483648 ≤ r.toInt ∧ r.toInt ≤ 999999999)) (fun (_ : Unit) (t : State) => gH (dC, dI) kA (SHm q (wP wZ wN wH wB wC wL wK wU wV) PI im PM PT lS lB lE lN) G t.heap ∧ gF (dC, dI) SKm G ([(0, 0), (66, 0), (67, 0), (68, 0)] : List (Nat × Nat)) s.heap t.heap) A) #[.ref o0, .int p0, .int p1, .int p2, .int p3] s 0 0 A) (F0 m 415 ls []) := by
                                        intro n10556
                                        induction n10556 with
                                        | zero =>
                                          intro i10543 hn10556 hlo10557  H locs hT hF hS m10544 ls hl
                                          obtain rfl : 1001 = i10543 := by omega
                                          refine lv_iload hx hb dX12_lifts__415 (lv_at hl 0 rfl) ?_
                                          refine lv_sipush (v := 1001) hx hb dX12_lifts__417 (by decide) ?_
                                          refine lv_icmp_ge (tgt := 443) hx hb dX12_lifts__420 (by decide) (fun c10558 => ?_) (fun c10558 => (by exfalso; have q9 : ((1001 : Nat) : Int) < 1001 := ti_nle c10558 (by decide) (nI_toInt (by omega)); omega))
                                          have t10559 : 1001 ≤ ((1001 : Nat) : Int) := ti_le c10558 (by decide) (nI_toInt (by omega))
                                          refine lv_iinc (v := nI (i3918 + 1)) (lv' := [(6, .int (nI (i3918 + 1))), (8, .int (nI 1001)), (7, .int z9644), (5, .int z83), (0, .ref o0), (1, .int p0), (2, .int p1), (3, .int p2), (4, .int p3)]) hx hb dX12_lifts__443 hl (k := 2) rfl (nI_add i3918 1) (by decide) rfl (fun ls hl => ?_)
                                          refine lv_goto (tgt := 166) hx hb dX12_lifts__446 (by decide) ?_
                                          exact ih9554 (i3918 + 1) (by omega) (by omega) _ _ hT hF hS m10544 ls (lv_sub hl [0, 3, 4, 5, 6, 7, 8] rfl)
                                        | succ n10556 ih10556 =>
                                          intro i10543 hn10556 hlo10557  H locs hT hF hS m10544 ls hl
                                          have hlt10559 : i10543 < 1001 := by omega
                                          refine lv_iload hx hb dX12_lifts__415 (lv_at hl 0 rfl) ?_
                                          refine lv_sipush (v := 1001) hx hb dX12_lifts__417 (by decide) ?_
                                          refine lv_icmp_ge (tgt := 443) hx hb dX12_lifts__420 (by decide) (fun c10560 => (by exfalso; have q9 : 1001 ≤ ((i10543 : Nat) : Int) := ti_le c10560 (by decide) (nI_toInt (by omega)); omega)) (fun c10560 => ?_)
                                          have t10561 : ((i10543 : Nat) : Int) < 1001 := ti_nle c10560 (by decide) (nI_toInt (by omega))
                                          refine lv_aload_n hx hb dX12_lifts__423 rfl (lv_at hl 4 rfl) ?_
                                          refine tw_get hx hb hts bF_X12 hown hK hT hr_o0 shm_0 rfl 65 (by decide) (ht_at hts 11 rfl) (fun _ h9 => h9) dX12_lifts__424 (fun v9 m10562 h9 => ?_)
                                          obtain ⟨rfl, hg10563⟩ := h9 _ rfl
                                          refine lv_iload hx hb dX12_lifts__427 (lv_at hl 0 rfl) ?_
                                          refine lv_aload_n hx hb dX12_lifts__429 rfl (lv_at hl 4 rfl) ?_
                                          refine tw_get hx hb hts bF_X12 hown hK hT hr_o0 shm_0 rfl 66 (by decide) (ht_at hts 16 rfl) (fun _ h9 => h9) dX12_lifts__430 (fun v9 m10564 h9 => ?_)
                                          obtain ⟨rfl, hg10565⟩ := h9 _ rfl
                                          refine lv_iload hx hb dX12_lifts__433 (lv_at hl 0 rfl) ?_
                                          refine tw_iald (i := (nI i10543)) hx hb hK hT hg10565 shm_67 rfl (vp_in_nI (by omega) (by decide)) dX12_lifts__435 (fun v9 m10566 h9 => ?_)
                                          obtain ⟨x10567, rfl, gx10567, kx10567⟩ := h9
                                          refine tw_iast (i := (nI i10543)) (x := x10567) hx hb hK hT hG hS hg10563 shm_66 rfl (vp_in_nI (by omega) (by decide)) (gi_all _) dX12_lifts__436 (fun H locs hT oq m10568 oi hS => ?_)
                                          have hF := hF.ast hg10563 skm_66 oq (by decide)
                                          have m10569 := (el_kept (oq _ (gne hg3896 hg10563 (by decide)))).trans m10544
                                          refine lv_iinc (v := nI (i10543 + 1)) (lv' := [(8, .int (nI (i10543 + 1))), (7, .int z9644), (6, .int (nI i3918)), (5, .int z83), (0, .ref o0), (1, .int p0), (2, .int p1), (3, .int p2), (4, .int p3)]) hx hb dX12_lifts__437 hl (k := 0) rfl (nI_add i10543 1) (by decide) rfl (fun ls hl => ?_)
                                          refine lv_goto (tgt := 415) hx hb dX12_lifts__440 (by decide) ?_
                                          exact ih10556 (i10543 + 1) (by omega) (by omega) _ _ hT hF hS m10569 ls (lv_sub hl [0, 1, 2, 3, 4, 5, 6, 7, 8] rfl)
                                      exact key10556 (1001 - 0) 0 (by omega) (Nat.le_refl _) _ _ hT hF hS m10280 ls (lv_sub hl [0, 1, 2, 3, 4, 5, 6, 7, 8] rfl)
                                    | succ n10538 ih10538 =>
                                      intro i10279 hn10538 hlo10539  H locs hT hF hS m10280 ls hl
                                      have hlt10570 : i10279 < 2147483647 := by omega
                                      refine lv_iload hx hb dX12_lifts__266 (lv_at hl 0 rfl) ?_
                                      refine lv_iconst (v := 1) hx hb dX12_lifts__268 (by decide) ?_
                                      refine lv_iload hx hb dX12_lifts__269 (lv_at hl 3 rfl) ?_
                                      refine lv_ishl hx hb dX12_lifts__271 ?_
                                      refine lv_topi (fun x10571 ex10571 => ?_)
                                      refine lv_icmp_ge (tgt := 412) hx hb dX12_lifts__272 (by decide) (fun c10572 => ?_) (fun c10572 => ?_)
                                      · have t10573 : x10571.toInt ≤ ((i10279 : Nat) : Int) := ti_le c10572 rfl (nI_toInt (by omega))
                                        refine lv_iconst (v := 0) hx hb dX12_lifts__412 (by decide) ?_
                                        refine lv_istore (lv' := [(8, .int 0), (7, .int z9644), (6, .int (nI i3918)), (5, .int z83), (0, .ref o0), (1, .int p0), (2, .int p1), (3, .int p2), (4, .int p3)]) hx hb dX12_lifts__413 hl (by decide) rfl (fun ls hl => ?_)
                                        have key10587 : ∀ (n10587 i10574 : Nat), i10574 + n10587 = 1001 → 0 ≤ i10574 → ∀ (H : Heap) (locs : List Loc), gH (dC, dI) kA (SHm q (wP wZ wN wH wB wC wL wK wU wV) PI im PM PT lS lB lE lN) G H → gF (dC, dI) SKm G ([(0, 0), (66, 0), (67, 0), (68, 0)] : List (Nat × Nat)) s.heap H → va_S A s.heap H locs → el H (q 1) (1428 : Int32).toNatClampNeg = some (.int x3898) → ∀ ls : Array Slot, lv_has ls 13 [(8, .int (nI i10574)), (7, .int z9644), (6, .int (nI i3918)), (5, .int z83), (0, .ref o0), (1, .int p0), (2, .int p1), (3, .int p2), (4, .int p3)] → W p l e (headSpec w_s_lifts_ ({ frames := 2, cells := 0, slots := 0, locals := 66 })).room s m #[.ref o0, .int p0, .int p1, .int p2, .int p3] below meth c H locs 0 0 (MQ below (va_Qi (fun (r : Int32) (u : Unit) => (-2147483648 ≤ r.toInt ∧ r.toInt ≤ 999999999)) (fun (_ : Unit) (t : State) => gH (dC, dI) kA (SHm q (wP wZ wN wH wB wC wL wK wU wV) PI im PM PT lS lB lE lN) G t.heap ∧ gF (dC, dI) SKm G ([(0, 0), (66, 0), (67, 0), (68, 0)] : List (Nat × Nat)) s.heap t.heap) A) #[.ref o0, .int p0, .int p1, .int p2, .int p3] s 0 0 A) (F0 m 415 ls []) := by
                                          intro n10587
                                          induction n10587 with
                                          | zero =>
                                            intro i10574 hn10587 hlo10588  H locs hT hF hS m10575 ls hl
                                            obtain rfl : 1001 = i10574 := by omega
                                            refine lv_iload hx hb dX12_lifts__415 (lv_at hl 0 rfl) ?_
                                            refine lv_sipush (v := 1001) hx hb dX12_lifts__417 (by decide) ?_
                                            refine lv_icmp_ge (tgt := 443) hx hb dX12_lifts__420 (by decide) (fun c10589 => ?_) (fun c10589 => (by exfalso; have q9 : ((1001 : Nat) : Int) < 1001 := ti_nle c10589 (by decide) (nI_toInt (by omega)); omega))
                                            have t10590 : 1001 ≤ ((1001 : Nat) : Int) := ti_le c10589 (by decide) (nI_toInt (by omega))
                                            refine lv_iinc (v := nI (i3918 + 1)) (lv' := [(6, .int (nI (i3918 + 1))), (8, .int (nI 1001)), (7, .int z9644), (5, .int z83), (0, .ref o0), (1, .int p0), (2, .int p1), (3, .int p2), (4, .int p3)]) hx hb dX12_lifts__443 hl (k := 2) rfl (nI_add i3918 1) (by decide) rfl (fun ls hl => ?_)
                                            refine lv_goto (tgt := 166) hx hb dX12_lifts__446 (by decide) ?_
                                            exact ih9554 (i3918 + 1) (by omega) (by omega) _ _ hT hF hS m10575 ls (lv_sub hl [0, 3, 4, 5, 6, 7, 8] rfl)
                                          | succ n10587 ih10587 =>
                                            intro i10574 hn10587 hlo10588  H locs hT hF hS m10575 ls hl
                                            have hlt10590 : i10574 < 1001 := by omega
                                            refine lv_iload hx hb dX12_lifts__415 (lv_at hl 0 rfl) ?_
                                            refine lv_sipush (v := 1001) hx hb dX12_lifts__417 (by decide) ?_
                                            refine lv_icmp_ge (tgt := 443) hx hb dX12_lifts__420 (by decide) (fun c10591 => (by exfalso; have q9 : 1001 ≤ ((i10574 : Nat) : Int) := ti_le c10591 (by decide) (nI_toInt (by omega)); omega)) (fun c10591 => ?_)
                                            have t10592 : ((i10574 : Nat) : Int) < 1001 := ti_nle c10591 (by decide) (nI_toInt (by omega))
                                            refine lv_aload_n hx hb dX12_lifts__423 rfl (lv_at hl 4 rfl) ?_
                                            refine tw_get hx hb hts bF_X12 hown hK hT hr_o0 shm_0 rfl 65 (by decide) (ht_at hts 11 rfl) (fun _ h9 => h9) dX12_lifts__424 (fun v9 m10593 h9 => ?_)
                                            obtain ⟨rfl, hg10594⟩ := h9 _ rfl
                                            refine lv_iload hx hb dX12_lifts__427 (lv_at hl 0 rfl) ?_
                                            refine lv_aload_n hx hb dX12_lifts__429 rfl (lv_at hl 4 rfl) ?_
                                            refine tw_get hx hb hts bF_X12 hown hK hT hr_o0 shm_0 rfl 66 (by decide) (ht_at hts 16 rfl) (fun _ h9 => h9) dX12_lifts__430 (fun v9 m10595 h9 => ?_)
                                            obtain ⟨rfl, hg10596⟩ := h9 _ rfl
                                            refine lv_iload hx hb dX12_lifts__433 (lv_at hl 0 rfl) ?_
                                            refine tw_iald (i := (nI i10574)) hx hb hK hT hg10596 shm_67 rfl (vp_in_nI (by omega) (by decide)) dX12_lifts__435 (fun v9 m10597 h9 => ?_)
                                            obtain ⟨x10598, rfl, gx10598, kx10598⟩ := h9
                                            refine tw_iast (i := (nI i10574)) (x := x10598) hx hb hK hT hG hS hg10594 shm_66 rfl (vp_in_nI (by omega) (by decide)) (gi_all _) dX12_lifts__436 (fun H locs hT oq m10599 oi hS => ?_)
                                            have hF := hF.ast hg10594 skm_66 oq (by decide)
                                            have m10600 := (el_kept (oq _ (gne hg3896 hg10594 (by decide)))).trans m10575
                                            refine lv_iinc (v := nI (i10574 + 1)) (lv' := [(8, .int (nI (i10574 + 1))), (7, .int z9644), (6, .int (nI i3918)), (5, .int z83), (0, .ref o0), (1, .int p0), (2, .int p1), (3, .int p2), (4, .int p3)]) hx hb dX12_lifts__437 hl (k := 0) rfl (nI_add i10574 1) (by decide) rfl (fun ls hl => ?_)
                                            refine lv_goto (tgt := 415) hx hb dX12_lifts__440 (by decide) ?_
                                            exact ih10587 (i10574 + 1) (by omega) (by omega) _ _ hT hF hS m10600 ls (lv_sub hl [0, 1, 2, 3, 4, 5, 6, 7, 8] rfl)
                                        exact key10587 (1001 - 0) 0 (by omega) (Nat.le_refl _) _ _ hT hF hS m10280 ls (lv_sub hl [0, 1, 2, 3, 4, 5, 6, 7, 8] rfl)
                                      · have t10602 : ((i10279 : Nat) : Int) < x10571.toInt := ti_nle c10572 rfl (nI_toInt (by omega))
                                        refine lv_iload hx hb dX12_lifts__275 (lv_at hl 1 rfl) ?_
                                        refine lv_istore (lv' := [(9, .int z9644), (8, .int (nI i10279)), (7, .int z9644), (6, .int (nI i3918)), (5, .int z83), (0, .ref o0), (1, .int p0), (2, .int p1), (3, .int p2), (4, .int p3)]) hx hb dX12_lifts__277 hl (by decide) rfl (fun ls hl => ?_)
                                        refine lv_iconst (v := 0) hx hb dX12_lifts__279 (by decide) ?_
                                        refine lv_istore (lv' := [(10, .int 0), (9, .int z9644), (8, .int (nI i10279)), (7, .int z9644), (6, .int (nI i3918)), (5, .int z83), (0, .ref o0), (1, .int p0), (2, .int p1), (3, .int p2), (4, .int p3)]) hx hb dX12_lifts__280 hl (by decide) rfl (fun ls hl => ?_)
                                        have jn10732 : ∀ (z10728 : Int32), ∀ (z10730 : Int32), ((0 ≤ z10728.toInt ∧ z10728.toInt ≤ 5)) → ∀ (H : Heap) (locs : List Loc), gH (dC, dI) kA (SHm q (wP wZ wN wH wB wC wL wK wU wV) PI im PM PT lS lB lE lN) G H → gF (dC, dI) SKm G ([(0, 0), (66, 0), (67, 0), (68, 0)] : List (Nat × Nat)) s.heap H → va_S A s.heap H locs → el H (q 1) (1428 : Int32).toNatClampNeg = some (.int x3898) → ∀ ls : Array Slot, lv_has ls 13 [(10, .int z10728), (9, .int z10730), (8, .int (nI i10279)), (7, .int z9644), (6, .int (nI i3918)), (5, .int z83), (0, .ref o0), (1, .int p0), (2, .int p1), (3, .int p2), (4, .int p3)] → W p l e (headSpec w_s_lifts_ ({ frames := 2, cells := 0, slots := 0, locals := 66 })).room s m #[.ref o0, .int p0, .int p1, .int p2, .int p3] below meth c H locs 0 0 (MQ below (va_Qi (fun (r : Int32) (u : Unit) => (-2147483648 ≤ r.toInt ∧ r.toInt ≤ 999999999)) (fun (_ : Unit) (t : State) => gH (dC, dI) kA (SHm q (wP wZ wN wH wB wC wL wK wU wV) PI im PM PT lS lB lE lN) G t.heap ∧ gF (dC, dI) SKm G ([(0, 0), (66, 0), (67, 0), (68, 0)] : List (Nat × Nat)) s.heap t.heap) A) #[.ref o0, .int p0, .int p1, .int p2, .int p3] s 0 0 A) (F0 m 322 ls []) := by
                                          intro z10728 z10730 h10729 H locs hT hF hS m10731 ls hl
                                          refine lv_iload hx hb dX12_lifts__322 (lv_at hl 2 rfl) ?_
                                          have hFc := gA_free hG hA hS
                                          refine va_calli (va_runS (As := [.int (nI i10279)]) (rest := []) ⟨hx, hb, hml, hown, hts⟩ (j_bitCount l dC dI kA adK adV G H q wZ wN wH wB wC wL wK wU wV PI im PM PT lS lB lE lN (nI i10279) hT hgz hgn hgh hgb hgc hgi hgu) (va_cwS 1 hts (goodIn_app (goodIn_r _ [22, 23, 24] rfl (by decide +kernel)) (goodIn_ca (goodIn_r _ [18, 19, 20, 21] rfl (by decide +kernel)) (bs_in _ _))) rfl rfl rfl (by decide +kernel) ⟨(Nat.le_of_ble_eq_true rfl), (Nat.le_of_ble_eq_true rfl)⟩) ⟨fun a U g mk q => by obtain ⟨q0, q1, qK, qE⟩ := q; exact ⟨q0, q1, va_K.moved (u := U) (U := U.calling g mk a) (Vm.Alike.refl U.vm) qK, EVS.blind g mk a qE⟩, fun U hU hW => ⟨rfl, hU, va_K.moved hW.alike hK, hE.call hS hFc hU hW⟩⟩ rfl rfl hl.1 rfl (lv_room (Nat.le_of_ble_eq_true rfl)) dX12_lifts__324 ⟨(Nat.le_of_ble_eq_true rfl), (Nat.le_of_ble_eq_true rfl)⟩) hS (fun q _ h => hFc q h) hFc (fun r10733 u t H locs ht hvm hw10734 hB _ _ hS => ?_)
                                          obtain ⟨hT, hF1⟩ := hB
                                          rw [ht] at hT hF1
                                          have m10735 := (el_kept (hF1.arr hg3896 skm_2 (by decide))).trans m10731
                                          have hF := hF.more hF1 (by decide)
                                          try dsimp only at hw10734
                                          refine lv_istore (lv' := [(10, .int r10733), (9, .int z10730), (8, .int (nI i10279)), (7, .int z9644), (6, .int (nI i3918)), (5, .int z83), (0, .ref o0), (1, .int p0), (2, .int p1), (3, .int p2), (4, .int p3)]) hx hb dX12_lifts__327 hl (by decide) rfl (fun ls hl => ?_)
                                          refine lv_iconst (v := 0) hx hb dX12_lifts__329 (by decide) ?_
                                          refine lv_istore (lv' := [(11, .int 0), (10, .int r10733), (9, .int z10730), (8, .int (nI i10279)), (7, .int z9644), (6, .int (nI i3918)), (5, .int z83), (0, .ref o0), (1, .int p0), (2, .int p1), (3, .int p2), (4, .int p3)]) hx hb dX12_lifts__330 hl (by decide) rfl (fun ls hl => ?_)
                                          have key10771 : ∀ (n10771 i10736 : Nat), i10736 + n10771 = 1001 → 0 ≤ i10736 → ∀ (H : Heap) (locs : List Loc), gH (dC, dI) kA (SHm q (wP wZ wN wH wB wC wL wK wU wV) PI im PM PT lS lB lE lN) G H → gF (dC, dI) SKm G ([(0, 0), (66, 0), (67, 0), (68, 0)] : List (Nat × Nat)) s.heap H → va_S A s.heap H locs → el H (q 1) (1428 : Int32).toNatClampNeg = some (.int x3898) → ∀ ls : Array Slot, lv_has ls 13 [(11, .int (nI i10736)), (10, .int r10733), (9, .int z10730), (8, .int (nI i10279)), (7, .int z9644), (6, .int (nI i3918)), (5, .int z83), (0, .ref o0), (1, .int p0), (2, .int p1), (3, .int p2), (4, .int p3)] → W p l e (headSpec w_s_lifts_ ({ frames := 2, cells := 0, slots := 0, locals := 66 })).room s m #[.ref o0, .int p0, .int p1, .int p2, .int p3] below meth c H locs 0 0 (MQ below (va_Qi (fun (r : Int32) (u : Unit) => (-2147483648 ≤ r.toInt ∧ r.toInt ≤ 999999999)) (fun (_ : Unit) (t : State) => gH (dC, dI) kA (SHm q (wP wZ wN wH wB wC wL wK wU wV) PI im PM PT lS lB lE lN) G t.heap ∧ gF (dC, dI) SKm G ([(0, 0), (66, 0), (67, 0), (68, 0)] : List (Nat × Nat)) s.heap t.heap) A) #[.ref o0, .int p0, .int p1, .int p2, .int p3] s 0 0 A) (F0 m 332 ls []) := by
                                            intro n10771
                                            induction n10771 with
                                            | zero =>
                                              intro i10736 hn10771 hlo10772  H locs hT hF hS m10737 ls hl
                                              obtain rfl : 1001 = i10736 := by omega
                                              refine lv_iload hx hb dX12_lifts__332 (lv_at hl 0 rfl) ?_
                                              refine lv_sipush (v := 1001) hx hb dX12_lifts__334 (by decide) ?_
                                              refine lv_icmp_ge (tgt := 406) hx hb dX12_lifts__337 (by decide) (fun c10773 => ?_) (fun c10773 => (by exfalso; have q9 : ((1001 : Nat) : Int) < 1001 := ti_nle c10773 (by decide) (nI_toInt (by omega)); omega))
                                              have t10774 : 1001 ≤ ((1001 : Nat) : Int) := ti_le c10773 (by decide) (nI_toInt (by omega))
                                              refine lv_iinc (v := nI (i10279 + 1)) (lv' := [(8, .int (nI (i10279 + 1))), (11, .int (nI 1001)), (10, .int r10733), (9, .int z10730), (7, .int z9644), (6, .int (nI i3918)), (5, .int z83), (0, .ref o0), (1, .int p0), (2, .int p1), (3, .int p2), (4, .int p3)]) hx hb dX12_lifts__406 hl (k := 3) rfl (nI_add i10279 1) (by decide) rfl (fun ls hl => ?_)
                                              refine lv_goto (tgt := 266) hx hb dX12_lifts__409 (by decide) ?_
                                              exact ih10538 (i10279 + 1) (by omega) (by omega) _ _ hT hF hS m10737 ls (lv_sub hl [0, 4, 5, 6, 7, 8, 9, 10, 11] rfl)
                                            | succ n10771 ih10771 =>
                                              intro i10736 hn10771 hlo10772  H locs hT hF hS m10737 ls hl
                                              have hlt10774 : i10736 < 1001 := by omega
                                              refine lv_iload hx hb dX12_lifts__332 (lv_at hl 0 rfl) ?_
                                              refine lv_sipush (v := 1001) hx hb dX12_lifts__334 (by decide) ?_
                                              refine lv_icmp_ge (tgt := 406) hx hb dX12_lifts__337 (by decide) (fun c10775 => (by exfalso; have q9 : 1001 ≤ ((i10736 : Nat) : Int) := ti_le c10775 (by decide) (nI_toInt (by omega)); omega)) (fun c10775 => ?_)
                                              have t10776 : ((i10736 : Nat) : Int) < 1001 := ti_nle c10775 (by decide) (nI_toInt (by omega))
                                              refine lv_iconst (v := 0) hx hb dX12_lifts__340 (by decide) ?_
                                              refine lv_iload hx hb dX12_lifts__341 (lv_at hl 0 rfl) ?_
                                              refine lv_iload_n hx hb dX12_lifts__343 rfl (lv_at hl 9 rfl) ?_
                                              refine lv_iadd hx hb dX12_lifts__344 ?_
                                              refine lv_topi (fun x10777 ex10777 => ?_)
                                              have t10778 : x10777.toInt = ((i10736 : Nat) : Int) + p1.toInt := ti_add ex10777 (nI_toInt (by omega)) rfl (by omega) (by omega)
                                              refine lv_iload hx hb dX12_lifts__345 (lv_at hl 2 rfl) ?_
                                              refine lv_isub hx hb dX12_lifts__347 ?_
                                              refine lv_topi (fun x10779 ex10779 => ?_)
                                              refine va_mmax hx hb (hml.trans hl.1.symm) hown (ht_at hts 24 rfl) (ht_at hts 25 rfl) (ht_at hts 14 rfl) (ht_at hts 26 rfl) (Nat.le_of_ble_eq_true rfl) (Nat.le_of_ble_eq_true rfl) (Nat.le_of_ble_eq_true rfl) (Nat.le_of_ble_eq_true rfl) dX12_lifts__348 ?_
                                              refine lv_topi (fun x10780 ex10780 => ?_)
                                              have t10781 : 0 ≤ x10780.toInt ∧ x10779.toInt ≤ x10780.toInt ∧ (x10780.toInt = 0 ∨ x10780.toInt = x10779.toInt) := mx_f ex10780 (by decide) rfl
                                              refine lv_istore (lv' := [(12, .int x10780), (11, .int (nI i10736)), (10, .int r10733), (9, .int z10730), (8, .int (nI i10279)), (7, .int z9644), (6, .int (nI i3918)), (5, .int z83), (0, .ref o0), (1, .int p0), (2, .int p1), (3, .int p2), (4, .int p3)]) hx hb dX12_lifts__351 hl (by decide) rfl (fun ls hl => ?_)
                                              refine lv_aload_n hx hb dX12_lifts__353 rfl (lv_at hl 8 rfl) ?_
                                              refine tw_get hx hb hts bF_X12 hown hK hT hr_o0 shm_0 rfl 65 (by decide) (ht_at hts 11 rfl) (fun _ h9 => h9) dX12_lifts__354 (fun v9 m10782 h9 => ?_)
                                              obtain ⟨rfl, hg10783⟩ := h9 _ rfl
                                              refine lv_iload hx hb dX12_lifts__357 (lv_at hl 1 rfl) ?_
                                              refine tw_iald (i := (nI i10736)) hx hb hK hT hg10783 shm_66 rfl (vp_in_nI (by omega) (by decide)) dX12_lifts__359 (fun v9 m10784 h9 => ?_)
                                              obtain ⟨x10785, rfl, gx10785, kx10785⟩ := h9
                                              refine lv_ldcw (v := 1000000000) hx hb hown (ht_at hts 10 rfl) dX12_lifts__360 ?_
                                              refine lv_icmp_ge (tgt := 400) hx hb dX12_lifts__363 (by decide) (fun c10786 => ?_) (fun c10786 => ?_)
                                              · have t10787 : 1000000000 ≤ x10785.toInt := ti_le c10786 (by decide) rfl
                                                refine lv_iinc (v := nI (i10736 + 1)) (lv' := [(11, .int (nI (i10736 + 1))), (12, .int x10780), (10, .int r10733), (9, .int z10730), (8, .int (nI i10279)), (7, .int z9644), (6, .int (nI i3918)), (5, .int z83), (0, .ref o0), (1, .int p0), (2, .int p1), (3, .int p2), (4, .int p3)]) hx hb dX12_lifts__400 hl (k := 1) rfl (nI_add i10736 1) (by decide) rfl (fun ls hl => ?_)
                                                refine lv_goto (tgt := 332) hx hb dX12_lifts__403 (by decide) ?_
                                                exact ih10771 (i10736 + 1) (by omega) (by omega) _ _ hT hF hS m10737 ls (lv_sub hl [0, 2, 3, 4, 5, 6, 7, 8, 9, 10, 11, 12] rfl)
                                              · have t10788 : x10785.toInt < 1000000000 := ti_nle c10786 (by decide) rfl
                                                refine lv_iload hx hb dX12_lifts__366 (lv_at hl 0 rfl) ?_
                                                refine lv_iload hx hb dX12_lifts__368 (lv_at hl 12 rfl) ?_
                                                refine lv_icmp_gt (tgt := 400) hx hb dX12_lifts__370 (by decide) (fun c10789 => ?_) (fun c10789 => ?_)
                                                · have t10790 : p3.toInt < x10780.toInt := ti_lt c10789 rfl rfl
                                                  refine lv_iinc (v := nI (i10736 + 1)) (lv' := [(11, .int (nI (i10736 + 1))), (12, .int x10780), (10, .int r10733), (9, .int z10730), (8, .int (nI i10279)), (7, .int z9644), (6, .int (nI i3918)), (5, .int z83), (0, .ref o0), (1, .int p0), (2, .int p1), (3, .int p2), (4, .int p3)]) hx hb dX12_lifts__400 hl (k := 1) rfl (nI_add i10736 1) (by decide) rfl (fun ls hl => ?_)
                                                  refine lv_goto (tgt := 332) hx hb dX12_lifts__403 (by decide) ?_
                                                  exact ih10771 (i10736 + 1) (by omega) (by omega) _ _ hT hF hS m10737 ls (lv_sub hl [0, 2, 3, 4, 5, 6, 7, 8, 9, 10, 11, 12] rfl)
                                                · have t10791 : x10780.toInt ≤ p3.toInt := ti_nlt c10789 rfl rfl
                                                  refine lv_aload_n hx hb dX12_lifts__373 rfl (lv_at hl 8 rfl) ?_
                                                  refine tw_get hx hb hts bF_X12 hown hK hT hr_o0 shm_0 rfl 66 (by decide) (ht_at hts 16 rfl) (fun _ h9 => h9) dX12_lifts__374 (fun v9 m10792 h9 => ?_)
                                                  obtain ⟨rfl, hg10793⟩ := h9 _ rfl
                                                  refine lv_iload hx hb dX12_lifts__377 (lv_at hl 0 rfl) ?_
                                                  refine lv_aload_n hx hb dX12_lifts__379 rfl (lv_at hl 8 rfl) ?_
                                                  refine tw_get hx hb hts bF_X12 hown hK hT hr_o0 shm_0 rfl 66 (by decide) (ht_at hts 16 rfl) (fun _ h9 => h9) dX12_lifts__380 (fun v9 m10794 h9 => ?_)
                                                  obtain ⟨rfl, hg10795⟩ := h9 _ rfl
                                                  refine lv_iload hx hb dX12_lifts__383 (lv_at hl 0 rfl) ?_
                                                  refine tw_iald (i := x10780) hx hb hK hT hg10793 shm_67 rfl (vin_t (a := x10780.toInt) rfl (by omega) (by omega)) dX12_lifts__385 (fun v9 m10796 h9 => ?_)
                                                  obtain ⟨x10797, rfl, gx10797, kx10797⟩ := h9
                                                  refine lv_aload_n hx hb dX12_lifts__386 rfl (lv_at hl 8 rfl) ?_
                                                  refine tw_get hx hb hts bF_X12 hown hK hT hr_o0 shm_0 rfl 65 (by decide) (ht_at hts 11 rfl) (fun _ h9 => h9) dX12_lifts__387 (fun v9 m10798 h9 => ?_)
                                                  obtain ⟨rfl, hg10799⟩ := h9 _ rfl
                                                  refine lv_iload hx hb dX12_lifts__390 (lv_at hl 1 rfl) ?_
                                                  refine tw_iald (i := (nI i10736)) hx hb hK hT hg10783 shm_66 rfl (vp_in_nI (by omega) (by decide)) dX12_lifts__392 (fun v9 m10800 h9 => ?_)
                                                  obtain ⟨x10801, rfl, gx10801, kx10801⟩ := h9
                                                  obtain rfl : x10785 = x10801 := (el_same m10800 m10784 rfl).symm
                                                  refine lv_iload hx hb dX12_lifts__393 (lv_at hl 2 rfl) ?_
                                                  refine lv_iadd hx hb dX12_lifts__395 ?_
                                                  refine lv_topi (fun x10802 ex10802 => ?_)
                                                  refine va_mmin hx hb (hml.trans hl.1.symm) hown (ht_at hts 12 rfl) (ht_at hts 13 rfl) (ht_at hts 14 rfl) (ht_at hts 15 rfl) (Nat.le_of_ble_eq_true rfl) (Nat.le_of_ble_eq_true rfl) (Nat.le_of_ble_eq_true rfl) (Nat.le_of_ble_eq_true rfl) dX12_lifts__396 ?_
                                                  refine lv_topi (fun x10803 ex10803 => ?_)
                                                  have t10804 : x10803.toInt ≤ x10797.toInt ∧ x10803.toInt ≤ x10802.toInt ∧ (x10803.toInt = x10797.toInt ∨ x10803.toInt = x10802.toInt) := mn_f ex10803 rfl rfl
                                                  refine tw_iast (i := x10780) (x := x10803) hx hb hK hT hG hS hg10793 shm_67 rfl (vin_t (a := x10780.toInt) rfl (by omega) (by omega)) (gi_all _) dX12_lifts__399 (fun H locs hT oq m10805 oi hS => ?_)
                                                  have hF := hF.ast hg10793 skm_67 oq (by decide)
                                                  have m10806 := (el_kept (oq _ (gne hg3896 hg10793 (by decide)))).trans m10737
                                                  refine lv_iinc (v := nI (i10736 + 1)) (lv' := [(11, .int (nI (i10736 + 1))), (12, .int x10780), (10, .int r10733), (9, .int z10730), (8, .int (nI i10279)), (7, .int z9644), (6, .int (nI i3918)), (5, .int z83), (0, .ref o0), (1, .int p0), (2, .int p1), (3, .int p2), (4, .int p3)]) hx hb dX12_lifts__400 hl (k := 1) rfl (nI_add i10736 1) (by decide) rfl (fun ls hl => ?_)
                                                  refine lv_goto (tgt := 332) hx hb dX12_lifts__403 (by decide) ?_
                                                  exact ih10771 (i10736 + 1) (by omega) (by omega) _ _ hT hF hS m10806 ls (lv_sub hl [0, 2, 3, 4, 5, 6, 7, 8, 9, 10, 11, 12] rfl)
                                          exact key10771 (1001 - 0) 0 (by omega) (Nat.le_refl _) _ _ hT hF hS m10735 ls (lv_sub hl [0, 1, 2, 3, 4, 5, 6, 7, 8, 9, 10, 11] rfl)
                                        have key10808 : ∀ (n10808 i10603 : Nat), i10603 + n10808 = 5 → 0 ≤ i10603 → ∀ (z10604 : Int32), ∀ (H : Heap) (locs : List Loc), gH (dC, dI) kA (SHm q (wP wZ wN wH wB wC wL wK wU wV) PI im PM PT lS lB lE lN) G H → gF (dC, dI) SKm G ([(0, 0), (66, 0), (67, 0), (68, 0)] : List (Nat × Nat)) s.heap H → va_S A s.heap H locs → el H (q 1) (1428 : Int32).toNatClampNeg = some (.int x3898) → ∀ ls : Array Slot, lv_has ls 13 [(10, .int (nI i10603)), (9, .int z10604), (8, .int (nI i10279)), (7, .int z9644), (6, .int (nI i3918)), (5, .int z83), (0, .ref o0), (1, .int p0), (2, .int p1), (3, .int p2), (4, .int p3)] → W p l e (headSpec w_s_lifts_ ({ frames := 2, cells := 0, slots := 0, locals := 66 })).room s m #[.ref o0, .int p0, .int p1, .int p2, .int p3] below meth c H locs 0 0 (MQ below (va_Qi (fun (r : Int32) (u : Unit) => (-2147483648 ≤ r.toInt ∧ r.toInt ≤ 999999999)) (fun (_ : Unit) (t : State) => gH (dC, dI) kA (SHm q (wP wZ wN wH wB wC wL wK wU wV) PI im PM PT lS lB lE lN) G t.heap ∧ gF (dC, dI) SKm G ([(0, 0), (66, 0), (67, 0), (68, 0)] : List (Nat × Nat)) s.heap t.heap) A) #[.ref o0, .int p0, .int p1, .int p2, .int p3] s 0 0 A) (F0 m 282 ls []) := by
                                          intro n10808
                                          induction n10808 with
                                          | zero =>
                                            intro i10603 hn10808 hlo10809 z10604 H locs hT hF hS m10605 ls hl
                                            obtain rfl : 5 = i10603 := by omega
                                            refine lv_iload hx hb dX12_lifts__282 (lv_at hl 0 rfl) ?_
                                            refine lv_iload hx hb dX12_lifts__284 (lv_at hl 5 rfl) ?_
                                            refine lv_icmp_ge (tgt := 322) hx hb dX12_lifts__286 (by decide) (fun c10810 => ?_) (fun c10810 => (by exfalso; have q9 : ((5 : Nat) : Int) < z83.toInt := ti_nle c10810 rfl (nI_toInt (by omega)); omega))
                                            have t10811 : z83.toInt ≤ ((5 : Nat) : Int) := ti_le c10810 rfl (nI_toInt (by omega))
                                            exact jn10732 (nI 5) z10604 (rg_t (a := ((5 : Nat) : Int)) (nI_toInt (by omega)) (by omega) (by omega)) _ _ hT hF hS m10605 ls (lv_sub hl [0, 1, 2, 3, 4, 5, 6, 7, 8, 9, 10] rfl)
                                          | succ n10808 ih10808 =>
                                            intro i10603 hn10808 hlo10809 z10604 H locs hT hF hS m10605 ls hl
                                            have hlt10811 : i10603 < 5 := by omega
                                            refine lv_iload hx hb dX12_lifts__282 (lv_at hl 0 rfl) ?_
                                            refine lv_iload hx hb dX12_lifts__284 (lv_at hl 5 rfl) ?_
                                            refine lv_icmp_ge (tgt := 322) hx hb dX12_lifts__286 (by decide) (fun c10812 => ?_) (fun c10812 => ?_)
                                            · have t10813 : z83.toInt ≤ ((i10603 : Nat) : Int) := ti_le c10812 rfl (nI_toInt (by omega))
                                              exact jn10732 (nI i10603) z10604 (rg_t (a := ((i10603 : Nat) : Int)) (nI_toInt (by omega)) (by omega) (by omega)) _ _ hT hF hS m10605 ls (lv_sub hl [0, 1, 2, 3, 4, 5, 6, 7, 8, 9, 10] rfl)
                                            · have t10814 : ((i10603 : Nat) : Int) < z83.toInt := ti_nle c10812 rfl (nI_toInt (by omega))
                                              refine lv_iload hx hb dX12_lifts__289 (lv_at hl 1 rfl) ?_
                                              refine lv_iload hx hb dX12_lifts__291 (lv_at hl 2 rfl) ?_
                                              refine lv_iload hx hb dX12_lifts__293 (lv_at hl 0 rfl) ?_
                                              refine lv_ishr hx hb dX12_lifts__295 ?_
                                              refine lv_topi (fun x10815 ex10815 => ?_)
                                              refine lv_iconst (v := 1) hx hb dX12_lifts__296 (by decide) ?_
                                              refine lv_iand hx hb dX12_lifts__297 ?_
                                              refine lv_topi (fun x10816 ex10816 => ?_)
                                              refine lv_iconst (v := 1) hx hb dX12_lifts__298 (by decide) ?_
                                              refine lv_icmp_ne (tgt := 312) hx hb dX12_lifts__299 (by decide) (fun c10817 => ?_) (fun c10817 => ?_)
                                              · have t10818 : x10816.toInt ≠ 1 := ti_ne c10817 rfl (by decide)
                                                refine lv_iconst (v := 0) hx hb dX12_lifts__312 (by decide) ?_
                                                refine lv_iadd hx hb dX12_lifts__313 ?_
                                                refine lv_topi (fun x10819 ex10819 => ?_)
                                                have t10820 : -2147483648 ≤ z10604.toInt ∧ z10604.toInt ≤ 2147483647 := ti_all z10604
                                                have t10821 : x10819.toInt = z10604.toInt + 0 := ti_add ex10819 rfl (by decide) (by omega) (by omega)
                                                refine lv_istore (lv' := [(9, .int x10819), (10, .int (nI i10603)), (8, .int (nI i10279)), (7, .int z9644), (6, .int (nI i3918)), (5, .int z83), (0, .ref o0), (1, .int p0), (2, .int p1), (3, .int p2), (4, .int p3)]) hx hb dX12_lifts__314 hl (by decide) rfl (fun ls hl => ?_)
                                                refine lv_iinc (v := nI (i10603 + 1)) (lv' := [(10, .int (nI (i10603 + 1))), (9, .int x10819), (8, .int (nI i10279)), (7, .int z9644), (6, .int (nI i3918)), (5, .int z83), (0, .ref o0), (1, .int p0), (2, .int p1), (3, .int p2), (4, .int p3)]) hx hb dX12_lifts__316 hl (k := 1) rfl (nI_add i10603 1) (by decide) rfl (fun ls hl => ?_)
                                                refine lv_goto (tgt := 282) hx hb dX12_lifts__319 (by decide) ?_
                                                exact ih10808 (i10603 + 1) (by omega) (by omega) x10819 _ _ hT hF hS m10605 ls (lv_sub hl [0, 1, 2, 3, 4, 5, 6, 7, 8, 9, 10] rfl)
                                              · have t10822 : x10816.toInt = 1 := ti_eq c10817 rfl (by decide)
                                                refine lv_aload_n hx hb dX12_lifts__302 rfl (lv_at hl 6 rfl) ?_
                                                refine tw_get hx hb hts bF_X12 hown hK hT hr_o0 shm_0 rfl 67 (by decide) (ht_at hts 46 rfl) (fun _ h9 => h9) dX12_lifts__303 (fun v9 m10823 h9 => ?_)
                                                obtain ⟨rfl, hg10824⟩ := h9 _ rfl
                                                refine lv_iload hx hb dX12_lifts__306 (lv_at hl 0 rfl) ?_
                                                refine tw_iald (i := (nI i10603)) hx hb hK hT hg10824 shm_68 rfl (vp_in_nI (by omega) (by decide)) dX12_lifts__308 (fun v9 m10825 h9 => ?_)
                                                obtain ⟨x10826, rfl, gx10826, kx10826⟩ := h9
                                                refine lv_goto (tgt := 313) hx hb dX12_lifts__309 (by decide) ?_
                                                refine lv_iadd hx hb dX12_lifts__313 ?_
                                                refine lv_topi (fun x10827 ex10827 => ?_)
                                                refine lv_istore (lv' := [(9, .int x10827), (10, .int (nI i10603)), (8, .int (nI i10279)), (7, .int z9644), (6, .int (nI i3918)), (5, .int z83), (0, .ref o0), (1, .int p0), (2, .int p1), (3, .int p2), (4, .int p3)]) hx hb dX12_lifts__314 hl (by decide) rfl (fun ls hl => ?_)
                                                refine lv_iinc (v := nI (i10603 + 1)) (lv' := [(10, .int (nI (i10603 + 1))), (9, .int x10827), (8, .int (nI i10279)), (7, .int z9644), (6, .int (nI i3918)), (5, .int z83), (0, .ref o0), (1, .int p0), (2, .int p1), (3, .int p2), (4, .int p3)]) hx hb dX12_lifts__316 hl (k := 1) rfl (nI_add i10603 1) (by decide) rfl (fun ls hl => ?_)
                                                refine lv_goto (tgt := 282) hx hb dX12_lifts__319 (by decide) ?_
                                                exact ih10808 (i10603 + 1) (by omega) (by omega) x10827 _ _ hT hF hS m10605 ls (lv_sub hl [0, 1, 2, 3, 4, 5, 6, 7, 8, 9, 10] rfl)
                                        exact key10808 (5 - 0) 0 (by omega) (Nat.le_refl _) z9644 _ _ hT hF hS m10280 ls (lv_sub hl [0, 1, 2, 3, 4, 5, 6, 7, 8, 9, 10] rfl)
                                  exact key10538 (2147483647 - 0) 0 (by omega) (Nat.le_refl _) _ _ hT hF hS m10268 ls (lv_sub hl [0, 1, 2, 3, 4, 5, 6, 7, 8] rfl)
                                | succ n10275 ih10275 =>
                                  intro i10267 hn10275 hlo10276  H locs hT hF hS m10268 ls hl
                                  have hlt10827 : i10267 < 1001 := by omega
                                  refine lv_iload hx hb dX12_lifts__239 (lv_at hl 0 rfl) ?_
                                  refine lv_sipush (v := 1001) hx hb dX12_lifts__241 (by decide) ?_
                                  refine lv_icmp_ge (tgt := 263) hx hb dX12_lifts__244 (by decide) (fun c10828 => (by exfalso; have q9 : 1001 ≤ ((i10267 : Nat) : Int) := ti_le c10828 (by decide) (nI_toInt (by omega)); omega)) (fun c10828 => ?_)
                                  have t10829 : ((i10267 : Nat) : Int) < 1001 := ti_nle c10828 (by decide) (nI_toInt (by omega))
                                  refine lv_aload_n hx hb dX12_lifts__247 rfl (lv_at hl 4 rfl) ?_
                                  refine tw_get hx hb hts bF_X12 hown hK hT hr_o0 shm_0 rfl 66 (by decide) (ht_at hts 16 rfl) (fun _ h9 => h9) dX12_lifts__248 (fun v9 m10830 h9 => ?_)
                                  obtain ⟨rfl, hg10831⟩ := h9 _ rfl
                                  refine lv_iload hx hb dX12_lifts__251 (lv_at hl 0 rfl) ?_
                                  refine lv_ldcw (v := 1000000000) hx hb hown (ht_at hts 10 rfl) dX12_lifts__253 ?_
                                  refine tw_iast (i := (nI i10267)) (x := 1000000000) hx hb hK hT hG hS hg10831 shm_67 rfl (vp_in_nI (by omega) (by decide)) (gi_all _) dX12_lifts__256 (fun H locs hT oq m10832 oi hS => ?_)
                                  have hF := hF.ast hg10831 skm_67 oq (by decide)
                                  have m10833 := (el_kept (oq _ (gne hg3896 hg10831 (by decide)))).trans m10268
                                  refine lv_iinc (v := nI (i10267 + 1)) (lv' := [(8, .int (nI (i10267 + 1))), (7, .int z9644), (6, .int (nI i3918)), (5, .int z83), (0, .ref o0), (1, .int p0), (2, .int p1), (3, .int p2), (4, .int p3)]) hx hb dX12_lifts__257 hl (k := 0) rfl (nI_add i10267 1) (by decide) rfl (fun ls hl => ?_)
                                  refine lv_goto (tgt := 239) hx hb dX12_lifts__260 (by decide) ?_
                                  exact ih10275 (i10267 + 1) (by omega) (by omega) _ _ hT hF hS m10833 ls (lv_sub hl [0, 1, 2, 3, 4, 5, 6, 7, 8] rfl)
                              exact key10275 (1001 - 0) 0 (by omega) (Nat.le_refl _) _ _ hT hF hS m9645 ls (lv_sub hl [0, 1, 2, 3, 4, 5, 6, 7, 8] rfl)
                            · have t10834 : ((29 : Nat) : Int) < x3898.toInt := ti_nle c10265 rfl (nI_toInt (by omega))
                              refine lv_aload_n hx hb dX12_lifts__191 rfl (lv_at hl 4 rfl) ?_
                              refine lv_iload hx hb dX12_lifts__192 (lv_at hl 0 rfl) ?_
                              refine lv_iconst (v := 0) hx hb dX12_lifts__194 (by decide) ?_
                              have hFc := gA_free hG hA hS
                              refine va_calli (va_runV (As := [.int (nI 29), .int 0]) (rest := []) ⟨hx, hb, hml, hown, hts⟩ (s_of0 l dC dI kA adK adV G H q wZ wN wH wB wC wL wK wU wV PI im PM PT lS lB lE lN o0 (nI 29) hT hr_o0 (rg_t (a := ((29 : Nat) : Int)) (nI_toInt (by omega)) (by omega) (by omega)) hgz hgn hgh hgb hgc hgi hgu) (cwV 2 hts (goodIn_app (goodIn_r _ [32, 33, 34, 5] rfl (by decide +kernel)) (goodIn_ca (goodIn_r _ [28, 10, 29, 30, 31, 5] rfl (by decide +kernel)) (bs_in _ _))) rfl rfl rfl (by decide +kernel) ⟨(Nat.le_of_ble_eq_true rfl), (Nat.le_of_ble_eq_true rfl)⟩) ⟨fun a U g mk q => by obtain ⟨q0, q1, qK, qE⟩ := q; exact ⟨q0, q1, va_K.moved (u := U) (U := U.calling g mk a) (Vm.Alike.refl U.vm) qK, EVS.blind g mk a qE⟩, gH_rc hK hT hr_o0 shm_0 rfl, fun U hU hW => ⟨rfl, hU, va_K.moved hW.alike hK, hE.call hS hFc hU hW⟩⟩ rfl rfl hl.1 rfl (lv_room (Nat.le_of_ble_eq_true rfl)) dX12_lifts__195 ⟨(Nat.le_of_ble_eq_true rfl), (Nat.le_of_ble_eq_true rfl)⟩) hS (fun q _ h => hFc q h) hFc (fun r10835 u t H locs ht hvm hw10836 hB _ _ hS => ?_)
                              obtain ⟨hT, hF1⟩ := hB
                              rw [ht] at hT hF1
                              have m10837 := (el_kept (hF1.arr hg3896 skm_2 (by decide))).trans m9645
                              have hF := hF.more hF1 (by decide)
                              try dsimp only at hw10836
                              have ⟨ix10838, hix10838, m10839⟩ := hw10836
                              have t10840 : (nI 29).toInt = ((29 : Nat) : Int) := nI_toInt (by omega)
                              have m10841 := (el_kept (hF1.arr hg3896 skm_2 (by decide))).trans m10839
                              refine lv_iconst (v := 2) hx hb dX12_lifts__198 (by decide) ?_
                              refine lv_icmp_ne (tgt := 230) hx hb dX12_lifts__199 (by decide) (fun c10842 => ?_) (fun c10842 => ?_)
                              · have t10843 : r10835.toInt ≠ 2 := ti_ne c10842 rfl (by decide)
                                refine lv_iinc (v := nI (29 + 1)) (lv' := [(8, .int (nI (29 + 1))), (7, .int z9644), (6, .int (nI i3918)), (5, .int z83), (0, .ref o0), (1, .int p0), (2, .int p1), (3, .int p2), (4, .int p3)]) hx hb dX12_lifts__230 hl (k := 0) rfl (nI_add 29 1) (by decide) rfl (fun ls hl => ?_)
                                refine lv_goto (tgt := 178) hx hb dX12_lifts__233 (by decide) ?_
                                have key11453 : ∀ (n11453 i10844 : Nat), i10844 + n11453 = 30 → (29 + 1) ≤ i10844 → ∀ (H : Heap) (locs : List Loc), gH (dC, dI) kA (SHm q (wP wZ wN wH wB wC wL wK wU wV) PI im PM PT lS lB lE lN) G H → gF (dC, dI) SKm G ([(0, 0), (66, 0), (67, 0), (68, 0)] : List (Nat × Nat)) s.heap H → va_S A s.heap H locs → el H (q 1) (1428 : Int32).toNatClampNeg = some (.int x3898) → el H (q 1) ix10838.toNatClampNeg = some (.int r10835) → ∀ ls : Array Slot, lv_has ls 13 [(8, .int (nI i10844)), (7, .int z9644), (6, .int (nI i3918)), (5, .int z83), (0, .ref o0), (1, .int p0), (2, .int p1), (3, .int p2), (4, .int p3)] → W p l e (headSpec w_s_lifts_ ({ frames := 2, cells := 0, slots := 0, locals := 66 })).room s m #[.ref o0, .int p0, .int p1, .int p2, .int p3] below meth c H locs 0 0 (MQ below (va_Qi (fun (r : Int32) (u : Unit) => (-2147483648 ≤ r.toInt ∧ r.toInt ≤ 999999999)) (fun (_ : Unit) (t : State) => gH (dC, dI) kA (SHm q (wP wZ wN wH wB wC wL wK wU wV) PI im PM PT lS lB lE lN) G t.heap ∧ gF (dC, dI) SKm G ([(0, 0), (66, 0), (67, 0), (68, 0)] : List (Nat × Nat)) s.heap t.heap) A) #[.ref o0, .int p0, .int p1, .int p2, .int p3] s 0 0 A) (F0 m 178 ls []) := by
                                  intro n11453
                                  induction n11453 with
                                  | zero =>
                                    intro i10844 hn11453 hlo11454  H locs hT hF hS m10845 m10846 ls hl
                                    obtain rfl : 30 = i10844 := by omega
                                    refine lv_iload hx hb dX12_lifts__178 (lv_at hl 0 rfl) ?_
                                    refine lv_aload_n hx hb dX12_lifts__180 rfl (lv_at hl 4 rfl) ?_
                                    refine tw_get hx hb hts bF_X12 hown hK hT hr_o0 shm_0 rfl 1 (by decide) (ht_at hts 9 rfl) (fun _ h9 => h9) dX12_lifts__181 (fun v9 m11455 h9 => ?_)
                                    obtain ⟨rfl, hg11456⟩ := h9 _ rfl
                                    refine lv_sipush (v := 1428) hx hb dX12_lifts__184 (by decide) ?_
                                    refine tw_iald (i := 1428) hx hb hK hT hg3896 shm_2 rfl (by unfold vp_in; decide) dX12_lifts__187 (fun v9 m11457 h9 => ?_)
                                    obtain ⟨x11458, rfl, gx11458, kx11458⟩ := (gp_at h9 (w_wct (by have q9 := tn_of (show (1428 : Int32).toInt = 1428 from (by decide)) (show (0 : Int) ≤ 1428 from by omega); omega)))
                                    obtain rfl : x3898 = x11458 := (el_same m11457 m10845 rfl).symm
                                    refine lv_icmp_ge (tgt := 236) hx hb dX12_lifts__188 (by decide) (fun c11459 => ?_) (fun c11459 => (by exfalso; have q9 : ((30 : Nat) : Int) < x3898.toInt := ti_nle c11459 rfl (nI_toInt (by omega)); omega))
                                    have t11460 : x3898.toInt ≤ ((30 : Nat) : Int) := ti_le c11459 rfl (nI_toInt (by omega))
                                    refine lv_iconst (v := 0) hx hb dX12_lifts__236 (by decide) ?_
                                    refine lv_istore (lv' := [(8, .int 0), (7, .int z9644), (6, .int (nI i3918)), (5, .int z83), (0, .ref o0), (1, .int p0), (2, .int p1), (3, .int p2), (4, .int p3)]) hx hb dX12_lifts__237 hl (by decide) rfl (fun ls hl => ?_)
                                    have key11471 : ∀ (n11471 i11461 : Nat), i11461 + n11471 = 1001 → 0 ≤ i11461 → ∀ (H : Heap) (locs : List Loc), gH (dC, dI) kA (SHm q (wP wZ wN wH wB wC wL wK wU wV) PI im PM PT lS lB lE lN) G H → gF (dC, dI) SKm G ([(0, 0), (66, 0), (67, 0), (68, 0)] : List (Nat × Nat)) s.heap H → va_S A s.heap H locs → el H (q 1) (1428 : Int32).toNatClampNeg = some (.int x3898) → el H (q 1) ix10838.toNatClampNeg = some (.int r10835) → ∀ ls : Array Slot, lv_has ls 13 [(8, .int (nI i11461)), (7, .int z9644), (6, .int (nI i3918)), (5, .int z83), (0, .ref o0), (1, .int p0), (2, .int p1), (3, .int p2), (4, .int p3)] → W p l e (headSpec w_s_lifts_ ({ frames := 2, cells := 0, slots := 0, locals := 66 })).room s m #[.ref o0, .int p0, .int p1, .int p2, .int p3] below meth c H locs 0 0 (MQ below (va_Qi (fun (r : Int32) (u : Unit) => (-2147483648 ≤ r.toInt ∧ r.toInt ≤ 999999999)) (fun (_ : Unit) (t : State) => gH (dC, dI) kA (SHm q (wP wZ wN wH wB wC wL wK wU wV) PI im PM PT lS lB lE lN) G t.heap ∧ gF (dC, dI) SKm G ([(0, 0), (66, 0), (67, 0), (68, 0)] : List (Nat × Nat)) s.heap t.heap) A) #[.ref o0, .int p0, .int p1, .int p2, .int p3] s 0 0 A) (F0 m 239 ls []) := by
                                      intro n11471
                                      induction n11471 with
                                      | zero =>
                                        intro i11461 hn11471 hlo11472  H locs hT hF hS m11462 m11463 ls hl
                                        obtain rfl : 1001 = i11461 := by omega
                                        refine lv_iload hx hb dX12_lifts__239 (lv_at hl 0 rfl) ?_
                                        refine lv_sipush (v := 1001) hx hb dX12_lifts__241 (by decide) ?_
                                        refine lv_icmp_ge (tgt := 263) hx hb dX12_lifts__244 (by decide) (fun c11473 => ?_) (fun c11473 => (by exfalso; have q9 : ((1001 : Nat) : Int) < 1001 := ti_nle c11473 (by decide) (nI_toInt (by omega)); omega))
                                        have t11474 : 1001 ≤ ((1001 : Nat) : Int) := ti_le c11473 (by decide) (nI_toInt (by omega))
                                        refine lv_iconst (v := 0) hx hb dX12_lifts__263 (by decide) ?_
                                        refine lv_istore (lv' := [(8, .int 0), (7, .int z9644), (6, .int (nI i3918)), (5, .int z83), (0, .ref o0), (1, .int p0), (2, .int p1), (3, .int p2), (4, .int p3)]) hx hb dX12_lifts__264 hl (by decide) rfl (fun ls hl => ?_)
                                        have key11748 : ∀ (n11748 i11475 : Nat), i11475 + n11748 = 2147483647 → 0 ≤ i11475 → ∀ (H : Heap) (locs : List Loc), gH (dC, dI) kA (SHm q (wP wZ wN wH wB wC wL wK wU wV) PI im PM PT lS lB lE lN) G H → gF (dC, dI) SKm G ([(0, 0), (66, 0), (67, 0), (68, 0)] : List (Nat × Nat)) s.heap H → va_S A s.heap H locs → el H (q 1) (1428 : Int32).toNatClampNeg = some (.int x3898) → el H (q 1) ix10838.toNatClampNeg = some (.int r10835) → ∀ ls : Array Slot, lv_has ls 13 [(8, .int (nI i11475)), (7, .int z9644), (6, .int (nI i3918)), (5, .int z83), (0, .ref o0), (1, .int p0), (2, .int p1), (3, .int p2), (4, .int p3)] → W p l e (headSpec w_s_lifts_ ({ frames := 2, cells := 0, slots := 0, locals := 66 })).room s m #[.ref o0, .int p0, .int p1, .int p2, .int p3] below meth c H locs 0 0 (MQ below (va_Qi (fun (r : Int32) (u : Unit) => (-2147483648 ≤ r.toInt ∧ r.toInt ≤ 999999999)) (fun (_ : Unit) (t : State) => gH (dC, dI) kA (SHm q (wP wZ wN wH wB wC wL wK wU wV) PI im PM PT lS lB lE lN) G t.heap ∧ gF (dC, dI) SKm G ([(0, 0), (66, 0), (67, 0), (68, 0)] : List (Nat × Nat)) s.heap t.heap) A) #[.ref o0, .int p0, .int p1, .int p2, .int p3] s 0 0 A) (F0 m 266 ls []) := by
                                          intro n11748
                                          induction n11748 with
                                          | zero =>
                                            intro i11475 hn11748 hlo11749  H locs hT hF hS m11476 m11477 ls hl
                                            obtain rfl : 2147483647 = i11475 := by omega
                                            refine lv_iload hx hb dX12_lifts__266 (lv_at hl 0 rfl) ?_
                                            refine lv_iconst (v := 1) hx hb dX12_lifts__268 (by decide) ?_
                                            refine lv_iload hx hb dX12_lifts__269 (lv_at hl 3 rfl) ?_
                                            refine lv_ishl hx hb dX12_lifts__271 ?_
                                            refine lv_topi (fun x11750 ex11750 => ?_)
                                            refine lv_icmp_ge (tgt := 412) hx hb dX12_lifts__272 (by decide) (fun c11751 => ?_) (fun c11751 => (by exfalso; have q9 : ((2147483647 : Nat) : Int) < x11750.toInt := ti_nle c11751 rfl (nI_toInt (by omega)); have := ti_all x11750; omega))
                                            have t11752 : x11750.toInt ≤ ((2147483647 : Nat) : Int) := ti_le c11751 rfl (nI_toInt (by omega))
                                            refine lv_iconst (v := 0) hx hb dX12_lifts__412 (by decide) ?_
                                            refine lv_istore (lv' := [(8, .int 0), (7, .int z9644), (6, .int (nI i3918)), (5, .int z83), (0, .ref o0), (1, .int p0), (2, .int p1), (3, .int p2), (4, .int p3)]) hx hb dX12_lifts__413 hl (by decide) rfl (fun ls hl => ?_)
                                            have key11768 : ∀ (n11768 i11753 : Nat), i11753 + n11768 = 1001 → 0 ≤ i11753 → ∀ (H : Heap) (locs : List Loc), gH (dC, dI) kA (SHm q (wP wZ wN wH wB wC wL wK wU wV) PI im PM PT lS lB lE lN) G H → gF (dC, dI) SKm G ([(0, 0), (66, 0), (67, 0), (68, 0)] : List (Nat × Nat)) s.heap H → va_S A s.heap H locs → el H (q 1) (1428 : Int32).toNatClampNeg = some (.int x3898) → el H (q 1) ix10838.toNatClampNeg = some (.int r10835) → ∀ ls : Array Slot, lv_has ls 13 [(8, .int (nI i11753)), (7, .int z9644), (6, .int (nI i3918)), (5, .int z83), (0, .ref o0), (1, .int p0), (2, .int p1), (3, .int p2), (4, .int p3)] → W p l e (headSpec w_s_lifts_ ({ frames := 2, cells := 0, slots := 0, locals := 66 })).room s m #[.ref o0, .int p0, .int p1, .int p2, .int p3] below meth c H locs 0 0 (MQ below (va_Qi (fun (r : Int32) (u : Unit) => (-2147483648 ≤ r.toInt ∧ r.toInt ≤ 999999999)) (fun (_ : Unit) (t : State) => gH (dC, dI) kA (SHm q (wP wZ wN wH wB wC wL wK wU wV) PI im PM PT lS lB lE lN) G t.heap ∧ gF (dC, dI) SKm G ([(0, 0), (66, 0), (67, 0), (68, 0)] : List (Nat × Nat)) s.heap t.heap) A) #[.ref o0, .int p0, .int p1, .int p2, .int p3] s 0 0 A) (F0 m 415 ls []) := by
                                              intro n11768
                                              induction n11768 with
                                              | zero =>
                                                intro i11753 hn11768 hlo11769  H locs hT hF hS m11754 m11755 ls hl
                                                obtain rfl : 1001 = i11753 := by omega
                                                refine lv_iload hx hb dX12_lifts__415 (lv_at hl 0 rfl) ?_
                                                refine lv_sipush (v := 1001) hx hb dX12_lifts__417 (by decide) ?_
                                                refine lv_icmp_ge (tgt := 443) hx hb dX12_lifts__420 (by decide) (fun c11770 => ?_) (fun c11770 => (by exfalso; have q9 : ((1001 : Nat) : Int) < 1001 := ti_nle c11770 (by decide) (nI_toInt (by omega)); omega))
                                                have t11771 : 1001 ≤ ((1001 : Nat) : Int) := ti_le c11770 (by decide) (nI_toInt (by omega))
                                                refine lv_iinc (v := nI (i3918 + 1)) (lv' := [(6, .int (nI (i3918 + 1))), (8, .int (nI 1001)), (7, .int z9644), (5, .int z83), (0, .ref o0), (1, .int p0), (2, .int p1), (3, .int p2), (4, .int p3)]) hx hb dX12_lifts__443 hl (k := 2) rfl (nI_add i3918 1) (by decide) rfl (fun ls hl => ?_)
                                                refine lv_goto (tgt := 166) hx hb dX12_lifts__446 (by decide) ?_
                                                exact ih9554 (i3918 + 1) (by omega) (by omega) _ _ hT hF hS m11754 ls (lv_sub hl [0, 3, 4, 5, 6, 7, 8] rfl)
                                              | succ n11768 ih11768 =>
                                                intro i11753 hn11768 hlo11769  H locs hT hF hS m11754 m11755 ls hl
                                                have hlt11771 : i11753 < 1001 := by omega
                                                refine lv_iload hx hb dX12_lifts__415 (lv_at hl 0 rfl) ?_
                                                refine lv_sipush (v := 1001) hx hb dX12_lifts__417 (by decide) ?_
                                                refine lv_icmp_ge (tgt := 443) hx hb dX12_lifts__420 (by decide) (fun c11772 => (by exfalso; have q9 : 1001 ≤ ((i11753 : Nat) : Int) := ti_le c11772 (by decide) (nI_toInt (by omega)); omega)) (fun c11772 => ?_)
                                                have t11773 : ((i11753 : Nat) : Int) < 1001 := ti_nle c11772 (by decide) (nI_toInt (by omega))
                                                refine lv_aload_n hx hb dX12_lifts__423 rfl (lv_at hl 4 rfl) ?_
                                                refine tw_get hx hb hts bF_X12 hown hK hT hr_o0 shm_0 rfl 65 (by decide) (ht_at hts 11 rfl) (fun _ h9 => h9) dX12_lifts__424 (fun v9 m11774 h9 => ?_)
                                                obtain ⟨rfl, hg11775⟩ := h9 _ rfl
                                                refine lv_iload hx hb dX12_lifts__427 (lv_at hl 0 rfl) ?_
                                                refine lv_aload_n hx hb dX12_lifts__429 rfl (lv_at hl 4 rfl) ?_
                                                refine tw_get hx hb hts bF_X12 hown hK hT hr_o0 shm_0 rfl 66 (by decide) (ht_at hts 16 rfl) (fun _ h9 => h9) dX12_lifts__430 (fun v9 m11776 h9 => ?_)
                                                obtain ⟨rfl, hg11777⟩ := h9 _ rfl
                                                refine lv_iload hx hb dX12_lifts__433 (lv_at hl 0 rfl) ?_
                                                refine tw_iald (i := (nI i11753)) hx hb hK hT hg11777 shm_67 rfl (vp_in_nI (by omega) (by decide)) dX12_lifts__435 (fun v9 m11778 h9 => ?_)
                                                obtain ⟨x11779, rfl, gx11779, kx11779⟩ := h9
                                                refine tw_iast (i := (nI i11753)) (x := x11779) hx hb hK hT hG hS hg11775 shm_66 rfl (vp_in_nI (by omega) (by decide)) (gi_all _) dX12_lifts__436 (fun H locs hT oq m11780 oi hS => ?_)
                                                have hF := hF.ast hg11775 skm_66 oq (by decide)
                                                have m11781 := (el_kept (oq _ (gne hg3896 hg11775 (by decide)))).trans m11754
                                                have m11782 := (el_kept (oq _ (gne hg3896 hg11775 (by decide)))).trans m11755
                                                refine lv_iinc (v := nI (i11753 + 1)) (lv' := [(8, .int (nI (i11753 + 1))), (7, .int z9644), (6, .int (nI i3918)), (5, .int z83), (0, .ref o0), (1, .int p0), (2, .int p1), (3, .int p2), (4, .int p3)]) hx hb dX12_lifts__437 hl (k := 0) rfl (nI_add i11753 1) (by decide) rfl (fun ls hl => ?_)
                                                refine lv_goto (tgt := 415) hx hb dX12_lifts__440 (by decide) ?_
                                                exact ih11768 (i11753 + 1) (by omega) (by omega) _ _ hT hF hS m11781 m11782 ls (lv_sub hl [0, 1, 2, 3, 4, 5, 6, 7, 8] rfl)
                                            exact key11768 (1001 - 0) 0 (by omega) (Nat.le_refl _) _ _ hT hF hS m11476 m11477 ls (lv_sub hl [0, 1, 2, 3, 4, 5, 6, 7, 8] rfl)
                                          | succ n11748 ih11748 =>
                                            intro i11475 hn11748 hlo11749  H locs hT hF hS m11476 m11477 ls hl
                                            have hlt11783 : i11475 < 2147483647 := by omega
                                            refine lv_iload hx hb dX12_lifts__266 (lv_at hl 0 rfl) ?_
                                            refine lv_iconst (v := 1) hx hb dX12_lifts__268 (by decide) ?_
                                            refine lv_iload hx hb dX12_lifts__269 (lv_at hl 3 rfl) ?_
                                            refine lv_ishl hx hb dX12_lifts__271 ?_
                                            refine lv_topi (fun x11784 ex11784 => ?_)
                                            refine lv_icmp_ge (tgt := 412) hx hb dX12_lifts__272 (by decide) (fun c11785 => ?_) (fun c11785 => ?_)
                                            · have t11786 : x11784.toInt ≤ ((i11475 : Nat) : Int) := ti_le c11785 rfl (nI_toInt (by omega))
                                              refine lv_iconst (v := 0) hx hb dX12_lifts__412 (by decide) ?_
                                              refine lv_istore (lv' := [(8, .int 0), (7, .int z9644), (6, .int (nI i3918)), (5, .int z83), (0, .ref o0), (1, .int p0), (2, .int p1), (3, .int p2), (4, .int p3)]) hx hb dX12_lifts__413 hl (by decide) rfl (fun ls hl => ?_)
                                              have key11802 : ∀ (n11802 i11787 : Nat), i11787 + n11802 = 1001 → 0 ≤ i11787 → ∀ (H : Heap) (locs : List Loc), gH (dC, dI) kA (SHm q (wP wZ wN wH wB wC wL wK wU wV) PI im PM PT lS lB lE lN) G H → gF (dC, dI) SKm G ([(0, 0), (66, 0), (67, 0), (68, 0)] : List (Nat × Nat)) s.heap H → va_S A s.heap H locs → el H (q 1) (1428 : Int32).toNatClampNeg = some (.int x3898) → el H (q 1) ix10838.toNatClampNeg = some (.int r10835) → ∀ ls : Array Slot, lv_has ls 13 [(8, .int (nI i11787)), (7, .int z9644), (6, .int (nI i3918)), (5, .int z83), (0, .ref o0), (1, .int p0), (2, .int p1), (3, .int p2), (4, .int p3)] → W p l e (headSpec w_s_lifts_ ({ frames := 2, cells := 0, slots := 0, locals := 66 })).room s m #[.ref o0, .int p0, .int p1, .int p2, .int p3] below meth c H locs 0 0 (MQ below (va_Qi (fun (r : Int32) (u : Unit) => (-2147483648 ≤ r.toInt ∧ r.toInt ≤ 999999999)) (fun (_ : Unit) (t : State) => gH (dC, dI) kA (SHm q (wP wZ wN wH wB wC wL wK wU wV) PI im PM PT lS lB lE lN) G t.heap ∧ gF (dC, dI) SKm G ([(0, 0), (66, 0), (67, 0), (68, 0)] : List (Nat × Nat)) s.heap t.heap) A) #[.ref o0, .int p0, .int p1, .int p2, .int p3] s 0 0 A) (F0 m 415 ls []) := by
                                                intro n11802
                                                induction n11802 with
                                                | zero =>
                                                  intro i11787 hn11802 hlo11803  H locs hT hF hS m11788 m11789 ls hl
                                                  obtain rfl : 1001 = i11787 := by omega
                                                  refine lv_iload hx hb dX12_lifts__415 (lv_at hl 0 rfl) ?_
                                                  refine lv_sipush (v := 1001) hx hb dX12_lifts__417 (by decide) ?_
                                                  refine lv_icmp_ge (tgt := 443) hx hb dX12_lifts__420 (by decide) (fun c11804 => ?_) (fun c11804 => (by exfalso; have q9 : ((1001 : Nat) : Int) < 1001 := ti_nle c11804 (by decide) (nI_toInt (by omega)); omega))
                                                  have t11805 : 1001 ≤ ((1001 : Nat) : Int) := ti_le c11804 (by decide) (nI_toInt (by omega))
                                                  refine lv_iinc (v := nI (i3918 + 1)) (lv' := [(6, .int (nI (i3918 + 1))), (8, .int (nI 1001)), (7, .int z9644), (5, .int z83), (0, .ref o0), (1, .int p0), (2, .int p1), (3, .int p2), (4, .int p3)]) hx hb dX12_lifts__443 hl (k := 2) rfl (nI_add i3918 1) (by decide) rfl (fun ls hl => ?_)
                                                  refine lv_goto (tgt := 166) hx hb dX12_lifts__446 (by decide) ?_
                                                  exact ih9554 (i3918 + 1) (by omega) (by omega) _ _ hT hF hS m11788 ls (lv_sub hl [0, 3, 4, 5, 6, 7, 8] rfl)
                                                | succ n11802 ih11802 =>
                                                  intro i11787 hn11802 hlo11803  H locs hT hF hS m11788 m11789 ls hl
                                                  have hlt11805 : i11787 < 1001 := by omega
                                                  refine lv_iload hx hb dX12_lifts__415 (lv_at hl 0 rfl) ?_
                                                  refine lv_sipush (v := 1001) hx hb dX12_lifts__417 (by decide) ?_
                                                  refine lv_icmp_ge (tgt := 443) hx hb dX12_lifts__420 (by decide) (fun c11806 => (by exfalso; have q9 : 1001 ≤ ((i11787 : Nat) : Int) := ti_le c11806 (by decide) (nI_toInt (by omega)); omega)) (fun c11806 => ?_)
                                                  have t11807 : ((i11787 : Nat) : Int) < 1001 := ti_nle c11806 (by decide) (nI_toInt (by omega))
                                                  refine lv_aload_n hx hb dX12_lifts__423 rfl (lv_at hl 4 rfl) ?_
                                                  refine tw_get hx hb hts bF_X12 hown hK hT hr_o0 shm_0 rfl 65 (by decide) (ht_at hts 11 rfl) (fun _ h9 => h9) dX12_lifts__424 (fun v9 m11808 h9 => ?_)
                                                  obtain ⟨rfl, hg11809⟩ := h9 _ rfl
                                                  refine lv_iload hx hb dX12_lifts__427 (lv_at hl 0 rfl) ?_
                                                  refine lv_aload_n hx hb dX12_lifts__429 rfl (lv_at hl 4 rfl) ?_
                                                  refine tw_get hx hb hts bF_X12 hown hK hT hr_o0 shm_0 rfl 66 (by decide) (ht_at hts 16 rfl) (fun _ h9 => h9) dX12_lifts__430 (fun v9 m11810 h9 => ?_)
                                                  obtain ⟨rfl, hg11811⟩ := h9 _ rfl
                                                  refine lv_iload hx hb dX12_lifts__433 (lv_at hl 0 rfl) ?_
                                                  refine tw_iald (i := (nI i11787)) hx hb hK hT hg11811 shm_67 rfl (vp_in_nI (by omega) (by decide)) dX12_lifts__435 (fun v9 m11812 h9 => ?_)
                                                  obtain ⟨x11813, rfl, gx11813, kx11813⟩ := h9
                                                  refine tw_iast (i := (nI i11787)) (x := x11813) hx hb hK hT hG hS hg11809 shm_66 rfl (vp_in_nI (by omega) (by decide)) (gi_all _) dX12_lifts__436 (fun H locs hT oq m11814 oi hS => ?_)
                                                  have hF := hF.ast hg11809 skm_66 oq (by decide)
                                                  have m11815 := (el_kept (oq _ (gne hg3896 hg11809 (by decide)))).trans m11788
                                                  have m11816 := (el_kept (oq _ (gne hg3896 hg11809 (by decide)))).trans m11789
                                                  refine lv_iinc (v := nI (i11787 + 1)) (lv' := [(8, .int (nI (i11787 + 1))), (7, .int z9644), (6, .int (nI i3918)), (5, .int z83), (0, .ref o0), (1, .int p0), (2, .int p1), (3, .int p2), (4, .int p3)]) hx hb dX12_lifts__437 hl (k := 0) rfl (nI_add i11787 1) (by decide) rfl (fun ls hl => ?_)
                                                  refine lv_goto (tgt := 415) hx hb dX12_lifts__440 (by decide) ?_
                                                  exact ih11802 (i11787 + 1) (by omega) (by omega) _ _ hT hF hS m11815 m11816 ls (lv_sub hl [0, 1, 2, 3, 4, 5, 6, 7, 8] rfl)
                                              exact key11802 (1001 - 0) 0 (by omega) (Nat.le_refl _) _ _ hT hF hS m11476 m11477 ls (lv_sub hl [0, 1, 2, 3, 4, 5, 6, 7, 8] rfl)
                                            · have t11818 : ((i11475 : Nat) : Int) < x11784.toInt := ti_nle c11785 rfl (nI_toInt (by omega))
                                              refine lv_iload hx hb dX12_lifts__275 (lv_at hl 1 rfl) ?_
                                              refine lv_istore (lv' := [(9, .int z9644), (8, .int (nI i11475)), (7, .int z9644), (6, .int (nI i3918)), (5, .int z83), (0, .ref o0), (1, .int p0), (2, .int p1), (3, .int p2), (4, .int p3)]) hx hb dX12_lifts__277 hl (by decide) rfl (fun ls hl => ?_)
                                              refine lv_iconst (v := 0) hx hb dX12_lifts__279 (by decide) ?_
                                              refine lv_istore (lv' := [(10, .int 0), (9, .int z9644), (8, .int (nI i11475)), (7, .int z9644), (6, .int (nI i3918)), (5, .int z83), (0, .ref o0), (1, .int p0), (2, .int p1), (3, .int p2), (4, .int p3)]) hx hb dX12_lifts__280 hl (by decide) rfl (fun ls hl => ?_)
                                              have jn11954 : ∀ (z11949 : Int32), ∀ (z11951 : Int32), ((0 ≤ z11949.toInt ∧ z11949.toInt ≤ 5)) → ∀ (H : Heap) (locs : List Loc), gH (dC, dI) kA (SHm q (wP wZ wN wH wB wC wL wK wU wV) PI im PM PT lS lB lE lN) G H → gF (dC, dI) SKm G ([(0, 0), (66, 0), (67, 0), (68, 0)] : List (Nat × Nat)) s.heap H → va_S A s.heap H locs → el H (q 1) (1428 : Int32).toNatClampNeg = some (.int x3898) → el H (q 1) ix10838.toNatClampNeg = some (.int r10835) → ∀ ls : Array Slot, lv_has ls 13 [(10, .int z11949), (9, .int z11951), (8, .int (nI i11475)), (7, .int z9644), (6, .int (nI i3918)), (5, .int z83), (0, .ref o0), (1, .int p0), (2, .int p1), (3, .int p2), (4, .int p3)] → W p l e (headSpec w_s_lifts_ ({ frames := 2, cells := 0, slots := 0, locals := 66 })).room s m #[.ref o0, .int p0, .int p1, .int p2, .int p3] below meth c H locs 0 0 (MQ below (va_Qi (fun (r : Int32) (u : Unit) => (-2147483648 ≤ r.toInt ∧ r.toInt ≤ 999999999)) (fun (_ : Unit) (t : State) => gH (dC, dI) kA (SHm q (wP wZ wN wH wB wC wL wK wU wV) PI im PM PT lS lB lE lN) G t.heap ∧ gF (dC, dI) SKm G ([(0, 0), (66, 0), (67, 0), (68, 0)] : List (Nat × Nat)) s.heap t.heap) A) #[.ref o0, .int p0, .int p1, .int p2, .int p3] s 0 0 A) (F0 m 322 ls []) := by
                                                intro z11949 z11951 h11950 H locs hT hF hS m11952 m11953 ls hl
                                                refine lv_iload hx hb dX12_lifts__322 (lv_at hl 2 rfl) ?_
                                                have hFc := gA_free hG hA hS
                                                refine va_calli (va_runS (As := [.int (nI i11475)]) (rest := []) ⟨hx, hb, hml, hown, hts⟩ (j_bitCount l dC dI kA adK adV G H q wZ wN wH wB wC wL wK wU wV PI im PM PT lS lB lE lN (nI i11475) hT hgz hgn hgh hgb hgc hgi hgu) (va_cwS 1 hts (goodIn_app (goodIn_r _ [22, 23, 24] rfl (by decide +kernel)) (goodIn_ca (goodIn_r _ [18, 19, 20, 21] rfl (by decide +kernel)) (bs_in _ _))) rfl rfl rfl (by decide +kernel) ⟨(Nat.le_of_ble_eq_true rfl), (Nat.le_of_ble_eq_true rfl)⟩) ⟨fun a U g mk q => by obtain ⟨q0, q1, qK, qE⟩ := q; exact ⟨q0, q1, va_K.moved (u := U) (U := U.calling g mk a) (Vm.Alike.refl U.vm) qK, EVS.blind g mk a qE⟩, fun U hU hW => ⟨rfl, hU, va_K.moved hW.alike hK, hE.call hS hFc hU hW⟩⟩ rfl rfl hl.1 rfl (lv_room (Nat.le_of_ble_eq_true rfl)) dX12_lifts__324 ⟨(Nat.le_of_ble_eq_true rfl), (Nat.le_of_ble_eq_true rfl)⟩) hS (fun q _ h => hFc q h) hFc (fun r11955 u t H locs ht hvm hw11956 hB _ _ hS => ?_)
                                                obtain ⟨hT, hF1⟩ := hB
                                                rw [ht] at hT hF1
                                                have m11957 := (el_kept (hF1.arr hg3896 skm_2 (by decide))).trans m11952
                                                have m11958 := (el_kept (hF1.arr hg3896 skm_2 (by decide))).trans m11953
                                                have hF := hF.more hF1 (by decide)
                                                try dsimp only at hw11956
                                                refine lv_istore (lv' := [(10, .int r11955), (9, .int z11951), (8, .int (nI i11475)), (7, .int z9644), (6, .int (nI i3918)), (5, .int z83), (0, .ref o0), (1, .int p0), (2, .int p1), (3, .int p2), (4, .int p3)]) hx hb dX12_lifts__327 hl (by decide) rfl (fun ls hl => ?_)
                                                refine lv_iconst (v := 0) hx hb dX12_lifts__329 (by decide) ?_
                                                refine lv_istore (lv' := [(11, .int 0), (10, .int r11955), (9, .int z11951), (8, .int (nI i11475)), (7, .int z9644), (6, .int (nI i3918)), (5, .int z83), (0, .ref o0), (1, .int p0), (2, .int p1), (3, .int p2), (4, .int p3)]) hx hb dX12_lifts__330 hl (by decide) rfl (fun ls hl => ?_)
                                                have key11996 : ∀ (n11996 i11959 : Nat), i11959 + n11996 = 1001 → 0 ≤ i11959 → ∀ (H : Heap) (locs : List Loc), gH (dC, dI) kA (SHm q (wP wZ wN wH wB wC wL wK wU wV) PI im PM PT lS lB lE lN) G H → gF (dC, dI) SKm G ([(0, 0), (66, 0), (67, 0), (68, 0)] : List (Nat × Nat)) s.heap H → va_S A s.heap H locs → el H (q 1) (1428 : Int32).toNatClampNeg = some (.int x3898) → el H (q 1) ix10838.toNatClampNeg = some (.int r10835) → ∀ ls : Array Slot, lv_has ls 13 [(11, .int (nI i11959)), (10, .int r11955), (9, .int z11951), (8, .int (nI i11475)), (7, .int z9644), (6, .int (nI i3918)), (5, .int z83), (0, .ref o0), (1, .int p0), (2, .int p1), (3, .int p2), (4, .int p3)] → W p l e (headSpec w_s_lifts_ ({ frames := 2, cells := 0, slots := 0, locals := 66 })).room s m #[.ref o0, .int p0, .int p1, .int p2, .int p3] below meth c H locs 0 0 (MQ below (va_Qi (fun (r : Int32) (u : Unit) => (-2147483648 ≤ r.toInt ∧ r.toInt ≤ 999999999)) (fun (_ : Unit) (t : State) => gH (dC, dI) kA (SHm q (wP wZ wN wH wB wC wL wK wU wV) PI im PM PT lS lB lE lN) G t.heap ∧ gF (dC, dI) SKm G ([(0, 0), (66, 0), (67, 0), (68, 0)] : List (Nat × Nat)) s.heap t.heap) A) #[.ref o0, .int p0, .int p1, .int p2, .int p3] s 0 0 A) (F0 m 332 ls []) := by
                                                  intro n11996
                                                  induction n11996 with
                                                  | zero =>
                                                    intro i11959 hn11996 hlo11997  H locs hT hF hS m11960 m11961 ls hl
                                                    obtain rfl : 1001 = i11959 := by omega
                                                    refine lv_iload hx hb dX12_lifts__332 (lv_at hl 0 rfl) ?_
                                                    refine lv_sipush (v := 1001) hx hb dX12_lifts__334 (by decide) ?_
                                                    refine lv_icmp_ge (tgt := 406) hx hb dX12_lifts__337 (by decide) (fun c11998 => ?_) (fun c11998 => (by exfalso; have q9 : ((1001 : Nat) : Int) < 1001 := ti_nle c11998 (by decide) (nI_toInt (by omega)); omega))
                                                    have t11999 : 1001 ≤ ((1001 : Nat) : Int) := ti_le c11998 (by decide) (nI_toInt (by omega))
                                                    refine lv_iinc (v := nI (i11475 + 1)) (lv' := [(8, .int (nI (i11475 + 1))), (11, .int (nI 1001)), (10, .int r11955), (9, .int z11951), (7, .int z9644), (6, .int (nI i3918)), (5, .int z83), (0, .ref o0), (1, .int p0), (2, .int p1), (3, .int p2), (4, .int p3)]) hx hb dX12_lifts__406 hl (k := 3) rfl (nI_add i11475 1) (by decide) rfl (fun ls hl => ?_)
                                                    refine lv_goto (tgt := 266) hx hb dX12_lifts__409 (by decide) ?_
                                                    exact ih11748 (i11475 + 1) (by omega) (by omega) _ _ hT hF hS m11960 m11961 ls (lv_sub hl [0, 4, 5, 6, 7, 8, 9, 10, 11] rfl)
                                                  | succ n11996 ih11996 =>
                                                    intro i11959 hn11996 hlo11997  H locs hT hF hS m11960 m11961 ls hl
                                                    have hlt11999 : i11959 < 1001 := by omega
                                                    refine lv_iload hx hb dX12_lifts__332 (lv_at hl 0 rfl) ?_
                                                    refine lv_sipush (v := 1001) hx hb dX12_lifts__334 (by decide) ?_
                                                    refine lv_icmp_ge (tgt := 406) hx hb dX12_lifts__337 (by decide) (fun c12000 => (by exfalso; have q9 : 1001 ≤ ((i11959 : Nat) : Int) := ti_le c12000 (by decide) (nI_toInt (by omega)); omega)) (fun c12000 => ?_)
                                                    have t12001 : ((i11959 : Nat) : Int) < 1001 := ti_nle c12000 (by decide) (nI_toInt (by omega))
                                                    refine lv_iconst (v := 0) hx hb dX12_lifts__340 (by decide) ?_
                                                    refine lv_iload hx hb dX12_lifts__341 (lv_at hl 0 rfl) ?_
                                                    refine lv_iload_n hx hb dX12_lifts__343 rfl (lv_at hl 9 rfl) ?_
                                                    refine lv_iadd hx hb dX12_lifts__344 ?_
                                                    refine lv_topi (fun x12002 ex12002 => ?_)
                                                    have t12003 : x12002.toInt = ((i11959 : Nat) : Int) + p1.toInt := ti_add ex12002 (nI_toInt (by omega)) rfl (by omega) (by omega)
                                                    refine lv_iload hx hb dX12_lifts__345 (lv_at hl 2 rfl) ?_
                                                    refine lv_isub hx hb dX12_lifts__347 ?_
                                                    refine lv_topi (fun x12004 ex12004 => ?_)
                                                    refine va_mmax hx hb (hml.trans hl.1.symm) hown (ht_at hts 24 rfl) (ht_at hts 25 rfl) (ht_at hts 14 rfl) (ht_at hts 26 rfl) (Nat.le_of_ble_eq_true rfl) (Nat.le_of_ble_eq_true rfl) (Nat.le_of_ble_eq_true rfl) (Nat.le_of_ble_eq_true rfl) dX12_lifts__348 ?_
                                                    refine lv_topi (fun x12005 ex12005 => ?_)
                                                    have t12006 : 0 ≤ x12005.toInt ∧ x12004.toInt ≤ x12005.toInt ∧ (x12005.toInt = 0 ∨ x12005.toInt = x12004.toInt) := mx_f ex12005 (by decide) rfl
                                                    refine lv_istore (lv' := [(12, .int x12005), (11, .int (nI i11959)), (10, .int r11955), (9, .int z11951), (8, .int (nI i11475)), (7, .int z9644), (6, .int (nI i3918)), (5, .int z83), (0, .ref o0), (1, .int p0), (2, .int p1), (3, .int p2), (4, .int p3)]) hx hb dX12_lifts__351 hl (by decide) rfl (fun ls hl => ?_)
                                                    refine lv_aload_n hx hb dX12_lifts__353 rfl (lv_at hl 8 rfl) ?_
                                                    refine tw_get hx hb hts bF_X12 hown hK hT hr_o0 shm_0 rfl 65 (by decide) (ht_at hts 11 rfl) (fun _ h9 => h9) dX12_lifts__354 (fun v9 m12007 h9 => ?_)
                                                    obtain ⟨rfl, hg12008⟩ := h9 _ rfl
                                                    refine lv_iload hx hb dX12_lifts__357 (lv_at hl 1 rfl) ?_
                                                    refine tw_iald (i := (nI i11959)) hx hb hK hT hg12008 shm_66 rfl (vp_in_nI (by omega) (by decide)) dX12_lifts__359 (fun v9 m12009 h9 => ?_)
                                                    obtain ⟨x12010, rfl, gx12010, kx12010⟩ := h9
                                                    refine lv_ldcw (v := 1000000000) hx hb hown (ht_at hts 10 rfl) dX12_lifts__360 ?_
                                                    refine lv_icmp_ge (tgt := 400) hx hb dX12_lifts__363 (by decide) (fun c12011 => ?_) (fun c12011 => ?_)
                                                    · have t12012 : 1000000000 ≤ x12010.toInt := ti_le c12011 (by decide) rfl
                                                      refine lv_iinc (v := nI (i11959 + 1)) (lv' := [(11, .int (nI (i11959 + 1))), (12, .int x12005), (10, .int r11955), (9, .int z11951), (8, .int (nI i11475)), (7, .int z9644), (6, .int (nI i3918)), (5, .int z83), (0, .ref o0), (1, .int p0), (2, .int p1), (3, .int p2), (4, .int p3)]) hx hb dX12_lifts__400 hl (k := 1) rfl (nI_add i11959 1) (by decide) rfl (fun ls hl => ?_)
                                                      refine lv_goto (tgt := 332) hx hb dX12_lifts__403 (by decide) ?_
                                                      exact ih11996 (i11959 + 1) (by omega) (by omega) _ _ hT hF hS m11960 m11961 ls (lv_sub hl [0, 2, 3, 4, 5, 6, 7, 8, 9, 10, 11, 12] rfl)
                                                    · have t12013 : x12010.toInt < 1000000000 := ti_nle c12011 (by decide) rfl
                                                      refine lv_iload hx hb dX12_lifts__366 (lv_at hl 0 rfl) ?_
                                                      refine lv_iload hx hb dX12_lifts__368 (lv_at hl 12 rfl) ?_
                                                      refine lv_icmp_gt (tgt := 400) hx hb dX12_lifts__370 (by decide) (fun c12014 => ?_) (fun c12014 => ?_)
                                                      · have t12015 : p3.toInt < x12005.toInt := ti_lt c12014 rfl rfl
                                                        refine lv_iinc (v := nI (i11959 + 1)) (lv' := [(11, .int (nI (i11959 + 1))), (12, .int x12005), (10, .int r11955), (9, .int z11951), (8, .int (nI i11475)), (7, .int z9644), (6, .int (nI i3918)), (5, .int z83), (0, .ref o0), (1, .int p0), (2, .int p1), (3, .int p2), (4, .int p3)]) hx hb dX12_lifts__400 hl (k := 1) rfl (nI_add i11959 1) (by decide) rfl (fun ls hl => ?_)
                                                        refine lv_goto (tgt := 332) hx hb dX12_lifts__403 (by decide) ?_
                                                        exact ih11996 (i11959 + 1) (by omega) (by omega) _ _ hT hF hS m11960 m11961 ls (lv_sub hl [0, 2, 3, 4, 5, 6, 7, 8, 9, 10, 11, 12] rfl)
                                                      · have t12016 : x12005.toInt ≤ p3.toInt := ti_nlt c12014 rfl rfl
                                                        refine lv_aload_n hx hb dX12_lifts__373 rfl (lv_at hl 8 rfl) ?_
                                                        refine tw_get hx hb hts bF_X12 hown hK hT hr_o0 shm_0 rfl 66 (by decide) (ht_at hts 16 rfl) (fun _ h9 => h9) dX12_lifts__374 (fun v9 m12017 h9 => ?_)
                                                        obtain ⟨rfl, hg12018⟩ := h9 _ rfl
                                                        refine lv_iload hx hb dX12_lifts__377 (lv_at hl 0 rfl) ?_
                                                        refine lv_aload_n hx hb dX12_lifts__379 rfl (lv_at hl 8 rfl) ?_
                                                        refine tw_get hx hb hts bF_X12 hown hK hT hr_o0 shm_0 rfl 66 (by decide) (ht_at hts 16 rfl) (fun _ h9 => h9) dX12_lifts__380 (fun v9 m12019 h9 => ?_)
                                                        obtain ⟨rfl, hg12020⟩ := h9 _ rfl
                                                        refine lv_iload hx hb dX12_lifts__383 (lv_at hl 0 rfl) ?_
                                                        refine tw_iald (i := x12005) hx hb hK hT hg12018 shm_67 rfl (vin_t (a := x12005.toInt) rfl (by omega) (by omega)) dX12_lifts__385 (fun v9 m12021 h9 => ?_)
                                                        obtain ⟨x12022, rfl, gx12022, kx12022⟩ := h9
                                                        refine lv_aload_n hx hb dX12_lifts__386 rfl (lv_at hl 8 rfl) ?_
                                                        refine tw_get hx hb hts bF_X12 hown hK hT hr_o0 shm_0 rfl 65 (by decide) (ht_at hts 11 rfl) (fun _ h9 => h9) dX12_lifts__387 (fun v9 m12023 h9 => ?_)
                                                        obtain ⟨rfl, hg12024⟩ := h9 _ rfl
                                                        refine lv_iload hx hb dX12_lifts__390 (lv_at hl 1 rfl) ?_
                                                        refine tw_iald (i := (nI i11959)) hx hb hK hT hg12008 shm_66 rfl (vp_in_nI (by omega) (by decide)) dX12_lifts__392 (fun v9 m12025 h9 => ?_)
                                                        obtain ⟨x12026, rfl, gx12026, kx12026⟩ := h9
                                                        obtain rfl : x12010 = x12026 := (el_same m12025 m12009 rfl).symm
                                                        refine lv_iload hx hb dX12_lifts__393 (lv_at hl 2 rfl) ?_
                                                        refine lv_iadd hx hb dX12_lifts__395 ?_
                                                        refine lv_topi (fun x12027 ex12027 => ?_)
                                                        refine va_mmin hx hb (hml.trans hl.1.symm) hown (ht_at hts 12 rfl) (ht_at hts 13 rfl) (ht_at hts 14 rfl) (ht_at hts 15 rfl) (Nat.le_of_ble_eq_true rfl) (Nat.le_of_ble_eq_true rfl) (Nat.le_of_ble_eq_true rfl) (Nat.le_of_ble_eq_true rfl) dX12_lifts__396 ?_
                                                        refine lv_topi (fun x12028 ex12028 => ?_)
                                                        have t12029 : x12028.toInt ≤ x12022.toInt ∧ x12028.toInt ≤ x12027.toInt ∧ (x12028.toInt = x12022.toInt ∨ x12028.toInt = x12027.toInt) := mn_f ex12028 rfl rfl
                                                        refine tw_iast (i := x12005) (x := x12028) hx hb hK hT hG hS hg12018 shm_67 rfl (vin_t (a := x12005.toInt) rfl (by omega) (by omega)) (gi_all _) dX12_lifts__399 (fun H locs hT oq m12030 oi hS => ?_)
                                                        have hF := hF.ast hg12018 skm_67 oq (by decide)
                                                        have m12031 := (el_kept (oq _ (gne hg3896 hg12018 (by decide)))).trans m11960
                                                        have m12032 := (el_kept (oq _ (gne hg3896 hg12018 (by decide)))).trans m11961
                                                        refine lv_iinc (v := nI (i11959 + 1)) (lv' := [(11, .int (nI (i11959 + 1))), (12, .int x12005), (10, .int r11955), (9, .int z11951), (8, .int (nI i11475)), (7, .int z9644), (6, .int (nI i3918)), (5, .int z83), (0, .ref o0), (1, .int p0), (2, .int p1), (3, .int p2), (4, .int p3)]) hx hb dX12_lifts__400 hl (k := 1) rfl (nI_add i11959 1) (by decide) rfl (fun ls hl => ?_)
                                                        refine lv_goto (tgt := 332) hx hb dX12_lifts__403 (by decide) ?_
                                                        exact ih11996 (i11959 + 1) (by omega) (by omega) _ _ hT hF hS m12031 m12032 ls (lv_sub hl [0, 2, 3, 4, 5, 6, 7, 8, 9, 10, 11, 12] rfl)
                                                exact key11996 (1001 - 0) 0 (by omega) (Nat.le_refl _) _ _ hT hF hS m11957 m11958 ls (lv_sub hl [0, 1, 2, 3, 4, 5, 6, 7, 8, 9, 10, 11] rfl)
                                              have key12034 : ∀ (n12034 i11819 : Nat), i11819 + n12034 = 5 → 0 ≤ i11819 → ∀ (z11820 : Int32), ∀ (H : Heap) (locs : List Loc), gH (dC, dI) kA (SHm q (wP wZ wN wH wB wC wL wK wU wV) PI im PM PT lS lB lE lN) G H → gF (dC, dI) SKm G ([(0, 0), (66, 0), (67, 0), (68, 0)] : List (Nat × Nat)) s.heap H → va_S A s.heap H locs → el H (q 1) (1428 : Int32).toNatClampNeg = some (.int x3898) → el H (q 1) ix10838.toNatClampNeg = some (.int r10835) → ∀ ls : Array Slot, lv_has ls 13 [(10, .int (nI i11819)), (9, .int z11820), (8, .int (nI i11475)), (7, .int z9644), (6, .int (nI i3918)), (5, .int z83), (0, .ref o0), (1, .int p0), (2, .int p1), (3, .int p2), (4, .int p3)] → W p l e (headSpec w_s_lifts_ ({ frames := 2, cells := 0, slots := 0, locals := 66 })).room s m #[.ref o0, .int p0, .int p1, .int p2, .int p3] below meth c H locs 0 0 (MQ below (va_Qi (fun (r : Int32) (u : Unit) => (-2147483648 ≤ r.toInt ∧ r.toInt ≤ 999999999)) (fun (_ : Unit) (t : State) => gH (dC, dI) kA (SHm q (wP wZ wN wH wB wC wL wK wU wV) PI im PM PT lS lB lE lN) G t.heap ∧ gF (dC, dI) SKm G ([(0, 0), (66, 0), (67, 0), (68, 0)] : List (Nat × Nat)) s.heap t.heap) A) #[.ref o0, .int p0, .int p1, .int p2, .int p3] s 0 0 A) (F0 m 282 ls []) := by
                                                intro n12034
                                                induction n12034 with
                                                | zero =>
                                                  intro i11819 hn12034 hlo12035 z11820 H locs hT hF hS m11821 m11822 ls hl
                                                  obtain rfl : 5 = i11819 := by omega
                                                  refine lv_iload hx hb dX12_lifts__282 (lv_at hl 0 rfl) ?_
                                                  refine lv_iload hx hb dX12_lifts__284 (lv_at hl 5 rfl) ?_
                                                  refine lv_icmp_ge (tgt := 322) hx hb dX12_lifts__286 (by decide) (fun c12036 => ?_) (fun c12036 => (by exfalso; have q9 : ((5 : Nat) : Int) < z83.toInt := ti_nle c12036 rfl (nI_toInt (by omega)); omega))
                                                  have t12037 : z83.toInt ≤ ((5 : Nat) : Int) := ti_le c12036 rfl (nI_toInt (by omega))
                                                  exact jn11954 (nI 5) z11820 (rg_t (a := ((5 : Nat) : Int)) (nI_toInt (by omega)) (by omega) (by omega)) _ _ hT hF hS m11821 m11822 ls (lv_sub hl [0, 1, 2, 3, 4, 5, 6, 7, 8, 9, 10] rfl)
                                                | succ n12034 ih12034 =>
                                                  intro i11819 hn12034 hlo12035 z11820 H locs hT hF hS m11821 m11822 ls hl
                                                  have hlt12037 : i11819 < 5 := by omega
                                                  refine lv_iload hx hb dX12_lifts__282 (lv_at hl 0 rfl) ?_
                                                  refine lv_iload hx hb dX12_lifts__284 (lv_at hl 5 rfl) ?_
                                                  refine lv_icmp_ge (tgt := 322) hx hb dX12_lifts__286 (by decide) (fun c12038 => ?_) (fun c12038 => ?_)
                                                  · have t12039 : z83.toInt ≤ ((i11819 : Nat) : Int) := ti_le c12038 rfl (nI_toInt (by omega))
                                                    exact jn11954 (nI i11819) z11820 (rg_t (a := ((i11819 : Nat) : Int)) (nI_toInt (by omega)) (by omega) (by omega)) _ _ hT hF hS m11821 m11822 ls (lv_sub hl [0, 1, 2, 3, 4, 5, 6, 7, 8, 9, 10] rfl)
                                                  · have t12040 : ((i11819 : Nat) : Int) < z83.toInt := ti_nle c12038 rfl (nI_toInt (by omega))
                                                    refine lv_iload hx hb dX12_lifts__289 (lv_at hl 1 rfl) ?_
                                                    refine lv_iload hx hb dX12_lifts__291 (lv_at hl 2 rfl) ?_
                                                    refine lv_iload hx hb dX12_lifts__293 (lv_at hl 0 rfl) ?_
                                                    refine lv_ishr hx hb dX12_lifts__295 ?_
                                                    refine lv_topi (fun x12041 ex12041 => ?_)
                                                    refine lv_iconst (v := 1) hx hb dX12_lifts__296 (by decide) ?_
                                                    refine lv_iand hx hb dX12_lifts__297 ?_
                                                    refine lv_topi (fun x12042 ex12042 => ?_)
                                                    refine lv_iconst (v := 1) hx hb dX12_lifts__298 (by decide) ?_
                                                    refine lv_icmp_ne (tgt := 312) hx hb dX12_lifts__299 (by decide) (fun c12043 => ?_) (fun c12043 => ?_)
                                                    · have t12044 : x12042.toInt ≠ 1 := ti_ne c12043 rfl (by decide)
                                                      refine lv_iconst (v := 0) hx hb dX12_lifts__312 (by decide) ?_
                                                      refine lv_iadd hx hb dX12_lifts__313 ?_
                                                      refine lv_topi (fun x12045 ex12045 => ?_)
                                                      have t12046 : -2147483648 ≤ z11820.toInt ∧ z11820.toInt ≤ 2147483647 := ti_all z11820
                                                      have t12047 : x12045.toInt = z11820.toInt + 0 := ti_add ex12045 rfl (by decide) (by omega) (by omega)
                                                      refine lv_istore (lv' := [(9, .int x12045), (10, .int (nI i11819)), (8, .int (nI i11475)), (7, .int z9644), (6, .int (nI i3918)), (5, .int z83), (0, .ref o0), (1, .int p0), (2, .int p1), (3, .int p2), (4, .int p3)]) hx hb dX12_lifts__314 hl (by decide) rfl (fun ls hl => ?_)
                                                      refine lv_iinc (v := nI (i11819 + 1)) (lv' := [(10, .int (nI (i11819 + 1))), (9, .int x12045), (8, .int (nI i11475)), (7, .int z9644), (6, .int (nI i3918)), (5, .int z83), (0, .ref o0), (1, .int p0), (2, .int p1), (3, .int p2), (4, .int p3)]) hx hb dX12_lifts__316 hl (k := 1) rfl (nI_add i11819 1) (by decide) rfl (fun ls hl => ?_)
                                                      refine lv_goto (tgt := 282) hx hb dX12_lifts__319 (by decide) ?_
                                                      exact ih12034 (i11819 + 1) (by omega) (by omega) x12045 _ _ hT hF hS m11821 m11822 ls (lv_sub hl [0, 1, 2, 3, 4, 5, 6, 7, 8, 9, 10] rfl)
                                                    · have t12048 : x12042.toInt = 1 := ti_eq c12043 rfl (by decide)
                                                      refine lv_aload_n hx hb dX12_lifts__302 rfl (lv_at hl 6 rfl) ?_
                                                      refine tw_get hx hb hts bF_X12 hown hK hT hr_o0 shm_0 rfl 67 (by decide) (ht_at hts 46 rfl) (fun _ h9 => h9) dX12_lifts__303 (fun v9 m12049 h9 => ?_)
                                                      obtain ⟨rfl, hg12050⟩ := h9 _ rfl
                                                      refine lv_iload hx hb dX12_lifts__306 (lv_at hl 0 rfl) ?_
                                                      refine tw_iald (i := (nI i11819)) hx hb hK hT hg12050 shm_68 rfl (vp_in_nI (by omega) (by decide)) dX12_lifts__308 (fun v9 m12051 h9 => ?_)
                                                      obtain ⟨x12052, rfl, gx12052, kx12052⟩ := h9
                                                      refine lv_goto (tgt := 313) hx hb dX12_lifts__309 (by decide) ?_
                                                      refine lv_iadd hx hb dX12_lifts__313 ?_
                                                      refine lv_topi (fun x12053 ex12053 => ?_)
                                                      refine lv_istore (lv' := [(9, .int x12053), (10, .int (nI i11819)), (8, .int (nI i11475)), (7, .int z9644), (6, .int (nI i3918)), (5, .int z83), (0, .ref o0), (1, .int p0), (2, .int p1), (3, .int p2), (4, .int p3)]) hx hb dX12_lifts__314 hl (by decide) rfl (fun ls hl => ?_)
                                                      refine lv_iinc (v := nI (i11819 + 1)) (lv' := [(10, .int (nI (i11819 + 1))), (9, .int x12053), (8, .int (nI i11475)), (7, .int z9644), (6, .int (nI i3918)), (5, .int z83), (0, .ref o0), (1, .int p0), (2, .int p1), (3, .int p2), (4, .int p3)]) hx hb dX12_lifts__316 hl (k := 1) rfl (nI_add i11819 1) (by decide) rfl (fun ls hl => ?_)
                                                      refine lv_goto (tgt := 282) hx hb dX12_lifts__319 (by decide) ?_
                                                      exact ih12034 (i11819 + 1) (by omega) (by omega) x12053 _ _ hT hF hS m11821 m11822 ls (lv_sub hl [0, 1, 2, 3, 4, 5, 6, 7, 8, 9, 10] rfl)
                                              exact key12034 (5 - 0) 0 (by omega) (Nat.le_refl _) z9644 _ _ hT hF hS m11476 m11477 ls (lv_sub hl [0, 1, 2, 3, 4, 5, 6, 7, 8, 9, 10] rfl)
                                        exact key11748 (2147483647 - 0) 0 (by omega) (Nat.le_refl _) _ _ hT hF hS m11462 m11463 ls (lv_sub hl [0, 1, 2, 3, 4, 5, 6, 7, 8] rfl)
                                      | succ n11471 ih11471 =>
                                        intro i11461 hn11471 hlo11472  H locs hT hF hS m11462 m11463 ls hl
                                        have hlt12053 : i11461 < 1001 := by omega
                                        refine lv_iload hx hb dX12_lifts__239 (lv_at hl 0 rfl) ?_
                                        refine lv_sipush (v := 1001) hx hb dX12_lifts__241 (by decide) ?_
                                        refine lv_icmp_ge (tgt := 263) hx hb dX12_lifts__244 (by decide) (fun c12054 => (by exfalso; have q9 : 1001 ≤ ((i11461 : Nat) : Int) := ti_le c12054 (by decide) (nI_toInt (by omega)); omega)) (fun c12054 => ?_)
                                        have t12055 : ((i11461 : Nat) : Int) < 1001 := ti_nle c12054 (by decide) (nI_toInt (by omega))
                                        refine lv_aload_n hx hb dX12_lifts__247 rfl (lv_at hl 4 rfl) ?_
                                        refine tw_get hx hb hts bF_X12 hown hK hT hr_o0 shm_0 rfl 66 (by decide) (ht_at hts 16 rfl) (fun _ h9 => h9) dX12_lifts__248 (fun v9 m12056 h9 => ?_)
                                        obtain ⟨rfl, hg12057⟩ := h9 _ rfl
                                        refine lv_iload hx hb dX12_lifts__251 (lv_at hl 0 rfl) ?_
                                        refine lv_ldcw (v := 1000000000) hx hb hown (ht_at hts 10 rfl) dX12_lifts__253 ?_
                                        refine tw_iast (i := (nI i11461)) (x := 1000000000) hx hb hK hT hG hS hg12057 shm_67 rfl (vp_in_nI (by omega) (by decide)) (gi_all _) dX12_lifts__256 (fun H locs hT oq m12058 oi hS => ?_)
                                        have hF := hF.ast hg12057 skm_67 oq (by decide)
                                        have m12059 := (el_kept (oq _ (gne hg3896 hg12057 (by decide)))).trans m11462
                                        have m12060 := (el_kept (oq _ (gne hg3896 hg12057 (by decide)))).trans m11463
                                        refine lv_iinc (v := nI (i11461 + 1)) (lv' := [(8, .int (nI (i11461 + 1))), (7, .int z9644), (6, .int (nI i3918)), (5, .int z83), (0, .ref o0), (1, .int p0), (2, .int p1), (3, .int p2), (4, .int p3)]) hx hb dX12_lifts__257 hl (k := 0) rfl (nI_add i11461 1) (by decide) rfl (fun ls hl => ?_)
                                        refine lv_goto (tgt := 239) hx hb dX12_lifts__260 (by decide) ?_
                                        exact ih11471 (i11461 + 1) (by omega) (by omega) _ _ hT hF hS m12059 m12060 ls (lv_sub hl [0, 1, 2, 3, 4, 5, 6, 7, 8] rfl)
                                    exact key11471 (1001 - 0) 0 (by omega) (Nat.le_refl _) _ _ hT hF hS m10845 m10846 ls (lv_sub hl [0, 1, 2, 3, 4, 5, 6, 7, 8] rfl)
                                  | succ n11453 ih11453 =>
                                    intro i10844 hn11453 hlo11454  H locs hT hF hS m10845 m10846 ls hl
                                    have hlt12060 : i10844 < 30 := by omega
                                    refine lv_iload hx hb dX12_lifts__178 (lv_at hl 0 rfl) ?_
                                    refine lv_aload_n hx hb dX12_lifts__180 rfl (lv_at hl 4 rfl) ?_
                                    refine tw_get hx hb hts bF_X12 hown hK hT hr_o0 shm_0 rfl 1 (by decide) (ht_at hts 9 rfl) (fun _ h9 => h9) dX12_lifts__181 (fun v9 m12061 h9 => ?_)
                                    obtain ⟨rfl, hg12062⟩ := h9 _ rfl
                                    refine lv_sipush (v := 1428) hx hb dX12_lifts__184 (by decide) ?_
                                    refine tw_iald (i := 1428) hx hb hK hT hg3896 shm_2 rfl (by unfold vp_in; decide) dX12_lifts__187 (fun v9 m12063 h9 => ?_)
                                    obtain ⟨x12064, rfl, gx12064, kx12064⟩ := (gp_at h9 (w_wct (by have q9 := tn_of (show (1428 : Int32).toInt = 1428 from (by decide)) (show (0 : Int) ≤ 1428 from by omega); omega)))
                                    obtain rfl : x3898 = x12064 := (el_same m12063 m10845 rfl).symm
                                    refine lv_icmp_ge (tgt := 236) hx hb dX12_lifts__188 (by decide) (fun c12065 => ?_) (fun c12065 => (by exfalso; have q9 : ((i10844 : Nat) : Int) < x3898.toInt := ti_nle c12065 rfl (nI_toInt (by omega)); omega))
                                    have t12066 : x3898.toInt ≤ ((i10844 : Nat) : Int) := ti_le c12065 rfl (nI_toInt (by omega))
                                    refine lv_iconst (v := 0) hx hb dX12_lifts__236 (by decide) ?_
                                    refine lv_istore (lv' := [(8, .int 0), (7, .int z9644), (6, .int (nI i3918)), (5, .int z83), (0, .ref o0), (1, .int p0), (2, .int p1), (3, .int p2), (4, .int p3)]) hx hb dX12_lifts__237 hl (by decide) rfl (fun ls hl => ?_)
                                    have key12077 : ∀ (n12077 i12067 : Nat), i12067 + n12077 = 1001 → 0 ≤ i12067 → ∀ (H : Heap) (locs : List Loc), gH (dC, dI) kA (SHm q (wP wZ wN wH wB wC wL wK wU wV) PI im PM PT lS lB lE lN) G H → gF (dC, dI) SKm G ([(0, 0), (66, 0), (67, 0), (68, 0)] : List (Nat × Nat)) s.heap H → va_S A s.heap H locs → el H (q 1) (1428 : Int32).toNatClampNeg = some (.int x3898) → el H (q 1) ix10838.toNatClampNeg = some (.int r10835) → ∀ ls : Array Slot, lv_has ls 13 [(8, .int (nI i12067)), (7, .int z9644), (6, .int (nI i3918)), (5, .int z83), (0, .ref o0), (1, .int p0), (2, .int p1), (3, .int p2), (4, .int p3)] → W p l e (headSpec w_s_lifts_ ({ frames := 2, cells := 0, slots := 0, locals := 66 })).room s m #[.ref o0, .int p0, .int p1, .int p2, .int p3] below meth c H locs 0 0 (MQ below (va_Qi (fun (r : Int32) (u : Unit) => (-2147483648 ≤ r.toInt ∧ r.toInt ≤ 999999999)) (fun (_ : Unit) (t : State) => gH (dC, dI) kA (SHm q (wP wZ wN wH wB wC wL wK wU wV) PI im PM PT lS lB lE lN) G t.heap ∧ gF (dC, dI) SKm G ([(0, 0), (66, 0), (67, 0), (68, 0)] : List (Nat × Nat)) s.heap t.heap) A) #[.ref o0, .int p0, .int p1, .int p2, .int p3] s 0 0 A) (F0 m 239 ls []) := by
                                      intro n12077
                                      induction n12077 with
                                      | zero =>
                                        intro i12067 hn12077 hlo12078  H locs hT hF hS m12068 m12069 ls hl
                                        obtain rfl : 1001 = i12067 := by omega
                                        refine lv_iload hx hb dX12_lifts__239 (lv_at hl 0 rfl) ?_
                                        refine lv_sipush (v := 1001) hx hb dX12_lifts__241 (by decide) ?_
                                        refine lv_icmp_ge (tgt := 263) hx hb dX12_lifts__244 (by decide) (fun c12079 => ?_) (fun c12079 => (by exfalso; have q9 : ((1001 : Nat) : Int) < 1001 := ti_nle c12079 (by decide) (nI_toInt (by omega)); omega))
                                        have t12080 : 1001 ≤ ((1001 : Nat) : Int) := ti_le c12079 (by decide) (nI_toInt (by omega))
                                        refine lv_iconst (v := 0) hx hb dX12_lifts__263 (by decide) ?_
                                        refine lv_istore (lv' := [(8, .int 0), (7, .int z9644), (6, .int (nI i3918)), (5, .int z83), (0, .ref o0), (1, .int p0), (2, .int p1), (3, .int p2), (4, .int p3)]) hx hb dX12_lifts__264 hl (by decide) rfl (fun ls hl => ?_)
                                        have key12354 : ∀ (n12354 i12081 : Nat), i12081 + n12354 = 2147483647 → 0 ≤ i12081 → ∀ (H : Heap) (locs : List Loc), gH (dC, dI) kA (SHm q (wP wZ wN wH wB wC wL wK wU wV) PI im PM PT lS lB lE lN) G H → gF (dC, dI) SKm G ([(0, 0), (66, 0), (67, 0), (68, 0)] : List (Nat × Nat)) s.heap H → va_S A s.heap H locs → el H (q 1) (1428 : Int32).toNatClampNeg = some (.int x3898) → el H (q 1) ix10838.toNatClampNeg = some (.int r10835) → ∀ ls : Array Slot, lv_has ls 13 [(8, .int (nI i12081)), (7, .int z9644), (6, .int (nI i3918)), (5, .int z83), (0, .ref o0), (1, .int p0), (2, .int p1), (3, .int p2), (4, .int p3)] → W p l e (headSpec w_s_lifts_ ({ frames := 2, cells := 0, slots := 0, locals := 66 })).room s m #[.ref o0, .int p0, .int p1, .int p2, .int p3] below meth c H locs 0 0 (MQ below (va_Qi (fun (r : Int32) (u : Unit) => (-2147483648 ≤ r.toInt ∧ r.toInt ≤ 999999999)) (fun (_ : Unit) (t : State) => gH (dC, dI) kA (SHm q (wP wZ wN wH wB wC wL wK wU wV) PI im PM PT lS lB lE lN) G t.heap ∧ gF (dC, dI) SKm G ([(0, 0), (66, 0), (67, 0), (68, 0)] : List (Nat × Nat)) s.heap t.heap) A) #[.ref o0, .int p0, .int p1, .int p2, .int p3] s 0 0 A) (F0 m 266 ls []) := by
                                          intro n12354
                                          induction n12354 with
                                          | zero =>
                                            intro i12081 hn12354 hlo12355  H locs hT hF hS m12082 m12083 ls hl
                                            obtain rfl : 2147483647 = i12081 := by omega
                                            refine lv_iload hx hb dX12_lifts__266 (lv_at hl 0 rfl) ?_
                                            refine lv_iconst (v := 1) hx hb dX12_lifts__268 (by decide) ?_
                                            refine lv_iload hx hb dX12_lifts__269 (lv_at hl 3 rfl) ?_
                                            refine lv_ishl hx hb dX12_lifts__271 ?_
                                            refine lv_topi (fun x12356 ex12356 => ?_)
                                            refine lv_icmp_ge (tgt := 412) hx hb dX12_lifts__272 (by decide) (fun c12357 => ?_) (fun c12357 => (by exfalso; have q9 : ((2147483647 : Nat) : Int) < x12356.toInt := ti_nle c12357 rfl (nI_toInt (by omega)); have := ti_all x12356; omega))
                                            have t12358 : x12356.toInt ≤ ((2147483647 : Nat) : Int) := ti_le c12357 rfl (nI_toInt (by omega))
                                            refine lv_iconst (v := 0) hx hb dX12_lifts__412 (by decide) ?_
                                            refine lv_istore (lv' := [(8, .int 0), (7, .int z9644), (6, .int (nI i3918)), (5, .int z83), (0, .ref o0), (1, .int p0), (2, .int p1), (3, .int p2), (4, .int p3)]) hx hb dX12_lifts__413 hl (by decide) rfl (fun ls hl => ?_)
                                            have key12374 : ∀ (n12374 i12359 : Nat), i12359 + n12374 = 1001 → 0 ≤ i12359 → ∀ (H : Heap) (locs : List Loc), gH (dC, dI) kA (SHm q (wP wZ wN wH wB wC wL wK wU wV) PI im PM PT lS lB lE lN) G H → gF (dC, dI) SKm G ([(0, 0), (66, 0), (67, 0), (68, 0)] : List (Nat × Nat)) s.heap H → va_S A s.heap H locs → el H (q 1) (1428 : Int32).toNatClampNeg = some (.int x3898) → el H (q 1) ix10838.toNatClampNeg = some (.int r10835) → ∀ ls : Array Slot, lv_has ls 13 [(8, .int (nI i12359)), (7, .int z9644), (6, .int (nI i3918)), (5, .int z83), (0, .ref o0), (1, .int p0), (2, .int p1), (3, .int p2), (4, .int p3)] → W p l e (headSpec w_s_lifts_ ({ frames := 2, cells := 0, slots := 0, locals := 66 })).room s m #[.ref o0, .int p0, .int p1, .int p2, .int p3] below meth c H locs 0 0 (MQ below (va_Qi (fun (r : Int32) (u : Unit) => (-2147483648 ≤ r.toInt ∧ r.toInt ≤ 999999999)) (fun (_ : Unit) (t : State) => gH (dC, dI) kA (SHm q (wP wZ wN wH wB wC wL wK wU wV) PI im PM PT lS lB lE lN) G t.heap ∧ gF (dC, dI) SKm G ([(0, 0), (66, 0), (67, 0), (68, 0)] : List (Nat × Nat)) s.heap t.heap) A) #[.ref o0, .int p0, .int p1, .int p2, .int p3] s 0 0 A) (F0 m 415 ls []) := by
                                              intro n12374
                                              induction n12374 with
                                              | zero =>
                                                intro i12359 hn12374 hlo12375  H locs hT hF hS m12360 m12361 ls hl
                                                obtain rfl : 1001 = i12359 := by omega
                                                refine lv_iload hx hb dX12_lifts__415 (lv_at hl 0 rfl) ?_
                                                refine lv_sipush (v := 1001) hx hb dX12_lifts__417 (by decide) ?_
                                                refine lv_icmp_ge (tgt := 443) hx hb dX12_lifts__420 (by decide) (fun c12376 => ?_) (fun c12376 => (by exfalso; have q9 : ((1001 : Nat) : Int) < 1001 := ti_nle c12376 (by decide) (nI_toInt (by omega)); omega))
                                                have t12377 : 1001 ≤ ((1001 : Nat) : Int) := ti_le c12376 (by decide) (nI_toInt (by omega))
                                                refine lv_iinc (v := nI (i3918 + 1)) (lv' := [(6, .int (nI (i3918 + 1))), (8, .int (nI 1001)), (7, .int z9644), (5, .int z83), (0, .ref o0), (1, .int p0), (2, .int p1), (3, .int p2), (4, .int p3)]) hx hb dX12_lifts__443 hl (k := 2) rfl (nI_add i3918 1) (by decide) rfl (fun ls hl => ?_)
                                                refine lv_goto (tgt := 166) hx hb dX12_lifts__446 (by decide) ?_
                                                exact ih9554 (i3918 + 1) (by omega) (by omega) _ _ hT hF hS m12360 ls (lv_sub hl [0, 3, 4, 5, 6, 7, 8] rfl)
                                              | succ n12374 ih12374 =>
                                                intro i12359 hn12374 hlo12375  H locs hT hF hS m12360 m12361 ls hl
                                                have hlt12377 : i12359 < 1001 := by omega
                                                refine lv_iload hx hb dX12_lifts__415 (lv_at hl 0 rfl) ?_
                                                refine lv_sipush (v := 1001) hx hb dX12_lifts__417 (by decide) ?_
                                                refine lv_icmp_ge (tgt := 443) hx hb dX12_lifts__420 (by decide) (fun c12378 => (by exfalso; have q9 : 1001 ≤ ((i12359 : Nat) : Int) := ti_le c12378 (by decide) (nI_toInt (by omega)); omega)) (fun c12378 => ?_)
                                                have t12379 : ((i12359 : Nat) : Int) < 1001 := ti_nle c12378 (by decide) (nI_toInt (by omega))
                                                refine lv_aload_n hx hb dX12_lifts__423 rfl (lv_at hl 4 rfl) ?_
                                                refine tw_get hx hb hts bF_X12 hown hK hT hr_o0 shm_0 rfl 65 (by decide) (ht_at hts 11 rfl) (fun _ h9 => h9) dX12_lifts__424 (fun v9 m12380 h9 => ?_)
                                                obtain ⟨rfl, hg12381⟩ := h9 _ rfl
                                                refine lv_iload hx hb dX12_lifts__427 (lv_at hl 0 rfl) ?_
                                                refine lv_aload_n hx hb dX12_lifts__429 rfl (lv_at hl 4 rfl) ?_
                                                refine tw_get hx hb hts bF_X12 hown hK hT hr_o0 shm_0 rfl 66 (by decide) (ht_at hts 16 rfl) (fun _ h9 => h9) dX12_lifts__430 (fun v9 m12382 h9 => ?_)
                                                obtain ⟨rfl, hg12383⟩ := h9 _ rfl
                                                refine lv_iload hx hb dX12_lifts__433 (lv_at hl 0 rfl) ?_
                                                refine tw_iald (i := (nI i12359)) hx hb hK hT hg12383 shm_67 rfl (vp_in_nI (by omega) (by decide)) dX12_lifts__435 (fun v9 m12384 h9 => ?_)
                                                obtain ⟨x12385, rfl, gx12385, kx12385⟩ := h9
                                                refine tw_iast (i := (nI i12359)) (x := x12385) hx hb hK hT hG hS hg12381 shm_66 rfl (vp_in_nI (by omega) (by decide)) (gi_all _) dX12_lifts__436 (fun H locs hT oq m12386 oi hS => ?_)
                                                have hF := hF.ast hg12381 skm_66 oq (by decide)
                                                have m12387 := (el_kept (oq _ (gne hg3896 hg12381 (by decide)))).trans m12360
                                                have m12388 := (el_kept (oq _ (gne hg3896 hg12381 (by decide)))).trans m12361
                                                refine lv_iinc (v := nI (i12359 + 1)) (lv' := [(8, .int (nI (i12359 + 1))), (7, .int z9644), (6, .int (nI i3918)), (5, .int z83), (0, .ref o0), (1, .int p0), (2, .int p1), (3, .int p2), (4, .int p3)]) hx hb dX12_lifts__437 hl (k := 0) rfl (nI_add i12359 1) (by decide) rfl (fun ls hl => ?_)
                                                refine lv_goto (tgt := 415) hx hb dX12_lifts__440 (by decide) ?_
                                                exact ih12374 (i12359 + 1) (by omega) (by omega) _ _ hT hF hS m12387 m12388 ls (lv_sub hl [0, 1, 2, 3, 4, 5, 6, 7, 8] rfl)
                                            exact key12374 (1001 - 0) 0 (by omega) (Nat.le_refl _) _ _ hT hF hS m12082 m12083 ls (lv_sub hl [0, 1, 2, 3, 4, 5, 6, 7, 8] rfl)
                                          | succ n12354 ih12354 =>
                                            intro i12081 hn12354 hlo12355  H locs hT hF hS m12082 m12083 ls hl
                                            have hlt12389 : i12081 < 2147483647 := by omega
                                            refine lv_iload hx hb dX12_lifts__266 (lv_at hl 0 rfl) ?_
                                            refine lv_iconst (v := 1) hx hb dX12_lifts__268 (by decide) ?_
                                            refine lv_iload hx hb dX12_lifts__269 (lv_at hl 3 rfl) ?_
                                            refine lv_ishl hx hb dX12_lifts__271 ?_
                                            refine lv_topi (fun x12390 ex12390 => ?_)
                                            refine lv_icmp_ge (tgt := 412) hx hb dX12_lifts__272 (by decide) (fun c12391 => ?_) (fun c12391 => ?_)
                                            · have t12392 : x12390.toInt ≤ ((i12081 : Nat) : Int) := ti_le c12391 rfl (nI_toInt (by omega))
                                              refine lv_iconst (v := 0) hx hb dX12_lifts__412 (by decide) ?_
                                              refine lv_istore (lv' := [(8, .int 0), (7, .int z9644), (6, .int (nI i3918)), (5, .int z83), (0, .ref o0), (1, .int p0), (2, .int p1), (3, .int p2), (4, .int p3)]) hx hb dX12_lifts__413 hl (by decide) rfl (fun ls hl => ?_)
                                              have key12408 : ∀ (n12408 i12393 : Nat), i12393 + n12408 = 1001 → 0 ≤ i12393 → ∀ (H : Heap) (locs : List Loc), gH (dC, dI) kA (SHm q (wP wZ wN wH wB wC wL wK wU wV) PI im PM PT lS lB lE lN) G H → gF (dC, dI) SKm G ([(0, 0), (66, 0), (67, 0), (68, 0)] : List (Nat × Nat)) s.heap H → va_S A s.heap H locs → el H (q 1) (1428 : Int32).toNatClampNeg = some (.int x3898) → el H (q 1) ix10838.toNatClampNeg = some (.int r10835) → ∀ ls : Array Slot, lv_has ls 13 [(8, .int (nI i12393)), (7, .int z9644), (6, .int (nI i3918)), (5, .int z83), (0, .ref o0), (1, .int p0), (2, .int p1), (3, .int p2), (4, .int p3)] → W p l e (headSpec w_s_lifts_ ({ frames := 2, cells := 0, slots := 0, locals := 66 })).room s m #[.ref o0, .int p0, .int p1, .int p2, .int p3] below meth c H locs 0 0 (MQ below (va_Qi (fun (r : Int32) (u : Unit) => (-2147483648 ≤ r.toInt ∧ r.toInt ≤ 999999999)) (fun (_ : Unit) (t : State) => gH (dC, dI) kA (SHm q (wP wZ wN wH wB wC wL wK wU wV) PI im PM PT lS lB lE lN) G t.heap ∧ gF (dC, dI) SKm G ([(0, 0), (66, 0), (67, 0), (68, 0)] : List (Nat × Nat)) s.heap t.heap) A) #[.ref o0, .int p0, .int p1, .int p2, .int p3] s 0 0 A) (F0 m 415 ls []) := by
                                                intro n12408
                                                induction n12408 with
                                                | zero =>
                                                  intro i12393 hn12408 hlo12409  H locs hT hF hS m12394 m12395 ls hl
                                                  obtain rfl : 1001 = i12393 := by omega
                                                  refine lv_iload hx hb dX12_lifts__415 (lv_at hl 0 rfl) ?_
                                                  refine lv_sipush (v := 1001) hx hb dX12_lifts__417 (by decide) ?_
                                                  refine lv_icmp_ge (tgt := 443) hx hb dX12_lifts__420 (by decide) (fun c12410 => ?_) (fun c12410 => (by exfalso; have q9 : ((1001 : Nat) : Int) < 1001 := ti_nle c12410 (by decide) (nI_toInt (by omega)); omega))
                                                  have t12411 : 1001 ≤ ((1001 : Nat) : Int) := ti_le c12410 (by decide) (nI_toInt (by omega))
                                                  refine lv_iinc (v := nI (i3918 + 1)) (lv' := [(6, .int (nI (i3918 + 1))), (8, .int (nI 1001)), (7, .int z9644), (5, .int z83), (0, .ref o0), (1, .int p0), (2, .int p1), (3, .int p2), (4, .int p3)]) hx hb dX12_lifts__443 hl (k := 2) rfl (nI_add i3918 1) (by decide) rfl (fun ls hl => ?_)
                                                  refine lv_goto (tgt := 166) hx hb dX12_lifts__446 (by decide) ?_
                                                  exact ih9554 (i3918 + 1) (by omega) (by omega) _ _ hT hF hS m12394 ls (lv_sub hl [0, 3, 4, 5, 6, 7, 8] rfl)
                                                | succ n12408 ih12408 =>
                                                  intro i12393 hn12408 hlo12409  H locs hT hF hS m12394 m12395 ls hl
                                                  have hlt12411 : i12393 < 1001 := by omega
                                                  refine lv_iload hx hb dX12_lifts__415 (lv_at hl 0 rfl) ?_
                                                  refine lv_sipush (v := 1001) hx hb dX12_lifts__417 (by decide) ?_
                                                  refine lv_icmp_ge (tgt := 443) hx hb dX12_lifts__420 (by decide) (fun c12412 => (by exfalso; have q9 : 1001 ≤ ((i12393 : Nat) : Int) := ti_le c12412 (by decide) (nI_toInt (by omega)); omega)) (fun c12412 => ?_)
                                                  have t12413 : ((i12393 : Nat) : Int) < 1001 := ti_nle c12412 (by decide) (nI_toInt (by omega))
                                                  refine lv_aload_n hx hb dX12_lifts__423 rfl (lv_at hl 4 rfl) ?_
                                                  refine tw_get hx hb hts bF_X12 hown hK hT hr_o0 shm_0 rfl 65 (by decide) (ht_at hts 11 rfl) (fun _ h9 => h9) dX12_lifts__424 (fun v9 m12414 h9 => ?_)
                                                  obtain ⟨rfl, hg12415⟩ := h9 _ rfl
                                                  refine lv_iload hx hb dX12_lifts__427 (lv_at hl 0 rfl) ?_
                                                  refine lv_aload_n hx hb dX12_lifts__429 rfl (lv_at hl 4 rfl) ?_
                                                  refine tw_get hx hb hts bF_X12 hown hK hT hr_o0 shm_0 rfl 66 (by decide) (ht_at hts 16 rfl) (fun _ h9 => h9) dX12_lifts__430 (fun v9 m12416 h9 => ?_)
                                                  obtain ⟨rfl, hg12417⟩ := h9 _ rfl
                                                  refine lv_iload hx hb dX12_lifts__433 (lv_at hl 0 rfl) ?_
                                                  refine tw_iald (i := (nI i12393)) hx hb hK hT hg12417 shm_67 rfl (vp_in_nI (by omega) (by decide)) dX12_lifts__435 (fun v9 m12418 h9 => ?_)
                                                  obtain ⟨x12419, rfl, gx12419, kx12419⟩ := h9
                                                  refine tw_iast (i := (nI i12393)) (x := x12419) hx hb hK hT hG hS hg12415 shm_66 rfl (vp_in_nI (by omega) (by decide)) (gi_all _) dX12_lifts__436 (fun H locs hT oq m12420 oi hS => ?_)
                                                  have hF := hF.ast hg12415 skm_66 oq (by decide)
                                                  have m12421 := (el_kept (oq _ (gne hg3896 hg12415 (by decide)))).trans m12394
                                                  have m12422 := (el_kept (oq _ (gne hg3896 hg12415 (by decide)))).trans m12395
                                                  refine lv_iinc (v := nI (i12393 + 1)) (lv' := [(8, .int (nI (i12393 + 1))), (7, .int z9644), (6, .int (nI i3918)), (5, .int z83), (0, .ref o0), (1, .int p0), (2, .int p1), (3, .int p2), (4, .int p3)]) hx hb dX12_lifts__437 hl (k := 0) rfl (nI_add i12393 1) (by decide) rfl (fun ls hl => ?_)
                                                  refine lv_goto (tgt := 415) hx hb dX12_lifts__440 (by decide) ?_
                                                  exact ih12408 (i12393 + 1) (by omega) (by omega) _ _ hT hF hS m12421 m12422 ls (lv_sub hl [0, 1, 2, 3, 4, 5, 6, 7, 8] rfl)
                                              exact key12408 (1001 - 0) 0 (by omega) (Nat.le_refl _) _ _ hT hF hS m12082 m12083 ls (lv_sub hl [0, 1, 2, 3, 4, 5, 6, 7, 8] rfl)
                                            · have t12424 : ((i12081 : Nat) : Int) < x12390.toInt := ti_nle c12391 rfl (nI_toInt (by omega))
                                              refine lv_iload hx hb dX12_lifts__275 (lv_at hl 1 rfl) ?_
                                              refine lv_istore (lv' := [(9, .int z9644), (8, .int (nI i12081)), (7, .int z9644), (6, .int (nI i3918)), (5, .int z83), (0, .ref o0), (1, .int p0), (2, .int p1), (3, .int p2), (4, .int p3)]) hx hb dX12_lifts__277 hl (by decide) rfl (fun ls hl => ?_)
                                              refine lv_iconst (v := 0) hx hb dX12_lifts__279 (by decide) ?_
                                              refine lv_istore (lv' := [(10, .int 0), (9, .int z9644), (8, .int (nI i12081)), (7, .int z9644), (6, .int (nI i3918)), (5, .int z83), (0, .ref o0), (1, .int p0), (2, .int p1), (3, .int p2), (4, .int p3)]) hx hb dX12_lifts__280 hl (by decide) rfl (fun ls hl => ?_)
                                              have jn12560 : ∀ (z12555 : Int32), ∀ (z12557 : Int32), ((0 ≤ z12555.toInt ∧ z12555.toInt ≤ 5)) → ∀ (H : Heap) (locs : List Loc), gH (dC, dI) kA (SHm q (wP wZ wN wH wB wC wL wK wU wV) PI im PM PT lS lB lE lN) G H → gF (dC, dI) SKm G ([(0, 0), (66, 0), (67, 0), (68, 0)] : List (Nat × Nat)) s.heap H → va_S A s.heap H locs → el H (q 1) (1428 : Int32).toNatClampNeg = some (.int x3898) → el H (q 1) ix10838.toNatClampNeg = some (.int r10835) → ∀ ls : Array Slot, lv_has ls 13 [(10, .int z12555), (9, .int z12557), (8, .int (nI i12081)), (7, .int z9644), (6, .int (nI i3918)), (5, .int z83), (0, .ref o0), (1, .int p0), (2, .int p1), (3, .int p2), (4, .int p3)] → W p l e (headSpec w_s_lifts_ ({ frames := 2, cells := 0, slots := 0, locals := 66 })).room s m #[.ref o0, .int p0, .int p1, .int p2, .int p3] below meth c H locs 0 0 (MQ below (va_Qi (fun (r : Int32) (u : Unit) => (-2147483648 ≤ r.toInt ∧ r.toInt ≤ 999999999)) (fun (_ : Unit) (t : State) => gH (dC, dI) kA (SHm q (wP wZ wN wH wB wC wL wK wU wV) PI im PM PT lS lB lE lN) G t.heap ∧ gF (dC, dI) SKm G ([(0, 0), (66, 0), (67, 0), (68, 0)] : List (Nat × Nat)) s.heap t.heap) A) #[.ref o0, .int p0, .int p1, .int p2, .int p3] s 0 0 A) (F0 m 322 ls []) := by
                                                intro z12555 z12557 h12556 H locs hT hF hS m12558 m12559 ls hl
                                                refine lv_iload hx hb dX12_lifts__322 (lv_at hl 2 rfl) ?_
                                                have hFc := gA_free hG hA hS
                                                refine va_calli (va_runS (As := [.int (nI i12081)]) (rest := []) ⟨hx, hb, hml, hown, hts⟩ (j_bitCount l dC dI kA adK adV G H q wZ wN wH wB wC wL wK wU wV PI im PM PT lS lB lE lN (nI i12081) hT hgz hgn hgh hgb hgc hgi hgu) (va_cwS 1 hts (goodIn_app (goodIn_r _ [22, 23, 24] rfl (by decide +kernel)) (goodIn_ca (goodIn_r _ [18, 19, 20, 21] rfl (by decide +kernel)) (bs_in _ _))) rfl rfl rfl (by decide +kernel) ⟨(Nat.le_of_ble_eq_true rfl), (Nat.le_of_ble_eq_true rfl)⟩) ⟨fun a U g mk q => by obtain ⟨q0, q1, qK, qE⟩ := q; exact ⟨q0, q1, va_K.moved (u := U) (U := U.calling g mk a) (Vm.Alike.refl U.vm) qK, EVS.blind g mk a qE⟩, fun U hU hW => ⟨rfl, hU, va_K.moved hW.alike hK, hE.call hS hFc hU hW⟩⟩ rfl rfl hl.1 rfl (lv_room (Nat.le_of_ble_eq_true rfl)) dX12_lifts__324 ⟨(Nat.le_of_ble_eq_true rfl), (Nat.le_of_ble_eq_true rfl)⟩) hS (fun q _ h => hFc q h) hFc (fun r12561 u t H locs ht hvm hw12562 hB _ _ hS => ?_)
                                                obtain ⟨hT, hF1⟩ := hB
                                                rw [ht] at hT hF1
                                                have m12563 := (el_kept (hF1.arr hg3896 skm_2 (by decide))).trans m12558
                                                have m12564 := (el_kept (hF1.arr hg3896 skm_2 (by decide))).trans m12559
                                                have hF := hF.more hF1 (by decide)
                                                try dsimp only at hw12562
                                                refine lv_istore (lv' := [(10, .int r12561), (9, .int z12557), (8, .int (nI i12081)), (7, .int z9644), (6, .int (nI i3918)), (5, .int z83), (0, .ref o0), (1, .int p0), (2, .int p1), (3, .int p2), (4, .int p3)]) hx hb dX12_lifts__327 hl (by decide) rfl (fun ls hl => ?_)
                                                refine lv_iconst (v := 0) hx hb dX12_lifts__329 (by decide) ?_
                                                refine lv_istore (lv' := [(11, .int 0), (10, .int r12561), (9, .int z12557), (8, .int (nI i12081)), (7, .int z9644), (6, .int (nI i3918)), (5, .int z83), (0, .ref o0), (1, .int p0), (2, .int p1), (3, .int p2), (4, .int p3)]) hx hb dX12_lifts__330 hl (by decide) rfl (fun ls hl => ?_)
                                                have key12602 : ∀ (n12602 i12565 : Nat), i12565 + n12602 = 1001 → 0 ≤ i12565 → ∀ (H : Heap) (locs : List Loc), gH (dC, dI) kA (SHm q (wP wZ wN wH wB wC wL wK wU wV) PI im PM PT lS lB lE lN) G H → gF (dC, dI) SKm G ([(0, 0), (66, 0), (67, 0), (68, 0)] : List (Nat × Nat)) s.heap H → va_S A s.heap H locs → el H (q 1) (1428 : Int32).toNatClampNeg = some (.int x3898) → el H (q 1) ix10838.toNatClampNeg = some (.int r10835) → ∀ ls : Array Slot, lv_has ls 13 [(11, .int (nI i12565)), (10, .int r12561), (9, .int z12557), (8, .int (nI i12081)), (7, .int z9644), (6, .int (nI i3918)), (5, .int z83), (0, .ref o0), (1, .int p0), (2, .int p1), (3, .int p2), (4, .int p3)] → W p l e (headSpec w_s_lifts_ ({ frames := 2, cells := 0, slots := 0, locals := 66 })).room s m #[.ref o0, .int p0, .int p1, .int p2, .int p3] below meth c H locs 0 0 (MQ below (va_Qi (fun (r : Int32) (u : Unit) => (-2147483648 ≤ r.toInt ∧ r.toInt ≤ 999999999)) (fun (_ : Unit) (t : State) => gH (dC, dI) kA (SHm q (wP wZ wN wH wB wC wL wK wU wV) PI im PM PT lS lB lE lN) G t.heap ∧ gF (dC, dI) SKm G ([(0, 0), (66, 0), (67, 0), (68, 0)] : List (Nat × Nat)) s.heap t.heap) A) #[.ref o0, .int p0, .int p1, .int p2, .int p3] s 0 0 A) (F0 m 332 ls []) := by
                                                  intro n12602
                                                  induction n12602 with
                                                  | zero =>
                                                    intro i12565 hn12602 hlo12603  H locs hT hF hS m12566 m12567 ls hl
                                                    obtain rfl : 1001 = i12565 := by omega
                                                    refine lv_iload hx hb dX12_lifts__332 (lv_at hl 0 rfl) ?_
                                                    refine lv_sipush (v := 1001) hx hb dX12_lifts__334 (by decide) ?_
                                                    refine lv_icmp_ge (tgt := 406) hx hb dX12_lifts__337 (by decide) (fun c12604 => ?_) (fun c12604 => (by exfalso; have q9 : ((1001 : Nat) : Int) < 1001 := ti_nle c12604 (by decide) (nI_toInt (by omega)); omega))
                                                    have t12605 : 1001 ≤ ((1001 : Nat) : Int) := ti_le c12604 (by decide) (nI_toInt (by omega))
                                                    refine lv_iinc (v := nI (i12081 + 1)) (lv' := [(8, .int (nI (i12081 + 1))), (11, .int (nI 1001)), (10, .int r12561), (9, .int z12557), (7, .int z9644), (6, .int (nI i3918)), (5, .int z83), (0, .ref o0), (1, .int p0), (2, .int p1), (3, .int p2), (4, .int p3)]) hx hb dX12_lifts__406 hl (k := 3) rfl (nI_add i12081 1) (by decide) rfl (fun ls hl => ?_)
                                                    refine lv_goto (tgt := 266) hx hb dX12_lifts__409 (by decide) ?_
                                                    exact ih12354 (i12081 + 1) (by omega) (by omega) _ _ hT hF hS m12566 m12567 ls (lv_sub hl [0, 4, 5, 6, 7, 8, 9, 10, 11] rfl)
                                                  | succ n12602 ih12602 =>
                                                    intro i12565 hn12602 hlo12603  H locs hT hF hS m12566 m12567 ls hl
                                                    have hlt12605 : i12565 < 1001 := by omega
                                                    refine lv_iload hx hb dX12_lifts__332 (lv_at hl 0 rfl) ?_
                                                    refine lv_sipush (v := 1001) hx hb dX12_lifts__334 (by decide) ?_
                                                    refine lv_icmp_ge (tgt := 406) hx hb dX12_lifts__337 (by decide) (fun c12606 => (by exfalso; have q9 : 1001 ≤ ((i12565 : Nat) : Int) := ti_le c12606 (by decide) (nI_toInt (by omega)); omega)) (fun c12606 => ?_)
                                                    have t12607 : ((i12565 : Nat) : Int) < 1001 := ti_nle c12606 (by decide) (nI_toInt (by omega))
                                                    refine lv_iconst (v := 0) hx hb dX12_lifts__340 (by decide) ?_
                                                    refine lv_iload hx hb dX12_lifts__341 (lv_at hl 0 rfl) ?_
                                                    refine lv_iload_n hx hb dX12_lifts__343 rfl (lv_at hl 9 rfl) ?_
                                                    refine lv_iadd hx hb dX12_lifts__344 ?_
                                                    refine lv_topi (fun x12608 ex12608 => ?_)
                                                    have t12609 : x12608.toInt = ((i12565 : Nat) : Int) + p1.toInt := ti_add ex12608 (nI_toInt (by omega)) rfl (by omega) (by omega)
                                                    refine lv_iload hx hb dX12_lifts__345 (lv_at hl 2 rfl) ?_
                                                    refine lv_isub hx hb dX12_lifts__347 ?_
                                                    refine lv_topi (fun x12610 ex12610 => ?_)
                                                    refine va_mmax hx hb (hml.trans hl.1.symm) hown (ht_at hts 24 rfl) (ht_at hts 25 rfl) (ht_at hts 14 rfl) (ht_at hts 26 rfl) (Nat.le_of_ble_eq_true rfl) (Nat.le_of_ble_eq_true rfl) (Nat.le_of_ble_eq_true rfl) (Nat.le_of_ble_eq_true rfl) dX12_lifts__348 ?_
                                                    refine lv_topi (fun x12611 ex12611 => ?_)
                                                    have t12612 : 0 ≤ x12611.toInt ∧ x12610.toInt ≤ x12611.toInt ∧ (x12611.toInt = 0 ∨ x12611.toInt = x12610.toInt) := mx_f ex12611 (by decide) rfl
                                                    refine lv_istore (lv' := [(12, .int x12611), (11, .int (nI i12565)), (10, .int r12561), (9, .int z12557), (8, .int (nI i12081)), (7, .int z9644), (6, .int (nI i3918)), (5, .int z83), (0, .ref o0), (1, .int p0), (2, .int p1), (3, .int p2), (4, .int p3)]) hx hb dX12_lifts__351 hl (by decide) rfl (fun ls hl => ?_)
                                                    refine lv_aload_n hx hb dX12_lifts__353 rfl (lv_at hl 8 rfl) ?_
                                                    refine tw_get hx hb hts bF_X12 hown hK hT hr_o0 shm_0 rfl 65 (by decide) (ht_at hts 11 rfl) (fun _ h9 => h9) dX12_lifts__354 (fun v9 m12613 h9 => ?_)
                                                    obtain ⟨rfl, hg12614⟩ := h9 _ rfl
                                                    refine lv_iload hx hb dX12_lifts__357 (lv_at hl 1 rfl) ?_
                                                    refine tw_iald (i := (nI i12565)) hx hb hK hT hg12614 shm_66 rfl (vp_in_nI (by omega) (by decide)) dX12_lifts__359 (fun v9 m12615 h9 => ?_)
                                                    obtain ⟨x12616, rfl, gx12616, kx12616⟩ := h9
                                                    refine lv_ldcw (v := 1000000000) hx hb hown (ht_at hts 10 rfl) dX12_lifts__360 ?_
                                                    refine lv_icmp_ge (tgt := 400) hx hb dX12_lifts__363 (by decide) (fun c12617 => ?_) (fun c12617 => ?_)
                                                    · have t12618 : 1000000000 ≤ x12616.toInt := ti_le c12617 (by decide) rfl
                                                      refine lv_iinc (v := nI (i12565 + 1)) (lv' := [(11, .int (nI (i12565 + 1))), (12, .int x12611), (10, .int r12561), (9, .int z12557), (8, .int (nI i12081)), (7, .int z9644), (6, .int (nI i3918)), (5, .int z83), (0, .ref o0), (1, .int p0), (2, .int p1), (3, .int p2), (4, .int p3)]) hx hb dX12_lifts__400 hl (k := 1) rfl (nI_add i12565 1) (by decide) rfl (fun ls hl => ?_)
                                                      refine lv_goto (tgt := 332) hx hb dX12_lifts__403 (by decide) ?_
                                                      exact ih12602 (i12565 + 1) (by omega) (by omega) _ _ hT hF hS m12566 m12567 ls (lv_sub hl [0, 2, 3, 4, 5, 6, 7, 8, 9, 10, 11, 12] rfl)
                                                    · have t12619 : x12616.toInt < 1000000000 := ti_nle c12617 (by decide) rfl
                                                      refine lv_iload hx hb dX12_lifts__366 (lv_at hl 0 rfl) ?_
                                                      refine lv_iload hx hb dX12_lifts__368 (lv_at hl 12 rfl) ?_
                                                      refine lv_icmp_gt (tgt := 400) hx hb dX12_lifts__370 (by decide) (fun c12620 => ?_) (fun c12620 => ?_)
                                                      · have t12621 : p3.toInt < x12611.toInt := ti_lt c12620 rfl rfl
                                                        refine lv_iinc (v := nI (i12565 + 1)) (lv' := [(11, .int (nI (i12565 + 1))), (12, .int x12611), (10, .int r12561), (9, .int z12557), (8, .int (nI i12081)), (7, .int z9644), (6, .int (nI i3918)), (5, .int z83), (0, .ref o0), (1, .int p0), (2, .int p1), (3, .int p2), (4, .int p3)]) hx hb dX12_lifts__400 hl (k := 1) rfl (nI_add i12565 1) (by decide) rfl (fun ls hl => ?_)
                                                        refine lv_goto (tgt := 332) hx hb dX12_lifts__403 (by decide) ?_
                                                        exact ih12602 (i12565 + 1) (by omega) (by omega) _ _ hT hF hS m12566 m12567 ls (lv_sub hl [0, 2, 3, 4, 5, 6, 7, 8, 9, 10, 11, 12] rfl)
                                                      · have t12622 : x12611.toInt ≤ p3.toInt := ti_nlt c12620 rfl rfl
                                                        refine lv_aload_n hx hb dX12_lifts__373 rfl (lv_at hl 8 rfl) ?_
                                                        refine tw_get hx hb hts bF_X12 hown hK hT hr_o0 shm_0 rfl 66 (by decide) (ht_at hts 16 rfl) (fun _ h9 => h9) dX12_lifts__374 (fun v9 m12623 h9 => ?_)
                                                        obtain ⟨rfl, hg12624⟩ := h9 _ rfl
                                                        refine lv_iload hx hb dX12_lifts__377 (lv_at hl 0 rfl) ?_
                                                        refine lv_aload_n hx hb dX12_lifts__379 rfl (lv_at hl 8 rfl) ?_
                                                        refine tw_get hx hb hts bF_X12 hown hK hT hr_o0 shm_0 rfl 66 (by decide) (ht_at hts 16 rfl) (fun _ h9 => h9) dX12_lifts__380 (fun v9 m12625 h9 => ?_)
                                                        obtain ⟨rfl, hg12626⟩ := h9 _ rfl
                                                        refine lv_iload hx hb dX12_lifts__383 (lv_at hl 0 rfl) ?_
                                                        refine tw_iald (i := x12611) hx hb hK hT hg12624 shm_67 rfl (vin_t (a := x12611.toInt) rfl (by omega) (by omega)) dX12_lifts__385 (fun v9 m12627 h9 => ?_)
                                                        obtain ⟨x12628, rfl, gx12628, kx12628⟩ := h9
                                                        refine lv_aload_n hx hb dX12_lifts__386 rfl (lv_at hl 8 rfl) ?_
                                                        refine tw_get hx hb hts bF_X12 hown hK hT hr_o0 shm_0 rfl 65 (by decide) (ht_at hts 11 rfl) (fun _ h9 => h9) dX12_lifts__387 (fun v9 m12629 h9 => ?_)
                                                        obtain ⟨rfl, hg12630⟩ := h9 _ rfl
                                                        refine lv_iload hx hb dX12_lifts__390 (lv_at hl 1 rfl) ?_
                                                        refine tw_iald (i := (nI i12565)) hx hb hK hT hg12614 shm_66 rfl (vp_in_nI (by omega) (by decide)) dX12_lifts__392 (fun v9 m12631 h9 => ?_)
                                                        obtain ⟨x12632, rfl, gx12632, kx12632⟩ := h9
                                                        obtain rfl : x12616 = x12632 := (el_same m12631 m12615 rfl).symm
                                                        refine lv_iload hx hb dX12_lifts__393 (lv_at hl 2 rfl) ?_
                                                        refine lv_iadd hx hb dX12_lifts__395 ?_
                                                        refine lv_topi (fun x12633 ex12633 => ?_)
                                                        refine va_mmin hx hb (hml.trans hl.1.symm) hown (ht_at hts 12 rfl) (ht_at hts 13 rfl) (ht_at hts 14 rfl) (ht_at hts 15 rfl) (Nat.le_of_ble_eq_true rfl) (Nat.le_of_ble_eq_true rfl) (Nat.le_of_ble_eq_true rfl) (Nat.le_of_ble_eq_true rfl) dX12_lifts__396 ?_
                                                        refine lv_topi (fun x12634 ex12634 => ?_)
                                                        have t12635 : x12634.toInt ≤ x12628.toInt ∧ x12634.toInt ≤ x12633.toInt ∧ (x12634.toInt = x12628.toInt ∨ x12634.toInt = x12633.toInt) := mn_f ex12634 rfl rfl
                                                        refine tw_iast (i := x12611) (x := x12634) hx hb hK hT hG hS hg12624 shm_67 rfl (vin_t (a := x12611.toInt) rfl (by omega) (by omega)) (gi_all _) dX12_lifts__399 (fun H locs hT oq m12636 oi hS => ?_)
                                                        have hF := hF.ast hg12624 skm_67 oq (by decide)
                                                        have m12637 := (el_kept (oq _ (gne hg3896 hg12624 (by decide)))).trans m12566
                                                        have m12638 := (el_kept (oq _ (gne hg3896 hg12624 (by decide)))).trans m12567
                                                        refine lv_iinc (v := nI (i12565 + 1)) (lv' := [(11, .int (nI (i12565 + 1))), (12, .int x12611), (10, .int r12561), (9, .int z12557), (8, .int (nI i12081)), (7, .int z9644), (6, .int (nI i3918)), (5, .int z83), (0, .ref o0), (1, .int p0), (2, .int p1), (3, .int p2), (4, .int p3)]) hx hb dX12_lifts__400 hl (k := 1) rfl (nI_add i12565 1) (by decide) rfl (fun ls hl => ?_)
                                                        refine lv_goto (tgt := 332) hx hb dX12_lifts__403 (by decide) ?_
                                                        exact ih12602 (i12565 + 1) (by omega) (by omega) _ _ hT hF hS m12637 m12638 ls (lv_sub hl [0, 2, 3, 4, 5, 6, 7, 8, 9, 10, 11, 12] rfl)
                                                exact key12602 (1001 - 0) 0 (by omega) (Nat.le_refl _) _ _ hT hF hS m12563 m12564 ls (lv_sub hl [0, 1, 2, 3, 4, 5, 6, 7, 8, 9, 10, 11] rfl)
                                              have key12640 : ∀ (n12640 i12425 : Nat), i12425 + n12640 = 5 → 0 ≤ i12425 → ∀ (z12426 : Int32), ∀ (H : Heap) (locs : List Loc), gH (dC, dI) kA (SHm q (wP wZ wN wH wB wC wL wK wU wV) PI im PM PT lS lB lE lN) G H → gF (dC, dI) SKm G ([(0, 0), (66, 0), (67, 0), (68, 0)] : List (Nat × Nat)) s.heap H → va_S A s.heap H locs → el H (q 1) (1428 : Int32).toNatClampNeg = some (.int x3898) → el H (q 1) ix10838.toNatClampNeg = some (.int r10835) → ∀ ls : Array Slot, lv_has ls 13 [(10, .int (nI i12425)), (9, .int z12426), (8, .int (nI i12081)), (7, .int z9644), (6, .int (nI i3918)), (5, .int z83), (0, .ref o0), (1, .int p0), (2, .int p1), (3, .int p2), (4, .int p3)] → W p l e (headSpec w_s_lifts_ ({ frames := 2, cells := 0, slots := 0, locals := 66 })).room s m #[.ref o0, .int p0, .int p1, .int p2, .int p3] below meth c H locs 0 0 (MQ below (va_Qi (fun (r : Int32) (u : Unit) => (-2147483648 ≤ r.toInt ∧ r.toInt ≤ 999999999)) (fun (_ : Unit) (t : State) => gH (dC, dI) kA (SHm q (wP wZ wN wH wB wC wL wK wU wV) PI im PM PT lS lB lE lN) G t.heap ∧ gF (dC, dI) SKm G ([(0, 0), (66, 0), (67, 0), (68, 0)] : List (Nat × Nat)) s.heap t.heap) A) #[.ref o0, .int p0, .int p1, .int p2, .int p3] s 0 0 A) (F0 m 282 ls []) := by
                                                intro n12640
                                                induction n12640 with
                                                | zero =>
                                                  intro i12425 hn12640 hlo12641 z12426 H locs hT hF hS m12427 m12428 ls hl
                                                  obtain rfl : 5 = i12425 := by omega
                                                  refine lv_iload hx hb dX12_lifts__282 (lv_at hl 0 rfl) ?_
                                                  refine lv_iload hx hb dX12_lifts__284 (lv_at hl 5 rfl) ?_
                                                  refine lv_icmp_ge (tgt := 322) hx hb dX12_lifts__286 (by decide) (fun c12642 => ?_) (fun c12642 => (by exfalso; have q9 : ((5 : Nat) : Int) < z83.toInt := ti_nle c12642 rfl (nI_toInt (by omega)); omega))
                                                  have t12643 : z83.toInt ≤ ((5 : Nat) : Int) := ti_le c12642 rfl (nI_toInt (by omega))
                                                  exact jn12560 (nI 5) z12426 (rg_t (a := ((5 : Nat) : Int)) (nI_toInt (by omega)) (by omega) (by omega)) _ _ hT hF hS m12427 m12428 ls (lv_sub hl [0, 1, 2, 3, 4, 5, 6, 7, 8, 9, 10] rfl)
                                                | succ n12640 ih12640 =>
                                                  intro i12425 hn12640 hlo12641 z12426 H locs hT hF hS m12427 m12428 ls hl
                                                  have hlt12643 : i12425 < 5 := by omega
                                                  refine lv_iload hx hb dX12_lifts__282 (lv_at hl 0 rfl) ?_
                                                  refine lv_iload hx hb dX12_lifts__284 (lv_at hl 5 rfl) ?_
                                                  refine lv_icmp_ge (tgt := 322) hx hb dX12_lifts__286 (by decide) (fun c12644 => ?_) (fun c12644 => ?_)
                                                  · have t12645 : z83.toInt ≤ ((i12425 : Nat) : Int) := ti_le c12644 rfl (nI_toInt (by omega))
                                                    exact jn12560 (nI i12425) z12426 (rg_t (a := ((i12425 : Nat) : Int)) (nI_toInt (by omega)) (by omega) (by omega)) _ _ hT hF hS m12427 m12428 ls (lv_sub hl [0, 1, 2, 3, 4, 5, 6, 7, 8, 9, 10] rfl)
                                                  · have t12646 : ((i12425 : Nat) : Int) < z83.toInt := ti_nle c12644 rfl (nI_toInt (by omega))
                                                    refine lv_iload hx hb dX12_lifts__289 (lv_at hl 1 rfl) ?_
                                                    refine lv_iload hx hb dX12_lifts__291 (lv_at hl 2 rfl) ?_
                                                    refine lv_iload hx hb dX12_lifts__293 (lv_at hl 0 rfl) ?_
                                                    refine lv_ishr hx hb dX12_lifts__295 ?_
                                                    refine lv_topi (fun x12647 ex12647 => ?_)
                                                    refine lv_iconst (v := 1) hx hb dX12_lifts__296 (by decide) ?_
                                                    refine lv_iand hx hb dX12_lifts__297 ?_
                                                    refine lv_topi (fun x12648 ex12648 => ?_)
                                                    refine lv_iconst (v := 1) hx hb dX12_lifts__298 (by decide) ?_
                                                    refine lv_icmp_ne (tgt := 312) hx hb dX12_lifts__299 (by decide) (fun c12649 => ?_) (fun c12649 => ?_)
                                                    · have t12650 : x12648.toInt ≠ 1 := ti_ne c12649 rfl (by decide)
                                                      refine lv_iconst (v := 0) hx hb dX12_lifts__312 (by decide) ?_
                                                      refine lv_iadd hx hb dX12_lifts__313 ?_
                                                      refine lv_topi (fun x12651 ex12651 => ?_)
                                                      have t12652 : -2147483648 ≤ z12426.toInt ∧ z12426.toInt ≤ 2147483647 := ti_all z12426
                                                      have t12653 : x12651.toInt = z12426.toInt + 0 := ti_add ex12651 rfl (by decide) (by omega) (by omega)
                                                      refine lv_istore (lv' := [(9, .int x12651), (10, .int (nI i12425)), (8, .int (nI i12081)), (7, .int z9644), (6, .int (nI i3918)), (5, .int z83), (0, .ref o0), (1, .int p0), (2, .int p1), (3, .int p2), (4, .int p3)]) hx hb dX12_lifts__314 hl (by decide) rfl (fun ls hl => ?_)
                                                      refine lv_iinc (v := nI (i12425 + 1)) (lv' := [(10, .int (nI (i12425 + 1))), (9, .int x12651), (8, .int (nI i12081)), (7, .int z9644), (6, .int (nI i3918)), (5, .int z83), (0, .ref o0), (1, .int p0), (2, .int p1), (3, .int p2), (4, .int p3)]) hx hb dX12_lifts__316 hl (k := 1) rfl (nI_add i12425 1) (by decide) rfl (fun ls hl => ?_)
                                                      refine lv_goto (tgt := 282) hx hb dX12_lifts__319 (by decide) ?_
                                                      exact ih12640 (i12425 + 1) (by omega) (by omega) x12651 _ _ hT hF hS m12427 m12428 ls (lv_sub hl [0, 1, 2, 3, 4, 5, 6, 7, 8, 9, 10] rfl)
                                                    · have t12654 : x12648.toInt = 1 := ti_eq c12649 rfl (by decide)
                                                      refine lv_aload_n hx hb dX12_lifts__302 rfl (lv_at hl 6 rfl) ?_
                                                      refine tw_get hx hb hts bF_X12 hown hK hT hr_o0 shm_0 rfl 67 (by decide) (ht_at hts 46 rfl) (fun _ h9 => h9) dX12_lifts__303 (fun v9 m12655 h9 => ?_)
                                                      obtain ⟨rfl, hg12656⟩ := h9 _ rfl
                                                      refine lv_iload hx hb dX12_lifts__306 (lv_at hl 0 rfl) ?_
                                                      refine tw_iald (i := (nI i12425)) hx hb hK hT hg12656 shm_68 rfl (vp_in_nI (by omega) (by decide)) dX12_lifts__308 (fun v9 m12657 h9 => ?_)
                                                      obtain ⟨x12658, rfl, gx12658, kx12658⟩ := h9
                                                      refine lv_goto (tgt := 313) hx hb dX12_lifts__309 (by decide) ?_
                                                      refine lv_iadd hx hb dX12_lifts__313 ?_
                                                      refine lv_topi (fun x12659 ex12659 => ?_)
                                                      refine lv_istore (lv' := [(9, .int x12659), (10, .int (nI i12425)), (8, .int (nI i12081)), (7, .int z9644), (6, .int (nI i3918)), (5, .int z83), (0, .ref o0), (1, .int p0), (2, .int p1), (3, .int p2), (4, .int p3)]) hx hb dX12_lifts__314 hl (by decide) rfl (fun ls hl => ?_)
                                                      refine lv_iinc (v := nI (i12425 + 1)) (lv' := [(10, .int (nI (i12425 + 1))), (9, .int x12659), (8, .int (nI i12081)), (7, .int z9644), (6, .int (nI i3918)), (5, .int z83), (0, .ref o0), (1, .int p0), (2, .int p1), (3, .int p2), (4, .int p3)]) hx hb dX12_lifts__316 hl (k := 1) rfl (nI_add i12425 1) (by decide) rfl (fun ls hl => ?_)
                                                      refine lv_goto (tgt := 282) hx hb dX12_lifts__319 (by decide) ?_
                                                      exact ih12640 (i12425 + 1) (by omega) (by omega) x12659 _ _ hT hF hS m12427 m12428 ls (lv_sub hl [0, 1, 2, 3, 4, 5, 6, 7, 8, 9, 10] rfl)
                                              exact key12640 (5 - 0) 0 (by omega) (Nat.le_refl _) z9644 _ _ hT hF hS m12082 m12083 ls (lv_sub hl [0, 1, 2, 3, 4, 5, 6, 7, 8, 9, 10] rfl)
                                        exact key12354 (2147483647 - 0) 0 (by omega) (Nat.le_refl _) _ _ hT hF hS m12068 m12069 ls (lv_sub hl [0, 1, 2, 3, 4, 5, 6, 7, 8] rfl)
                                      | succ n12077 ih12077 =>
                                        intro i12067 hn12077 hlo12078  H locs hT hF hS m12068 m12069 ls hl
                                        have hlt12659 : i12067 < 1001 := by omega
                                        refine lv_iload hx hb dX12_lifts__239 (lv_at hl 0 rfl) ?_
                                        refine lv_sipush (v := 1001) hx hb dX12_lifts__241 (by decide) ?_
                                        refine lv_icmp_ge (tgt := 263) hx hb dX12_lifts__244 (by decide) (fun c12660 => (by exfalso; have q9 : 1001 ≤ ((i12067 : Nat) : Int) := ti_le c12660 (by decide) (nI_toInt (by omega)); omega)) (fun c12660 => ?_)
                                        have t12661 : ((i12067 : Nat) : Int) < 1001 := ti_nle c12660 (by decide) (nI_toInt (by omega))
                                        refine lv_aload_n hx hb dX12_lifts__247 rfl (lv_at hl 4 rfl) ?_
                                        refine tw_get hx hb hts bF_X12 hown hK hT hr_o0 shm_0 rfl 66 (by decide) (ht_at hts 16 rfl) (fun _ h9 => h9) dX12_lifts__248 (fun v9 m12662 h9 => ?_)
                                        obtain ⟨rfl, hg12663⟩ := h9 _ rfl
                                        refine lv_iload hx hb dX12_lifts__251 (lv_at hl 0 rfl) ?_
                                        refine lv_ldcw (v := 1000000000) hx hb hown (ht_at hts 10 rfl) dX12_lifts__253 ?_
                                        refine tw_iast (i := (nI i12067)) (x := 1000000000) hx hb hK hT hG hS hg12663 shm_67 rfl (vp_in_nI (by omega) (by decide)) (gi_all _) dX12_lifts__256 (fun H locs hT oq m12664 oi hS => ?_)
                                        have hF := hF.ast hg12663 skm_67 oq (by decide)
                                        have m12665 := (el_kept (oq _ (gne hg3896 hg12663 (by decide)))).trans m12068
                                        have m12666 := (el_kept (oq _ (gne hg3896 hg12663 (by decide)))).trans m12069
                                        refine lv_iinc (v := nI (i12067 + 1)) (lv' := [(8, .int (nI (i12067 + 1))), (7, .int z9644), (6, .int (nI i3918)), (5, .int z83), (0, .ref o0), (1, .int p0), (2, .int p1), (3, .int p2), (4, .int p3)]) hx hb dX12_lifts__257 hl (k := 0) rfl (nI_add i12067 1) (by decide) rfl (fun ls hl => ?_)
                                        refine lv_goto (tgt := 239) hx hb dX12_lifts__260 (by decide) ?_
                                        exact ih12077 (i12067 + 1) (by omega) (by omega) _ _ hT hF hS m12665 m12666 ls (lv_sub hl [0, 1, 2, 3, 4, 5, 6, 7, 8] rfl)
                                    exact key12077 (1001 - 0) 0 (by omega) (Nat.le_refl _) _ _ hT hF hS m10845 m10846 ls (lv_sub hl [0, 1, 2, 3, 4, 5, 6, 7, 8] rfl)
                                exact key11453 (30 - (29 + 1)) (29 + 1) (by omega) (Nat.le_refl _) _ _ hT hF hS m10837 m10841 ls (lv_sub hl [0, 1, 2, 3, 4, 5, 6, 7, 8] rfl)
                              · have t12667 : r10835.toInt = 2 := ti_eq c10842 rfl (by decide)
                                refine lv_iload hx hb dX12_lifts__202 (lv_at hl 1 rfl) ?_
                                refine lv_aload_n hx hb dX12_lifts__204 rfl (lv_at hl 4 rfl) ?_
                                refine lv_iload hx hb dX12_lifts__205 (lv_at hl 0 rfl) ?_
                                refine lv_bipush (v := 17) hx hb dX12_lifts__207 (by decide) ?_
                                have hFc := gA_free hG hA hS
                                refine va_calli (va_runV (As := [.int (nI 29), .int 17]) (rest := [.int z9644]) ⟨hx, hb, hml, hown, hts⟩ (s_of17 l dC dI kA adK adV G H q wZ wN wH wB wC wL wK wU wV PI im PM PT lS lB lE lN o0 (nI 29) hT hr_o0 (rg_t (a := ((29 : Nat) : Int)) (nI_toInt (by omega)) (by omega) (by omega)) hgz hgn hgh hgb hgc hgi hgu) (cwV 2 hts (goodIn_app (goodIn_r _ [32, 33, 34, 5] rfl (by decide +kernel)) (goodIn_ca (goodIn_r _ [28, 10, 29, 30, 31, 5] rfl (by decide +kernel)) (bs_in _ _))) rfl rfl rfl (by decide +kernel) ⟨(Nat.le_of_ble_eq_true rfl), (Nat.le_of_ble_eq_true rfl)⟩) ⟨fun a U g mk q => by obtain ⟨q0, q1, qK, qE⟩ := q; exact ⟨q0, q1, va_K.moved (u := U) (U := U.calling g mk a) (Vm.Alike.refl U.vm) qK, EVS.blind g mk a qE⟩, gH_rc hK hT hr_o0 shm_0 rfl, fun U hU hW => ⟨rfl, hU, va_K.moved hW.alike hK, hE.call hS hFc hU hW⟩⟩ rfl rfl hl.1 rfl (lv_room (Nat.le_of_ble_eq_true rfl)) dX12_lifts__209 ⟨(Nat.le_of_ble_eq_true rfl), (Nat.le_of_ble_eq_true rfl)⟩) hS (fun q _ h => hFc q h) hFc (fun r12668 u t H locs ht hvm hw12669 hB _ _ hS => ?_)
                                obtain ⟨hT, hF1⟩ := hB
                                rw [ht] at hT hF1
                                have m12670 := (el_kept (hF1.arr hg3896 skm_2 (by decide))).trans m10837
                                have m12671 := (el_kept (hF1.arr hg3896 skm_2 (by decide))).trans m10841
                                have hF := hF.more hF1 (by decide)
                                try dsimp only at hw12669
                                obtain ⟨h12672, ⟨ix12673, hix12673, m12674⟩⟩ := hw12669
                                have t12675 : (nI 29).toInt = ((29 : Nat) : Int) := nI_toInt (by omega)
                                have m12676 := (el_kept (hF1.arr hg3896 skm_2 (by decide))).trans m12674
                                refine lv_aload_n hx hb dX12_lifts__212 rfl (lv_at hl 4 rfl) ?_
                                refine lv_aload_n hx hb dX12_lifts__213 rfl (lv_at hl 4 rfl) ?_
                                have hFc := gA_free hG hA hS
                                refine va_calli (va_runV (As := []) (rest := [.ref o0, .int r12668, .int z9644]) ⟨hx, hb, hml, hown, hts⟩ (s_hour l dC dI kA adK adV G H q wZ wN wH wB wC wL wK wU wV PI im PM PT lS lB lE lN o0 hT hr_o0 hgz hgn hgh hgb hgc hgi hgu) (cwV 0 hts (goodIn_app (goodIn_r _ [36, 37, 38, 5] rfl (by decide +kernel)) (goodIn_ca (goodIn_r _ [35, 10] rfl (by decide +kernel)) (bs_in _ _))) rfl rfl rfl (by decide +kernel) ⟨(Nat.le_of_ble_eq_true rfl), (Nat.le_of_ble_eq_true rfl)⟩) ⟨fun a U g mk q => by obtain ⟨q0, q1, qK, qE⟩ := q; exact ⟨q0, q1, va_K.moved (u := U) (U := U.calling g mk a) (Vm.Alike.refl U.vm) qK, EVS.blind g mk a qE⟩, gH_rc hK hT hr_o0 shm_0 rfl, fun U hU hW => ⟨rfl, hU, va_K.moved hW.alike hK, hE.call hS hFc hU hW⟩⟩ rfl rfl hl.1 rfl (lv_room (Nat.le_of_ble_eq_true rfl)) dX12_lifts__214 ⟨(Nat.le_of_ble_eq_true rfl), (Nat.le_of_ble_eq_true rfl)⟩) hS (fun q _ h => hFc q h) hFc (fun r12677 u t H locs ht hvm hw12678 hB _ _ hS => ?_)
                                obtain ⟨hT, hF1⟩ := hB
                                rw [ht] at hT hF1
                                have m12679 := (el_kept (hF1.arr hg3896 skm_2 (by decide))).trans m12670
                                have m12680 := (el_kept (hF1.arr hg3896 skm_2 (by decide))).trans m12671
                                have m12681 := (el_kept (hF1.arr hg3896 skm_2 (by decide))).trans m12676
                                have hF := hF.more hF1 (by decide)
                                try dsimp only at hw12678
                                obtain ⟨h12682, hf12683⟩ := hw12678
                                refine lv_iload hx hb dX12_lifts__217 (lv_at hl 2 rfl) ?_
                                refine lv_iadd hx hb dX12_lifts__219 ?_
                                refine lv_topi (fun x12684 ex12684 => ?_)
                                have t12685 : x12684.toInt = r12677.toInt + ((i3918 : Nat) : Int) := ti_add ex12684 rfl (nI_toInt (by omega)) (by omega) (by omega)
                                have hFc := gA_free hG hA hS
                                refine va_calli (va_runV (As := [.int x12684]) (rest := [.int r12668, .int z9644]) ⟨hx, hb, hml, hown, hts⟩ (s_wind l dC dI kA adK adV G H q wZ wN wH wB wC wL wK wU wV PI im PM PT lS lB lE lN o0 x12684 hT hr_o0 hgz hgn hgh hgb hgc hgi hgu) (cwV 1 hts (goodIn_app (goodIn_r _ [44, 45, 46, 5] rfl (by decide +kernel)) (goodIn_ca (goodIn_r _ [39, 40, 10, 41, 42, 43, 5, 25, 26, 15, 27] rfl (by decide +kernel)) (bs_in _ _))) rfl rfl rfl (by decide +kernel) ⟨(Nat.le_of_ble_eq_true rfl), (Nat.le_of_ble_eq_true rfl)⟩) ⟨fun a U g mk q => by obtain ⟨q0, q1, qK, qE⟩ := q; exact ⟨q0, q1, va_K.moved (u := U) (U := U.calling g mk a) (Vm.Alike.refl U.vm) qK, EVS.blind g mk a qE⟩, gH_rc hK hT hr_o0 shm_0 rfl, fun U hU hW => ⟨rfl, hU, va_K.moved hW.alike hK, hE.call hS hFc hU hW⟩⟩ rfl rfl hl.1 rfl (lv_room (Nat.le_of_ble_eq_true rfl)) dX12_lifts__220 ⟨(Nat.le_of_ble_eq_true rfl), (Nat.le_of_ble_eq_true rfl)⟩) hS (fun q _ h => hFc q h) hFc (fun r12686 u t H locs ht hvm hw12687 hB _ _ hS => ?_)
                                obtain ⟨hT, hF1⟩ := hB
                                rw [ht] at hT hF1
                                have m12688 := (el_kept (hF1.arr hg3896 skm_2 (by decide))).trans m12679
                                have m12689 := (el_kept (hF1.arr hg3896 skm_2 (by decide))).trans m12680
                                have m12690 := (el_kept (hF1.arr hg3896 skm_2 (by decide))).trans m12681
                                have hF := hF.more hF1 (by decide)
                                try dsimp only at hw12687
                                have h12691 := hw12687
                                refine lv_imul hx hb dX12_lifts__223 ?_
                                refine lv_topi (fun x12692 ex12692 => ?_)
                                have t12693 : 0 ≤ x12692.toInt ∧ x12692.toInt ≤ 60 * 9 ∧ (r12668.toInt = 0 → x12692.toInt = 0) ∧ (r12686.toInt = 0 → x12692.toInt = 0) ∧ x12692.toInt ≤ r12668.toInt * 9 ∧ x12692.toInt ≤ 60 * r12686.toInt := ti_mulnn ex12692 rfl rfl (by omega) (by omega) (by omega) (by omega) (by decide)
                                refine lv_bipush (v := 10) hx hb dX12_lifts__224 (by decide) ?_
                                refine lv_idiv hx hb dX12_lifts__226 (by decide) ?_
                                refine lv_topi (fun x12694 ex12694 => ?_)
                                have t12695 : x12694.toInt = x12692.toInt / 10 := ti_div ex12694 rfl (by decide) (by omega) (by omega)
                                refine lv_iadd hx hb dX12_lifts__227 ?_
                                refine lv_topi (fun x12696 ex12696 => ?_)
                                refine lv_istore (lv' := [(7, .int x12696), (8, .int (nI 29)), (6, .int (nI i3918)), (5, .int z83), (0, .ref o0), (1, .int p0), (2, .int p1), (3, .int p2), (4, .int p3)]) hx hb dX12_lifts__228 hl (by decide) rfl (fun ls hl => ?_)
                                refine lv_iinc (v := nI (29 + 1)) (lv' := [(8, .int (nI (29 + 1))), (7, .int x12696), (6, .int (nI i3918)), (5, .int z83), (0, .ref o0), (1, .int p0), (2, .int p1), (3, .int p2), (4, .int p3)]) hx hb dX12_lifts__230 hl (k := 1) rfl (nI_add 29 1) (by decide) rfl (fun ls hl => ?_)
                                refine lv_goto (tgt := 178) hx hb dX12_lifts__233 (by decide) ?_
                                have key13340 : ∀ (n13340 i12697 : Nat), i12697 + n13340 = 30 → (29 + 1) ≤ i12697 → ∀ (H : Heap) (locs : List Loc), gH (dC, dI) kA (SHm q (wP wZ wN wH wB wC wL wK wU wV) PI im PM PT lS lB lE lN) G H → gF (dC, dI) SKm G ([(0, 0), (66, 0), (67, 0), (68, 0)] : List (Nat × Nat)) s.heap H → va_S A s.heap H locs → el H (q 1) (1428 : Int32).toNatClampNeg = some (.int x3898) → el H (q 1) ix10838.toNatClampNeg = some (.int r10835) → el H (q 1) ix12673.toNatClampNeg = some (.int r12668) → ∀ ls : Array Slot, lv_has ls 13 [(8, .int (nI i12697)), (7, .int x12696), (6, .int (nI i3918)), (5, .int z83), (0, .ref o0), (1, .int p0), (2, .int p1), (3, .int p2), (4, .int p3)] → W p l e (headSpec w_s_lifts_ ({ frames := 2, cells := 0, slots := 0, locals := 66 })).room s m #[.ref o0, .int p0, .int p1, .int p2, .int p3] below meth c H locs 0 0 (MQ below (va_Qi (fun (r : Int32) (u : Unit) => (-2147483648 ≤ r.toInt ∧ r.toInt ≤ 999999999)) (fun (_ : Unit) (t : State) => gH (dC, dI) kA (SHm q (wP wZ wN wH wB wC wL wK wU wV) PI im PM PT lS lB lE lN) G t.heap ∧ gF (dC, dI) SKm G ([(0, 0), (66, 0), (67, 0), (68, 0)] : List (Nat × Nat)) s.heap t.heap) A) #[.ref o0, .int p0, .int p1, .int p2, .int p3] s 0 0 A) (F0 m 178 ls []) := by
                                  intro n13340
                                  induction n13340 with
                                  | zero =>
                                    intro i12697 hn13340 hlo13341  H locs hT hF hS m12698 m12699 m12700 ls hl
                                    obtain rfl : 30 = i12697 := by omega
                                    refine lv_iload hx hb dX12_lifts__178 (lv_at hl 0 rfl) ?_
                                    refine lv_aload_n hx hb dX12_lifts__180 rfl (lv_at hl 4 rfl) ?_
                                    refine tw_get hx hb hts bF_X12 hown hK hT hr_o0 shm_0 rfl 1 (by decide) (ht_at hts 9 rfl) (fun _ h9 => h9) dX12_lifts__181 (fun v9 m13342 h9 => ?_)
                                    obtain ⟨rfl, hg13343⟩ := h9 _ rfl
                                    refine lv_sipush (v := 1428) hx hb dX12_lifts__184 (by decide) ?_
                                    refine tw_iald (i := 1428) hx hb hK hT hg3896 shm_2 rfl (by unfold vp_in; decide) dX12_lifts__187 (fun v9 m13344 h9 => ?_)
                                    obtain ⟨x13345, rfl, gx13345, kx13345⟩ := (gp_at h9 (w_wct (by have q9 := tn_of (show (1428 : Int32).toInt = 1428 from (by decide)) (show (0 : Int) ≤ 1428 from by omega); omega)))
                                    obtain rfl : x3898 = x13345 := (el_same m13344 m12698 rfl).symm
                                    refine lv_icmp_ge (tgt := 236) hx hb dX12_lifts__188 (by decide) (fun c13346 => ?_) (fun c13346 => (by exfalso; have q9 : ((30 : Nat) : Int) < x3898.toInt := ti_nle c13346 rfl (nI_toInt (by omega)); omega))
                                    have t13347 : x3898.toInt ≤ ((30 : Nat) : Int) := ti_le c13346 rfl (nI_toInt (by omega))
                                    refine lv_iconst (v := 0) hx hb dX12_lifts__236 (by decide) ?_
                                    refine lv_istore (lv' := [(8, .int 0), (7, .int x12696), (6, .int (nI i3918)), (5, .int z83), (0, .ref o0), (1, .int p0), (2, .int p1), (3, .int p2), (4, .int p3)]) hx hb dX12_lifts__237 hl (by decide) rfl (fun ls hl => ?_)
                                    have key13360 : ∀ (n13360 i13348 : Nat), i13348 + n13360 = 1001 → 0 ≤ i13348 → ∀ (H : Heap) (locs : List Loc), gH (dC, dI) kA (SHm q (wP wZ wN wH wB wC wL wK wU wV) PI im PM PT lS lB lE lN) G H → gF (dC, dI) SKm G ([(0, 0), (66, 0), (67, 0), (68, 0)] : List (Nat × Nat)) s.heap H → va_S A s.heap H locs → el H (q 1) (1428 : Int32).toNatClampNeg = some (.int x3898) → el H (q 1) ix10838.toNatClampNeg = some (.int r10835) → el H (q 1) ix12673.toNatClampNeg = some (.int r12668) → ∀ ls : Array Slot, lv_has ls 13 [(8, .int (nI i13348)), (7, .int x12696), (6, .int (nI i3918)), (5, .int z83), (0, .ref o0), (1, .int p0), (2, .int p1), (3, .int p2), (4, .int p3)] → W p l e (headSpec w_s_lifts_ ({ frames := 2, cells := 0, slots := 0, locals := 66 })).room s m #[.ref o0, .int p0, .int p1, .int p2, .int p3] below meth c H locs 0 0 (MQ below (va_Qi (fun (r : Int32) (u : Unit) => (-2147483648 ≤ r.toInt ∧ r.toInt ≤ 999999999)) (fun (_ : Unit) (t : State) => gH (dC, dI) kA (SHm q (wP wZ wN wH wB wC wL wK wU wV) PI im PM PT lS lB lE lN) G t.heap ∧ gF (dC, dI) SKm G ([(0, 0), (66, 0), (67, 0), (68, 0)] : List (Nat × Nat)) s.heap t.heap) A) #[.ref o0, .int p0, .int p1, .int p2, .int p3] s 0 0 A) (F0 m 239 ls []) := by
                                      intro n13360
                                      induction n13360 with
                                      | zero =>
                                        intro i13348 hn13360 hlo13361  H locs hT hF hS m13349 m13350 m13351 ls hl
                                        obtain rfl : 1001 = i13348 := by omega
                                        refine lv_iload hx hb dX12_lifts__239 (lv_at hl 0 rfl) ?_
                                        refine lv_sipush (v := 1001) hx hb dX12_lifts__241 (by decide) ?_
                                        refine lv_icmp_ge (tgt := 263) hx hb dX12_lifts__244 (by decide) (fun c13362 => ?_) (fun c13362 => (by exfalso; have q9 : ((1001 : Nat) : Int) < 1001 := ti_nle c13362 (by decide) (nI_toInt (by omega)); omega))
                                        have t13363 : 1001 ≤ ((1001 : Nat) : Int) := ti_le c13362 (by decide) (nI_toInt (by omega))
                                        refine lv_iconst (v := 0) hx hb dX12_lifts__263 (by decide) ?_
                                        refine lv_istore (lv' := [(8, .int 0), (7, .int x12696), (6, .int (nI i3918)), (5, .int z83), (0, .ref o0), (1, .int p0), (2, .int p1), (3, .int p2), (4, .int p3)]) hx hb dX12_lifts__264 hl (by decide) rfl (fun ls hl => ?_)
                                        have key13651 : ∀ (n13651 i13364 : Nat), i13364 + n13651 = 2147483647 → 0 ≤ i13364 → ∀ (H : Heap) (locs : List Loc), gH (dC, dI) kA (SHm q (wP wZ wN wH wB wC wL wK wU wV) PI im PM PT lS lB lE lN) G H → gF (dC, dI) SKm G ([(0, 0), (66, 0), (67, 0), (68, 0)] : List (Nat × Nat)) s.heap H → va_S A s.heap H locs → el H (q 1) (1428 : Int32).toNatClampNeg = some (.int x3898) → el H (q 1) ix10838.toNatClampNeg = some (.int r10835) → el H (q 1) ix12673.toNatClampNeg = some (.int r12668) → ∀ ls : Array Slot, lv_has ls 13 [(8, .int (nI i13364)), (7, .int x12696), (6, .int (nI i3918)), (5, .int z83), (0, .ref o0), (1, .int p0), (2, .int p1), (3, .int p2), (4, .int p3)] → W p l e (headSpec w_s_lifts_ ({ frames := 2, cells := 0, slots := 0, locals := 66 })).room s m #[.ref o0, .int p0, .int p1, .int p2, .int p3] below meth c H locs 0 0 (MQ below (va_Qi (fun (r : Int32) (u : Unit) => (-2147483648 ≤ r.toInt ∧ r.toInt ≤ 999999999)) (fun (_ : Unit) (t : State) => gH (dC, dI) kA (SHm q (wP wZ wN wH wB wC wL wK wU wV) PI im PM PT lS lB lE lN) G t.heap ∧ gF (dC, dI) SKm G ([(0, 0), (66, 0), (67, 0), (68, 0)] : List (Nat × Nat)) s.heap t.heap) A) #[.ref o0, .int p0, .int p1, .int p2, .int p3] s 0 0 A) (F0 m 266 ls []) := by
                                          intro n13651
                                          induction n13651 with
                                          | zero =>
                                            intro i13364 hn13651 hlo13652  H locs hT hF hS m13365 m13366 m13367 ls hl
                                            obtain rfl : 2147483647 = i13364 := by omega
                                            refine lv_iload hx hb dX12_lifts__266 (lv_at hl 0 rfl) ?_
                                            refine lv_iconst (v := 1) hx hb dX12_lifts__268 (by decide) ?_
                                            refine lv_iload hx hb dX12_lifts__269 (lv_at hl 3 rfl) ?_
                                            refine lv_ishl hx hb dX12_lifts__271 ?_
                                            refine lv_topi (fun x13653 ex13653 => ?_)
                                            refine lv_icmp_ge (tgt := 412) hx hb dX12_lifts__272 (by decide) (fun c13654 => ?_) (fun c13654 => (by exfalso; have q9 : ((2147483647 : Nat) : Int) < x13653.toInt := ti_nle c13654 rfl (nI_toInt (by omega)); have := ti_all x13653; omega))
                                            have t13655 : x13653.toInt ≤ ((2147483647 : Nat) : Int) := ti_le c13654 rfl (nI_toInt (by omega))
                                            refine lv_iconst (v := 0) hx hb dX12_lifts__412 (by decide) ?_
                                            refine lv_istore (lv' := [(8, .int 0), (7, .int x12696), (6, .int (nI i3918)), (5, .int z83), (0, .ref o0), (1, .int p0), (2, .int p1), (3, .int p2), (4, .int p3)]) hx hb dX12_lifts__413 hl (by decide) rfl (fun ls hl => ?_)
                                            have key13673 : ∀ (n13673 i13656 : Nat), i13656 + n13673 = 1001 → 0 ≤ i13656 → ∀ (H : Heap) (locs : List Loc), gH (dC, dI) kA (SHm q (wP wZ wN wH wB wC wL wK wU wV) PI im PM PT lS lB lE lN) G H → gF (dC, dI) SKm G ([(0, 0), (66, 0), (67, 0), (68, 0)] : List (Nat × Nat)) s.heap H → va_S A s.heap H locs → el H (q 1) (1428 : Int32).toNatClampNeg = some (.int x3898) → el H (q 1) ix10838.toNatClampNeg = some (.int r10835) → el H (q 1) ix12673.toNatClampNeg = some (.int r12668) → ∀ ls : Array Slot, lv_has ls 13 [(8, .int (nI i13656)), (7, .int x12696), (6, .int (nI i3918)), (5, .int z83), (0, .ref o0), (1, .int p0), (2, .int p1), (3, .int p2), (4, .int p3)] → W p l e (headSpec w_s_lifts_ ({ frames := 2, cells := 0, slots := 0, locals := 66 })).room s m #[.ref o0, .int p0, .int p1, .int p2, .int p3] below meth c H locs 0 0 (MQ below (va_Qi (fun (r : Int32) (u : Unit) => (-2147483648 ≤ r.toInt ∧ r.toInt ≤ 999999999)) (fun (_ : Unit) (t : State) => gH (dC, dI) kA (SHm q (wP wZ wN wH wB wC wL wK wU wV) PI im PM PT lS lB lE lN) G t.heap ∧ gF (dC, dI) SKm G ([(0, 0), (66, 0), (67, 0), (68, 0)] : List (Nat × Nat)) s.heap t.heap) A) #[.ref o0, .int p0, .int p1, .int p2, .int p3] s 0 0 A) (F0 m 415 ls []) := by
                                              intro n13673
                                              induction n13673 with
                                              | zero =>
                                                intro i13656 hn13673 hlo13674  H locs hT hF hS m13657 m13658 m13659 ls hl
                                                obtain rfl : 1001 = i13656 := by omega
                                                refine lv_iload hx hb dX12_lifts__415 (lv_at hl 0 rfl) ?_
                                                refine lv_sipush (v := 1001) hx hb dX12_lifts__417 (by decide) ?_
                                                refine lv_icmp_ge (tgt := 443) hx hb dX12_lifts__420 (by decide) (fun c13675 => ?_) (fun c13675 => (by exfalso; have q9 : ((1001 : Nat) : Int) < 1001 := ti_nle c13675 (by decide) (nI_toInt (by omega)); omega))
                                                have t13676 : 1001 ≤ ((1001 : Nat) : Int) := ti_le c13675 (by decide) (nI_toInt (by omega))
                                                refine lv_iinc (v := nI (i3918 + 1)) (lv' := [(6, .int (nI (i3918 + 1))), (8, .int (nI 1001)), (7, .int x12696), (5, .int z83), (0, .ref o0), (1, .int p0), (2, .int p1), (3, .int p2), (4, .int p3)]) hx hb dX12_lifts__443 hl (k := 2) rfl (nI_add i3918 1) (by decide) rfl (fun ls hl => ?_)
                                                refine lv_goto (tgt := 166) hx hb dX12_lifts__446 (by decide) ?_
                                                exact ih9554 (i3918 + 1) (by omega) (by omega) _ _ hT hF hS m13657 ls (lv_sub hl [0, 3, 4, 5, 6, 7, 8] rfl)
                                              | succ n13673 ih13673 =>
                                                intro i13656 hn13673 hlo13674  H locs hT hF hS m13657 m13658 m13659 ls hl
                                                have hlt13676 : i13656 < 1001 := by omega
                                                refine lv_iload hx hb dX12_lifts__415 (lv_at hl 0 rfl) ?_
                                                refine lv_sipush (v := 1001) hx hb dX12_lifts__417 (by decide) ?_
                                                refine lv_icmp_ge (tgt := 443) hx hb dX12_lifts__420 (by decide) (fun c13677 => (by exfalso; have q9 : 1001 ≤ ((i13656 : Nat) : Int) := ti_le c13677 (by decide) (nI_toInt (by omega)); omega)) (fun c13677 => ?_)
                                                have t13678 : ((i13656 : Nat) : Int) < 1001 := ti_nle c13677 (by decide) (nI_toInt (by omega))
                                                refine lv_aload_n hx hb dX12_lifts__423 rfl (lv_at hl 4 rfl) ?_
                                                refine tw_get hx hb hts bF_X12 hown hK hT hr_o0 shm_0 rfl 65 (by decide) (ht_at hts 11 rfl) (fun _ h9 => h9) dX12_lifts__424 (fun v9 m13679 h9 => ?_)
                                                obtain ⟨rfl, hg13680⟩ := h9 _ rfl
                                                refine lv_iload hx hb dX12_lifts__427 (lv_at hl 0 rfl) ?_
                                                refine lv_aload_n hx hb dX12_lifts__429 rfl (lv_at hl 4 rfl) ?_
                                                refine tw_get hx hb hts bF_X12 hown hK hT hr_o0 shm_0 rfl 66 (by decide) (ht_at hts 16 rfl) (fun _ h9 => h9) dX12_lifts__430 (fun v9 m13681 h9 => ?_)
                                                obtain ⟨rfl, hg13682⟩ := h9 _ rfl
                                                refine lv_iload hx hb dX12_lifts__433 (lv_at hl 0 rfl) ?_
                                                refine tw_iald (i := (nI i13656)) hx hb hK hT hg13682 shm_67 rfl (vp_in_nI (by omega) (by decide)) dX12_lifts__435 (fun v9 m13683 h9 => ?_)
                                                obtain ⟨x13684, rfl, gx13684, kx13684⟩ := h9
                                                refine tw_iast (i := (nI i13656)) (x := x13684) hx hb hK hT hG hS hg13680 shm_66 rfl (vp_in_nI (by omega) (by decide)) (gi_all _) dX12_lifts__436 (fun H locs hT oq m13685 oi hS => ?_)
                                                have hF := hF.ast hg13680 skm_66 oq (by decide)
                                                have m13686 := (el_kept (oq _ (gne hg3896 hg13680 (by decide)))).trans m13657
                                                have m13687 := (el_kept (oq _ (gne hg3896 hg13680 (by decide)))).trans m13658
                                                have m13688 := (el_kept (oq _ (gne hg3896 hg13680 (by decide)))).trans m13659
                                                refine lv_iinc (v := nI (i13656 + 1)) (lv' := [(8, .int (nI (i13656 + 1))), (7, .int x12696), (6, .int (nI i3918)), (5, .int z83), (0, .ref o0), (1, .int p0), (2, .int p1), (3, .int p2), (4, .int p3)]) hx hb dX12_lifts__437 hl (k := 0) rfl (nI_add i13656 1) (by decide) rfl (fun ls hl => ?_)
                                                refine lv_goto (tgt := 415) hx hb dX12_lifts__440 (by decide) ?_
                                                exact ih13673 (i13656 + 1) (by omega) (by omega) _ _ hT hF hS m13686 m13687 m13688 ls (lv_sub hl [0, 1, 2, 3, 4, 5, 6, 7, 8] rfl)
                                            exact key13673 (1001 - 0) 0 (by omega) (Nat.le_refl _) _ _ hT hF hS m13365 m13366 m13367 ls (lv_sub hl [0, 1, 2, 3, 4, 5, 6, 7, 8] rfl)
                                          | succ n13651 ih13651 =>
                                            intro i13364 hn13651 hlo13652  H locs hT hF hS m13365 m13366 m13367 ls hl
                                            have hlt13689 : i13364 < 2147483647 := by omega
                                            refine lv_iload hx hb dX12_lifts__266 (lv_at hl 0 rfl) ?_
                                            refine lv_iconst (v := 1) hx hb dX12_lifts__268 (by decide) ?_
                                            refine lv_iload hx hb dX12_lifts__269 (lv_at hl 3 rfl) ?_
                                            refine lv_ishl hx hb dX12_lifts__271 ?_
                                            refine lv_topi (fun x13690 ex13690 => ?_)
                                            refine lv_icmp_ge (tgt := 412) hx hb dX12_lifts__272 (by decide) (fun c13691 => ?_) (fun c13691 => ?_)
                                            · have t13692 : x13690.toInt ≤ ((i13364 : Nat) : Int) := ti_le c13691 rfl (nI_toInt (by omega))
                                              refine lv_iconst (v := 0) hx hb dX12_lifts__412 (by decide) ?_
                                              refine lv_istore (lv' := [(8, .int 0), (7, .int x12696), (6, .int (nI i3918)), (5, .int z83), (0, .ref o0), (1, .int p0), (2, .int p1), (3, .int p2), (4, .int p3)]) hx hb dX12_lifts__413 hl (by decide) rfl (fun ls hl => ?_)
                                              have key13710 : ∀ (n13710 i13693 : Nat), i13693 + n13710 = 1001 → 0 ≤ i13693 → ∀ (H : Heap) (locs : List Loc), gH (dC, dI) kA (SHm q (wP wZ wN wH wB wC wL wK wU wV) PI im PM PT lS lB lE lN) G H → gF (dC, dI) SKm G ([(0, 0), (66, 0), (67, 0), (68, 0)] : List (Nat × Nat)) s.heap H → va_S A s.heap H locs → el H (q 1) (1428 : Int32).toNatClampNeg = some (.int x3898) → el H (q 1) ix10838.toNatClampNeg = some (.int r10835) → el H (q 1) ix12673.toNatClampNeg = some (.int r12668) → ∀ ls : Array Slot, lv_has ls 13 [(8, .int (nI i13693)), (7, .int x12696), (6, .int (nI i3918)), (5, .int z83), (0, .ref o0), (1, .int p0), (2, .int p1), (3, .int p2), (4, .int p3)] → W p l e (headSpec w_s_lifts_ ({ frames := 2, cells := 0, slots := 0, locals := 66 })).room s m #[.ref o0, .int p0, .int p1, .int p2, .int p3] below meth c H locs 0 0 (MQ below (va_Qi (fun (r : Int32) (u : Unit) => (-2147483648 ≤ r.toInt ∧ r.toInt ≤ 999999999)) (fun (_ : Unit) (t : State) => gH (dC, dI) kA (SHm q (wP wZ wN wH wB wC wL wK wU wV) PI im PM PT lS lB lE lN) G t.heap ∧ gF (dC, dI) SKm G ([(0, 0), (66, 0), (67, 0), (68, 0)] : List (Nat × Nat)) s.heap t.heap) A) #[.ref o0, .int p0, .int p1, .int p2, .int p3] s 0 0 A) (F0 m 415 ls []) := by
                                                intro n13710
                                                induction n13710 with
                                                | zero =>
                                                  intro i13693 hn13710 hlo13711  H locs hT hF hS m13694 m13695 m13696 ls hl
                                                  obtain rfl : 1001 = i13693 := by omega
                                                  refine lv_iload hx hb dX12_lifts__415 (lv_at hl 0 rfl) ?_
                                                  refine lv_sipush (v := 1001) hx hb dX12_lifts__417 (by decide) ?_
                                                  refine lv_icmp_ge (tgt := 443) hx hb dX12_lifts__420 (by decide) (fun c13712 => ?_) (fun c13712 => (by exfalso; have q9 : ((1001 : Nat) : Int) < 1001 := ti_nle c13712 (by decide) (nI_toInt (by omega)); omega))
                                                  have t13713 : 1001 ≤ ((1001 : Nat) : Int) := ti_le c13712 (by decide) (nI_toInt (by omega))
                                                  refine lv_iinc (v := nI (i3918 + 1)) (lv' := [(6, .int (nI (i3918 + 1))), (8, .int (nI 1001)), (7, .int x12696), (5, .int z83), (0, .ref o0), (1, .int p0), (2, .int p1), (3, .int p2), (4, .int p3)]) hx hb dX12_lifts__443 hl (k := 2) rfl (nI_add i3918 1) (by decide) rfl (fun ls hl => ?_)
                                                  refine lv_goto (tgt := 166) hx hb dX12_lifts__446 (by decide) ?_
                                                  exact ih9554 (i3918 + 1) (by omega) (by omega) _ _ hT hF hS m13694 ls (lv_sub hl [0, 3, 4, 5, 6, 7, 8] rfl)
                                                | succ n13710 ih13710 =>
                                                  intro i13693 hn13710 hlo13711  H locs hT hF hS m13694 m13695 m13696 ls hl
                                                  have hlt13713 : i13693 < 1001 := by omega
                                                  refine lv_iload hx hb dX12_lifts__415 (lv_at hl 0 rfl) ?_
                                                  refine lv_sipush (v := 1001) hx hb dX12_lifts__417 (by decide) ?_
                                                  refine lv_icmp_ge (tgt := 443) hx hb dX12_lifts__420 (by decide) (fun c13714 => (by exfalso; have q9 : 1001 ≤ ((i13693 : Nat) : Int) := ti_le c13714 (by decide) (nI_toInt (by omega)); omega)) (fun c13714 => ?_)
                                                  have t13715 : ((i13693 : Nat) : Int) < 1001 := ti_nle c13714 (by decide) (nI_toInt (by omega))
                                                  refine lv_aload_n hx hb dX12_lifts__423 rfl (lv_at hl 4 rfl) ?_
                                                  refine tw_get hx hb hts bF_X12 hown hK hT hr_o0 shm_0 rfl 65 (by decide) (ht_at hts 11 rfl) (fun _ h9 => h9) dX12_lifts__424 (fun v9 m13716 h9 => ?_)
                                                  obtain ⟨rfl, hg13717⟩ := h9 _ rfl
                                                  refine lv_iload hx hb dX12_lifts__427 (lv_at hl 0 rfl) ?_
                                                  refine lv_aload_n hx hb dX12_lifts__429 rfl (lv_at hl 4 rfl) ?_
                                                  refine tw_get hx hb hts bF_X12 hown hK hT hr_o0 shm_0 rfl 66 (by decide) (ht_at hts 16 rfl) (fun _ h9 => h9) dX12_lifts__430 (fun v9 m13718 h9 => ?_)
                                                  obtain ⟨rfl, hg13719⟩ := h9 _ rfl
                                                  refine lv_iload hx hb dX12_lifts__433 (lv_at hl 0 rfl) ?_
                                                  refine tw_iald (i := (nI i13693)) hx hb hK hT hg13719 shm_67 rfl (vp_in_nI (by omega) (by decide)) dX12_lifts__435 (fun v9 m13720 h9 => ?_)
                                                  obtain ⟨x13721, rfl, gx13721, kx13721⟩ := h9
                                                  refine tw_iast (i := (nI i13693)) (x := x13721) hx hb hK hT hG hS hg13717 shm_66 rfl (vp_in_nI (by omega) (by decide)) (gi_all _) dX12_lifts__436 (fun H locs hT oq m13722 oi hS => ?_)
                                                  have hF := hF.ast hg13717 skm_66 oq (by decide)
                                                  have m13723 := (el_kept (oq _ (gne hg3896 hg13717 (by decide)))).trans m13694
                                                  have m13724 := (el_kept (oq _ (gne hg3896 hg13717 (by decide)))).trans m13695
                                                  have m13725 := (el_kept (oq _ (gne hg3896 hg13717 (by decide)))).trans m13696
                                                  refine lv_iinc (v := nI (i13693 + 1)) (lv' := [(8, .int (nI (i13693 + 1))), (7, .int x12696), (6, .int (nI i3918)), (5, .int z83), (0, .ref o0), (1, .int p0), (2, .int p1), (3, .int p2), (4, .int p3)]) hx hb dX12_lifts__437 hl (k := 0) rfl (nI_add i13693 1) (by decide) rfl (fun ls hl => ?_)
                                                  refine lv_goto (tgt := 415) hx hb dX12_lifts__440 (by decide) ?_
                                                  exact ih13710 (i13693 + 1) (by omega) (by omega) _ _ hT hF hS m13723 m13724 m13725 ls (lv_sub hl [0, 1, 2, 3, 4, 5, 6, 7, 8] rfl)
                                              exact key13710 (1001 - 0) 0 (by omega) (Nat.le_refl _) _ _ hT hF hS m13365 m13366 m13367 ls (lv_sub hl [0, 1, 2, 3, 4, 5, 6, 7, 8] rfl)
                                            · have t13727 : ((i13364 : Nat) : Int) < x13690.toInt := ti_nle c13691 rfl (nI_toInt (by omega))
                                              refine lv_iload hx hb dX12_lifts__275 (lv_at hl 1 rfl) ?_
                                              refine lv_istore (lv' := [(9, .int x12696), (8, .int (nI i13364)), (7, .int x12696), (6, .int (nI i3918)), (5, .int z83), (0, .ref o0), (1, .int p0), (2, .int p1), (3, .int p2), (4, .int p3)]) hx hb dX12_lifts__277 hl (by decide) rfl (fun ls hl => ?_)
                                              refine lv_iconst (v := 0) hx hb dX12_lifts__279 (by decide) ?_
                                              refine lv_istore (lv' := [(10, .int 0), (9, .int x12696), (8, .int (nI i13364)), (7, .int x12696), (6, .int (nI i3918)), (5, .int z83), (0, .ref o0), (1, .int p0), (2, .int p1), (3, .int p2), (4, .int p3)]) hx hb dX12_lifts__280 hl (by decide) rfl (fun ls hl => ?_)
                                              have jn13869 : ∀ (z13863 : Int32), ∀ (z13865 : Int32), ((0 ≤ z13863.toInt ∧ z13863.toInt ≤ 5)) → ∀ (H : Heap) (locs : List Loc), gH (dC, dI) kA (SHm q (wP wZ wN wH wB wC wL wK wU wV) PI im PM PT lS lB lE lN) G H → gF (dC, dI) SKm G ([(0, 0), (66, 0), (67, 0), (68, 0)] : List (Nat × Nat)) s.heap H → va_S A s.heap H locs → el H (q 1) (1428 : Int32).toNatClampNeg = some (.int x3898) → el H (q 1) ix10838.toNatClampNeg = some (.int r10835) → el H (q 1) ix12673.toNatClampNeg = some (.int r12668) → ∀ ls : Array Slot, lv_has ls 13 [(10, .int z13863), (9, .int z13865), (8, .int (nI i13364)), (7, .int x12696), (6, .int (nI i3918)), (5, .int z83), (0, .ref o0), (1, .int p0), (2, .int p1), (3, .int p2), (4, .int p3)] → W p l e (headSpec w_s_lifts_ ({ frames := 2, cells := 0, slots := 0, locals := 66 })).room s m #[.ref o0, .int p0, .int p1, .int p2, .int p3] below meth c H locs 0 0 (MQ below (va_Qi (fun (r : Int32) (u : Unit) => (-2147483648 ≤ r.toInt ∧ r.toInt ≤ 999999999)) (fun (_ : Unit) (t : State) => gH (dC, dI) kA (SHm q (wP wZ wN wH wB wC wL wK wU wV) PI im PM PT lS lB lE lN) G t.heap ∧ gF (dC, dI) SKm G ([(0, 0), (66, 0), (67, 0), (68, 0)] : List (Nat × Nat)) s.heap t.heap) A) #[.ref o0, .int p0, .int p1, .int p2, .int p3] s 0 0 A) (F0 m 322 ls []) := by
                                                intro z13863 z13865 h13864 H locs hT hF hS m13866 m13867 m13868 ls hl
                                                refine lv_iload hx hb dX12_lifts__322 (lv_at hl 2 rfl) ?_
                                                have hFc := gA_free hG hA hS
                                                refine va_calli (va_runS (As := [.int (nI i13364)]) (rest := []) ⟨hx, hb, hml, hown, hts⟩ (j_bitCount l dC dI kA adK adV G H q wZ wN wH wB wC wL wK wU wV PI im PM PT lS lB lE lN (nI i13364) hT hgz hgn hgh hgb hgc hgi hgu) (va_cwS 1 hts (goodIn_app (goodIn_r _ [22, 23, 24] rfl (by decide +kernel)) (goodIn_ca (goodIn_r _ [18, 19, 20, 21] rfl (by decide +kernel)) (bs_in _ _))) rfl rfl rfl (by decide +kernel) ⟨(Nat.le_of_ble_eq_true rfl), (Nat.le_of_ble_eq_true rfl)⟩) ⟨fun a U g mk q => by obtain ⟨q0, q1, qK, qE⟩ := q; exact ⟨q0, q1, va_K.moved (u := U) (U := U.calling g mk a) (Vm.Alike.refl U.vm) qK, EVS.blind g mk a qE⟩, fun U hU hW => ⟨rfl, hU, va_K.moved hW.alike hK, hE.call hS hFc hU hW⟩⟩ rfl rfl hl.1 rfl (lv_room (Nat.le_of_ble_eq_true rfl)) dX12_lifts__324 ⟨(Nat.le_of_ble_eq_true rfl), (Nat.le_of_ble_eq_true rfl)⟩) hS (fun q _ h => hFc q h) hFc (fun r13870 u t H locs ht hvm hw13871 hB _ _ hS => ?_)
                                                obtain ⟨hT, hF1⟩ := hB
                                                rw [ht] at hT hF1
                                                have m13872 := (el_kept (hF1.arr hg3896 skm_2 (by decide))).trans m13866
                                                have m13873 := (el_kept (hF1.arr hg3896 skm_2 (by decide))).trans m13867
                                                have m13874 := (el_kept (hF1.arr hg3896 skm_2 (by decide))).trans m13868
                                                have hF := hF.more hF1 (by decide)
                                                try dsimp only at hw13871
                                                refine lv_istore (lv' := [(10, .int r13870), (9, .int z13865), (8, .int (nI i13364)), (7, .int x12696), (6, .int (nI i3918)), (5, .int z83), (0, .ref o0), (1, .int p0), (2, .int p1), (3, .int p2), (4, .int p3)]) hx hb dX12_lifts__327 hl (by decide) rfl (fun ls hl => ?_)
                                                refine lv_iconst (v := 0) hx hb dX12_lifts__329 (by decide) ?_
                                                refine lv_istore (lv' := [(11, .int 0), (10, .int r13870), (9, .int z13865), (8, .int (nI i13364)), (7, .int x12696), (6, .int (nI i3918)), (5, .int z83), (0, .ref o0), (1, .int p0), (2, .int p1), (3, .int p2), (4, .int p3)]) hx hb dX12_lifts__330 hl (by decide) rfl (fun ls hl => ?_)
                                                have key13914 : ∀ (n13914 i13875 : Nat), i13875 + n13914 = 1001 → 0 ≤ i13875 → ∀ (H : Heap) (locs : List Loc), gH (dC, dI) kA (SHm q (wP wZ wN wH wB wC wL wK wU wV) PI im PM PT lS lB lE lN) G H → gF (dC, dI) SKm G ([(0, 0), (66, 0), (67, 0), (68, 0)] : List (Nat × Nat)) s.heap H → va_S A s.heap H locs → el H (q 1) (1428 : Int32).toNatClampNeg = some (.int x3898) → el H (q 1) ix10838.toNatClampNeg = some (.int r10835) → el H (q 1) ix12673.toNatClampNeg = some (.int r12668) → ∀ ls : Array Slot, lv_has ls 13 [(11, .int (nI i13875)), (10, .int r13870), (9, .int z13865), (8, .int (nI i13364)), (7, .int x12696), (6, .int (nI i3918)), (5, .int z83), (0, .ref o0), (1, .int p0), (2, .int p1), (3, .int p2), (4, .int p3)] → W p l e (headSpec w_s_lifts_ ({ frames := 2, cells := 0, slots := 0, locals := 66 })).room s m #[.ref o0, .int p0, .int p1, .int p2, .int p3] below meth c H locs 0 0 (MQ below (va_Qi (fun (r : Int32) (u : Unit) => (-2147483648 ≤ r.toInt ∧ r.toInt ≤ 999999999)) (fun (_ : Unit) (t : State) => gH (dC, dI) kA (SHm q (wP wZ wN wH wB wC wL wK wU wV) PI im PM PT lS lB lE lN) G t.heap ∧ gF (dC, dI) SKm G ([(0, 0), (66, 0), (67, 0), (68, 0)] : List (Nat × Nat)) s.heap t.heap) A) #[.ref o0, .int p0, .int p1, .int p2, .int p3] s 0 0 A) (F0 m 332 ls []) := by
                                                  intro n13914
                                                  induction n13914 with
                                                  | zero =>
                                                    intro i13875 hn13914 hlo13915  H locs hT hF hS m13876 m13877 m13878 ls hl
                                                    obtain rfl : 1001 = i13875 := by omega
                                                    refine lv_iload hx hb dX12_lifts__332 (lv_at hl 0 rfl) ?_
                                                    refine lv_sipush (v := 1001) hx hb dX12_lifts__334 (by decide) ?_
                                                    refine lv_icmp_ge (tgt := 406) hx hb dX12_lifts__337 (by decide) (fun c13916 => ?_) (fun c13916 => (by exfalso; have q9 : ((1001 : Nat) : Int) < 1001 := ti_nle c13916 (by decide) (nI_toInt (by omega)); omega))
                                                    have t13917 : 1001 ≤ ((1001 : Nat) : Int) := ti_le c13916 (by decide) (nI_toInt (by omega))
                                                    refine lv_iinc (v := nI (i13364 + 1)) (lv' := [(8, .int (nI (i13364 + 1))), (11, .int (nI 1001)), (10, .int r13870), (9, .int z13865), (7, .int x12696), (6, .int (nI i3918)), (5, .int z83), (0, .ref o0), (1, .int p0), (2, .int p1), (3, .int p2), (4, .int p3)]) hx hb dX12_lifts__406 hl (k := 3) rfl (nI_add i13364 1) (by decide) rfl (fun ls hl => ?_)
                                                    refine lv_goto (tgt := 266) hx hb dX12_lifts__409 (by decide) ?_
                                                    exact ih13651 (i13364 + 1) (by omega) (by omega) _ _ hT hF hS m13876 m13877 m13878 ls (lv_sub hl [0, 4, 5, 6, 7, 8, 9, 10, 11] rfl)
                                                  | succ n13914 ih13914 =>
                                                    intro i13875 hn13914 hlo13915  H locs hT hF hS m13876 m13877 m13878 ls hl
                                                    have hlt13917 : i13875 < 1001 := by omega
                                                    refine lv_iload hx hb dX12_lifts__332 (lv_at hl 0 rfl) ?_
                                                    refine lv_sipush (v := 1001) hx hb dX12_lifts__334 (by decide) ?_
                                                    refine lv_icmp_ge (tgt := 406) hx hb dX12_lifts__337 (by decide) (fun c13918 => (by exfalso; have q9 : 1001 ≤ ((i13875 : Nat) : Int) := ti_le c13918 (by decide) (nI_toInt (by omega)); omega)) (fun c13918 => ?_)
                                                    have t13919 : ((i13875 : Nat) : Int) < 1001 := ti_nle c13918 (by decide) (nI_toInt (by omega))
                                                    refine lv_iconst (v := 0) hx hb dX12_lifts__340 (by decide) ?_
                                                    refine lv_iload hx hb dX12_lifts__341 (lv_at hl 0 rfl) ?_
                                                    refine lv_iload_n hx hb dX12_lifts__343 rfl (lv_at hl 9 rfl) ?_
                                                    refine lv_iadd hx hb dX12_lifts__344 ?_
                                                    refine lv_topi (fun x13920 ex13920 => ?_)
                                                    have t13921 : x13920.toInt = ((i13875 : Nat) : Int) + p1.toInt := ti_add ex13920 (nI_toInt (by omega)) rfl (by omega) (by omega)
                                                    refine lv_iload hx hb dX12_lifts__345 (lv_at hl 2 rfl) ?_
                                                    refine lv_isub hx hb dX12_lifts__347 ?_
                                                    refine lv_topi (fun x13922 ex13922 => ?_)
                                                    refine va_mmax hx hb (hml.trans hl.1.symm) hown (ht_at hts 24 rfl) (ht_at hts 25 rfl) (ht_at hts 14 rfl) (ht_at hts 26 rfl) (Nat.le_of_ble_eq_true rfl) (Nat.le_of_ble_eq_true rfl) (Nat.le_of_ble_eq_true rfl) (Nat.le_of_ble_eq_true rfl) dX12_lifts__348 ?_
                                                    refine lv_topi (fun x13923 ex13923 => ?_)
                                                    have t13924 : 0 ≤ x13923.toInt ∧ x13922.toInt ≤ x13923.toInt ∧ (x13923.toInt = 0 ∨ x13923.toInt = x13922.toInt) := mx_f ex13923 (by decide) rfl
                                                    refine lv_istore (lv' := [(12, .int x13923), (11, .int (nI i13875)), (10, .int r13870), (9, .int z13865), (8, .int (nI i13364)), (7, .int x12696), (6, .int (nI i3918)), (5, .int z83), (0, .ref o0), (1, .int p0), (2, .int p1), (3, .int p2), (4, .int p3)]) hx hb dX12_lifts__351 hl (by decide) rfl (fun ls hl => ?_)
                                                    refine lv_aload_n hx hb dX12_lifts__353 rfl (lv_at hl 8 rfl) ?_
                                                    refine tw_get hx hb hts bF_X12 hown hK hT hr_o0 shm_0 rfl 65 (by decide) (ht_at hts 11 rfl) (fun _ h9 => h9) dX12_lifts__354 (fun v9 m13925 h9 => ?_)
                                                    obtain ⟨rfl, hg13926⟩ := h9 _ rfl
                                                    refine lv_iload hx hb dX12_lifts__357 (lv_at hl 1 rfl) ?_
                                                    refine tw_iald (i := (nI i13875)) hx hb hK hT hg13926 shm_66 rfl (vp_in_nI (by omega) (by decide)) dX12_lifts__359 (fun v9 m13927 h9 => ?_)
                                                    obtain ⟨x13928, rfl, gx13928, kx13928⟩ := h9
                                                    refine lv_ldcw (v := 1000000000) hx hb hown (ht_at hts 10 rfl) dX12_lifts__360 ?_
                                                    refine lv_icmp_ge (tgt := 400) hx hb dX12_lifts__363 (by decide) (fun c13929 => ?_) (fun c13929 => ?_)
                                                    · have t13930 : 1000000000 ≤ x13928.toInt := ti_le c13929 (by decide) rfl
                                                      refine lv_iinc (v := nI (i13875 + 1)) (lv' := [(11, .int (nI (i13875 + 1))), (12, .int x13923), (10, .int r13870), (9, .int z13865), (8, .int (nI i13364)), (7, .int x12696), (6, .int (nI i3918)), (5, .int z83), (0, .ref o0), (1, .int p0), (2, .int p1), (3, .int p2), (4, .int p3)]) hx hb dX12_lifts__400 hl (k := 1) rfl (nI_add i13875 1) (by decide) rfl (fun ls hl => ?_)
                                                      refine lv_goto (tgt := 332) hx hb dX12_lifts__403 (by decide) ?_
                                                      exact ih13914 (i13875 + 1) (by omega) (by omega) _ _ hT hF hS m13876 m13877 m13878 ls (lv_sub hl [0, 2, 3, 4, 5, 6, 7, 8, 9, 10, 11, 12] rfl)
                                                    · have t13931 : x13928.toInt < 1000000000 := ti_nle c13929 (by decide) rfl
                                                      refine lv_iload hx hb dX12_lifts__366 (lv_at hl 0 rfl) ?_
                                                      refine lv_iload hx hb dX12_lifts__368 (lv_at hl 12 rfl) ?_
                                                      refine lv_icmp_gt (tgt := 400) hx hb dX12_lifts__370 (by decide) (fun c13932 => ?_) (fun c13932 => ?_)
                                                      · have t13933 : p3.toInt < x13923.toInt := ti_lt c13932 rfl rfl
                                                        refine lv_iinc (v := nI (i13875 + 1)) (lv' := [(11, .int (nI (i13875 + 1))), (12, .int x13923), (10, .int r13870), (9, .int z13865), (8, .int (nI i13364)), (7, .int x12696), (6, .int (nI i3918)), (5, .int z83), (0, .ref o0), (1, .int p0), (2, .int p1), (3, .int p2), (4, .int p3)]) hx hb dX12_lifts__400 hl (k := 1) rfl (nI_add i13875 1) (by decide) rfl (fun ls hl => ?_)
                                                        refine lv_goto (tgt := 332) hx hb dX12_lifts__403 (by decide) ?_
                                                        exact ih13914 (i13875 + 1) (by omega) (by omega) _ _ hT hF hS m13876 m13877 m13878 ls (lv_sub hl [0, 2, 3, 4, 5, 6, 7, 8, 9, 10, 11, 12] rfl)
                                                      · have t13934 : x13923.toInt ≤ p3.toInt := ti_nlt c13932 rfl rfl
                                                        refine lv_aload_n hx hb dX12_lifts__373 rfl (lv_at hl 8 rfl) ?_
                                                        refine tw_get hx hb hts bF_X12 hown hK hT hr_o0 shm_0 rfl 66 (by decide) (ht_at hts 16 rfl) (fun _ h9 => h9) dX12_lifts__374 (fun v9 m13935 h9 => ?_)
                                                        obtain ⟨rfl, hg13936⟩ := h9 _ rfl
                                                        refine lv_iload hx hb dX12_lifts__377 (lv_at hl 0 rfl) ?_
                                                        refine lv_aload_n hx hb dX12_lifts__379 rfl (lv_at hl 8 rfl) ?_
                                                        refine tw_get hx hb hts bF_X12 hown hK hT hr_o0 shm_0 rfl 66 (by decide) (ht_at hts 16 rfl) (fun _ h9 => h9) dX12_lifts__380 (fun v9 m13937 h9 => ?_)
                                                        obtain ⟨rfl, hg13938⟩ := h9 _ rfl
                                                        refine lv_iload hx hb dX12_lifts__383 (lv_at hl 0 rfl) ?_
                                                        refine tw_iald (i := x13923) hx hb hK hT hg13936 shm_67 rfl (vin_t (a := x13923.toInt) rfl (by omega) (by omega)) dX12_lifts__385 (fun v9 m13939 h9 => ?_)
                                                        obtain ⟨x13940, rfl, gx13940, kx13940⟩ := h9
                                                        refine lv_aload_n hx hb dX12_lifts__386 rfl (lv_at hl 8 rfl) ?_
                                                        refine tw_get hx hb hts bF_X12 hown hK hT hr_o0 shm_0 rfl 65 (by decide) (ht_at hts 11 rfl) (fun _ h9 => h9) dX12_lifts__387 (fun v9 m13941 h9 => ?_)
                                                        obtain ⟨rfl, hg13942⟩ := h9 _ rfl
                                                        refine lv_iload hx hb dX12_lifts__390 (lv_at hl 1 rfl) ?_
                                                        refine tw_iald (i := (nI i13875)) hx hb hK hT hg13926 shm_66 rfl (vp_in_nI (by omega) (by decide)) dX12_lifts__392 (fun v9 m13943 h9 => ?_)
                                                        obtain ⟨x13944, rfl, gx13944, kx13944⟩ := h9
                                                        obtain rfl : x13928 = x13944 := (el_same m13943 m13927 rfl).symm
                                                        refine lv_iload hx hb dX12_lifts__393 (lv_at hl 2 rfl) ?_
                                                        refine lv_iadd hx hb dX12_lifts__395 ?_
                                                        refine lv_topi (fun x13945 ex13945 => ?_)
                                                        refine va_mmin hx hb (hml.trans hl.1.symm) hown (ht_at hts 12 rfl) (ht_at hts 13 rfl) (ht_at hts 14 rfl) (ht_at hts 15 rfl) (Nat.le_of_ble_eq_true rfl) (Nat.le_of_ble_eq_true rfl) (Nat.le_of_ble_eq_true rfl) (Nat.le_of_ble_eq_true rfl) dX12_lifts__396 ?_
                                                        refine lv_topi (fun x13946 ex13946 => ?_)
                                                        have t13947 : x13946.toInt ≤ x13940.toInt ∧ x13946.toInt ≤ x13945.toInt ∧ (x13946.toInt = x13940.toInt ∨ x13946.toInt = x13945.toInt) := mn_f ex13946 rfl rfl
                                                        refine tw_iast (i := x13923) (x := x13946) hx hb hK hT hG hS hg13936 shm_67 rfl (vin_t (a := x13923.toInt) rfl (by omega) (by omega)) (gi_all _) dX12_lifts__399 (fun H locs hT oq m13948 oi hS => ?_)
                                                        have hF := hF.ast hg13936 skm_67 oq (by decide)
                                                        have m13949 := (el_kept (oq _ (gne hg3896 hg13936 (by decide)))).trans m13876
                                                        have m13950 := (el_kept (oq _ (gne hg3896 hg13936 (by decide)))).trans m13877
                                                        have m13951 := (el_kept (oq _ (gne hg3896 hg13936 (by decide)))).trans m13878
                                                        refine lv_iinc (v := nI (i13875 + 1)) (lv' := [(11, .int (nI (i13875 + 1))), (12, .int x13923), (10, .int r13870), (9, .int z13865), (8, .int (nI i13364)), (7, .int x12696), (6, .int (nI i3918)), (5, .int z83), (0, .ref o0), (1, .int p0), (2, .int p1), (3, .int p2), (4, .int p3)]) hx hb dX12_lifts__400 hl (k := 1) rfl (nI_add i13875 1) (by decide) rfl (fun ls hl => ?_)
                                                        refine lv_goto (tgt := 332) hx hb dX12_lifts__403 (by decide) ?_
                                                        exact ih13914 (i13875 + 1) (by omega) (by omega) _ _ hT hF hS m13949 m13950 m13951 ls (lv_sub hl [0, 2, 3, 4, 5, 6, 7, 8, 9, 10, 11, 12] rfl)
                                                exact key13914 (1001 - 0) 0 (by omega) (Nat.le_refl _) _ _ hT hF hS m13872 m13873 m13874 ls (lv_sub hl [0, 1, 2, 3, 4, 5, 6, 7, 8, 9, 10, 11] rfl)
                                              have key13953 : ∀ (n13953 i13728 : Nat), i13728 + n13953 = 5 → 0 ≤ i13728 → ∀ (z13729 : Int32), ∀ (H : Heap) (locs : List Loc), gH (dC, dI) kA (SHm q (wP wZ wN wH wB wC wL wK wU wV) PI im PM PT lS lB lE lN) G H → gF (dC, dI) SKm G ([(0, 0), (66, 0), (67, 0), (68, 0)] : List (Nat × Nat)) s.heap H → va_S A s.heap H locs → el H (q 1) (1428 : Int32).toNatClampNeg = some (.int x3898) → el H (q 1) ix10838.toNatClampNeg = some (.int r10835) → el H (q 1) ix12673.toNatClampNeg = some (.int r12668) → ∀ ls : Array Slot, lv_has ls 13 [(10, .int (nI i13728)), (9, .int z13729), (8, .int (nI i13364)), (7, .int x12696), (6, .int (nI i3918)), (5, .int z83), (0, .ref o0), (1, .int p0), (2, .int p1), (3, .int p2), (4, .int p3)] → W p l e (headSpec w_s_lifts_ ({ frames := 2, cells := 0, slots := 0, locals := 66 })).room s m #[.ref o0, .int p0, .int p1, .int p2, .int p3] below meth c H locs 0 0 (MQ below (va_Qi (fun (r : Int32) (u : Unit) => (-2147483648 ≤ r.toInt ∧ r.toInt ≤ 999999999)) (fun (_ : Unit) (t : State) => gH (dC, dI) kA (SHm q (wP wZ wN wH wB wC wL wK wU wV) PI im PM PT lS lB lE lN) G t.heap ∧ gF (dC, dI) SKm G ([(0, 0), (66, 0), (67, 0), (68, 0)] : List (Nat × Nat)) s.heap t.heap) A) #[.ref o0, .int p0, .int p1, .int p2, .int p3] s 0 0 A) (F0 m 282 ls []) := by
                                                intro n13953
                                                induction n13953 with
                                                | zero =>
                                                  intro i13728 hn13953 hlo13954 z13729 H locs hT hF hS m13730 m13731 m13732 ls hl
                                                  obtain rfl : 5 = i13728 := by omega
                                                  refine lv_iload hx hb dX12_lifts__282 (lv_at hl 0 rfl) ?_
                                                  refine lv_iload hx hb dX12_lifts__284 (lv_at hl 5 rfl) ?_
                                                  refine lv_icmp_ge (tgt := 322) hx hb dX12_lifts__286 (by decide) (fun c13955 => ?_) (fun c13955 => (by exfalso; have q9 : ((5 : Nat) : Int) < z83.toInt := ti_nle c13955 rfl (nI_toInt (by omega)); omega))
                                                  have t13956 : z83.toInt ≤ ((5 : Nat) : Int) := ti_le c13955 rfl (nI_toInt (by omega))
                                                  exact jn13869 (nI 5) z13729 (rg_t (a := ((5 : Nat) : Int)) (nI_toInt (by omega)) (by omega) (by omega)) _ _ hT hF hS m13730 m13731 m13732 ls (lv_sub hl [0, 1, 2, 3, 4, 5, 6, 7, 8, 9, 10] rfl)
                                                | succ n13953 ih13953 =>
                                                  intro i13728 hn13953 hlo13954 z13729 H locs hT hF hS m13730 m13731 m13732 ls hl
                                                  have hlt13956 : i13728 < 5 := by omega
                                                  refine lv_iload hx hb dX12_lifts__282 (lv_at hl 0 rfl) ?_
                                                  refine lv_iload hx hb dX12_lifts__284 (lv_at hl 5 rfl) ?_
                                                  refine lv_icmp_ge (tgt := 322) hx hb dX12_lifts__286 (by decide) (fun c13957 => ?_) (fun c13957 => ?_)
                                                  · have t13958 : z83.toInt ≤ ((i13728 : Nat) : Int) := ti_le c13957 rfl (nI_toInt (by omega))
                                                    exact jn13869 (nI i13728) z13729 (rg_t (a := ((i13728 : Nat) : Int)) (nI_toInt (by omega)) (by omega) (by omega)) _ _ hT hF hS m13730 m13731 m13732 ls (lv_sub hl [0, 1, 2, 3, 4, 5, 6, 7, 8, 9, 10] rfl)
                                                  · have t13959 : ((i13728 : Nat) : Int) < z83.toInt := ti_nle c13957 rfl (nI_toInt (by omega))
                                                    refine lv_iload hx hb dX12_lifts__289 (lv_at hl 1 rfl) ?_
                                                    refine lv_iload hx hb dX12_lifts__291 (lv_at hl 2 rfl) ?_
                                                    refine lv_iload hx hb dX12_lifts__293 (lv_at hl 0 rfl) ?_
                                                    refine lv_ishr hx hb dX12_lifts__295 ?_
                                                    refine lv_topi (fun x13960 ex13960 => ?_)
                                                    refine lv_iconst (v := 1) hx hb dX12_lifts__296 (by decide) ?_
                                                    refine lv_iand hx hb dX12_lifts__297 ?_
                                                    refine lv_topi (fun x13961 ex13961 => ?_)
                                                    refine lv_iconst (v := 1) hx hb dX12_lifts__298 (by decide) ?_
                                                    refine lv_icmp_ne (tgt := 312) hx hb dX12_lifts__299 (by decide) (fun c13962 => ?_) (fun c13962 => ?_)
                                                    · have t13963 : x13961.toInt ≠ 1 := ti_ne c13962 rfl (by decide)
                                                      refine lv_iconst (v := 0) hx hb dX12_lifts__312 (by decide) ?_
                                                      refine lv_iadd hx hb dX12_lifts__313 ?_
                                                      refine lv_topi (fun x13964 ex13964 => ?_)
                                                      have t13965 : -2147483648 ≤ z13729.toInt ∧ z13729.toInt ≤ 2147483647 := ti_all z13729
                                                      have t13966 : x13964.toInt = z13729.toInt + 0 := ti_add ex13964 rfl (by decide) (by omega) (by omega)
                                                      refine lv_istore (lv' := [(9, .int x13964), (10, .int (nI i13728)), (8, .int (nI i13364)), (7, .int x12696), (6, .int (nI i3918)), (5, .int z83), (0, .ref o0), (1, .int p0), (2, .int p1), (3, .int p2), (4, .int p3)]) hx hb dX12_lifts__314 hl (by decide) rfl (fun ls hl => ?_)
                                                      refine lv_iinc (v := nI (i13728 + 1)) (lv' := [(10, .int (nI (i13728 + 1))), (9, .int x13964), (8, .int (nI i13364)), (7, .int x12696), (6, .int (nI i3918)), (5, .int z83), (0, .ref o0), (1, .int p0), (2, .int p1), (3, .int p2), (4, .int p3)]) hx hb dX12_lifts__316 hl (k := 1) rfl (nI_add i13728 1) (by decide) rfl (fun ls hl => ?_)
                                                      refine lv_goto (tgt := 282) hx hb dX12_lifts__319 (by decide) ?_
                                                      exact ih13953 (i13728 + 1) (by omega) (by omega) x13964 _ _ hT hF hS m13730 m13731 m13732 ls (lv_sub hl [0, 1, 2, 3, 4, 5, 6, 7, 8, 9, 10] rfl)
                                                    · have t13967 : x13961.toInt = 1 := ti_eq c13962 rfl (by decide)
                                                      refine lv_aload_n hx hb dX12_lifts__302 rfl (lv_at hl 6 rfl) ?_
                                                      refine tw_get hx hb hts bF_X12 hown hK hT hr_o0 shm_0 rfl 67 (by decide) (ht_at hts 46 rfl) (fun _ h9 => h9) dX12_lifts__303 (fun v9 m13968 h9 => ?_)
                                                      obtain ⟨rfl, hg13969⟩ := h9 _ rfl
                                                      refine lv_iload hx hb dX12_lifts__306 (lv_at hl 0 rfl) ?_
                                                      refine tw_iald (i := (nI i13728)) hx hb hK hT hg13969 shm_68 rfl (vp_in_nI (by omega) (by decide)) dX12_lifts__308 (fun v9 m13970 h9 => ?_)
                                                      obtain ⟨x13971, rfl, gx13971, kx13971⟩ := h9
                                                      refine lv_goto (tgt := 313) hx hb dX12_lifts__309 (by decide) ?_
                                                      refine lv_iadd hx hb dX12_lifts__313 ?_
                                                      refine lv_topi (fun x13972 ex13972 => ?_)
                                                      refine lv_istore (lv' := [(9, .int x13972), (10, .int (nI i13728)), (8, .int (nI i13364)), (7, .int x12696), (6, .int (nI i3918)), (5, .int z83), (0, .ref o0), (1, .int p0), (2, .int p1), (3, .int p2), (4, .int p3)]) hx hb dX12_lifts__314 hl (by decide) rfl (fun ls hl => ?_)
                                                      refine lv_iinc (v := nI (i13728 + 1)) (lv' := [(10, .int (nI (i13728 + 1))), (9, .int x13972), (8, .int (nI i13364)), (7, .int x12696), (6, .int (nI i3918)), (5, .int z83), (0, .ref o0), (1, .int p0), (2, .int p1), (3, .int p2), (4, .int p3)]) hx hb dX12_lifts__316 hl (k := 1) rfl (nI_add i13728 1) (by decide) rfl (fun ls hl => ?_)
                                                      refine lv_goto (tgt := 282) hx hb dX12_lifts__319 (by decide) ?_
                                                      exact ih13953 (i13728 + 1) (by omega) (by omega) x13972 _ _ hT hF hS m13730 m13731 m13732 ls (lv_sub hl [0, 1, 2, 3, 4, 5, 6, 7, 8, 9, 10] rfl)
                                              exact key13953 (5 - 0) 0 (by omega) (Nat.le_refl _) x12696 _ _ hT hF hS m13365 m13366 m13367 ls (lv_sub hl [0, 1, 2, 3, 4, 5, 6, 7, 8, 9, 10] rfl)
                                        exact key13651 (2147483647 - 0) 0 (by omega) (Nat.le_refl _) _ _ hT hF hS m13349 m13350 m13351 ls (lv_sub hl [0, 1, 2, 3, 4, 5, 6, 7, 8] rfl)
                                      | succ n13360 ih13360 =>
                                        intro i13348 hn13360 hlo13361  H locs hT hF hS m13349 m13350 m13351 ls hl
                                        have hlt13972 : i13348 < 1001 := by omega
                                        refine lv_iload hx hb dX12_lifts__239 (lv_at hl 0 rfl) ?_
                                        refine lv_sipush (v := 1001) hx hb dX12_lifts__241 (by decide) ?_
                                        refine lv_icmp_ge (tgt := 263) hx hb dX12_lifts__244 (by decide) (fun c13973 => (by exfalso; have q9 : 1001 ≤ ((i13348 : Nat) : Int) := ti_le c13973 (by decide) (nI_toInt (by omega)); omega)) (fun c13973 => ?_)
                                        have t13974 : ((i13348 : Nat) : Int) < 1001 := ti_nle c13973 (by decide) (nI_toInt (by omega))
                                        refine lv_aload_n hx hb dX12_lifts__247 rfl (lv_at hl 4 rfl) ?_
                                        refine tw_get hx hb hts bF_X12 hown hK hT hr_o0 shm_0 rfl 66 (by decide) (ht_at hts 16 rfl) (fun _ h9 => h9) dX12_lifts__248 (fun v9 m13975 h9 => ?_)
                                        obtain ⟨rfl, hg13976⟩ := h9 _ rfl
                                        refine lv_iload hx hb dX12_lifts__251 (lv_at hl 0 rfl) ?_
                                        refine lv_ldcw (v := 1000000000) hx hb hown (ht_at hts 10 rfl) dX12_lifts__253 ?_
                                        refine tw_iast (i := (nI i13348)) (x := 1000000000) hx hb hK hT hG hS hg13976 shm_67 rfl (vp_in_nI (by omega) (by decide)) (gi_all _) dX12_lifts__256 (fun H locs hT oq m13977 oi hS => ?_)
                                        have hF := hF.ast hg13976 skm_67 oq (by decide)
                                        have m13978 := (el_kept (oq _ (gne hg3896 hg13976 (by decide)))).trans m13349
                                        have m13979 := (el_kept (oq _ (gne hg3896 hg13976 (by decide)))).trans m13350
                                        have m13980 := (el_kept (oq _ (gne hg3896 hg13976 (by decide)))).trans m13351
                                        refine lv_iinc (v := nI (i13348 + 1)) (lv' := [(8, .int (nI (i13348 + 1))), (7, .int x12696), (6, .int (nI i3918)), (5, .int z83), (0, .ref o0), (1, .int p0), (2, .int p1), (3, .int p2), (4, .int p3)]) hx hb dX12_lifts__257 hl (k := 0) rfl (nI_add i13348 1) (by decide) rfl (fun ls hl => ?_)
                                        refine lv_goto (tgt := 239) hx hb dX12_lifts__260 (by decide) ?_
                                        exact ih13360 (i13348 + 1) (by omega) (by omega) _ _ hT hF hS m13978 m13979 m13980 ls (lv_sub hl [0, 1, 2, 3, 4, 5, 6, 7, 8] rfl)
                                    exact key13360 (1001 - 0) 0 (by omega) (Nat.le_refl _) _ _ hT hF hS m12698 m12699 m12700 ls (lv_sub hl [0, 1, 2, 3, 4, 5, 6, 7, 8] rfl)
                                  | succ n13340 ih13340 =>
                                    intro i12697 hn13340 hlo13341  H locs hT hF hS m12698 m12699 m12700 ls hl
                                    have hlt13980 : i12697 < 30 := by omega
                                    refine lv_iload hx hb dX12_lifts__178 (lv_at hl 0 rfl) ?_
                                    refine lv_aload_n hx hb dX12_lifts__180 rfl (lv_at hl 4 rfl) ?_
                                    refine tw_get hx hb hts bF_X12 hown hK hT hr_o0 shm_0 rfl 1 (by decide) (ht_at hts 9 rfl) (fun _ h9 => h9) dX12_lifts__181 (fun v9 m13981 h9 => ?_)
                                    obtain ⟨rfl, hg13982⟩ := h9 _ rfl
                                    refine lv_sipush (v := 1428) hx hb dX12_lifts__184 (by decide) ?_
                                    refine tw_iald (i := 1428) hx hb hK hT hg3896 shm_2 rfl (by unfold vp_in; decide) dX12_lifts__187 (fun v9 m13983 h9 => ?_)
                                    obtain ⟨x13984, rfl, gx13984, kx13984⟩ := (gp_at h9 (w_wct (by have q9 := tn_of (show (1428 : Int32).toInt = 1428 from (by decide)) (show (0 : Int) ≤ 1428 from by omega); omega)))
                                    obtain rfl : x3898 = x13984 := (el_same m13983 m12698 rfl).symm
                                    refine lv_icmp_ge (tgt := 236) hx hb dX12_lifts__188 (by decide) (fun c13985 => ?_) (fun c13985 => (by exfalso; have q9 : ((i12697 : Nat) : Int) < x3898.toInt := ti_nle c13985 rfl (nI_toInt (by omega)); omega))
                                    have t13986 : x3898.toInt ≤ ((i12697 : Nat) : Int) := ti_le c13985 rfl (nI_toInt (by omega))
                                    refine lv_iconst (v := 0) hx hb dX12_lifts__236 (by decide) ?_
                                    refine lv_istore (lv' := [(8, .int 0), (7, .int x12696), (6, .int (nI i3918)), (5, .int z83), (0, .ref o0), (1, .int p0), (2, .int p1), (3, .int p2), (4, .int p3)]) hx hb dX12_lifts__237 hl (by decide) rfl (fun ls hl => ?_)
                                    have key13999 : ∀ (n13999 i13987 : Nat), i13987 + n13999 = 1001 → 0 ≤ i13987 → ∀ (H : Heap) (locs : List Loc), gH (dC, dI) kA (SHm q (wP wZ wN wH wB wC wL wK wU wV) PI im PM PT lS lB lE lN) G H → gF (dC, dI) SKm G ([(0, 0), (66, 0), (67, 0), (68, 0)] : List (Nat × Nat)) s.heap H → va_S A s.heap H locs → el H (q 1) (1428 : Int32).toNatClampNeg = some (.int x3898) → el H (q 1) ix10838.toNatClampNeg = some (.int r10835) → el H (q 1) ix12673.toNatClampNeg = some (.int r12668) → ∀ ls : Array Slot, lv_has ls 13 [(8, .int (nI i13987)), (7, .int x12696), (6, .int (nI i3918)), (5, .int z83), (0, .ref o0), (1, .int p0), (2, .int p1), (3, .int p2), (4, .int p3)] → W p l e (headSpec w_s_lifts_ ({ frames := 2, cells := 0, slots := 0, locals := 66 })).room s m #[.ref o0, .int p0, .int p1, .int p2, .int p3] below meth c H locs 0 0 (MQ below (va_Qi (fun (r : Int32) (u : Unit) => (-2147483648 ≤ r.toInt ∧ r.toInt ≤ 999999999)) (fun (_ : Unit) (t : State) => gH (dC, dI) kA (SHm q (wP wZ wN wH wB wC wL wK wU wV) PI im PM PT lS lB lE lN) G t.heap ∧ gF (dC, dI) SKm G ([(0, 0), (66, 0), (67, 0), (68, 0)] : List (Nat × Nat)) s.heap t.heap) A) #[.ref o0, .int p0, .int p1, .int p2, .int p3] s 0 0 A) (F0 m 239 ls []) := by
                                      intro n13999
                                      induction n13999 with
                                      | zero =>
                                        intro i13987 hn13999 hlo14000  H locs hT hF hS m13988 m13989 m13990 ls hl
                                        obtain rfl : 1001 = i13987 := by omega
                                        refine lv_iload hx hb dX12_lifts__239 (lv_at hl 0 rfl) ?_
                                        refine lv_sipush (v := 1001) hx hb dX12_lifts__241 (by decide) ?_
                                        refine lv_icmp_ge (tgt := 263) hx hb dX12_lifts__244 (by decide) (fun c14001 => ?_) (fun c14001 => (by exfalso; have q9 : ((1001 : Nat) : Int) < 1001 := ti_nle c14001 (by decide) (nI_toInt (by omega)); omega))
                                        have t14002 : 1001 ≤ ((1001 : Nat) : Int) := ti_le c14001 (by decide) (nI_toInt (by omega))
                                        refine lv_iconst (v := 0) hx hb dX12_lifts__263 (by decide) ?_
                                        refine lv_istore (lv' := [(8, .int 0), (7, .int x12696), (6, .int (nI i3918)), (5, .int z83), (0, .ref o0), (1, .int p0), (2, .int p1), (3, .int p2), (4, .int p3)]) hx hb dX12_lifts__264 hl (by decide) rfl (fun ls hl => ?_)
                                        have key14290 : ∀ (n14290 i14003 : Nat), i14003 + n14290 = 2147483647 → 0 ≤ i14003 → ∀ (H : Heap) (locs : List Loc), gH (dC, dI) kA (SHm q (wP wZ wN wH wB wC wL wK wU wV) PI im PM PT lS lB lE lN) G H → gF (dC, dI) SKm G ([(0, 0), (66, 0), (67, 0), (68, 0)] : List (Nat × Nat)) s.heap H → va_S A s.heap H locs → el H (q 1) (1428 : Int32).toNatClampNeg = some (.int x3898) → el H (q 1) ix10838.toNatClampNeg = some (.int r10835) → el H (q 1) ix12673.toNatClampNeg = some (.int r12668) → ∀ ls : Array Slot, lv_has ls 13 [(8, .int (nI i14003)), (7, .int x12696), (6, .int (nI i3918)), (5, .int z83), (0, .ref o0), (1, .int p0), (2, .int p1), (3, .int p2), (4, .int p3)] → W p l e (headSpec w_s_lifts_ ({ frames := 2, cells := 0, slots := 0, locals := 66 })).room s m #[.ref o0, .int p0, .int p1, .int p2, .int p3] below meth c H locs 0 0 (MQ below (va_Qi (fun (r : Int32) (u : Unit) => (-2147483648 ≤ r.toInt ∧ r.toInt ≤ 999999999)) (fun (_ : Unit) (t : State) => gH (dC, dI) kA (SHm q (wP wZ wN wH wB wC wL wK wU wV) PI im PM PT lS lB lE lN) G t.heap ∧ gF (dC, dI) SKm G ([(0, 0), (66, 0), (67, 0), (68, 0)] : List (Nat × Nat)) s.heap t.heap) A) #[.ref o0, .int p0, .int p1, .int p2, .int p3] s 0 0 A) (F0 m 266 ls []) := by
                                          intro n14290
                                          induction n14290 with
                                          | zero =>
                                            intro i14003 hn14290 hlo14291  H locs hT hF hS m14004 m14005 m14006 ls hl
                                            obtain rfl : 2147483647 = i14003 := by omega
                                            refine lv_iload hx hb dX12_lifts__266 (lv_at hl 0 rfl) ?_
                                            refine lv_iconst (v := 1) hx hb dX12_lifts__268 (by decide) ?_
                                            refine lv_iload hx hb dX12_lifts__269 (lv_at hl 3 rfl) ?_
                                            refine lv_ishl hx hb dX12_lifts__271 ?_
                                            refine lv_topi (fun x14292 ex14292 => ?_)
                                            refine lv_icmp_ge (tgt := 412) hx hb dX12_lifts__272 (by decide) (fun c14293 => ?_) (fun c14293 => (by exfalso; have q9 : ((2147483647 : Nat) : Int) < x14292.toInt := ti_nle c14293 rfl (nI_toInt (by omega)); have := ti_all x14292; omega))
                                            have t14294 : x14292.toInt ≤ ((2147483647 : Nat) : Int) := ti_le c14293 rfl (nI_toInt (by omega))
                                            refine lv_iconst (v := 0) hx hb dX12_lifts__412 (by decide) ?_
                                            refine lv_istore (lv' := [(8, .int 0), (7, .int x12696), (6, .int (nI i3918)), (5, .int z83), (0, .ref o0), (1, .int p0), (2, .int p1), (3, .int p2), (4, .int p3)]) hx hb dX12_lifts__413 hl (by decide) rfl (fun ls hl => ?_)
                                            have key14312 : ∀ (n14312 i14295 : Nat), i14295 + n14312 = 1001 → 0 ≤ i14295 → ∀ (H : Heap) (locs : List Loc), gH (dC, dI) kA (SHm q (wP wZ wN wH wB wC wL wK wU wV) PI im PM PT lS lB lE lN) G H → gF (dC, dI) SKm G ([(0, 0), (66, 0), (67, 0), (68, 0)] : List (Nat × Nat)) s.heap H → va_S A s.heap H locs → el H (q 1) (1428 : Int32).toNatClampNeg = some (.int x3898) → el H (q 1) ix10838.toNatClampNeg = some (.int r10835) → el H (q 1) ix12673.toNatClampNeg = some (.int r12668) → ∀ ls : Array Slot, lv_has ls 13 [(8, .int (nI i14295)), (7, .int x12696), (6, .int (nI i3918)), (5, .int z83), (0, .ref o0), (1, .int p0), (2, .int p1), (3, .int p2), (4, .int p3)] → W p l e (headSpec w_s_lifts_ ({ frames := 2, cells := 0, slots := 0, locals := 66 })).room s m #[.ref o0, .int p0, .int p1, .int p2, .int p3] below meth c H locs 0 0 (MQ below (va_Qi (fun (r : Int32) (u : Unit) => (-2147483648 ≤ r.toInt ∧ r.toInt ≤ 999999999)) (fun (_ : Unit) (t : State) => gH (dC, dI) kA (SHm q (wP wZ wN wH wB wC wL wK wU wV) PI im PM PT lS lB lE lN) G t.heap ∧ gF (dC, dI) SKm G ([(0, 0), (66, 0), (67, 0), (68, 0)] : List (Nat × Nat)) s.heap t.heap) A) #[.ref o0, .int p0, .int p1, .int p2, .int p3] s 0 0 A) (F0 m 415 ls []) := by
                                              intro n14312
                                              induction n14312 with
                                              | zero =>
                                                intro i14295 hn14312 hlo14313  H locs hT hF hS m14296 m14297 m14298 ls hl
                                                obtain rfl : 1001 = i14295 := by omega
                                                refine lv_iload hx hb dX12_lifts__415 (lv_at hl 0 rfl) ?_
                                                refine lv_sipush (v := 1001) hx hb dX12_lifts__417 (by decide) ?_
                                                refine lv_icmp_ge (tgt := 443) hx hb dX12_lifts__420 (by decide) (fun c14314 => ?_) (fun c14314 => (by exfalso; have q9 : ((1001 : Nat) : Int) < 1001 := ti_nle c14314 (by decide) (nI_toInt (by omega)); omega))
                                                have t14315 : 1001 ≤ ((1001 : Nat) : Int) := ti_le c14314 (by decide) (nI_toInt (by omega))
                                                refine lv_iinc (v := nI (i3918 + 1)) (lv' := [(6, .int (nI (i3918 + 1))), (8, .int (nI 1001)), (7, .int x12696), (5, .int z83), (0, .ref o0), (1, .int p0), (2, .int p1), (3, .int p2), (4, .int p3)]) hx hb dX12_lifts__443 hl (k := 2) rfl (nI_add i3918 1) (by decide) rfl (fun ls hl => ?_)
                                                refine lv_goto (tgt := 166) hx hb dX12_lifts__446 (by decide) ?_
                                                exact ih9554 (i3918 + 1) (by omega) (by omega) _ _ hT hF hS m14296 ls (lv_sub hl [0, 3, 4, 5, 6, 7, 8] rfl)
                                              | succ n14312 ih14312 =>
                                                intro i14295 hn14312 hlo14313  H locs hT hF hS m14296 m14297 m14298 ls hl
                                                have hlt14315 : i14295 < 1001 := by omega
                                                refine lv_iload hx hb dX12_lifts__415 (lv_at hl 0 rfl) ?_
                                                refine lv_sipush (v := 1001) hx hb dX12_lifts__417 (by decide) ?_
                                                refine lv_icmp_ge (tgt := 443) hx hb dX12_lifts__420 (by decide) (fun c14316 => (by exfalso; have q9 : 1001 ≤ ((i14295 : Nat) : Int) := ti_le c14316 (by decide) (nI_toInt (by omega)); omega)) (fun c14316 => ?_)
                                                have t14317 : ((i14295 : Nat) : Int) < 1001 := ti_nle c14316 (by decide) (nI_toInt (by omega))
                                                refine lv_aload_n hx hb dX12_lifts__423 rfl (lv_at hl 4 rfl) ?_
                                                refine tw_get hx hb hts bF_X12 hown hK hT hr_o0 shm_0 rfl 65 (by decide) (ht_at hts 11 rfl) (fun _ h9 => h9) dX12_lifts__424 (fun v9 m14318 h9 => ?_)
                                                obtain ⟨rfl, hg14319⟩ := h9 _ rfl
                                                refine lv_iload hx hb dX12_lifts__427 (lv_at hl 0 rfl) ?_
                                                refine lv_aload_n hx hb dX12_lifts__429 rfl (lv_at hl 4 rfl) ?_
                                                refine tw_get hx hb hts bF_X12 hown hK hT hr_o0 shm_0 rfl 66 (by decide) (ht_at hts 16 rfl) (fun _ h9 => h9) dX12_lifts__430 (fun v9 m14320 h9 => ?_)
                                                obtain ⟨rfl, hg14321⟩ := h9 _ rfl
                                                refine lv_iload hx hb dX12_lifts__433 (lv_at hl 0 rfl) ?_
                                                refine tw_iald (i := (nI i14295)) hx hb hK hT hg14321 shm_67 rfl (vp_in_nI (by omega) (by decide)) dX12_lifts__435 (fun v9 m14322 h9 => ?_)
                                                obtain ⟨x14323, rfl, gx14323, kx14323⟩ := h9
                                                refine tw_iast (i := (nI i14295)) (x := x14323) hx hb hK hT hG hS hg14319 shm_66 rfl (vp_in_nI (by omega) (by decide)) (gi_all _) dX12_lifts__436 (fun H locs hT oq m14324 oi hS => ?_)
                                                have hF := hF.ast hg14319 skm_66 oq (by decide)
                                                have m14325 := (el_kept (oq _ (gne hg3896 hg14319 (by decide)))).trans m14296
                                                have m14326 := (el_kept (oq _ (gne hg3896 hg14319 (by decide)))).trans m14297
                                                have m14327 := (el_kept (oq _ (gne hg3896 hg14319 (by decide)))).trans m14298
                                                refine lv_iinc (v := nI (i14295 + 1)) (lv' := [(8, .int (nI (i14295 + 1))), (7, .int x12696), (6, .int (nI i3918)), (5, .int z83), (0, .ref o0), (1, .int p0), (2, .int p1), (3, .int p2), (4, .int p3)]) hx hb dX12_lifts__437 hl (k := 0) rfl (nI_add i14295 1) (by decide) rfl (fun ls hl => ?_)
                                                refine lv_goto (tgt := 415) hx hb dX12_lifts__440 (by decide) ?_
                                                exact ih14312 (i14295 + 1) (by omega) (by omega) _ _ hT hF hS m14325 m14326 m14327 ls (lv_sub hl [0, 1, 2, 3, 4, 5, 6, 7, 8] rfl)
                                            exact key14312 (1001 - 0) 0 (by omega) (Nat.le_refl _) _ _ hT hF hS m14004 m14005 m14006 ls (lv_sub hl [0, 1, 2, 3, 4, 5, 6, 7, 8] rfl)
                                          | succ n14290 ih14290 =>
                                            intro i14003 hn14290 hlo14291  H locs hT hF hS m14004 m14005 m14006 ls hl
                                            have hlt14328 : i14003 < 2147483647 := by omega
                                            refine lv_iload hx hb dX12_lifts__266 (lv_at hl 0 rfl) ?_
                                            refine lv_iconst (v := 1) hx hb dX12_lifts__268 (by decide) ?_
                                            refine lv_iload hx hb dX12_lifts__269 (lv_at hl 3 rfl) ?_
                                            refine lv_ishl hx hb dX12_lifts__271 ?_
                                            refine lv_topi (fun x14329 ex14329 => ?_)
                                            refine lv_icmp_ge (tgt := 412) hx hb dX12_lifts__272 (by decide) (fun c14330 => ?_) (fun c14330 => ?_)
                                            · have t14331 : x14329.toInt ≤ ((i14003 : Nat) : Int) := ti_le c14330 rfl (nI_toInt (by omega))
                                              refine lv_iconst (v := 0) hx hb dX12_lifts__412 (by decide) ?_
                                              refine lv_istore (lv' := [(8, .int 0), (7, .int x12696), (6, .int (nI i3918)), (5, .int z83), (0, .ref o0), (1, .int p0), (2, .int p1), (3, .int p2), (4, .int p3)]) hx hb dX12_lifts__413 hl (by decide) rfl (fun ls hl => ?_)
                                              have key14349 : ∀ (n14349 i14332 : Nat), i14332 + n14349 = 1001 → 0 ≤ i14332 → ∀ (H : Heap) (locs : List Loc), gH (dC, dI) kA (SHm q (wP wZ wN wH wB wC wL wK wU wV) PI im PM PT lS lB lE lN) G H → gF (dC, dI) SKm G ([(0, 0), (66, 0), (67, 0), (68, 0)] : List (Nat × Nat)) s.heap H → va_S A s.heap H locs → el H (q 1) (1428 : Int32).toNatClampNeg = some (.int x3898) → el H (q 1) ix10838.toNatClampNeg = some (.int r10835) → el H (q 1) ix12673.toNatClampNeg = some (.int r12668) → ∀ ls : Array Slot, lv_has ls 13 [(8, .int (nI i14332)), (7, .int x12696), (6, .int (nI i3918)), (5, .int z83), (0, .ref o0), (1, .int p0), (2, .int p1), (3, .int p2), (4, .int p3)] → W p l e (headSpec w_s_lifts_ ({ frames := 2, cells := 0, slots := 0, locals := 66 })).room s m #[.ref o0, .int p0, .int p1, .int p2, .int p3] below meth c H locs 0 0 (MQ below (va_Qi (fun (r : Int32) (u : Unit) => (-2147483648 ≤ r.toInt ∧ r.toInt ≤ 999999999)) (fun (_ : Unit) (t : State) => gH (dC, dI) kA (SHm q (wP wZ wN wH wB wC wL wK wU wV) PI im PM PT lS lB lE lN) G t.heap ∧ gF (dC, dI) SKm G ([(0, 0), (66, 0), (67, 0), (68, 0)] : List (Nat × Nat)) s.heap t.heap) A) #[.ref o0, .int p0, .int p1, .int p2, .int p3] s 0 0 A) (F0 m 415 ls []) := by
                                                intro n14349
                                                induction n14349 with
                                                | zero =>
                                                  intro i14332 hn14349 hlo14350  H locs hT hF hS m14333 m14334 m14335 ls hl
                                                  obtain rfl : 1001 = i14332 := by omega
                                                  refine lv_iload hx hb dX12_lifts__415 (lv_at hl 0 rfl) ?_
                                                  refine lv_sipush (v := 1001) hx hb dX12_lifts__417 (by decide) ?_
                                                  refine lv_icmp_ge (tgt := 443) hx hb dX12_lifts__420 (by decide) (fun c14351 => ?_) (fun c14351 => (by exfalso; have q9 : ((1001 : Nat) : Int) < 1001 := ti_nle c14351 (by decide) (nI_toInt (by omega)); omega))
                                                  have t14352 : 1001 ≤ ((1001 : Nat) : Int) := ti_le c14351 (by decide) (nI_toInt (by omega))
                                                  refine lv_iinc (v := nI (i3918 + 1)) (lv' := [(6, .int (nI (i3918 + 1))), (8, .int (nI 1001)), (7, .int x12696), (5, .int z83), (0, .ref o0), (1, .int p0), (2, .int p1), (3, .int p2), (4, .int p3)]) hx hb dX12_lifts__443 hl (k := 2) rfl (nI_add i3918 1) (by decide) rfl (fun ls hl => ?_)
                                                  refine lv_goto (tgt := 166) hx hb dX12_lifts__446 (by decide) ?_
                                                  exact ih9554 (i3918 + 1) (by omega) (by omega) _ _ hT hF hS m14333 ls (lv_sub hl [0, 3, 4, 5, 6, 7, 8] rfl)
                                                | succ n14349 ih14349 =>
                                                  intro i14332 hn14349 hlo14350  H locs hT hF hS m14333 m14334 m14335 ls hl
                                                  have hlt14352 : i14332 < 1001 := by omega
                                                  refine lv_iload hx hb dX12_lifts__415 (lv_at hl 0 rfl) ?_
                                                  refine lv_sipush (v := 1001) hx hb dX12_lifts__417 (by decide) ?_
                                                  refine lv_icmp_ge (tgt := 443) hx hb dX12_lifts__420 (by decide) (fun c14353 => (by exfalso; have q9 : 1001 ≤ ((i14332 : Nat) : Int) := ti_le c14353 (by decide) (nI_toInt (by omega)); omega)) (fun c14353 => ?_)
                                                  have t14354 : ((i14332 : Nat) : Int) < 1001 := ti_nle c14353 (by decide) (nI_toInt (by omega))
                                                  refine lv_aload_n hx hb dX12_lifts__423 rfl (lv_at hl 4 rfl) ?_
                                                  refine tw_get hx hb hts bF_X12 hown hK hT hr_o0 shm_0 rfl 65 (by decide) (ht_at hts 11 rfl) (fun _ h9 => h9) dX12_lifts__424 (fun v9 m14355 h9 => ?_)
                                                  obtain ⟨rfl, hg14356⟩ := h9 _ rfl
                                                  refine lv_iload hx hb dX12_lifts__427 (lv_at hl 0 rfl) ?_
                                                  refine lv_aload_n hx hb dX12_lifts__429 rfl (lv_at hl 4 rfl) ?_
                                                  refine tw_get hx hb hts bF_X12 hown hK hT hr_o0 shm_0 rfl 66 (by decide) (ht_at hts 16 rfl) (fun _ h9 => h9) dX12_lifts__430 (fun v9 m14357 h9 => ?_)
                                                  obtain ⟨rfl, hg14358⟩ := h9 _ rfl
                                                  refine lv_iload hx hb dX12_lifts__433 (lv_at hl 0 rfl) ?_
                                                  refine tw_iald (i := (nI i14332)) hx hb hK hT hg14358 shm_67 rfl (vp_in_nI (by omega) (by decide)) dX12_lifts__435 (fun v9 m14359 h9 => ?_)
                                                  obtain ⟨x14360, rfl, gx14360, kx14360⟩ := h9
                                                  refine tw_iast (i := (nI i14332)) (x := x14360) hx hb hK hT hG hS hg14356 shm_66 rfl (vp_in_nI (by omega) (by decide)) (gi_all _) dX12_lifts__436 (fun H locs hT oq m14361 oi hS => ?_)
                                                  have hF := hF.ast hg14356 skm_66 oq (by decide)
                                                  have m14362 := (el_kept (oq _ (gne hg3896 hg14356 (by decide)))).trans m14333
                                                  have m14363 := (el_kept (oq _ (gne hg3896 hg14356 (by decide)))).trans m14334
                                                  have m14364 := (el_kept (oq _ (gne hg3896 hg14356 (by decide)))).trans m14335
                                                  refine lv_iinc (v := nI (i14332 + 1)) (lv' := [(8, .int (nI (i14332 + 1))), (7, .int x12696), (6, .int (nI i3918)), (5, .int z83), (0, .ref o0), (1, .int p0), (2, .int p1), (3, .int p2), (4, .int p3)]) hx hb dX12_lifts__437 hl (k := 0) rfl (nI_add i14332 1) (by decide) rfl (fun ls hl => ?_)
                                                  refine lv_goto (tgt := 415) hx hb dX12_lifts__440 (by decide) ?_
                                                  exact ih14349 (i14332 + 1) (by omega) (by omega) _ _ hT hF hS m14362 m14363 m14364 ls (lv_sub hl [0, 1, 2, 3, 4, 5, 6, 7, 8] rfl)
                                              exact key14349 (1001 - 0) 0 (by omega) (Nat.le_refl _) _ _ hT hF hS m14004 m14005 m14006 ls (lv_sub hl [0, 1, 2, 3, 4, 5, 6, 7, 8] rfl)
                                            · have t14366 : ((i14003 : Nat) : Int) < x14329.toInt := ti_nle c14330 rfl (nI_toInt (by omega))
                                              refine lv_iload hx hb dX12_lifts__275 (lv_at hl 1 rfl) ?_
                                              refine lv_istore (lv' := [(9, .int x12696), (8, .int (nI i14003)), (7, .int x12696), (6, .int (nI i3918)), (5, .int z83), (0, .ref o0), (1, .int p0), (2, .int p1), (3, .int p2), (4, .int p3)]) hx hb dX12_lifts__277 hl (by decide) rfl (fun ls hl => ?_)
                                              refine lv_iconst (v := 0) hx hb dX12_lifts__279 (by decide) ?_
                                              refine lv_istore (lv' := [(10, .int 0), (9, .int x12696), (8, .int (nI i14003)), (7, .int x12696), (6, .int (nI i3918)), (5, .int z83), (0, .ref o0), (1, .int p0), (2, .int p1), (3, .int p2), (4, .int p3)]) hx hb dX12_lifts__280 hl (by decide) rfl (fun ls hl => ?_)
                                              have jn14508 : ∀ (z14502 : Int32), ∀ (z14504 : Int32), ((0 ≤ z14502.toInt ∧ z14502.toInt ≤ 5)) → ∀ (H : Heap) (locs : List Loc), gH (dC, dI) kA (SHm q (wP wZ wN wH wB wC wL wK wU wV) PI im PM PT lS lB lE lN) G H → gF (dC, dI) SKm G ([(0, 0), (66, 0), (67, 0), (68, 0)] : List (Nat × Nat)) s.heap H → va_S A s.heap H locs → el H (q 1) (1428 : Int32).toNatClampNeg = some (.int x3898) → el H (q 1) ix10838.toNatClampNeg = some (.int r10835) → el H (q 1) ix12673.toNatClampNeg = some (.int r12668) → ∀ ls : Array Slot, lv_has ls 13 [(10, .int z14502), (9, .int z14504), (8, .int (nI i14003)), (7, .int x12696), (6, .int (nI i3918)), (5, .int z83), (0, .ref o0), (1, .int p0), (2, .int p1), (3, .int p2), (4, .int p3)] → W p l e (headSpec w_s_lifts_ ({ frames := 2, cells := 0, slots := 0, locals := 66 })).room s m #[.ref o0, .int p0, .int p1, .int p2, .int p3] below meth c H locs 0 0 (MQ below (va_Qi (fun (r : Int32) (u : Unit) => (-2147483648 ≤ r.toInt ∧ r.toInt ≤ 999999999)) (fun (_ : Unit) (t : State) => gH (dC, dI) kA (SHm q (wP wZ wN wH wB wC wL wK wU wV) PI im PM PT lS lB lE lN) G t.heap ∧ gF (dC, dI) SKm G ([(0, 0), (66, 0), (67, 0), (68, 0)] : List (Nat × Nat)) s.heap t.heap) A) #[.ref o0, .int p0, .int p1, .int p2, .int p3] s 0 0 A) (F0 m 322 ls []) := by
                                                intro z14502 z14504 h14503 H locs hT hF hS m14505 m14506 m14507 ls hl
                                                refine lv_iload hx hb dX12_lifts__322 (lv_at hl 2 rfl) ?_
                                                have hFc := gA_free hG hA hS
                                                refine va_calli (va_runS (As := [.int (nI i14003)]) (rest := []) ⟨hx, hb, hml, hown, hts⟩ (j_bitCount l dC dI kA adK adV G H q wZ wN wH wB wC wL wK wU wV PI im PM PT lS lB lE lN (nI i14003) hT hgz hgn hgh hgb hgc hgi hgu) (va_cwS 1 hts (goodIn_app (goodIn_r _ [22, 23, 24] rfl (by decide +kernel)) (goodIn_ca (goodIn_r _ [18, 19, 20, 21] rfl (by decide +kernel)) (bs_in _ _))) rfl rfl rfl (by decide +kernel) ⟨(Nat.le_of_ble_eq_true rfl), (Nat.le_of_ble_eq_true rfl)⟩) ⟨fun a U g mk q => by obtain ⟨q0, q1, qK, qE⟩ := q; exact ⟨q0, q1, va_K.moved (u := U) (U := U.calling g mk a) (Vm.Alike.refl U.vm) qK, EVS.blind g mk a qE⟩, fun U hU hW => ⟨rfl, hU, va_K.moved hW.alike hK, hE.call hS hFc hU hW⟩⟩ rfl rfl hl.1 rfl (lv_room (Nat.le_of_ble_eq_true rfl)) dX12_lifts__324 ⟨(Nat.le_of_ble_eq_true rfl), (Nat.le_of_ble_eq_true rfl)⟩) hS (fun q _ h => hFc q h) hFc (fun r14509 u t H locs ht hvm hw14510 hB _ _ hS => ?_)
                                                obtain ⟨hT, hF1⟩ := hB
                                                rw [ht] at hT hF1
                                                have m14511 := (el_kept (hF1.arr hg3896 skm_2 (by decide))).trans m14505
                                                have m14512 := (el_kept (hF1.arr hg3896 skm_2 (by decide))).trans m14506
                                                have m14513 := (el_kept (hF1.arr hg3896 skm_2 (by decide))).trans m14507
                                                have hF := hF.more hF1 (by decide)
                                                try dsimp only at hw14510
                                                refine lv_istore (lv' := [(10, .int r14509), (9, .int z14504), (8, .int (nI i14003)), (7, .int x12696), (6, .int (nI i3918)), (5, .int z83), (0, .ref o0), (1, .int p0), (2, .int p1), (3, .int p2), (4, .int p3)]) hx hb dX12_lifts__327 hl (by decide) rfl (fun ls hl => ?_)
                                                refine lv_iconst (v := 0) hx hb dX12_lifts__329 (by decide) ?_
                                                refine lv_istore (lv' := [(11, .int 0), (10, .int r14509), (9, .int z14504), (8, .int (nI i14003)), (7, .int x12696), (6, .int (nI i3918)), (5, .int z83), (0, .ref o0), (1, .int p0), (2, .int p1), (3, .int p2), (4, .int p3)]) hx hb dX12_lifts__330 hl (by decide) rfl (fun ls hl => ?_)
                                                have key14553 : ∀ (n14553 i14514 : Nat), i14514 + n14553 = 1001 → 0 ≤ i14514 → ∀ (H : Heap) (locs : List Loc), gH (dC, dI) kA (SHm q (wP wZ wN wH wB wC wL wK wU wV) PI im PM PT lS lB lE lN) G H → gF (dC, dI) SKm G ([(0, 0), (66, 0), (67, 0), (68, 0)] : List (Nat × Nat)) s.heap H → va_S A s.heap H locs → el H (q 1) (1428 : Int32).toNatClampNeg = some (.int x3898) → el H (q 1) ix10838.toNatClampNeg = some (.int r10835) → el H (q 1) ix12673.toNatClampNeg = some (.int r12668) → ∀ ls : Array Slot, lv_has ls 13 [(11, .int (nI i14514)), (10, .int r14509), (9, .int z14504), (8, .int (nI i14003)), (7, .int x12696), (6, .int (nI i3918)), (5, .int z83), (0, .ref o0), (1, .int p0), (2, .int p1), (3, .int p2), (4, .int p3)] → W p l e (headSpec w_s_lifts_ ({ frames := 2, cells := 0, slots := 0, locals := 66 })).room s m #[.ref o0, .int p0, .int p1, .int p2, .int p3] below meth c H locs 0 0 (MQ below (va_Qi (fun (r : Int32) (u : Unit) => (-2147483648 ≤ r.toInt ∧ r.toInt ≤ 999999999)) (fun (_ : Unit) (t : State) => gH (dC, dI) kA (SHm q (wP wZ wN wH wB wC wL wK wU wV) PI im PM PT lS lB lE lN) G t.heap ∧ gF (dC, dI) SKm G ([(0, 0), (66, 0), (67, 0), (68, 0)] : List (Nat × Nat)) s.heap t.heap) A) #[.ref o0, .int p0, .int p1, .int p2, .int p3] s 0 0 A) (F0 m 332 ls []) := by
                                                  intro n14553
                                                  induction n14553 with
                                                  | zero =>
                                                    intro i14514 hn14553 hlo14554  H locs hT hF hS m14515 m14516 m14517 ls hl
                                                    obtain rfl : 1001 = i14514 := by omega
                                                    refine lv_iload hx hb dX12_lifts__332 (lv_at hl 0 rfl) ?_
                                                    refine lv_sipush (v := 1001) hx hb dX12_lifts__334 (by decide) ?_
                                                    refine lv_icmp_ge (tgt := 406) hx hb dX12_lifts__337 (by decide) (fun c14555 => ?_) (fun c14555 => (by exfalso; have q9 : ((1001 : Nat) : Int) < 1001 := ti_nle c14555 (by decide) (nI_toInt (by omega)); omega))
                                                    have t14556 : 1001 ≤ ((1001 : Nat) : Int) := ti_le c14555 (by decide) (nI_toInt (by omega))
                                                    refine lv_iinc (v := nI (i14003 + 1)) (lv' := [(8, .int (nI (i14003 + 1))), (11, .int (nI 1001)), (10, .int r14509), (9, .int z14504), (7, .int x12696), (6, .int (nI i3918)), (5, .int z83), (0, .ref o0), (1, .int p0), (2, .int p1), (3, .int p2), (4, .int p3)]) hx hb dX12_lifts__406 hl (k := 3) rfl (nI_add i14003 1) (by decide) rfl (fun ls hl => ?_)
                                                    refine lv_goto (tgt := 266) hx hb dX12_lifts__409 (by decide) ?_
                                                    exact ih14290 (i14003 + 1) (by omega) (by omega) _ _ hT hF hS m14515 m14516 m14517 ls (lv_sub hl [0, 4, 5, 6, 7, 8, 9, 10, 11] rfl)
                                                  | succ n14553 ih14553 =>
                                                    intro i14514 hn14553 hlo14554  H locs hT hF hS m14515 m14516 m14517 ls hl
                                                    have hlt14556 : i14514 < 1001 := by omega
                                                    refine lv_iload hx hb dX12_lifts__332 (lv_at hl 0 rfl) ?_
                                                    refine lv_sipush (v := 1001) hx hb dX12_lifts__334 (by decide) ?_
                                                    refine lv_icmp_ge (tgt := 406) hx hb dX12_lifts__337 (by decide) (fun c14557 => (by exfalso; have q9 : 1001 ≤ ((i14514 : Nat) : Int) := ti_le c14557 (by decide) (nI_toInt (by omega)); omega)) (fun c14557 => ?_)
                                                    have t14558 : ((i14514 : Nat) : Int) < 1001 := ti_nle c14557 (by decide) (nI_toInt (by omega))
                                                    refine lv_iconst (v := 0) hx hb dX12_lifts__340 (by decide) ?_
                                                    refine lv_iload hx hb dX12_lifts__341 (lv_at hl 0 rfl) ?_
                                                    refine lv_iload_n hx hb dX12_lifts__343 rfl (lv_at hl 9 rfl) ?_
                                                    refine lv_iadd hx hb dX12_lifts__344 ?_
                                                    refine lv_topi (fun x14559 ex14559 => ?_)
                                                    have t14560 : x14559.toInt = ((i14514 : Nat) : Int) + p1.toInt := ti_add ex14559 (nI_toInt (by omega)) rfl (by omega) (by omega)
                                                    refine lv_iload hx hb dX12_lifts__345 (lv_at hl 2 rfl) ?_
                                                    refine lv_isub hx hb dX12_lifts__347 ?_
                                                    refine lv_topi (fun x14561 ex14561 => ?_)
                                                    refine va_mmax hx hb (hml.trans hl.1.symm) hown (ht_at hts 24 rfl) (ht_at hts 25 rfl) (ht_at hts 14 rfl) (ht_at hts 26 rfl) (Nat.le_of_ble_eq_true rfl) (Nat.le_of_ble_eq_true rfl) (Nat.le_of_ble_eq_true rfl) (Nat.le_of_ble_eq_true rfl) dX12_lifts__348 ?_
                                                    refine lv_topi (fun x14562 ex14562 => ?_)
                                                    have t14563 : 0 ≤ x14562.toInt ∧ x14561.toInt ≤ x14562.toInt ∧ (x14562.toInt = 0 ∨ x14562.toInt = x14561.toInt) := mx_f ex14562 (by decide) rfl
                                                    refine lv_istore (lv' := [(12, .int x14562), (11, .int (nI i14514)), (10, .int r14509), (9, .int z14504), (8, .int (nI i14003)), (7, .int x12696), (6, .int (nI i3918)), (5, .int z83), (0, .ref o0), (1, .int p0), (2, .int p1), (3, .int p2), (4, .int p3)]) hx hb dX12_lifts__351 hl (by decide) rfl (fun ls hl => ?_)
                                                    refine lv_aload_n hx hb dX12_lifts__353 rfl (lv_at hl 8 rfl) ?_
                                                    refine tw_get hx hb hts bF_X12 hown hK hT hr_o0 shm_0 rfl 65 (by decide) (ht_at hts 11 rfl) (fun _ h9 => h9) dX12_lifts__354 (fun v9 m14564 h9 => ?_)
                                                    obtain ⟨rfl, hg14565⟩ := h9 _ rfl
                                                    refine lv_iload hx hb dX12_lifts__357 (lv_at hl 1 rfl) ?_
                                                    refine tw_iald (i := (nI i14514)) hx hb hK hT hg14565 shm_66 rfl (vp_in_nI (by omega) (by decide)) dX12_lifts__359 (fun v9 m14566 h9 => ?_)
                                                    obtain ⟨x14567, rfl, gx14567, kx14567⟩ := h9
                                                    refine lv_ldcw (v := 1000000000) hx hb hown (ht_at hts 10 rfl) dX12_lifts__360 ?_
                                                    refine lv_icmp_ge (tgt := 400) hx hb dX12_lifts__363 (by decide) (fun c14568 => ?_) (fun c14568 => ?_)
                                                    · have t14569 : 1000000000 ≤ x14567.toInt := ti_le c14568 (by decide) rfl
                                                      refine lv_iinc (v := nI (i14514 + 1)) (lv' := [(11, .int (nI (i14514 + 1))), (12, .int x14562), (10, .int r14509), (9, .int z14504), (8, .int (nI i14003)), (7, .int x12696), (6, .int (nI i3918)), (5, .int z83), (0, .ref o0), (1, .int p0), (2, .int p1), (3, .int p2), (4, .int p3)]) hx hb dX12_lifts__400 hl (k := 1) rfl (nI_add i14514 1) (by decide) rfl (fun ls hl => ?_)
                                                      refine lv_goto (tgt := 332) hx hb dX12_lifts__403 (by decide) ?_
                                                      exact ih14553 (i14514 + 1) (by omega) (by omega) _ _ hT hF hS m14515 m14516 m14517 ls (lv_sub hl [0, 2, 3, 4, 5, 6, 7, 8, 9, 10, 11, 12] rfl)
                                                    · have t14570 : x14567.toInt < 1000000000 := ti_nle c14568 (by decide) rfl
                                                      refine lv_iload hx hb dX12_lifts__366 (lv_at hl 0 rfl) ?_
                                                      refine lv_iload hx hb dX12_lifts__368 (lv_at hl 12 rfl) ?_
                                                      refine lv_icmp_gt (tgt := 400) hx hb dX12_lifts__370 (by decide) (fun c14571 => ?_) (fun c14571 => ?_)
                                                      · have t14572 : p3.toInt < x14562.toInt := ti_lt c14571 rfl rfl
                                                        refine lv_iinc (v := nI (i14514 + 1)) (lv' := [(11, .int (nI (i14514 + 1))), (12, .int x14562), (10, .int r14509), (9, .int z14504), (8, .int (nI i14003)), (7, .int x12696), (6, .int (nI i3918)), (5, .int z83), (0, .ref o0), (1, .int p0), (2, .int p1), (3, .int p2), (4, .int p3)]) hx hb dX12_lifts__400 hl (k := 1) rfl (nI_add i14514 1) (by decide) rfl (fun ls hl => ?_)
                                                        refine lv_goto (tgt := 332) hx hb dX12_lifts__403 (by decide) ?_
                                                        exact ih14553 (i14514 + 1) (by omega) (by omega) _ _ hT hF hS m14515 m14516 m14517 ls (lv_sub hl [0, 2, 3, 4, 5, 6, 7, 8, 9, 10, 11, 12] rfl)
                                                      · have t14573 : x14562.toInt ≤ p3.toInt := ti_nlt c14571 rfl rfl
                                                        refine lv_aload_n hx hb dX12_lifts__373 rfl (lv_at hl 8 rfl) ?_
                                                        refine tw_get hx hb hts bF_X12 hown hK hT hr_o0 shm_0 rfl 66 (by decide) (ht_at hts 16 rfl) (fun _ h9 => h9) dX12_lifts__374 (fun v9 m14574 h9 => ?_)
                                                        obtain ⟨rfl, hg14575⟩ := h9 _ rfl
                                                        refine lv_iload hx hb dX12_lifts__377 (lv_at hl 0 rfl) ?_
                                                        refine lv_aload_n hx hb dX12_lifts__379 rfl (lv_at hl 8 rfl) ?_
                                                        refine tw_get hx hb hts bF_X12 hown hK hT hr_o0 shm_0 rfl 66 (by decide) (ht_at hts 16 rfl) (fun _ h9 => h9) dX12_lifts__380 (fun v9 m14576 h9 => ?_)
                                                        obtain ⟨rfl, hg14577⟩ := h9 _ rfl
                                                        refine lv_iload hx hb dX12_lifts__383 (lv_at hl 0 rfl) ?_
                                                        refine tw_iald (i := x14562) hx hb hK hT hg14575 shm_67 rfl (vin_t (a := x14562.toInt) rfl (by omega) (by omega)) dX12_lifts__385 (fun v9 m14578 h9 => ?_)
                                                        obtain ⟨x14579, rfl, gx14579, kx14579⟩ := h9
                                                        refine lv_aload_n hx hb dX12_lifts__386 rfl (lv_at hl 8 rfl) ?_
                                                        refine tw_get hx hb hts bF_X12 hown hK hT hr_o0 shm_0 rfl 65 (by decide) (ht_at hts 11 rfl) (fun _ h9 => h9) dX12_lifts__387 (fun v9 m14580 h9 => ?_)
                                                        obtain ⟨rfl, hg14581⟩ := h9 _ rfl
                                                        refine lv_iload hx hb dX12_lifts__390 (lv_at hl 1 rfl) ?_
                                                        refine tw_iald (i := (nI i14514)) hx hb hK hT hg14565 shm_66 rfl (vp_in_nI (by omega) (by decide)) dX12_lifts__392 (fun v9 m14582 h9 => ?_)
                                                        obtain ⟨x14583, rfl, gx14583, kx14583⟩ := h9
                                                        obtain rfl : x14567 = x14583 := (el_same m14582 m14566 rfl).symm
                                                        refine lv_iload hx hb dX12_lifts__393 (lv_at hl 2 rfl) ?_
                                                        refine lv_iadd hx hb dX12_lifts__395 ?_
                                                        refine lv_topi (fun x14584 ex14584 => ?_)
                                                        refine va_mmin hx hb (hml.trans hl.1.symm) hown (ht_at hts 12 rfl) (ht_at hts 13 rfl) (ht_at hts 14 rfl) (ht_at hts 15 rfl) (Nat.le_of_ble_eq_true rfl) (Nat.le_of_ble_eq_true rfl) (Nat.le_of_ble_eq_true rfl) (Nat.le_of_ble_eq_true rfl) dX12_lifts__396 ?_
                                                        refine lv_topi (fun x14585 ex14585 => ?_)
                                                        have t14586 : x14585.toInt ≤ x14579.toInt ∧ x14585.toInt ≤ x14584.toInt ∧ (x14585.toInt = x14579.toInt ∨ x14585.toInt = x14584.toInt) := mn_f ex14585 rfl rfl
                                                        refine tw_iast (i := x14562) (x := x14585) hx hb hK hT hG hS hg14575 shm_67 rfl (vin_t (a := x14562.toInt) rfl (by omega) (by omega)) (gi_all _) dX12_lifts__399 (fun H locs hT oq m14587 oi hS => ?_)
                                                        have hF := hF.ast hg14575 skm_67 oq (by decide)
                                                        have m14588 := (el_kept (oq _ (gne hg3896 hg14575 (by decide)))).trans m14515
                                                        have m14589 := (el_kept (oq _ (gne hg3896 hg14575 (by decide)))).trans m14516
                                                        have m14590 := (el_kept (oq _ (gne hg3896 hg14575 (by decide)))).trans m14517
                                                        refine lv_iinc (v := nI (i14514 + 1)) (lv' := [(11, .int (nI (i14514 + 1))), (12, .int x14562), (10, .int r14509), (9, .int z14504), (8, .int (nI i14003)), (7, .int x12696), (6, .int (nI i3918)), (5, .int z83), (0, .ref o0), (1, .int p0), (2, .int p1), (3, .int p2), (4, .int p3)]) hx hb dX12_lifts__400 hl (k := 1) rfl (nI_add i14514 1) (by decide) rfl (fun ls hl => ?_)
                                                        refine lv_goto (tgt := 332) hx hb dX12_lifts__403 (by decide) ?_
                                                        exact ih14553 (i14514 + 1) (by omega) (by omega) _ _ hT hF hS m14588 m14589 m14590 ls (lv_sub hl [0, 2, 3, 4, 5, 6, 7, 8, 9, 10, 11, 12] rfl)
                                                exact key14553 (1001 - 0) 0 (by omega) (Nat.le_refl _) _ _ hT hF hS m14511 m14512 m14513 ls (lv_sub hl [0, 1, 2, 3, 4, 5, 6, 7, 8, 9, 10, 11] rfl)
                                              have key14592 : ∀ (n14592 i14367 : Nat), i14367 + n14592 = 5 → 0 ≤ i14367 → ∀ (z14368 : Int32), ∀ (H : Heap) (locs : List Loc), gH (dC, dI) kA (SHm q (wP wZ wN wH wB wC wL wK wU wV) PI im PM PT lS lB lE lN) G H → gF (dC, dI) SKm G ([(0, 0), (66, 0), (67, 0), (68, 0)] : List (Nat × Nat)) s.heap H → va_S A s.heap H locs → el H (q 1) (1428 : Int32).toNatClampNeg = some (.int x3898) → el H (q 1) ix10838.toNatClampNeg = some (.int r10835) → el H (q 1) ix12673.toNatClampNeg = some (.int r12668) → ∀ ls : Array Slot, lv_has ls 13 [(10, .int (nI i14367)), (9, .int z14368), (8, .int (nI i14003)), (7, .int x12696), (6, .int (nI i3918)), (5, .int z83), (0, .ref o0), (1, .int p0), (2, .int p1), (3, .int p2), (4, .int p3)] → W p l e (headSpec w_s_lifts_ ({ frames := 2, cells := 0, slots := 0, locals := 66 })).room s m #[.ref o0, .int p0, .int p1, .int p2, .int p3] below meth c H locs 0 0 (MQ below (va_Qi (fun (r : Int32) (u : Unit) => (-2147483648 ≤ r.toInt ∧ r.toInt ≤ 999999999)) (fun (_ : Unit) (t : State) => gH (dC, dI) kA (SHm q (wP wZ wN wH wB wC wL wK wU wV) PI im PM PT lS lB lE lN) G t.heap ∧ gF (dC, dI) SKm G ([(0, 0), (66, 0), (67, 0), (68, 0)] : List (Nat × Nat)) s.heap t.heap) A) #[.ref o0, .int p0, .int p1, .int p2, .int p3] s 0 0 A) (F0 m 282 ls []) := by
                                                intro n14592
                                                induction n14592 with
                                                | zero =>
                                                  intro i14367 hn14592 hlo14593 z14368 H locs hT hF hS m14369 m14370 m14371 ls hl
                                                  obtain rfl : 5 = i14367 := by omega
                                                  refine lv_iload hx hb dX12_lifts__282 (lv_at hl 0 rfl) ?_
                                                  refine lv_iload hx hb dX12_lifts__284 (lv_at hl 5 rfl) ?_
                                                  refine lv_icmp_ge (tgt := 322) hx hb dX12_lifts__286 (by decide) (fun c14594 => ?_) (fun c14594 => (by exfalso; have q9 : ((5 : Nat) : Int) < z83.toInt := ti_nle c14594 rfl (nI_toInt (by omega)); omega))
                                                  have t14595 : z83.toInt ≤ ((5 : Nat) : Int) := ti_le c14594 rfl (nI_toInt (by omega))
                                                  exact jn14508 (nI 5) z14368 (rg_t (a := ((5 : Nat) : Int)) (nI_toInt (by omega)) (by omega) (by omega)) _ _ hT hF hS m14369 m14370 m14371 ls (lv_sub hl [0, 1, 2, 3, 4, 5, 6, 7, 8, 9, 10] rfl)
                                                | succ n14592 ih14592 =>
                                                  intro i14367 hn14592 hlo14593 z14368 H locs hT hF hS m14369 m14370 m14371 ls hl
                                                  have hlt14595 : i14367 < 5 := by omega
                                                  refine lv_iload hx hb dX12_lifts__282 (lv_at hl 0 rfl) ?_
                                                  refine lv_iload hx hb dX12_lifts__284 (lv_at hl 5 rfl) ?_
                                                  refine lv_icmp_ge (tgt := 322) hx hb dX12_lifts__286 (by decide) (fun c14596 => ?_) (fun c14596 => ?_)
                                                  · have t14597 : z83.toInt ≤ ((i14367 : Nat) : Int) := ti_le c14596 rfl (nI_toInt (by omega))
                                                    exact jn14508 (nI i14367) z14368 (rg_t (a := ((i14367 : Nat) : Int)) (nI_toInt (by omega)) (by omega) (by omega)) _ _ hT hF hS m14369 m14370 m14371 ls (lv_sub hl [0, 1, 2, 3, 4, 5, 6, 7, 8, 9, 10] rfl)
                                                  · have t14598 : ((i14367 : Nat) : Int) < z83.toInt := ti_nle c14596 rfl (nI_toInt (by omega))
                                                    refine lv_iload hx hb dX12_lifts__289 (lv_at hl 1 rfl) ?_
                                                    refine lv_iload hx hb dX12_lifts__291 (lv_at hl 2 rfl) ?_
                                                    refine lv_iload hx hb dX12_lifts__293 (lv_at hl 0 rfl) ?_
                                                    refine lv_ishr hx hb dX12_lifts__295 ?_
                                                    refine lv_topi (fun x14599 ex14599 => ?_)
                                                    refine lv_iconst (v := 1) hx hb dX12_lifts__296 (by decide) ?_
                                                    refine lv_iand hx hb dX12_lifts__297 ?_
                                                    refine lv_topi (fun x14600 ex14600 => ?_)
                                                    refine lv_iconst (v := 1) hx hb dX12_lifts__298 (by decide) ?_
                                                    refine lv_icmp_ne (tgt := 312) hx hb dX12_lifts__299 (by decide) (fun c14601 => ?_) (fun c14601 => ?_)
                                                    · have t14602 : x14600.toInt ≠ 1 := ti_ne c14601 rfl (by decide)
                                                      refine lv_iconst (v := 0) hx hb dX12_lifts__312 (by decide) ?_
                                                      refine lv_iadd hx hb dX12_lifts__313 ?_
                                                      refine lv_topi (fun x14603 ex14603 => ?_)
                                                      have t14604 : -2147483648 ≤ z14368.toInt ∧ z14368.toInt ≤ 2147483647 := ti_all z14368
                                                      have t14605 : x14603.toInt = z14368.toInt + 0 := ti_add ex14603 rfl (by decide) (by omega) (by omega)
                                                      refine lv_istore (lv' := [(9, .int x14603), (10, .int (nI i14367)), (8, .int (nI i14003)), (7, .int x12696), (6, .int (nI i3918)), (5, .int z83), (0, .ref o0), (1, .int p0), (2, .int p1), (3, .int p2), (4, .int p3)]) hx hb dX12_lifts__314 hl (by decide) rfl (fun ls hl => ?_)
                                                      refine lv_iinc (v := nI (i14367 + 1)) (lv' := [(10, .int (nI (i14367 + 1))), (9, .int x14603), (8, .int (nI i14003)), (7, .int x12696), (6, .int (nI i3918)), (5, .int z83), (0, .ref o0), (1, .int p0), (2, .int p1), (3, .int p2), (4, .int p3)]) hx hb dX12_lifts__316 hl (k := 1) rfl (nI_add i14367 1) (by decide) rfl (fun ls hl => ?_)
                                                      refine lv_goto (tgt := 282) hx hb dX12_lifts__319 (by decide) ?_
                                                      exact ih14592 (i14367 + 1) (by omega) (by omega) x14603 _ _ hT hF hS m14369 m14370 m14371 ls (lv_sub hl [0, 1, 2, 3, 4, 5, 6, 7, 8, 9, 10] rfl)
                                                    · have t14606 : x14600.toInt = 1 := ti_eq c14601 rfl (by decide)
                                                      refine lv_aload_n hx hb dX12_lifts__302 rfl (lv_at hl 6 rfl) ?_
                                                      refine tw_get hx hb hts bF_X12 hown hK hT hr_o0 shm_0 rfl 67 (by decide) (ht_at hts 46 rfl) (fun _ h9 => h9) dX12_lifts__303 (fun v9 m14607 h9 => ?_)
                                                      obtain ⟨rfl, hg14608⟩ := h9 _ rfl
                                                      refine lv_iload hx hb dX12_lifts__306 (lv_at hl 0 rfl) ?_
                                                      refine tw_iald (i := (nI i14367)) hx hb hK hT hg14608 shm_68 rfl (vp_in_nI (by omega) (by decide)) dX12_lifts__308 (fun v9 m14609 h9 => ?_)
                                                      obtain ⟨x14610, rfl, gx14610, kx14610⟩ := h9
                                                      refine lv_goto (tgt := 313) hx hb dX12_lifts__309 (by decide) ?_
                                                      refine lv_iadd hx hb dX12_lifts__313 ?_
                                                      refine lv_topi (fun x14611 ex14611 => ?_)
                                                      refine lv_istore (lv' := [(9, .int x14611), (10, .int (nI i14367)), (8, .int (nI i14003)), (7, .int x12696), (6, .int (nI i3918)), (5, .int z83), (0, .ref o0), (1, .int p0), (2, .int p1), (3, .int p2), (4, .int p3)]) hx hb dX12_lifts__314 hl (by decide) rfl (fun ls hl => ?_)
                                                      refine lv_iinc (v := nI (i14367 + 1)) (lv' := [(10, .int (nI (i14367 + 1))), (9, .int x14611), (8, .int (nI i14003)), (7, .int x12696), (6, .int (nI i3918)), (5, .int z83), (0, .ref o0), (1, .int p0), (2, .int p1), (3, .int p2), (4, .int p3)]) hx hb dX12_lifts__316 hl (k := 1) rfl (nI_add i14367 1) (by decide) rfl (fun ls hl => ?_)
                                                      refine lv_goto (tgt := 282) hx hb dX12_lifts__319 (by decide) ?_
                                                      exact ih14592 (i14367 + 1) (by omega) (by omega) x14611 _ _ hT hF hS m14369 m14370 m14371 ls (lv_sub hl [0, 1, 2, 3, 4, 5, 6, 7, 8, 9, 10] rfl)
                                              exact key14592 (5 - 0) 0 (by omega) (Nat.le_refl _) x12696 _ _ hT hF hS m14004 m14005 m14006 ls (lv_sub hl [0, 1, 2, 3, 4, 5, 6, 7, 8, 9, 10] rfl)
                                        exact key14290 (2147483647 - 0) 0 (by omega) (Nat.le_refl _) _ _ hT hF hS m13988 m13989 m13990 ls (lv_sub hl [0, 1, 2, 3, 4, 5, 6, 7, 8] rfl)
                                      | succ n13999 ih13999 =>
                                        intro i13987 hn13999 hlo14000  H locs hT hF hS m13988 m13989 m13990 ls hl
                                        have hlt14611 : i13987 < 1001 := by omega
                                        refine lv_iload hx hb dX12_lifts__239 (lv_at hl 0 rfl) ?_
                                        refine lv_sipush (v := 1001) hx hb dX12_lifts__241 (by decide) ?_
                                        refine lv_icmp_ge (tgt := 263) hx hb dX12_lifts__244 (by decide) (fun c14612 => (by exfalso; have q9 : 1001 ≤ ((i13987 : Nat) : Int) := ti_le c14612 (by decide) (nI_toInt (by omega)); omega)) (fun c14612 => ?_)
                                        have t14613 : ((i13987 : Nat) : Int) < 1001 := ti_nle c14612 (by decide) (nI_toInt (by omega))
                                        refine lv_aload_n hx hb dX12_lifts__247 rfl (lv_at hl 4 rfl) ?_
                                        refine tw_get hx hb hts bF_X12 hown hK hT hr_o0 shm_0 rfl 66 (by decide) (ht_at hts 16 rfl) (fun _ h9 => h9) dX12_lifts__248 (fun v9 m14614 h9 => ?_)
                                        obtain ⟨rfl, hg14615⟩ := h9 _ rfl
                                        refine lv_iload hx hb dX12_lifts__251 (lv_at hl 0 rfl) ?_
                                        refine lv_ldcw (v := 1000000000) hx hb hown (ht_at hts 10 rfl) dX12_lifts__253 ?_
                                        refine tw_iast (i := (nI i13987)) (x := 1000000000) hx hb hK hT hG hS hg14615 shm_67 rfl (vp_in_nI (by omega) (by decide)) (gi_all _) dX12_lifts__256 (fun H locs hT oq m14616 oi hS => ?_)
                                        have hF := hF.ast hg14615 skm_67 oq (by decide)
                                        have m14617 := (el_kept (oq _ (gne hg3896 hg14615 (by decide)))).trans m13988
                                        have m14618 := (el_kept (oq _ (gne hg3896 hg14615 (by decide)))).trans m13989
                                        have m14619 := (el_kept (oq _ (gne hg3896 hg14615 (by decide)))).trans m13990
                                        refine lv_iinc (v := nI (i13987 + 1)) (lv' := [(8, .int (nI (i13987 + 1))), (7, .int x12696), (6, .int (nI i3918)), (5, .int z83), (0, .ref o0), (1, .int p0), (2, .int p1), (3, .int p2), (4, .int p3)]) hx hb dX12_lifts__257 hl (k := 0) rfl (nI_add i13987 1) (by decide) rfl (fun ls hl => ?_)
                                        refine lv_goto (tgt := 239) hx hb dX12_lifts__260 (by decide) ?_
                                        exact ih13999 (i13987 + 1) (by omega) (by omega) _ _ hT hF hS m14617 m14618 m14619 ls (lv_sub hl [0, 1, 2, 3, 4, 5, 6, 7, 8] rfl)
                                    exact key13999 (1001 - 0) 0 (by omega) (Nat.le_refl _) _ _ hT hF hS m12698 m12699 m12700 ls (lv_sub hl [0, 1, 2, 3, 4, 5, 6, 7, 8] rfl)
                                exact key13340 (30 - (29 + 1)) (29 + 1) (by omega) (Nat.le_refl _) _ _ hT hF hS m12688 m12689 m12690 ls (lv_sub hl [0, 1, 2, 3, 4, 5, 6, 7, 8] rfl)
                          | succ n10259 ih10259 =>
                            intro i9643 hn10259 hlo10260 z9644 H locs hT hF hS m9645 ls hl
                            have hlt14619 : i9643 < 29 := by omega
                            refine lv_iload hx hb dX12_lifts__178 (lv_at hl 0 rfl) ?_
                            refine lv_aload_n hx hb dX12_lifts__180 rfl (lv_at hl 4 rfl) ?_
                            refine tw_get hx hb hts bF_X12 hown hK hT hr_o0 shm_0 rfl 1 (by decide) (ht_at hts 9 rfl) (fun _ h9 => h9) dX12_lifts__181 (fun v9 m14620 h9 => ?_)
                            obtain ⟨rfl, hg14621⟩ := h9 _ rfl
                            refine lv_sipush (v := 1428) hx hb dX12_lifts__184 (by decide) ?_
                            refine tw_iald (i := 1428) hx hb hK hT hg3896 shm_2 rfl (by unfold vp_in; decide) dX12_lifts__187 (fun v9 m14622 h9 => ?_)
                            obtain ⟨x14623, rfl, gx14623, kx14623⟩ := (gp_at h9 (w_wct (by have q9 := tn_of (show (1428 : Int32).toInt = 1428 from (by decide)) (show (0 : Int) ≤ 1428 from by omega); omega)))
                            obtain rfl : x3898 = x14623 := (el_same m14622 m9645 rfl).symm
                            refine lv_icmp_ge (tgt := 236) hx hb dX12_lifts__188 (by decide) (fun c14624 => ?_) (fun c14624 => ?_)
                            · have t14625 : x3898.toInt ≤ ((i9643 : Nat) : Int) := ti_le c14624 rfl (nI_toInt (by omega))
                              refine lv_iconst (v := 0) hx hb dX12_lifts__236 (by decide) ?_
                              refine lv_istore (lv' := [(8, .int 0), (7, .int z9644), (6, .int (nI i3918)), (5, .int z83), (0, .ref o0), (1, .int p0), (2, .int p1), (3, .int p2), (4, .int p3)]) hx hb dX12_lifts__237 hl (by decide) rfl (fun ls hl => ?_)
                              have key14634 : ∀ (n14634 i14626 : Nat), i14626 + n14634 = 1001 → 0 ≤ i14626 → ∀ (H : Heap) (locs : List Loc), gH (dC, dI) kA (SHm q (wP wZ wN wH wB wC wL wK wU wV) PI im PM PT lS lB lE lN) G H → gF (dC, dI) SKm G ([(0, 0), (66, 0), (67, 0), (68, 0)] : List (Nat × Nat)) s.heap H → va_S A s.heap H locs → el H (q 1) (1428 : Int32).toNatClampNeg = some (.int x3898) → ∀ ls : Array Slot, lv_has ls 13 [(8, .int (nI i14626)), (7, .int z9644), (6, .int (nI i3918)), (5, .int z83), (0, .ref o0), (1, .int p0), (2, .int p1), (3, .int p2), (4, .int p3)] → W p l e (headSpec w_s_lifts_ ({ frames := 2, cells := 0, slots := 0, locals := 66 })).room s m #[.ref o0, .int p0, .int p1, .int p2, .int p3] below meth c H locs 0 0 (MQ below (va_Qi (fun (r : Int32) (u : Unit) => (-2147483648 ≤ r.toInt ∧ r.toInt ≤ 999999999)) (fun (_ : Unit) (t : State) => gH (dC, dI) kA (SHm q (wP wZ wN wH wB wC wL wK wU wV) PI im PM PT lS lB lE lN) G t.heap ∧ gF (dC, dI) SKm G ([(0, 0), (66, 0), (67, 0), (68, 0)] : List (Nat × Nat)) s.heap t.heap) A) #[.ref o0, .int p0, .int p1, .int p2, .int p3] s 0 0 A) (F0 m 239 ls []) := by
                                intro n14634
                                induction n14634 with
                                | zero =>
                                  intro i14626 hn14634 hlo14635  H locs hT hF hS m14627 ls hl
                                  obtain rfl : 1001 = i14626 := by omega
                                  refine lv_iload hx hb dX12_lifts__239 (lv_at hl 0 rfl) ?_
                                  refine lv_sipush (v := 1001) hx hb dX12_lifts__241 (by decide) ?_
                                  refine lv_icmp_ge (tgt := 263) hx hb dX12_lifts__244 (by decide) (fun c14636 => ?_) (fun c14636 => (by exfalso; have q9 : ((1001 : Nat) : Int) < 1001 := ti_nle c14636 (by decide) (nI_toInt (by omega)); omega))
                                  have t14637 : 1001 ≤ ((1001 : Nat) : Int) := ti_le c14636 (by decide) (nI_toInt (by omega))
                                  refine lv_iconst (v := 0) hx hb dX12_lifts__263 (by decide) ?_
                                  refine lv_istore (lv' := [(8, .int 0), (7, .int z9644), (6, .int (nI i3918)), (5, .int z83), (0, .ref o0), (1, .int p0), (2, .int p1), (3, .int p2), (4, .int p3)]) hx hb dX12_lifts__264 hl (by decide) rfl (fun ls hl => ?_)
                                  have key14897 : ∀ (n14897 i14638 : Nat), i14638 + n14897 = 2147483647 → 0 ≤ i14638 → ∀ (H : Heap) (locs : List Loc), gH (dC, dI) kA (SHm q (wP wZ wN wH wB wC wL wK wU wV) PI im PM PT lS lB lE lN) G H → gF (dC, dI) SKm G ([(0, 0), (66, 0), (67, 0), (68, 0)] : List (Nat × Nat)) s.heap H → va_S A s.heap H locs → el H (q 1) (1428 : Int32).toNatClampNeg = some (.int x3898) → ∀ ls : Array Slot, lv_has ls 13 [(8, .int (nI i14638)), (7, .int z9644), (6, .int (nI i3918)), (5, .int z83), (0, .ref o0), (1, .int p0), (2, .int p1), (3, .int p2), (4, .int p3)] → W p l e (headSpec w_s_lifts_ ({ frames := 2, cells := 0, slots := 0, locals := 66 })).room s m #[.ref o0, .int p0, .int p1, .int p2, .int p3] below meth c H locs 0 0 (MQ below (va_Qi (fun (r : Int32) (u : Unit) => (-2147483648 ≤ r.toInt ∧ r.toInt ≤ 999999999)) (fun (_ : Unit) (t : State) => gH (dC, dI) kA (SHm q (wP wZ wN wH wB wC wL wK wU wV) PI im PM PT lS lB lE lN) G t.heap ∧ gF (dC, dI) SKm G ([(0, 0), (66, 0), (67, 0), (68, 0)] : List (Nat × Nat)) s.heap t.heap) A) #[.ref o0, .int p0, .int p1, .int p2, .int p3] s 0 0 A) (F0 m 266 ls []) := by
                                    intro n14897
                                    induction n14897 with
                                    | zero =>
                                      intro i14638 hn14897 hlo14898  H locs hT hF hS m14639 ls hl
                                      obtain rfl : 2147483647 = i14638 := by omega
                                      refine lv_iload hx hb dX12_lifts__266 (lv_at hl 0 rfl) ?_
                                      refine lv_iconst (v := 1) hx hb dX12_lifts__268 (by decide) ?_
                                      refine lv_iload hx hb dX12_lifts__269 (lv_at hl 3 rfl) ?_
                                      refine lv_ishl hx hb dX12_lifts__271 ?_
                                      refine lv_topi (fun x14899 ex14899 => ?_)
                                      refine lv_icmp_ge (tgt := 412) hx hb dX12_lifts__272 (by decide) (fun c14900 => ?_) (fun c14900 => (by exfalso; have q9 : ((2147483647 : Nat) : Int) < x14899.toInt := ti_nle c14900 rfl (nI_toInt (by omega)); have := ti_all x14899; omega))
                                      have t14901 : x14899.toInt ≤ ((2147483647 : Nat) : Int) := ti_le c14900 rfl (nI_toInt (by omega))
                                      refine lv_iconst (v := 0) hx hb dX12_lifts__412 (by decide) ?_
                                      refine lv_istore (lv' := [(8, .int 0), (7, .int z9644), (6, .int (nI i3918)), (5, .int z83), (0, .ref o0), (1, .int p0), (2, .int p1), (3, .int p2), (4, .int p3)]) hx hb dX12_lifts__413 hl (by decide) rfl (fun ls hl => ?_)
                                      have key14915 : ∀ (n14915 i14902 : Nat), i14902 + n14915 = 1001 → 0 ≤ i14902 → ∀ (H : Heap) (locs : List Loc), gH (dC, dI) kA (SHm q (wP wZ wN wH wB wC wL wK wU wV) PI im PM PT lS lB lE lN) G H → gF (dC, dI) SKm G ([(0, 0), (66, 0), (67, 0), (68, 0)] : List (Nat × Nat)) s.heap H → va_S A s.heap H locs → el H (q 1) (1428 : Int32).toNatClampNeg = some (.int x3898) → ∀ ls : Array Slot, lv_has ls 13 [(8, .int (nI i14902)), (7, .int z9644), (6, .int (nI i3918)), (5, .int z83), (0, .ref o0), (1, .int p0), (2, .int p1), (3, .int p2), (4, .int p3)] → W p l e (headSpec w_s_lifts_ ({ frames := 2, cells := 0, slots := 0, locals := 66 })).room s m #[.ref o0, .int p0, .int p1, .int p2, .int p3] below meth c H locs 0 0 (MQ below (va_Qi (fun (r : Int32) (u : Unit) => (-2147483648 ≤ r.toInt ∧ r.toInt ≤ 999999999)) (fun (_ : Unit) (t : State) => gH (dC, dI) kA (SHm q (wP wZ wN wH wB wC wL wK wU wV) PI im PM PT lS lB lE lN) G t.heap ∧ gF (dC, dI) SKm G ([(0, 0), (66, 0), (67, 0), (68, 0)] : List (Nat × Nat)) s.heap t.heap) A) #[.ref o0, .int p0, .int p1, .int p2, .int p3] s 0 0 A) (F0 m 415 ls []) := by
                                        intro n14915
                                        induction n14915 with
                                        | zero =>
                                          intro i14902 hn14915 hlo14916  H locs hT hF hS m14903 ls hl
                                          obtain rfl : 1001 = i14902 := by omega
                                          refine lv_iload hx hb dX12_lifts__415 (lv_at hl 0 rfl) ?_
                                          refine lv_sipush (v := 1001) hx hb dX12_lifts__417 (by decide) ?_
                                          refine lv_icmp_ge (tgt := 443) hx hb dX12_lifts__420 (by decide) (fun c14917 => ?_) (fun c14917 => (by exfalso; have q9 : ((1001 : Nat) : Int) < 1001 := ti_nle c14917 (by decide) (nI_toInt (by omega)); omega))
                                          have t14918 : 1001 ≤ ((1001 : Nat) : Int) := ti_le c14917 (by decide) (nI_toInt (by omega))
                                          refine lv_iinc (v := nI (i3918 + 1)) (lv' := [(6, .int (nI (i3918 + 1))), (8, .int (nI 1001)), (7, .int z9644), (5, .int z83), (0, .ref o0), (1, .int p0), (2, .int p1), (3, .int p2), (4, .int p3)]) hx hb dX12_lifts__443 hl (k := 2) rfl (nI_add i3918 1) (by decide) rfl (fun ls hl => ?_)
                                          refine lv_goto (tgt := 166) hx hb dX12_lifts__446 (by decide) ?_
                                          exact ih9554 (i3918 + 1) (by omega) (by omega) _ _ hT hF hS m14903 ls (lv_sub hl [0, 3, 4, 5, 6, 7, 8] rfl)
                                        | succ n14915 ih14915 =>
                                          intro i14902 hn14915 hlo14916  H locs hT hF hS m14903 ls hl
                                          have hlt14918 : i14902 < 1001 := by omega
                                          refine lv_iload hx hb dX12_lifts__415 (lv_at hl 0 rfl) ?_
                                          refine lv_sipush (v := 1001) hx hb dX12_lifts__417 (by decide) ?_
                                          refine lv_icmp_ge (tgt := 443) hx hb dX12_lifts__420 (by decide) (fun c14919 => (by exfalso; have q9 : 1001 ≤ ((i14902 : Nat) : Int) := ti_le c14919 (by decide) (nI_toInt (by omega)); omega)) (fun c14919 => ?_)
                                          have t14920 : ((i14902 : Nat) : Int) < 1001 := ti_nle c14919 (by decide) (nI_toInt (by omega))
                                          refine lv_aload_n hx hb dX12_lifts__423 rfl (lv_at hl 4 rfl) ?_
                                          refine tw_get hx hb hts bF_X12 hown hK hT hr_o0 shm_0 rfl 65 (by decide) (ht_at hts 11 rfl) (fun _ h9 => h9) dX12_lifts__424 (fun v9 m14921 h9 => ?_)
                                          obtain ⟨rfl, hg14922⟩ := h9 _ rfl
                                          refine lv_iload hx hb dX12_lifts__427 (lv_at hl 0 rfl) ?_
                                          refine lv_aload_n hx hb dX12_lifts__429 rfl (lv_at hl 4 rfl) ?_
                                          refine tw_get hx hb hts bF_X12 hown hK hT hr_o0 shm_0 rfl 66 (by decide) (ht_at hts 16 rfl) (fun _ h9 => h9) dX12_lifts__430 (fun v9 m14923 h9 => ?_)
                                          obtain ⟨rfl, hg14924⟩ := h9 _ rfl
                                          refine lv_iload hx hb dX12_lifts__433 (lv_at hl 0 rfl) ?_
                                          refine tw_iald (i := (nI i14902)) hx hb hK hT hg14924 shm_67 rfl (vp_in_nI (by omega) (by decide)) dX12_lifts__435 (fun v9 m14925 h9 => ?_)
                                          obtain ⟨x14926, rfl, gx14926, kx14926⟩ := h9
                                          refine tw_iast (i := (nI i14902)) (x := x14926) hx hb hK hT hG hS hg14922 shm_66 rfl (vp_in_nI (by omega) (by decide)) (gi_all _) dX12_lifts__436 (fun H locs hT oq m14927 oi hS => ?_)
                                          have hF := hF.ast hg14922 skm_66 oq (by decide)
                                          have m14928 := (el_kept (oq _ (gne hg3896 hg14922 (by decide)))).trans m14903
                                          refine lv_iinc (v := nI (i14902 + 1)) (lv' := [(8, .int (nI (i14902 + 1))), (7, .int z9644), (6, .int (nI i3918)), (5, .int z83), (0, .ref o0), (1, .int p0), (2, .int p1), (3, .int p2), (4, .int p3)]) hx hb dX12_lifts__437 hl (k := 0) rfl (nI_add i14902 1) (by decide) rfl (fun ls hl => ?_)
                                          refine lv_goto (tgt := 415) hx hb dX12_lifts__440 (by decide) ?_
                                          exact ih14915 (i14902 + 1) (by omega) (by omega) _ _ hT hF hS m14928 ls (lv_sub hl [0, 1, 2, 3, 4, 5, 6, 7, 8] rfl)
                                      exact key14915 (1001 - 0) 0 (by omega) (Nat.le_refl _) _ _ hT hF hS m14639 ls (lv_sub hl [0, 1, 2, 3, 4, 5, 6, 7, 8] rfl)
                                    | succ n14897 ih14897 =>
                                      intro i14638 hn14897 hlo14898  H locs hT hF hS m14639 ls hl
                                      have hlt14929 : i14638 < 2147483647 := by omega
                                      refine lv_iload hx hb dX12_lifts__266 (lv_at hl 0 rfl) ?_
                                      refine lv_iconst (v := 1) hx hb dX12_lifts__268 (by decide) ?_
                                      refine lv_iload hx hb dX12_lifts__269 (lv_at hl 3 rfl) ?_
                                      refine lv_ishl hx hb dX12_lifts__271 ?_
                                      refine lv_topi (fun x14930 ex14930 => ?_)
                                      refine lv_icmp_ge (tgt := 412) hx hb dX12_lifts__272 (by decide) (fun c14931 => ?_) (fun c14931 => ?_)
                                      · have t14932 : x14930.toInt ≤ ((i14638 : Nat) : Int) := ti_le c14931 rfl (nI_toInt (by omega))
                                        refine lv_iconst (v := 0) hx hb dX12_lifts__412 (by decide) ?_
                                        refine lv_istore (lv' := [(8, .int 0), (7, .int z9644), (6, .int (nI i3918)), (5, .int z83), (0, .ref o0), (1, .int p0), (2, .int p1), (3, .int p2), (4, .int p3)]) hx hb dX12_lifts__413 hl (by decide) rfl (fun ls hl => ?_)
                                        have key14946 : ∀ (n14946 i14933 : Nat), i14933 + n14946 = 1001 → 0 ≤ i14933 → ∀ (H : Heap) (locs : List Loc), gH (dC, dI) kA (SHm q (wP wZ wN wH wB wC wL wK wU wV) PI im PM PT lS lB lE lN) G H → gF (dC, dI) SKm G ([(0, 0), (66, 0), (67, 0), (68, 0)] : List (Nat × Nat)) s.heap H → va_S A s.heap H locs → el H (q 1) (1428 : Int32).toNatClampNeg = some (.int x3898) → ∀ ls : Array Slot, lv_has ls 13 [(8, .int (nI i14933)), (7, .int z9644), (6, .int (nI i3918)), (5, .int z83), (0, .ref o0), (1, .int p0), (2, .int p1), (3, .int p2), (4, .int p3)] → W p l e (headSpec w_s_lifts_ ({ frames := 2, cells := 0, slots := 0, locals := 66 })).room s m #[.ref o0, .int p0, .int p1, .int p2, .int p3] below meth c H locs 0 0 (MQ below (va_Qi (fun (r : Int32) (u : Unit) => (-2147483648 ≤ r.toInt ∧ r.toInt ≤ 999999999)) (fun (_ : Unit) (t : State) => gH (dC, dI) kA (SHm q (wP wZ wN wH wB wC wL wK wU wV) PI im PM PT lS lB lE lN) G t.heap ∧ gF (dC, dI) SKm G ([(0, 0), (66, 0), (67, 0), (68, 0)] : List (Nat × Nat)) s.heap t.heap) A) #[.ref o0, .int p0, .int p1, .int p2, .int p3] s 0 0 A) (F0 m 415 ls []) := by
                                          intro n14946
                                          induction n14946 with
                                          | zero =>
                                            intro i14933 hn14946 hlo14947  H locs hT hF hS m14934 ls hl
                                            obtain rfl : 1001 = i14933 := by omega
                                            refine lv_iload hx hb dX12_lifts__415 (lv_at hl 0 rfl) ?_
                                            refine lv_sipush (v := 1001) hx hb dX12_lifts__417 (by decide) ?_
                                            refine lv_icmp_ge (tgt := 443) hx hb dX12_lifts__420 (by decide) (fun c14948 => ?_) (fun c14948 => (by exfalso; have q9 : ((1001 : Nat) : Int) < 1001 := ti_nle c14948 (by decide) (nI_toInt (by omega)); omega))
                                            have t14949 : 1001 ≤ ((1001 : Nat) : Int) := ti_le c14948 (by decide) (nI_toInt (by omega))
                                            refine lv_iinc (v := nI (i3918 + 1)) (lv' := [(6, .int (nI (i3918 + 1))), (8, .int (nI 1001)), (7, .int z9644), (5, .int z83), (0, .ref o0), (1, .int p0), (2, .int p1), (3, .int p2), (4, .int p3)]) hx hb dX12_lifts__443 hl (k := 2) rfl (nI_add i3918 1) (by decide) rfl (fun ls hl => ?_)
                                            refine lv_goto (tgt := 166) hx hb dX12_lifts__446 (by decide) ?_
                                            exact ih9554 (i3918 + 1) (by omega) (by omega) _ _ hT hF hS m14934 ls (lv_sub hl [0, 3, 4, 5, 6, 7, 8] rfl)
                                          | succ n14946 ih14946 =>
                                            intro i14933 hn14946 hlo14947  H locs hT hF hS m14934 ls hl
                                            have hlt14949 : i14933 < 1001 := by omega
                                            refine lv_iload hx hb dX12_lifts__415 (lv_at hl 0 rfl) ?_
                                            refine lv_sipush (v := 1001) hx hb dX12_lifts__417 (by decide) ?_
                                            refine lv_icmp_ge (tgt := 443) hx hb dX12_lifts__420 (by decide) (fun c14950 => (by exfalso; have q9 : 1001 ≤ ((i14933 : Nat) : Int) := ti_le c14950 (by decide) (nI_toInt (by omega)); omega)) (fun c14950 => ?_)
                                            have t14951 : ((i14933 : Nat) : Int) < 1001 := ti_nle c14950 (by decide) (nI_toInt (by omega))
                                            refine lv_aload_n hx hb dX12_lifts__423 rfl (lv_at hl 4 rfl) ?_
                                            refine tw_get hx hb hts bF_X12 hown hK hT hr_o0 shm_0 rfl 65 (by decide) (ht_at hts 11 rfl) (fun _ h9 => h9) dX12_lifts__424 (fun v9 m14952 h9 => ?_)
                                            obtain ⟨rfl, hg14953⟩ := h9 _ rfl
                                            refine lv_iload hx hb dX12_lifts__427 (lv_at hl 0 rfl) ?_
                                            refine lv_aload_n hx hb dX12_lifts__429 rfl (lv_at hl 4 rfl) ?_
                                            refine tw_get hx hb hts bF_X12 hown hK hT hr_o0 shm_0 rfl 66 (by decide) (ht_at hts 16 rfl) (fun _ h9 => h9) dX12_lifts__430 (fun v9 m14954 h9 => ?_)
                                            obtain ⟨rfl, hg14955⟩ := h9 _ rfl
                                            refine lv_iload hx hb dX12_lifts__433 (lv_at hl 0 rfl) ?_
                                            refine tw_iald (i := (nI i14933)) hx hb hK hT hg14955 shm_67 rfl (vp_in_nI (by omega) (by decide)) dX12_lifts__435 (fun v9 m14956 h9 => ?_)
                                            obtain ⟨x14957, rfl, gx14957, kx14957⟩ := h9
                                            refine tw_iast (i := (nI i14933)) (x := x14957) hx hb hK hT hG hS hg14953 shm_66 rfl (vp_in_nI (by omega) (by decide)) (gi_all _) dX12_lifts__436 (fun H locs hT oq m14958 oi hS => ?_)
                                            have hF := hF.ast hg14953 skm_66 oq (by decide)
                                            have m14959 := (el_kept (oq _ (gne hg3896 hg14953 (by decide)))).trans m14934
                                            refine lv_iinc (v := nI (i14933 + 1)) (lv' := [(8, .int (nI (i14933 + 1))), (7, .int z9644), (6, .int (nI i3918)), (5, .int z83), (0, .ref o0), (1, .int p0), (2, .int p1), (3, .int p2), (4, .int p3)]) hx hb dX12_lifts__437 hl (k := 0) rfl (nI_add i14933 1) (by decide) rfl (fun ls hl => ?_)
                                            refine lv_goto (tgt := 415) hx hb dX12_lifts__440 (by decide) ?_
                                            exact ih14946 (i14933 + 1) (by omega) (by omega) _ _ hT hF hS m14959 ls (lv_sub hl [0, 1, 2, 3, 4, 5, 6, 7, 8] rfl)
                                        exact key14946 (1001 - 0) 0 (by omega) (Nat.le_refl _) _ _ hT hF hS m14639 ls (lv_sub hl [0, 1, 2, 3, 4, 5, 6, 7, 8] rfl)
                                      · have t14961 : ((i14638 : Nat) : Int) < x14930.toInt := ti_nle c14931 rfl (nI_toInt (by omega))
                                        refine lv_iload hx hb dX12_lifts__275 (lv_at hl 1 rfl) ?_
                                        refine lv_istore (lv' := [(9, .int z9644), (8, .int (nI i14638)), (7, .int z9644), (6, .int (nI i3918)), (5, .int z83), (0, .ref o0), (1, .int p0), (2, .int p1), (3, .int p2), (4, .int p3)]) hx hb dX12_lifts__277 hl (by decide) rfl (fun ls hl => ?_)
                                        refine lv_iconst (v := 0) hx hb dX12_lifts__279 (by decide) ?_
                                        refine lv_istore (lv' := [(10, .int 0), (9, .int z9644), (8, .int (nI i14638)), (7, .int z9644), (6, .int (nI i3918)), (5, .int z83), (0, .ref o0), (1, .int p0), (2, .int p1), (3, .int p2), (4, .int p3)]) hx hb dX12_lifts__280 hl (by decide) rfl (fun ls hl => ?_)
                                        have jn15091 : ∀ (z15087 : Int32), ∀ (z15089 : Int32), ((0 ≤ z15087.toInt ∧ z15087.toInt ≤ 5)) → ∀ (H : Heap) (locs : List Loc), gH (dC, dI) kA (SHm q (wP wZ wN wH wB wC wL wK wU wV) PI im PM PT lS lB lE lN) G H → gF (dC, dI) SKm G ([(0, 0), (66, 0), (67, 0), (68, 0)] : List (Nat × Nat)) s.heap H → va_S A s.heap H locs → el H (q 1) (1428 : Int32).toNatClampNeg = some (.int x3898) → ∀ ls : Array Slot, lv_has ls 13 [(10, .int z15087), (9, .int z15089), (8, .int (nI i14638)), (7, .int z9644), (6, .int (nI i3918)), (5, .int z83), (0, .ref o0), (1, .int p0), (2, .int p1), (3, .int p2), (4, .int p3)] → W p l e (headSpec w_s_lifts_ ({ frames := 2, cells := 0, slots := 0, locals := 66 })).room s m #[.ref o0, .int p0, .int p1, .int p2, .int p3] below meth c H locs 0 0 (MQ below (va_Qi (fun (r : Int32) (u : Unit) => (-2147483648 ≤ r.toInt ∧ r.toInt ≤ 999999999)) (fun (_ : Unit) (t : State) => gH (dC, dI) kA (SHm q (wP wZ wN wH wB wC wL wK wU wV) PI im PM PT lS lB lE lN) G t.heap ∧ gF (dC, dI) SKm G ([(0, 0), (66, 0), (67, 0), (68, 0)] : List (Nat × Nat)) s.heap t.heap) A) #[.ref o0, .int p0, .int p1, .int p2, .int p3] s 0 0 A) (F0 m 322 ls []) := by
                                          intro z15087 z15089 h15088 H locs hT hF hS m15090 ls hl
                                          refine lv_iload hx hb dX12_lifts__322 (lv_at hl 2 rfl) ?_
                                          have hFc := gA_free hG hA hS
                                          refine va_calli (va_runS (As := [.int (nI i14638)]) (rest := []) ⟨hx, hb, hml, hown, hts⟩ (j_bitCount l dC dI kA adK adV G H q wZ wN wH wB wC wL wK wU wV PI im PM PT lS lB lE lN (nI i14638) hT hgz hgn hgh hgb hgc hgi hgu) (va_cwS 1 hts (goodIn_app (goodIn_r _ [22, 23, 24] rfl (by decide +kernel)) (goodIn_ca (goodIn_r _ [18, 19, 20, 21] rfl (by decide +kernel)) (bs_in _ _))) rfl rfl rfl (by decide +kernel) ⟨(Nat.le_of_ble_eq_true rfl), (Nat.le_of_ble_eq_true rfl)⟩) ⟨fun a U g mk q => by obtain ⟨q0, q1, qK, qE⟩ := q; exact ⟨q0, q1, va_K.moved (u := U) (U := U.calling g mk a) (Vm.Alike.refl U.vm) qK, EVS.blind g mk a qE⟩, fun U hU hW => ⟨rfl, hU, va_K.moved hW.alike hK, hE.call hS hFc hU hW⟩⟩ rfl rfl hl.1 rfl (lv_room (Nat.le_of_ble_eq_true rfl)) dX12_lifts__324 ⟨(Nat.le_of_ble_eq_true rfl), (Nat.le_of_ble_eq_true rfl)⟩) hS (fun q _ h => hFc q h) hFc (fun r15092 u t H locs ht hvm hw15093 hB _ _ hS => ?_)
                                          obtain ⟨hT, hF1⟩ := hB
                                          rw [ht] at hT hF1
                                          have m15094 := (el_kept (hF1.arr hg3896 skm_2 (by decide))).trans m15090
                                          have hF := hF.more hF1 (by decide)
                                          try dsimp only at hw15093
                                          refine lv_istore (lv' := [(10, .int r15092), (9, .int z15089), (8, .int (nI i14638)), (7, .int z9644), (6, .int (nI i3918)), (5, .int z83), (0, .ref o0), (1, .int p0), (2, .int p1), (3, .int p2), (4, .int p3)]) hx hb dX12_lifts__327 hl (by decide) rfl (fun ls hl => ?_)
                                          refine lv_iconst (v := 0) hx hb dX12_lifts__329 (by decide) ?_
                                          refine lv_istore (lv' := [(11, .int 0), (10, .int r15092), (9, .int z15089), (8, .int (nI i14638)), (7, .int z9644), (6, .int (nI i3918)), (5, .int z83), (0, .ref o0), (1, .int p0), (2, .int p1), (3, .int p2), (4, .int p3)]) hx hb dX12_lifts__330 hl (by decide) rfl (fun ls hl => ?_)
                                          have key15130 : ∀ (n15130 i15095 : Nat), i15095 + n15130 = 1001 → 0 ≤ i15095 → ∀ (H : Heap) (locs : List Loc), gH (dC, dI) kA (SHm q (wP wZ wN wH wB wC wL wK wU wV) PI im PM PT lS lB lE lN) G H → gF (dC, dI) SKm G ([(0, 0), (66, 0), (67, 0), (68, 0)] : List (Nat × Nat)) s.heap H → va_S A s.heap H locs → el H (q 1) (1428 : Int32).toNatClampNeg = some (.int x3898) → ∀ ls : Array Slot, lv_has ls 13 [(11, .int (nI i15095)), (10, .int r15092), (9, .int z15089), (8, .int (nI i14638)), (7, .int z9644), (6, .int (nI i3918)), (5, .int z83), (0, .ref o0), (1, .int p0), (2, .int p1), (3, .int p2), (4, .int p3)] → W p l e (headSpec w_s_lifts_ ({ frames := 2, cells := 0, slots := 0, locals := 66 })).room s m #[.ref o0, .int p0, .int p1, .int p2, .int p3] below meth c H locs 0 0 (MQ below (va_Qi (fun (r : Int32) (u : Unit) => (-2147483648 ≤ r.toInt ∧ r.toInt ≤ 999999999)) (fun (_ : Unit) (t : State) => gH (dC, dI) kA (SHm q (wP wZ wN wH wB wC wL wK wU wV) PI im PM PT lS lB lE lN) G t.heap ∧ gF (dC, dI) SKm G ([(0, 0), (66, 0), (67, 0), (68, 0)] : List (Nat × Nat)) s.heap t.heap) A) #[.ref o0, .int p0, .int p1, .int p2, .int p3] s 0 0 A) (F0 m 332 ls []) := by
                                            intro n15130
                                            induction n15130 with
                                            | zero =>
                                              intro i15095 hn15130 hlo15131  H locs hT hF hS m15096 ls hl
                                              obtain rfl : 1001 = i15095 := by omega
                                              refine lv_iload hx hb dX12_lifts__332 (lv_at hl 0 rfl) ?_
                                              refine lv_sipush (v := 1001) hx hb dX12_lifts__334 (by decide) ?_
                                              refine lv_icmp_ge (tgt := 406) hx hb dX12_lifts__337 (by decide) (fun c15132 => ?_) (fun c15132 => (by exfalso; have q9 : ((1001 : Nat) : Int) < 1001 := ti_nle c15132 (by decide) (nI_toInt (by omega)); omega))
                                              have t15133 : 1001 ≤ ((1001 : Nat) : Int) := ti_le c15132 (by decide) (nI_toInt (by omega))
                                              refine lv_iinc (v := nI (i14638 + 1)) (lv' := [(8, .int (nI (i14638 + 1))), (11, .int (nI 1001)), (10, .int r15092), (9, .int z15089), (7, .int z9644), (6, .int (nI i3918)), (5, .int z83), (0, .ref o0), (1, .int p0), (2, .int p1), (3, .int p2), (4, .int p3)]) hx hb dX12_lifts__406 hl (k := 3) rfl (nI_add i14638 1) (by decide) rfl (fun ls hl => ?_)
                                              refine lv_goto (tgt := 266) hx hb dX12_lifts__409 (by decide) ?_
                                              exact ih14897 (i14638 + 1) (by omega) (by omega) _ _ hT hF hS m15096 ls (lv_sub hl [0, 4, 5, 6, 7, 8, 9, 10, 11] rfl)
                                            | succ n15130 ih15130 =>
                                              intro i15095 hn15130 hlo15131  H locs hT hF hS m15096 ls hl
                                              have hlt15133 : i15095 < 1001 := by omega
                                              refine lv_iload hx hb dX12_lifts__332 (lv_at hl 0 rfl) ?_
                                              refine lv_sipush (v := 1001) hx hb dX12_lifts__334 (by decide) ?_
                                              refine lv_icmp_ge (tgt := 406) hx hb dX12_lifts__337 (by decide) (fun c15134 => (by exfalso; have q9 : 1001 ≤ ((i15095 : Nat) : Int) := ti_le c15134 (by decide) (nI_toInt (by omega)); omega)) (fun c15134 => ?_)
                                              have t15135 : ((i15095 : Nat) : Int) < 1001 := ti_nle c15134 (by decide) (nI_toInt (by omega))
                                              refine lv_iconst (v := 0) hx hb dX12_lifts__340 (by decide) ?_
                                              refine lv_iload hx hb dX12_lifts__341 (lv_at hl 0 rfl) ?_
                                              refine lv_iload_n hx hb dX12_lifts__343 rfl (lv_at hl 9 rfl) ?_
                                              refine lv_iadd hx hb dX12_lifts__344 ?_
                                              refine lv_topi (fun x15136 ex15136 => ?_)
                                              have t15137 : x15136.toInt = ((i15095 : Nat) : Int) + p1.toInt := ti_add ex15136 (nI_toInt (by omega)) rfl (by omega) (by omega)
                                              refine lv_iload hx hb dX12_lifts__345 (lv_at hl 2 rfl) ?_
                                              refine lv_isub hx hb dX12_lifts__347 ?_
                                              refine lv_topi (fun x15138 ex15138 => ?_)
                                              refine va_mmax hx hb (hml.trans hl.1.symm) hown (ht_at hts 24 rfl) (ht_at hts 25 rfl) (ht_at hts 14 rfl) (ht_at hts 26 rfl) (Nat.le_of_ble_eq_true rfl) (Nat.le_of_ble_eq_true rfl) (Nat.le_of_ble_eq_true rfl) (Nat.le_of_ble_eq_true rfl) dX12_lifts__348 ?_
                                              refine lv_topi (fun x15139 ex15139 => ?_)
                                              have t15140 : 0 ≤ x15139.toInt ∧ x15138.toInt ≤ x15139.toInt ∧ (x15139.toInt = 0 ∨ x15139.toInt = x15138.toInt) := mx_f ex15139 (by decide) rfl
                                              refine lv_istore (lv' := [(12, .int x15139), (11, .int (nI i15095)), (10, .int r15092), (9, .int z15089), (8, .int (nI i14638)), (7, .int z9644), (6, .int (nI i3918)), (5, .int z83), (0, .ref o0), (1, .int p0), (2, .int p1), (3, .int p2), (4, .int p3)]) hx hb dX12_lifts__351 hl (by decide) rfl (fun ls hl => ?_)
                                              refine lv_aload_n hx hb dX12_lifts__353 rfl (lv_at hl 8 rfl) ?_
                                              refine tw_get hx hb hts bF_X12 hown hK hT hr_o0 shm_0 rfl 65 (by decide) (ht_at hts 11 rfl) (fun _ h9 => h9) dX12_lifts__354 (fun v9 m15141 h9 => ?_)
                                              obtain ⟨rfl, hg15142⟩ := h9 _ rfl
                                              refine lv_iload hx hb dX12_lifts__357 (lv_at hl 1 rfl) ?_
                                              refine tw_iald (i := (nI i15095)) hx hb hK hT hg15142 shm_66 rfl (vp_in_nI (by omega) (by decide)) dX12_lifts__359 (fun v9 m15143 h9 => ?_)
                                              obtain ⟨x15144, rfl, gx15144, kx15144⟩ := h9
                                              refine lv_ldcw (v := 1000000000) hx hb hown (ht_at hts 10 rfl) dX12_lifts__360 ?_
                                              refine lv_icmp_ge (tgt := 400) hx hb dX12_lifts__363 (by decide) (fun c15145 => ?_) (fun c15145 => ?_)
                                              · have t15146 : 1000000000 ≤ x15144.toInt := ti_le c15145 (by decide) rfl
                                                refine lv_iinc (v := nI (i15095 + 1)) (lv' := [(11, .int (nI (i15095 + 1))), (12, .int x15139), (10, .int r15092), (9, .int z15089), (8, .int (nI i14638)), (7, .int z9644), (6, .int (nI i3918)), (5, .int z83), (0, .ref o0), (1, .int p0), (2, .int p1), (3, .int p2), (4, .int p3)]) hx hb dX12_lifts__400 hl (k := 1) rfl (nI_add i15095 1) (by decide) rfl (fun ls hl => ?_)
                                                refine lv_goto (tgt := 332) hx hb dX12_lifts__403 (by decide) ?_
                                                exact ih15130 (i15095 + 1) (by omega) (by omega) _ _ hT hF hS m15096 ls (lv_sub hl [0, 2, 3, 4, 5, 6, 7, 8, 9, 10, 11, 12] rfl)
                                              · have t15147 : x15144.toInt < 1000000000 := ti_nle c15145 (by decide) rfl
                                                refine lv_iload hx hb dX12_lifts__366 (lv_at hl 0 rfl) ?_
                                                refine lv_iload hx hb dX12_lifts__368 (lv_at hl 12 rfl) ?_
                                                refine lv_icmp_gt (tgt := 400) hx hb dX12_lifts__370 (by decide) (fun c15148 => ?_) (fun c15148 => ?_)
                                                · have t15149 : p3.toInt < x15139.toInt := ti_lt c15148 rfl rfl
                                                  refine lv_iinc (v := nI (i15095 + 1)) (lv' := [(11, .int (nI (i15095 + 1))), (12, .int x15139), (10, .int r15092), (9, .int z15089), (8, .int (nI i14638)), (7, .int z9644), (6, .int (nI i3918)), (5, .int z83), (0, .ref o0), (1, .int p0), (2, .int p1), (3, .int p2), (4, .int p3)]) hx hb dX12_lifts__400 hl (k := 1) rfl (nI_add i15095 1) (by decide) rfl (fun ls hl => ?_)
                                                  refine lv_goto (tgt := 332) hx hb dX12_lifts__403 (by decide) ?_
                                                  exact ih15130 (i15095 + 1) (by omega) (by omega) _ _ hT hF hS m15096 ls (lv_sub hl [0, 2, 3, 4, 5, 6, 7, 8, 9, 10, 11, 12] rfl)
                                                · have t15150 : x15139.toInt ≤ p3.toInt := ti_nlt c15148 rfl rfl
                                                  refine lv_aload_n hx hb dX12_lifts__373 rfl (lv_at hl 8 rfl) ?_
                                                  refine tw_get hx hb hts bF_X12 hown hK hT hr_o0 shm_0 rfl 66 (by decide) (ht_at hts 16 rfl) (fun _ h9 => h9) dX12_lifts__374 (fun v9 m15151 h9 => ?_)
                                                  obtain ⟨rfl, hg15152⟩ := h9 _ rfl
                                                  refine lv_iload hx hb dX12_lifts__377 (lv_at hl 0 rfl) ?_
                                                  refine lv_aload_n hx hb dX12_lifts__379 rfl (lv_at hl 8 rfl) ?_
                                                  refine tw_get hx hb hts bF_X12 hown hK hT hr_o0 shm_0 rfl 66 (by decide) (ht_at hts 16 rfl) (fun _ h9 => h9) dX12_lifts__380 (fun v9 m15153 h9 => ?_)
                                                  obtain ⟨rfl, hg15154⟩ := h9 _ rfl
                                                  refine lv_iload hx hb dX12_lifts__383 (lv_at hl 0 rfl) ?_
                                                  refine tw_iald (i := x15139) hx hb hK hT hg15152 shm_67 rfl (vin_t (a := x15139.toInt) rfl (by omega) (by omega)) dX12_lifts__385 (fun v9 m15155 h9 => ?_)
                                                  obtain ⟨x15156, rfl, gx15156, kx15156⟩ := h9
                                                  refine lv_aload_n hx hb dX12_lifts__386 rfl (lv_at hl 8 rfl) ?_
                                                  refine tw_get hx hb hts bF_X12 hown hK hT hr_o0 shm_0 rfl 65 (by decide) (ht_at hts 11 rfl) (fun _ h9 => h9) dX12_lifts__387 (fun v9 m15157 h9 => ?_)
                                                  obtain ⟨rfl, hg15158⟩ := h9 _ rfl
                                                  refine lv_iload hx hb dX12_lifts__390 (lv_at hl 1 rfl) ?_
                                                  refine tw_iald (i := (nI i15095)) hx hb hK hT hg15142 shm_66 rfl (vp_in_nI (by omega) (by decide)) dX12_lifts__392 (fun v9 m15159 h9 => ?_)
                                                  obtain ⟨x15160, rfl, gx15160, kx15160⟩ := h9
                                                  obtain rfl : x15144 = x15160 := (el_same m15159 m15143 rfl).symm
                                                  refine lv_iload hx hb dX12_lifts__393 (lv_at hl 2 rfl) ?_
                                                  refine lv_iadd hx hb dX12_lifts__395 ?_
                                                  refine lv_topi (fun x15161 ex15161 => ?_)
                                                  refine va_mmin hx hb (hml.trans hl.1.symm) hown (ht_at hts 12 rfl) (ht_at hts 13 rfl) (ht_at hts 14 rfl) (ht_at hts 15 rfl) (Nat.le_of_ble_eq_true rfl) (Nat.le_of_ble_eq_true rfl) (Nat.le_of_ble_eq_true rfl) (Nat.le_of_ble_eq_true rfl) dX12_lifts__396 ?_
                                                  refine lv_topi (fun x15162 ex15162 => ?_)
                                                  have t15163 : x15162.toInt ≤ x15156.toInt ∧ x15162.toInt ≤ x15161.toInt ∧ (x15162.toInt = x15156.toInt ∨ x15162.toInt = x15161.toInt) := mn_f ex15162 rfl rfl
                                                  refine tw_iast (i := x15139) (x := x15162) hx hb hK hT hG hS hg15152 shm_67 rfl (vin_t (a := x15139.toInt) rfl (by omega) (by omega)) (gi_all _) dX12_lifts__399 (fun H locs hT oq m15164 oi hS => ?_)
                                                  have hF := hF.ast hg15152 skm_67 oq (by decide)
                                                  have m15165 := (el_kept (oq _ (gne hg3896 hg15152 (by decide)))).trans m15096
                                                  refine lv_iinc (v := nI (i15095 + 1)) (lv' := [(11, .int (nI (i15095 + 1))), (12, .int x15139), (10, .int r15092), (9, .int z15089), (8, .int (nI i14638)), (7, .int z9644), (6, .int (nI i3918)), (5, .int z83), (0, .ref o0), (1, .int p0), (2, .int p1), (3, .int p2), (4, .int p3)]) hx hb dX12_lifts__400 hl (k := 1) rfl (nI_add i15095 1) (by decide) rfl (fun ls hl => ?_)
                                                  refine lv_goto (tgt := 332) hx hb dX12_lifts__403 (by decide) ?_
                                                  exact ih15130 (i15095 + 1) (by omega) (by omega) _ _ hT hF hS m15165 ls (lv_sub hl [0, 2, 3, 4, 5, 6, 7, 8, 9, 10, 11, 12] rfl)
                                          exact key15130 (1001 - 0) 0 (by omega) (Nat.le_refl _) _ _ hT hF hS m15094 ls (lv_sub hl [0, 1, 2, 3, 4, 5, 6, 7, 8, 9, 10, 11] rfl)
                                        have key15167 : ∀ (n15167 i14962 : Nat), i14962 + n15167 = 5 → 0 ≤ i14962 → ∀ (z14963 : Int32), ∀ (H : Heap) (locs : List Loc), gH (dC, dI) kA (SHm q (wP wZ wN wH wB wC wL wK wU wV) PI im PM PT lS lB lE lN) G H → gF (dC, dI) SKm G ([(0, 0), (66, 0), (67, 0), (68, 0)] : List (Nat × Nat)) s.heap H → va_S A s.heap H locs → el H (q 1) (1428 : Int32).toNatClampNeg = some (.int x3898) → ∀ ls : Array Slot, lv_has ls 13 [(10, .int (nI i14962)), (9, .int z14963), (8, .int (nI i14638)), (7, .int z9644), (6, .int (nI i3918)), (5, .int z83), (0, .ref o0), (1, .int p0), (2, .int p1), (3, .int p2), (4, .int p3)] → W p l e (headSpec w_s_lifts_ ({ frames := 2, cells := 0, slots := 0, locals := 66 })).room s m #[.ref o0, .int p0, .int p1, .int p2, .int p3] below meth c H locs 0 0 (MQ below (va_Qi (fun (r : Int32) (u : Unit) => (-2147483648 ≤ r.toInt ∧ r.toInt ≤ 999999999)) (fun (_ : Unit) (t : State) => gH (dC, dI) kA (SHm q (wP wZ wN wH wB wC wL wK wU wV) PI im PM PT lS lB lE lN) G t.heap ∧ gF (dC, dI) SKm G ([(0, 0), (66, 0), (67, 0), (68, 0)] : List (Nat × Nat)) s.heap t.heap) A) #[.ref o0, .int p0, .int p1, .int p2, .int p3] s 0 0 A) (F0 m 282 ls []) := by
                                          intro n15167
                                          induction n15167 with
                                          | zero =>
                                            intro i14962 hn15167 hlo15168 z14963 H locs hT hF hS m14964 ls hl
                                            obtain rfl : 5 = i14962 := by omega
                                            refine lv_iload hx hb dX12_lifts__282 (lv_at hl 0 rfl) ?_
                                            refine lv_iload hx hb dX12_lifts__284 (lv_at hl 5 rfl) ?_
                                            refine lv_icmp_ge (tgt := 322) hx hb dX12_lifts__286 (by decide) (fun c15169 => ?_) (fun c15169 => (by exfalso; have q9 : ((5 : Nat) : Int) < z83.toInt := ti_nle c15169 rfl (nI_toInt (by omega)); omega))
                                            have t15170 : z83.toInt ≤ ((5 : Nat) : Int) := ti_le c15169 rfl (nI_toInt (by omega))
                                            exact jn15091 (nI 5) z14963 (rg_t (a := ((5 : Nat) : Int)) (nI_toInt (by omega)) (by omega) (by omega)) _ _ hT hF hS m14964 ls (lv_sub hl [0, 1, 2, 3, 4, 5, 6, 7, 8, 9, 10] rfl)
                                          | succ n15167 ih15167 =>
                                            intro i14962 hn15167 hlo15168 z14963 H locs hT hF hS m14964 ls hl
                                            have hlt15170 : i14962 < 5 := by omega
                                            refine lv_iload hx hb dX12_lifts__282 (lv_at hl 0 rfl) ?_
                                            refine lv_iload hx hb dX12_lifts__284 (lv_at hl 5 rfl) ?_
                                            refine lv_icmp_ge (tgt := 322) hx hb dX12_lifts__286 (by decide) (fun c15171 => ?_) (fun c15171 => ?_)
                                            · have t15172 : z83.toInt ≤ ((i14962 : Nat) : Int) := ti_le c15171 rfl (nI_toInt (by omega))
                                              exact jn15091 (nI i14962) z14963 (rg_t (a := ((i14962 : Nat) : Int)) (nI_toInt (by omega)) (by omega) (by omega)) _ _ hT hF hS m14964 ls (lv_sub hl [0, 1, 2, 3, 4, 5, 6, 7, 8, 9, 10] rfl)
                                            · have t15173 : ((i14962 : Nat) : Int) < z83.toInt := ti_nle c15171 rfl (nI_toInt (by omega))
                                              refine lv_iload hx hb dX12_lifts__289 (lv_at hl 1 rfl) ?_
                                              refine lv_iload hx hb dX12_lifts__291 (lv_at hl 2 rfl) ?_
                                              refine lv_iload hx hb dX12_lifts__293 (lv_at hl 0 rfl) ?_
                                              refine lv_ishr hx hb dX12_lifts__295 ?_
                                              refine lv_topi (fun x15174 ex15174 => ?_)
                                              refine lv_iconst (v := 1) hx hb dX12_lifts__296 (by decide) ?_
                                              refine lv_iand hx hb dX12_lifts__297 ?_
                                              refine lv_topi (fun x15175 ex15175 => ?_)
                                              refine lv_iconst (v := 1) hx hb dX12_lifts__298 (by decide) ?_
                                              refine lv_icmp_ne (tgt := 312) hx hb dX12_lifts__299 (by decide) (fun c15176 => ?_) (fun c15176 => ?_)
                                              · have t15177 : x15175.toInt ≠ 1 := ti_ne c15176 rfl (by decide)
                                                refine lv_iconst (v := 0) hx hb dX12_lifts__312 (by decide) ?_
                                                refine lv_iadd hx hb dX12_lifts__313 ?_
                                                refine lv_topi (fun x15178 ex15178 => ?_)
                                                have t15179 : -2147483648 ≤ z14963.toInt ∧ z14963.toInt ≤ 2147483647 := ti_all z14963
                                                have t15180 : x15178.toInt = z14963.toInt + 0 := ti_add ex15178 rfl (by decide) (by omega) (by omega)
                                                refine lv_istore (lv' := [(9, .int x15178), (10, .int (nI i14962)), (8, .int (nI i14638)), (7, .int z9644), (6, .int (nI i3918)), (5, .int z83), (0, .ref o0), (1, .int p0), (2, .int p1), (3, .int p2), (4, .int p3)]) hx hb dX12_lifts__314 hl (by decide) rfl (fun ls hl => ?_)
                                                refine lv_iinc (v := nI (i14962 + 1)) (lv' := [(10, .int (nI (i14962 + 1))), (9, .int x15178), (8, .int (nI i14638)), (7, .int z9644), (6, .int (nI i3918)), (5, .int z83), (0, .ref o0), (1, .int p0), (2, .int p1), (3, .int p2), (4, .int p3)]) hx hb dX12_lifts__316 hl (k := 1) rfl (nI_add i14962 1) (by decide) rfl (fun ls hl => ?_)
                                                refine lv_goto (tgt := 282) hx hb dX12_lifts__319 (by decide) ?_
                                                exact ih15167 (i14962 + 1) (by omega) (by omega) x15178 _ _ hT hF hS m14964 ls (lv_sub hl [0, 1, 2, 3, 4, 5, 6, 7, 8, 9, 10] rfl)
                                              · have t15181 : x15175.toInt = 1 := ti_eq c15176 rfl (by decide)
                                                refine lv_aload_n hx hb dX12_lifts__302 rfl (lv_at hl 6 rfl) ?_
                                                refine tw_get hx hb hts bF_X12 hown hK hT hr_o0 shm_0 rfl 67 (by decide) (ht_at hts 46 rfl) (fun _ h9 => h9) dX12_lifts__303 (fun v9 m15182 h9 => ?_)
                                                obtain ⟨rfl, hg15183⟩ := h9 _ rfl
                                                refine lv_iload hx hb dX12_lifts__306 (lv_at hl 0 rfl) ?_
                                                refine tw_iald (i := (nI i14962)) hx hb hK hT hg15183 shm_68 rfl (vp_in_nI (by omega) (by decide)) dX12_lifts__308 (fun v9 m15184 h9 => ?_)
                                                obtain ⟨x15185, rfl, gx15185, kx15185⟩ := h9
                                                refine lv_goto (tgt := 313) hx hb dX12_lifts__309 (by decide) ?_
                                                refine lv_iadd hx hb dX12_lifts__313 ?_
                                                refine lv_topi (fun x15186 ex15186 => ?_)
                                                refine lv_istore (lv' := [(9, .int x15186), (10, .int (nI i14962)), (8, .int (nI i14638)), (7, .int z9644), (6, .int (nI i3918)), (5, .int z83), (0, .ref o0), (1, .int p0), (2, .int p1), (3, .int p2), (4, .int p3)]) hx hb dX12_lifts__314 hl (by decide) rfl (fun ls hl => ?_)
                                                refine lv_iinc (v := nI (i14962 + 1)) (lv' := [(10, .int (nI (i14962 + 1))), (9, .int x15186), (8, .int (nI i14638)), (7, .int z9644), (6, .int (nI i3918)), (5, .int z83), (0, .ref o0), (1, .int p0), (2, .int p1), (3, .int p2), (4, .int p3)]) hx hb dX12_lifts__316 hl (k := 1) rfl (nI_add i14962 1) (by decide) rfl (fun ls hl => ?_)
                                                refine lv_goto (tgt := 282) hx hb dX12_lifts__319 (by decide) ?_
                                                exact ih15167 (i14962 + 1) (by omega) (by omega) x15186 _ _ hT hF hS m14964 ls (lv_sub hl [0, 1, 2, 3, 4, 5, 6, 7, 8, 9, 10] rfl)
                                        exact key15167 (5 - 0) 0 (by omega) (Nat.le_refl _) z9644 _ _ hT hF hS m14639 ls (lv_sub hl [0, 1, 2, 3, 4, 5, 6, 7, 8, 9, 10] rfl)
                                  exact key14897 (2147483647 - 0) 0 (by omega) (Nat.le_refl _) _ _ hT hF hS m14627 ls (lv_sub hl [0, 1, 2, 3, 4, 5, 6, 7, 8] rfl)
                                | succ n14634 ih14634 =>
                                  intro i14626 hn14634 hlo14635  H locs hT hF hS m14627 ls hl
                                  have hlt15186 : i14626 < 1001 := by omega
                                  refine lv_iload hx hb dX12_lifts__239 (lv_at hl 0 rfl) ?_
                                  refine lv_sipush (v := 1001) hx hb dX12_lifts__241 (by decide) ?_
                                  refine lv_icmp_ge (tgt := 263) hx hb dX12_lifts__244 (by decide) (fun c15187 => (by exfalso; have q9 : 1001 ≤ ((i14626 : Nat) : Int) := ti_le c15187 (by decide) (nI_toInt (by omega)); omega)) (fun c15187 => ?_)
                                  have t15188 : ((i14626 : Nat) : Int) < 1001 := ti_nle c15187 (by decide) (nI_toInt (by omega))
                                  refine lv_aload_n hx hb dX12_lifts__247 rfl (lv_at hl 4 rfl) ?_
                                  refine tw_get hx hb hts bF_X12 hown hK hT hr_o0 shm_0 rfl 66 (by decide) (ht_at hts 16 rfl) (fun _ h9 => h9) dX12_lifts__248 (fun v9 m15189 h9 => ?_)
                                  obtain ⟨rfl, hg15190⟩ := h9 _ rfl
                                  refine lv_iload hx hb dX12_lifts__251 (lv_at hl 0 rfl) ?_
                                  refine lv_ldcw (v := 1000000000) hx hb hown (ht_at hts 10 rfl) dX12_lifts__253 ?_
                                  refine tw_iast (i := (nI i14626)) (x := 1000000000) hx hb hK hT hG hS hg15190 shm_67 rfl (vp_in_nI (by omega) (by decide)) (gi_all _) dX12_lifts__256 (fun H locs hT oq m15191 oi hS => ?_)
                                  have hF := hF.ast hg15190 skm_67 oq (by decide)
                                  have m15192 := (el_kept (oq _ (gne hg3896 hg15190 (by decide)))).trans m14627
                                  refine lv_iinc (v := nI (i14626 + 1)) (lv' := [(8, .int (nI (i14626 + 1))), (7, .int z9644), (6, .int (nI i3918)), (5, .int z83), (0, .ref o0), (1, .int p0), (2, .int p1), (3, .int p2), (4, .int p3)]) hx hb dX12_lifts__257 hl (k := 0) rfl (nI_add i14626 1) (by decide) rfl (fun ls hl => ?_)
                                  refine lv_goto (tgt := 239) hx hb dX12_lifts__260 (by decide) ?_
                                  exact ih14634 (i14626 + 1) (by omega) (by omega) _ _ hT hF hS m15192 ls (lv_sub hl [0, 1, 2, 3, 4, 5, 6, 7, 8] rfl)
                              exact key14634 (1001 - 0) 0 (by omega) (Nat.le_refl _) _ _ hT hF hS m9645 ls (lv_sub hl [0, 1, 2, 3, 4, 5, 6, 7, 8] rfl)
                            · have t15193 : ((i9643 : Nat) : Int) < x3898.toInt := ti_nle c14624 rfl (nI_toInt (by omega))
                              refine lv_aload_n hx hb dX12_lifts__191 rfl (lv_at hl 4 rfl) ?_
                              refine lv_iload hx hb dX12_lifts__192 (lv_at hl 0 rfl) ?_
                              refine lv_iconst (v := 0) hx hb dX12_lifts__194 (by decide) ?_
                              have hFc := gA_free hG hA hS
                              refine va_calli (va_runV (As := [.int (nI i9643), .int 0]) (rest := []) ⟨hx, hb, hml, hown, hts⟩ (s_of0 l dC dI kA adK adV G H q wZ wN wH wB wC wL wK wU wV PI im PM PT lS lB lE lN o0 (nI i9643) hT hr_o0 (rg_t (a := ((i9643 : Nat) : Int)) (nI_toInt (by omega)) (by omega) (by omega)) hgz hgn hgh hgb hgc hgi hgu) (cwV 2 hts (goodIn_app (goodIn_r _ [32, 33, 34, 5] rfl (by decide +kernel)) (goodIn_ca (goodIn_r _ [28, 10, 29, 30, 31, 5] rfl (by decide +kernel)) (bs_in _ _))) rfl rfl rfl (by decide +kernel) ⟨(Nat.le_of_ble_eq_true rfl), (Nat.le_of_ble_eq_true rfl)⟩) ⟨fun a U g mk q => by obtain ⟨q0, q1, qK, qE⟩ := q; exact ⟨q0, q1, va_K.moved (u := U) (U := U.calling g mk a) (Vm.Alike.refl U.vm) qK, EVS.blind g mk a qE⟩, gH_rc hK hT hr_o0 shm_0 rfl, fun U hU hW => ⟨rfl, hU, va_K.moved hW.alike hK, hE.call hS hFc hU hW⟩⟩ rfl rfl hl.1 rfl (lv_room (Nat.le_of_ble_eq_true rfl)) dX12_lifts__195 ⟨(Nat.le_of_ble_eq_true rfl), (Nat.le_of_ble_eq_true rfl)⟩) hS (fun q _ h => hFc q h) hFc (fun r15194 u t H locs ht hvm hw15195 hB _ _ hS => ?_)
                              obtain ⟨hT, hF1⟩ := hB
                              rw [ht] at hT hF1
                              have m15196 := (el_kept (hF1.arr hg3896 skm_2 (by decide))).trans m9645
                              have hF := hF.more hF1 (by decide)
                              try dsimp only at hw15195
                              have ⟨ix15197, hix15197, m15198⟩ := hw15195
                              have t15199 : (nI i9643).toInt = ((i9643 : Nat) : Int) := nI_toInt (by omega)
                              refine lv_iconst (v := 2) hx hb dX12_lifts__198 (by decide) ?_
                              refine lv_icmp_ne (tgt := 230) hx hb dX12_lifts__199 (by decide) (fun c15201 => ?_) (fun c15201 => ?_)
                              · have t15202 : r15194.toInt ≠ 2 := ti_ne c15201 rfl (by decide)
                                refine lv_iinc (v := nI (i9643 + 1)) (lv' := [(8, .int (nI (i9643 + 1))), (7, .int z9644), (6, .int (nI i3918)), (5, .int z83), (0, .ref o0), (1, .int p0), (2, .int p1), (3, .int p2), (4, .int p3)]) hx hb dX12_lifts__230 hl (k := 0) rfl (nI_add i9643 1) (by decide) rfl (fun ls hl => ?_)
                                refine lv_goto (tgt := 178) hx hb dX12_lifts__233 (by decide) ?_
                                exact ih10259 (i9643 + 1) (by omega) (by omega) z9644 _ _ hT hF hS m15196 ls (lv_sub hl [0, 1, 2, 3, 4, 5, 6, 7, 8] rfl)
                              · have t15203 : r15194.toInt = 2 := ti_eq c15201 rfl (by decide)
                                refine lv_iload hx hb dX12_lifts__202 (lv_at hl 1 rfl) ?_
                                refine lv_aload_n hx hb dX12_lifts__204 rfl (lv_at hl 4 rfl) ?_
                                refine lv_iload hx hb dX12_lifts__205 (lv_at hl 0 rfl) ?_
                                refine lv_bipush (v := 17) hx hb dX12_lifts__207 (by decide) ?_
                                have hFc := gA_free hG hA hS
                                refine va_calli (va_runV (As := [.int (nI i9643), .int 17]) (rest := [.int z9644]) ⟨hx, hb, hml, hown, hts⟩ (s_of17 l dC dI kA adK adV G H q wZ wN wH wB wC wL wK wU wV PI im PM PT lS lB lE lN o0 (nI i9643) hT hr_o0 (rg_t (a := ((i9643 : Nat) : Int)) (nI_toInt (by omega)) (by omega) (by omega)) hgz hgn hgh hgb hgc hgi hgu) (cwV 2 hts (goodIn_app (goodIn_r _ [32, 33, 34, 5] rfl (by decide +kernel)) (goodIn_ca (goodIn_r _ [28, 10, 29, 30, 31, 5] rfl (by decide +kernel)) (bs_in _ _))) rfl rfl rfl (by decide +kernel) ⟨(Nat.le_of_ble_eq_true rfl), (Nat.le_of_ble_eq_true rfl)⟩) ⟨fun a U g mk q => by obtain ⟨q0, q1, qK, qE⟩ := q; exact ⟨q0, q1, va_K.moved (u := U) (U := U.calling g mk a) (Vm.Alike.refl U.vm) qK, EVS.blind g mk a qE⟩, gH_rc hK hT hr_o0 shm_0 rfl, fun U hU hW => ⟨rfl, hU, va_K.moved hW.alike hK, hE.call hS hFc hU hW⟩⟩ rfl rfl hl.1 rfl (lv_room (Nat.le_of_ble_eq_true rfl)) dX12_lifts__209 ⟨(Nat.le_of_ble_eq_true rfl), (Nat.le_of_ble_eq_true rfl)⟩) hS (fun q _ h => hFc q h) hFc (fun r15204 u t H locs ht hvm hw15205 hB _ _ hS => ?_)
                                obtain ⟨hT, hF1⟩ := hB
                                rw [ht] at hT hF1
                                have m15206 := (el_kept (hF1.arr hg3896 skm_2 (by decide))).trans m15196
                                have hF := hF.more hF1 (by decide)
                                try dsimp only at hw15205
                                obtain ⟨h15208, ⟨ix15209, hix15209, m15210⟩⟩ := hw15205
                                have t15211 : (nI i9643).toInt = ((i9643 : Nat) : Int) := nI_toInt (by omega)
                                refine lv_aload_n hx hb dX12_lifts__212 rfl (lv_at hl 4 rfl) ?_
                                refine lv_aload_n hx hb dX12_lifts__213 rfl (lv_at hl 4 rfl) ?_
                                have hFc := gA_free hG hA hS
                                refine va_calli (va_runV (As := []) (rest := [.ref o0, .int r15204, .int z9644]) ⟨hx, hb, hml, hown, hts⟩ (s_hour l dC dI kA adK adV G H q wZ wN wH wB wC wL wK wU wV PI im PM PT lS lB lE lN o0 hT hr_o0 hgz hgn hgh hgb hgc hgi hgu) (cwV 0 hts (goodIn_app (goodIn_r _ [36, 37, 38, 5] rfl (by decide +kernel)) (goodIn_ca (goodIn_r _ [35, 10] rfl (by decide +kernel)) (bs_in _ _))) rfl rfl rfl (by decide +kernel) ⟨(Nat.le_of_ble_eq_true rfl), (Nat.le_of_ble_eq_true rfl)⟩) ⟨fun a U g mk q => by obtain ⟨q0, q1, qK, qE⟩ := q; exact ⟨q0, q1, va_K.moved (u := U) (U := U.calling g mk a) (Vm.Alike.refl U.vm) qK, EVS.blind g mk a qE⟩, gH_rc hK hT hr_o0 shm_0 rfl, fun U hU hW => ⟨rfl, hU, va_K.moved hW.alike hK, hE.call hS hFc hU hW⟩⟩ rfl rfl hl.1 rfl (lv_room (Nat.le_of_ble_eq_true rfl)) dX12_lifts__214 ⟨(Nat.le_of_ble_eq_true rfl), (Nat.le_of_ble_eq_true rfl)⟩) hS (fun q _ h => hFc q h) hFc (fun r15213 u t H locs ht hvm hw15214 hB _ _ hS => ?_)
                                obtain ⟨hT, hF1⟩ := hB
                                rw [ht] at hT hF1
                                have m15215 := (el_kept (hF1.arr hg3896 skm_2 (by decide))).trans m15206
                                have hF := hF.more hF1 (by decide)
                                try dsimp only at hw15214
                                obtain ⟨h15218, hf15219⟩ := hw15214
                                refine lv_iload hx hb dX12_lifts__217 (lv_at hl 2 rfl) ?_
                                refine lv_iadd hx hb dX12_lifts__219 ?_
                                refine lv_topi (fun x15220 ex15220 => ?_)
                                have t15221 : x15220.toInt = r15213.toInt + ((i3918 : Nat) : Int) := ti_add ex15220 rfl (nI_toInt (by omega)) (by omega) (by omega)
                                have hFc := gA_free hG hA hS
                                refine va_calli (va_runV (As := [.int x15220]) (rest := [.int r15204, .int z9644]) ⟨hx, hb, hml, hown, hts⟩ (s_wind l dC dI kA adK adV G H q wZ wN wH wB wC wL wK wU wV PI im PM PT lS lB lE lN o0 x15220 hT hr_o0 hgz hgn hgh hgb hgc hgi hgu) (cwV 1 hts (goodIn_app (goodIn_r _ [44, 45, 46, 5] rfl (by decide +kernel)) (goodIn_ca (goodIn_r _ [39, 40, 10, 41, 42, 43, 5, 25, 26, 15, 27] rfl (by decide +kernel)) (bs_in _ _))) rfl rfl rfl (by decide +kernel) ⟨(Nat.le_of_ble_eq_true rfl), (Nat.le_of_ble_eq_true rfl)⟩) ⟨fun a U g mk q => by obtain ⟨q0, q1, qK, qE⟩ := q; exact ⟨q0, q1, va_K.moved (u := U) (U := U.calling g mk a) (Vm.Alike.refl U.vm) qK, EVS.blind g mk a qE⟩, gH_rc hK hT hr_o0 shm_0 rfl, fun U hU hW => ⟨rfl, hU, va_K.moved hW.alike hK, hE.call hS hFc hU hW⟩⟩ rfl rfl hl.1 rfl (lv_room (Nat.le_of_ble_eq_true rfl)) dX12_lifts__220 ⟨(Nat.le_of_ble_eq_true rfl), (Nat.le_of_ble_eq_true rfl)⟩) hS (fun q _ h => hFc q h) hFc (fun r15222 u t H locs ht hvm hw15223 hB _ _ hS => ?_)
                                obtain ⟨hT, hF1⟩ := hB
                                rw [ht] at hT hF1
                                have m15224 := (el_kept (hF1.arr hg3896 skm_2 (by decide))).trans m15215
                                have hF := hF.more hF1 (by decide)
                                try dsimp only at hw15223
                                have h15227 := hw15223
                                refine lv_imul hx hb dX12_lifts__223 ?_
                                refine lv_topi (fun x15228 ex15228 => ?_)
                                have t15229 : 0 ≤ x15228.toInt ∧ x15228.toInt ≤ 60 * 9 ∧ (r15204.toInt = 0 → x15228.toInt = 0) ∧ (r15222.toInt = 0 → x15228.toInt = 0) ∧ x15228.toInt ≤ r15204.toInt * 9 ∧ x15228.toInt ≤ 60 * r15222.toInt := ti_mulnn ex15228 rfl rfl (by omega) (by omega) (by omega) (by omega) (by decide)
                                refine lv_bipush (v := 10) hx hb dX12_lifts__224 (by decide) ?_
                                refine lv_idiv hx hb dX12_lifts__226 (by decide) ?_
                                refine lv_topi (fun x15230 ex15230 => ?_)
                                have t15231 : x15230.toInt = x15228.toInt / 10 := ti_div ex15230 rfl (by decide) (by omega) (by omega)
                                refine lv_iadd hx hb dX12_lifts__227 ?_
                                refine lv_topi (fun x15232 ex15232 => ?_)
                                refine lv_istore (lv' := [(7, .int x15232), (8, .int (nI i9643)), (6, .int (nI i3918)), (5, .int z83), (0, .ref o0), (1, .int p0), (2, .int p1), (3, .int p2), (4, .int p3)]) hx hb dX12_lifts__228 hl (by decide) rfl (fun ls hl => ?_)
                                refine lv_iinc (v := nI (i9643 + 1)) (lv' := [(8, .int (nI (i9643 + 1))), (7, .int x15232), (6, .int (nI i3918)), (5, .int z83), (0, .ref o0), (1, .int p0), (2, .int p1), (3, .int p2), (4, .int p3)]) hx hb dX12_lifts__230 hl (k := 1) rfl (nI_add i9643 1) (by decide) rfl (fun ls hl => ?_)
                                refine lv_goto (tgt := 178) hx hb dX12_lifts__233 (by decide) ?_
                                exact ih10259 (i9643 + 1) (by omega) (by omega) x15232 _ _ hT hF hS m15224 ls (lv_sub hl [0, 1, 2, 3, 4, 5, 6, 7, 8] rfl)
                        exact key10259 (29 - 0) 0 (by omega) (Nat.le_refl _) 0 _ _ hT hF hS m3919 ls (lv_sub hl [0, 1, 2, 3, 4, 5, 6, 7, 8] rfl)
                  exact key9554 (25 - 1) 1 (by omega) (Nat.le_refl _) _ _ hT hF hS m3902 ls (lv_sub hl [0, 1, 2, 3, 4, 5, 6] rfl)
                | succ n3914 ih3914 =>
                  intro i3901 hn3914 hlo3915  H locs hT hF hS m3902 ls hl
                  have hlt15232 : i3901 < 1001 := by omega
                  refine lv_iload hx hb dX12_lifts__129 (lv_at hl 0 rfl) ?_
                  refine lv_sipush (v := 1001) hx hb dX12_lifts__131 (by decide) ?_
                  refine lv_icmp_ge (tgt := 163) hx hb dX12_lifts__134 (by decide) (fun c15233 => (by exfalso; have q9 : 1001 ≤ ((i3901 : Nat) : Int) := ti_le c15233 (by decide) (nI_toInt (by omega)); omega)) (fun c15233 => ?_)
                  have t15234 : ((i3901 : Nat) : Int) < 1001 := ti_nle c15233 (by decide) (nI_toInt (by omega))
                  refine lv_aload_n hx hb dX12_lifts__137 rfl (lv_at hl 2 rfl) ?_
                  refine tw_get hx hb hts bF_X12 hown hK hT hr_o0 shm_0 rfl 65 (by decide) (ht_at hts 11 rfl) (fun _ h9 => h9) dX12_lifts__138 (fun v9 m15235 h9 => ?_)
                  obtain ⟨rfl, hg15236⟩ := h9 _ rfl
                  refine lv_iload hx hb dX12_lifts__141 (lv_at hl 0 rfl) ?_
                  refine lv_iload hx hb dX12_lifts__143 (lv_at hl 0 rfl) ?_
                  refine lv_iload_n hx hb dX12_lifts__145 rfl (lv_at hl 3 rfl) ?_
                  refine lv_icmp_ne (tgt := 153) hx hb dX12_lifts__146 (by decide) (fun c15237 => ?_) (fun c15237 => ?_)
                  · have t15238 : ((i3901 : Nat) : Int) ≠ p0.toInt := ti_ne c15237 (nI_toInt (by omega)) rfl
                    refine lv_ldcw (v := 1000000000) hx hb hown (ht_at hts 10 rfl) dX12_lifts__153 ?_
                    refine tw_iast (i := (nI i3901)) (x := 1000000000) hx hb hK hT hG hS hg15236 shm_66 rfl (vp_in_nI (by omega) (by decide)) (gi_all _) dX12_lifts__156 (fun H locs hT oq m15239 oi hS => ?_)
                    have hF := hF.ast hg15236 skm_66 oq (by decide)
                    have m15240 := (el_kept (oq _ (gne hg3896 hg15236 (by decide)))).trans m3902
                    refine lv_iinc (v := nI (i3901 + 1)) (lv' := [(6, .int (nI (i3901 + 1))), (5, .int z83), (0, .ref o0), (1, .int p0), (2, .int p1), (3, .int p2), (4, .int p3)]) hx hb dX12_lifts__157 hl (k := 0) rfl (nI_add i3901 1) (by decide) rfl (fun ls hl => ?_)
                    refine lv_goto (tgt := 129) hx hb dX12_lifts__160 (by decide) ?_
                    exact ih3914 (i3901 + 1) (by omega) (by omega) _ _ hT hF hS m15240 ls (lv_sub hl [0, 1, 2, 3, 4, 5, 6] rfl)
                  · have t15241 : ((i3901 : Nat) : Int) = p0.toInt := ti_eq c15237 (nI_toInt (by omega)) rfl
                    refine lv_iconst (v := 0) hx hb dX12_lifts__149 (by decide) ?_
                    refine lv_goto (tgt := 156) hx hb dX12_lifts__150 (by decide) ?_
                    refine tw_iast (i := (nI i3901)) (x := 0) hx hb hK hT hG hS hg15236 shm_66 rfl (vp_in_nI (by omega) (by decide)) (gi_all _) dX12_lifts__156 (fun H locs hT oq m15242 oi hS => ?_)
                    have hF := hF.ast hg15236 skm_66 oq (by decide)
                    have m15243 := (el_kept (oq _ (gne hg3896 hg15236 (by decide)))).trans m3902
                    refine lv_iinc (v := nI (i3901 + 1)) (lv' := [(6, .int (nI (i3901 + 1))), (5, .int z83), (0, .ref o0), (1, .int p0), (2, .int p1), (3, .int p2), (4, .int p3)]) hx hb dX12_lifts__157 hl (k := 0) rfl (nI_add i3901 1) (by decide) rfl (fun ls hl => ?_)
                    refine lv_goto (tgt := 129) hx hb dX12_lifts__160 (by decide) ?_
                    exact ih3914 (i3901 + 1) (by omega) (by omega) _ _ hT hF hS m15243 ls (lv_sub hl [0, 1, 2, 3, 4, 5, 6] rfl)
              exact key3914 (1001 - 0) 0 (by omega) (Nat.le_refl _) _ _ hT hF hS m3897 ls (lv_sub hl [0, 1, 2, 3, 4, 5, 6] rfl)
            | succ n3893 ih3893 =>
              intro i82 hn3893 hlo3894 z83 h84 H locs hT hF hS  ls hl
              have hlt15243 : i82 < 30 := by omega
              refine lv_iload hx hb dX12_lifts__69 (lv_at hl 0 rfl) ?_
              refine lv_aload_n hx hb dX12_lifts__71 rfl (lv_at hl 2 rfl) ?_
              refine tw_get hx hb hts bF_X12 hown hK hT hr_o0 shm_0 rfl 1 (by decide) (ht_at hts 9 rfl) (fun _ h9 => h9) dX12_lifts__72 (fun v9 m15244 h9 => ?_)
              obtain ⟨rfl, hg15245⟩ := h9 _ rfl
              refine lv_sipush (v := 1428) hx hb dX12_lifts__75 (by decide) ?_
              refine tw_iald (i := 1428) hx hb hK hT hg15245 shm_2 rfl (by unfold vp_in; decide) dX12_lifts__78 (fun v9 m15246 h9 => ?_)
              obtain ⟨x15247, rfl, gx15247, kx15247⟩ := (gp_at h9 (w_wct (by have q9 := tn_of (show (1428 : Int32).toInt = 1428 from (by decide)) (show (0 : Int) ≤ 1428 from by omega); omega)))
              refine lv_icmp_ge (tgt := 126) hx hb dX12_lifts__79 (by decide) (fun c15248 => ?_) (fun c15248 => ?_)
              · have t15249 : x15247.toInt ≤ ((i82 : Nat) : Int) := ti_le c15248 rfl (nI_toInt (by omega))
                refine lv_iconst (v := 0) hx hb dX12_lifts__126 (by decide) ?_
                refine lv_istore (lv' := [(6, .int 0), (5, .int z83), (0, .ref o0), (1, .int p0), (2, .int p1), (3, .int p2), (4, .int p3)]) hx hb dX12_lifts__127 hl (by decide) rfl (fun ls hl => ?_)
                have key15263 : ∀ (n15263 i15250 : Nat), i15250 + n15263 = 1001 → 0 ≤ i15250 → ∀ (H : Heap) (locs : List Loc), gH (dC, dI) kA (SHm q (wP wZ wN wH wB wC wL wK wU wV) PI im PM PT lS lB lE lN) G H → gF (dC, dI) SKm G ([(0, 0), (66, 0), (67, 0), (68, 0)] : List (Nat × Nat)) s.heap H → va_S A s.heap H locs → el H (q 1) (1428 : Int32).toNatClampNeg = some (.int x15247) → ∀ ls : Array Slot, lv_has ls 13 [(6, .int (nI i15250)), (5, .int z83), (0, .ref o0), (1, .int p0), (2, .int p1), (3, .int p2), (4, .int p3)] → W p l e (headSpec w_s_lifts_ ({ frames := 2, cells := 0, slots := 0, locals := 66 })).room s m #[.ref o0, .int p0, .int p1, .int p2, .int p3] below meth c H locs 0 0 (MQ below (va_Qi (fun (r : Int32) (u : Unit) => (-2147483648 ≤ r.toInt ∧ r.toInt ≤ 999999999)) (fun (_ : Unit) (t : State) => gH (dC, dI) kA (SHm q (wP wZ wN wH wB wC wL wK wU wV) PI im PM PT lS lB lE lN) G t.heap ∧ gF (dC, dI) SKm G ([(0, 0), (66, 0), (67, 0), (68, 0)] : List (Nat × Nat)) s.heap t.heap) A) #[.ref o0, .int p0, .int p1, .int p2, .int p3] s 0 0 A) (F0 m 129 ls []) := by
                  intro n15263
                  induction n15263 with
                  | zero =>
                    intro i15250 hn15263 hlo15264  H locs hT hF hS m15251 ls hl
                    obtain rfl : 1001 = i15250 := by omega
                    refine lv_iload hx hb dX12_lifts__129 (lv_at hl 0 rfl) ?_
                    refine lv_sipush (v := 1001) hx hb dX12_lifts__131 (by decide) ?_
                    refine lv_icmp_ge (tgt := 163) hx hb dX12_lifts__134 (by decide) (fun c15265 => ?_) (fun c15265 => (by exfalso; have q9 : ((1001 : Nat) : Int) < 1001 := ti_nle c15265 (by decide) (nI_toInt (by omega)); omega))
                    have t15266 : 1001 ≤ ((1001 : Nat) : Int) := ti_le c15265 (by decide) (nI_toInt (by omega))
                    refine lv_iconst (v := 1) hx hb dX12_lifts__163 (by decide) ?_
                    refine lv_istore (lv' := [(6, .int 1), (5, .int z83), (0, .ref o0), (1, .int p0), (2, .int p1), (3, .int p2), (4, .int p3)]) hx hb dX12_lifts__164 hl (by decide) rfl (fun ls hl => ?_)
                    have key17117 : ∀ (n17117 i15267 : Nat), i15267 + n17117 = 25 → 1 ≤ i15267 → ∀ (H : Heap) (locs : List Loc), gH (dC, dI) kA (SHm q (wP wZ wN wH wB wC wL wK wU wV) PI im PM PT lS lB lE lN) G H → gF (dC, dI) SKm G ([(0, 0), (66, 0), (67, 0), (68, 0)] : List (Nat × Nat)) s.heap H → va_S A s.heap H locs → el H (q 1) (1428 : Int32).toNatClampNeg = some (.int x15247) → ∀ ls : Array Slot, lv_has ls 13 [(6, .int (nI i15267)), (5, .int z83), (0, .ref o0), (1, .int p0), (2, .int p1), (3, .int p2), (4, .int p3)] → W p l e (headSpec w_s_lifts_ ({ frames := 2, cells := 0, slots := 0, locals := 66 })).room s m #[.ref o0, .int p0, .int p1, .int p2, .int p3] below meth c H locs 0 0 (MQ below (va_Qi (fun (r : Int32) (u : Unit) => (-2147483648 ≤ r.toInt ∧ r.toInt ≤ 999999999)) (fun (_ : Unit) (t : State) => gH (dC, dI) kA (SHm q (wP wZ wN wH wB wC wL wK wU wV) PI im PM PT lS lB lE lN) G t.heap ∧ gF (dC, dI) SKm G ([(0, 0), (66, 0), (67, 0), (68, 0)] : List (Nat × Nat)) s.heap t.heap) A) #[.ref o0, .int p0, .int p1, .int p2, .int p3] s 0 0 A) (F0 m 166 ls []) := by
                      intro n17117
                      induction n17117 with
                      | zero =>
                        intro i15267 hn17117 hlo17118  H locs hT hF hS m15268 ls hl
                        obtain rfl : 25 = i15267 := by omega
                        refine lv_iload hx hb dX12_lifts__166 (lv_at hl 0 rfl) ?_
                        refine lv_iload_n hx hb dX12_lifts__168 rfl (lv_at hl 5 rfl) ?_
                        refine lv_icmp_gt (tgt := 449) hx hb dX12_lifts__169 (by decide) (fun c17119 => ?_) (fun c17119 => (by exfalso; have q9 : ((25 : Nat) : Int) ≤ p2.toInt := ti_nlt c17119 rfl (nI_toInt (by omega)); omega))
                        have t17120 : p2.toInt < ((25 : Nat) : Int) := ti_lt c17119 rfl (nI_toInt (by omega))
                        refine lv_ldcw (v := 1000000000) hx hb hown (ht_at hts 10 rfl) dX12_lifts__449 ?_
                        refine lv_istore (lv' := [(6, .int 1000000000), (5, .int z83), (0, .ref o0), (1, .int p0), (2, .int p1), (3, .int p2), (4, .int p3)]) hx hb dX12_lifts__452 hl (by decide) rfl (fun ls hl => ?_)
                        refine lv_iconst (v := 0) hx hb dX12_lifts__454 (by decide) ?_
                        refine lv_istore (lv' := [(7, .int 0), (6, .int 1000000000), (5, .int z83), (0, .ref o0), (1, .int p0), (2, .int p1), (3, .int p2), (4, .int p3)]) hx hb dX12_lifts__455 hl (by decide) rfl (fun ls hl => ?_)
                        have jn17146 : ∀ (z17143 : Int32), ((-2147483648 ≤ z17143.toInt ∧ z17143.toInt ≤ 1000000000)) → ∀ (H : Heap) (locs : List Loc), gH (dC, dI) kA (SHm q (wP wZ wN wH wB wC wL wK wU wV) PI im PM PT lS lB lE lN) G H → gF (dC, dI) SKm G ([(0, 0), (66, 0), (67, 0), (68, 0)] : List (Nat × Nat)) s.heap H → va_S A s.heap H locs → el H (q 1) (1428 : Int32).toNatClampNeg = some (.int x15247) → ∀ ls : Array Slot, lv_has ls 13 [(7, .int (nI 1001)), (6, .int z17143), (5, .int z83), (0, .ref o0), (1, .int p0), (2, .int p1), (3, .int p2), (4, .int p3)] → W p l e (headSpec w_s_lifts_ ({ frames := 2, cells := 0, slots := 0, locals := 66 })).room s m #[.ref o0, .int p0, .int p1, .int p2, .int p3] below meth c H locs 0 0 (MQ below (va_Qi (fun (r : Int32) (u : Unit) => (-2147483648 ≤ r.toInt ∧ r.toInt ≤ 999999999)) (fun (_ : Unit) (t : State) => gH (dC, dI) kA (SHm q (wP wZ wN wH wB wC wL wK wU wV) PI im PM PT lS lB lE lN) G t.heap ∧ gF (dC, dI) SKm G ([(0, 0), (66, 0), (67, 0), (68, 0)] : List (Nat × Nat)) s.heap t.heap) A) #[.ref o0, .int p0, .int p1, .int p2, .int p3] s 0 0 A) (F0 m 485 ls []) := by
                          intro z17143 h17144 H locs hT hF hS m17145 ls hl
                          refine lv_iload hx hb dX12_lifts__485 (lv_at hl 1 rfl) ?_
                          refine lv_ldcw (v := 1000000000) hx hb hown (ht_at hts 10 rfl) dX12_lifts__487 ?_
                          refine lv_icmp_ne (tgt := 497) hx hb dX12_lifts__490 (by decide) (fun c17147 => ?_) (fun c17147 => ?_)
                          · have t17148 : z17143.toInt ≠ 1000000000 := ti_ne c17147 rfl (by decide)
                            refine lv_iload hx hb dX12_lifts__497 (lv_at hl 1 rfl) ?_
                            exact W.iret (v := z17143) hx hb hr (fun t ht hW => ⟨⟨z17143, (), rfl, (by exact (by have q8 := ti_all z17143; omega)), by (try dsimp only); rw [ht]; exact ⟨hT, hF⟩⟩, hS.F ht⟩) hS.2.2 dX12_lifts__499
                          · have t17149 : z17143.toInt = 1000000000 := ti_eq c17147 rfl (by decide)
                            refine lv_iconst (v := (-1)) hx hb dX12_lifts__493 (by decide) ?_
                            refine lv_goto (tgt := 499) hx hb dX12_lifts__494 (by decide) ?_
                            exact W.iret (v := (-1)) hx hb hr (fun t ht hW => ⟨⟨(-1), (), rfl, (by exact (rg_t (a := (-1)) (by decide) (by first | decide | omega) (by first | decide | omega))), by (try dsimp only); rw [ht]; exact ⟨hT, hF⟩⟩, hS.F ht⟩) hS.2.2 dX12_lifts__499
                        have key17150 : ∀ (n17150 i17121 : Nat), i17121 + n17150 = 1001 → 0 ≤ i17121 → ∀ (z17122 : Int32), ((-2147483648 ≤ z17122.toInt ∧ z17122.toInt ≤ 1000000000)) → ∀ (H : Heap) (locs : List Loc), gH (dC, dI) kA (SHm q (wP wZ wN wH wB wC wL wK wU wV) PI im PM PT lS lB lE lN) G H → gF (dC, dI) SKm G ([(0, 0), (66, 0), (67, 0), (68, 0)] : List (Nat × Nat)) s.heap H → va_S A s.heap H locs → el H (q 1) (1428 : Int32).toNatClampNeg = some (.int x15247) → ∀ ls : Array Slot, lv_has ls 13 [(7, .int (nI i17121)), (6, .int z17122), (5, .int z83), (0, .ref o0), (1, .int p0), (2, .int p1), (3, .int p2), (4, .int p3)] → W p l e (headSpec w_s_lifts_ ({ frames := 2, cells := 0, slots := 0, locals := 66 })).room s m #[.ref o0, .int p0, .int p1, .int p2, .int p3] below meth c H locs 0 0 (MQ below (va_Qi (fun (r : Int32) (u : Unit) => (-2147483648 ≤ r.toInt ∧ r.toInt ≤ 999999999)) (fun (_ : Unit) (t : State) => gH (dC, dI) kA (SHm q (wP wZ wN wH wB wC wL wK wU wV) PI im PM PT lS lB lE lN) G t.heap ∧ gF (dC, dI) SKm G ([(0, 0), (66, 0), (67, 0), (68, 0)] : List (Nat × Nat)) s.heap t.heap) A) #[.ref o0, .int p0, .int p1, .int p2, .int p3] s 0 0 A) (F0 m 457 ls []) := by
                          intro n17150
                          induction n17150 with
                          | zero =>
                            intro i17121 hn17150 hlo17151 z17122 h17123 H locs hT hF hS m17124 ls hl
                            obtain rfl : 1001 = i17121 := by omega
                            refine lv_iload hx hb dX12_lifts__457 (lv_at hl 0 rfl) ?_
                            refine lv_sipush (v := 1001) hx hb dX12_lifts__459 (by decide) ?_
                            refine lv_icmp_ge (tgt := 485) hx hb dX12_lifts__462 (by decide) (fun c17152 => ?_) (fun c17152 => (by exfalso; have q9 : ((1001 : Nat) : Int) < 1001 := ti_nle c17152 (by decide) (nI_toInt (by omega)); omega))
                            have t17153 : 1001 ≤ ((1001 : Nat) : Int) := ti_le c17152 (by decide) (nI_toInt (by omega))
                            exact jn17146 z17122 (by have q8 := ti_all z17122; omega) _ _ hT hF hS m17124 ls (lv_sub hl [0, 1, 2, 3, 4, 5, 6, 7] rfl)
                          | succ n17150 ih17150 =>
                            intro i17121 hn17150 hlo17151 z17122 h17123 H locs hT hF hS m17124 ls hl
                            have hlt17153 : i17121 < 1001 := by omega
                            refine lv_iload hx hb dX12_lifts__457 (lv_at hl 0 rfl) ?_
                            refine lv_sipush (v := 1001) hx hb dX12_lifts__459 (by decide) ?_
                            refine lv_icmp_ge (tgt := 485) hx hb dX12_lifts__462 (by decide) (fun c17154 => (by exfalso; have q9 : 1001 ≤ ((i17121 : Nat) : Int) := ti_le c17154 (by decide) (nI_toInt (by omega)); omega)) (fun c17154 => ?_)
                            have t17155 : ((i17121 : Nat) : Int) < 1001 := ti_nle c17154 (by decide) (nI_toInt (by omega))
                            refine lv_iload hx hb dX12_lifts__465 (lv_at hl 1 rfl) ?_
                            refine lv_aload_n hx hb dX12_lifts__467 rfl (lv_at hl 3 rfl) ?_
                            refine tw_get hx hb hts bF_X12 hown hK hT hr_o0 shm_0 rfl 65 (by decide) (ht_at hts 11 rfl) (fun _ h9 => h9) dX12_lifts__468 (fun v9 m17156 h9 => ?_)
                            obtain ⟨rfl, hg17157⟩ := h9 _ rfl
                            refine lv_iload hx hb dX12_lifts__471 (lv_at hl 0 rfl) ?_
                            refine tw_iald (i := (nI i17121)) hx hb hK hT hg17157 shm_66 rfl (vp_in_nI (by omega) (by decide)) dX12_lifts__473 (fun v9 m17158 h9 => ?_)
                            obtain ⟨x17159, rfl, gx17159, kx17159⟩ := h9
                            refine va_mmin hx hb (hml.trans hl.1.symm) hown (ht_at hts 12 rfl) (ht_at hts 13 rfl) (ht_at hts 14 rfl) (ht_at hts 15 rfl) (Nat.le_of_ble_eq_true rfl) (Nat.le_of_ble_eq_true rfl) (Nat.le_of_ble_eq_true rfl) (Nat.le_of_ble_eq_true rfl) dX12_lifts__474 ?_
                            refine lv_topi (fun x17160 ex17160 => ?_)
                            have t17161 : x17160.toInt ≤ z17122.toInt ∧ x17160.toInt ≤ x17159.toInt ∧ (x17160.toInt = z17122.toInt ∨ x17160.toInt = x17159.toInt) := mn_f ex17160 rfl rfl
                            refine lv_istore (lv' := [(6, .int x17160), (7, .int (nI i17121)), (5, .int z83), (0, .ref o0), (1, .int p0), (2, .int p1), (3, .int p2), (4, .int p3)]) hx hb dX12_lifts__477 hl (by decide) rfl (fun ls hl => ?_)
                            refine lv_iinc (v := nI (i17121 + 1)) (lv' := [(7, .int (nI (i17121 + 1))), (6, .int x17160), (5, .int z83), (0, .ref o0), (1, .int p0), (2, .int p1), (3, .int p2), (4, .int p3)]) hx hb dX12_lifts__479 hl (k := 1) rfl (nI_add i17121 1) (by decide) rfl (fun ls hl => ?_)
                            refine lv_goto (tgt := 457) hx hb dX12_lifts__482 (by decide) ?_
                            exact ih17150 (i17121 + 1) (by omega) (by omega) x17160 (by have q8 := ti_all x17160; omega) _ _ hT hF hS m17124 ls (lv_sub hl [0, 1, 2, 3, 4, 5, 6, 7] rfl)
                        exact key17150 (1001 - 0) 0 (by omega) (Nat.le_refl _) 1000000000 (rg_t (a := 1000000000) (by decide) (by first | decide | omega) (by first | decide | omega)) _ _ hT hF hS m15268 ls (lv_sub hl [0, 1, 2, 3, 4, 5, 6, 7] rfl)
                      | succ n17117 ih17117 =>
                        intro i15267 hn17117 hlo17118  H locs hT hF hS m15268 ls hl
                        have hlt17161 : i15267 < 25 := by omega
                        refine lv_iload hx hb dX12_lifts__166 (lv_at hl 0 rfl) ?_
                        refine lv_iload_n hx hb dX12_lifts__168 rfl (lv_at hl 5 rfl) ?_
                        refine lv_icmp_gt (tgt := 449) hx hb dX12_lifts__169 (by decide) (fun c17162 => ?_) (fun c17162 => ?_)
                        · have t17163 : p2.toInt < ((i15267 : Nat) : Int) := ti_lt c17162 rfl (nI_toInt (by omega))
                          refine lv_ldcw (v := 1000000000) hx hb hown (ht_at hts 10 rfl) dX12_lifts__449 ?_
                          refine lv_istore (lv' := [(6, .int 1000000000), (5, .int z83), (0, .ref o0), (1, .int p0), (2, .int p1), (3, .int p2), (4, .int p3)]) hx hb dX12_lifts__452 hl (by decide) rfl (fun ls hl => ?_)
                          refine lv_iconst (v := 0) hx hb dX12_lifts__454 (by decide) ?_
                          refine lv_istore (lv' := [(7, .int 0), (6, .int 1000000000), (5, .int z83), (0, .ref o0), (1, .int p0), (2, .int p1), (3, .int p2), (4, .int p3)]) hx hb dX12_lifts__455 hl (by decide) rfl (fun ls hl => ?_)
                          have jn17189 : ∀ (z17186 : Int32), ((-2147483648 ≤ z17186.toInt ∧ z17186.toInt ≤ 1000000000)) → ∀ (H : Heap) (locs : List Loc), gH (dC, dI) kA (SHm q (wP wZ wN wH wB wC wL wK wU wV) PI im PM PT lS lB lE lN) G H → gF (dC, dI) SKm G ([(0, 0), (66, 0), (67, 0), (68, 0)] : List (Nat × Nat)) s.heap H → va_S A s.heap H locs → el H (q 1) (1428 : Int32).toNatClampNeg = some (.int x15247) → ∀ ls : Array Slot, lv_has ls 13 [(7, .int (nI 1001)), (6, .int z17186), (5, .int z83), (0, .ref o0), (1, .int p0), (2, .int p1), (3, .int p2), (4, .int p3)] → W p l e (headSpec w_s_lifts_ ({ frames := 2, cells := 0, slots := 0, locals := 66 })).room s m #[.ref o0, .int p0, .int p1, .int p2, .int p3] below meth c H locs 0 0 (MQ below (va_Qi (fun (r : Int32) (u : Unit) => (-2147483648 ≤ r.toInt ∧ r.toInt ≤ 999999999)) (fun (_ : Unit) (t : State) => gH (dC, dI) kA (SHm q (wP wZ wN wH wB wC wL wK wU wV) PI im PM PT lS lB lE lN) G t.heap ∧ gF (dC, dI) SKm G ([(0, 0), (66, 0), (67, 0), (68, 0)] : List (Nat × Nat)) s.heap t.heap) A) #[.ref o0, .int p0, .int p1, .int p2, .int p3] s 0 0 A) (F0 m 485 ls []) := by
                            intro z17186 h17187 H locs hT hF hS m17188 ls hl
                            refine lv_iload hx hb dX12_lifts__485 (lv_at hl 1 rfl) ?_
                            refine lv_ldcw (v := 1000000000) hx hb hown (ht_at hts 10 rfl) dX12_lifts__487 ?_
                            refine lv_icmp_ne (tgt := 497) hx hb dX12_lifts__490 (by decide) (fun c17190 => ?_) (fun c17190 => ?_)
                            · have t17191 : z17186.toInt ≠ 1000000000 := ti_ne c17190 rfl (by decide)
                              refine lv_iload hx hb dX12_lifts__497 (lv_at hl 1 rfl) ?_
                              exact W.iret (v := z17186) hx hb hr (fun t ht hW => ⟨⟨z17186, (), rfl, (by exact (by have q8 := ti_all z17186; omega)), by (try dsimp only); rw [ht]; exact ⟨hT, hF⟩⟩, hS.F ht⟩) hS.2.2 dX12_lifts__499
                            · have t17192 : z17186.toInt = 1000000000 := ti_eq c17190 rfl (by decide)
                              refine lv_iconst (v := (-1)) hx hb dX12_lifts__493 (by decide) ?_
                              refine lv_goto (tgt := 499) hx hb dX12_lifts__494 (by decide) ?_
                              exact W.iret (v := (-1)) hx hb hr (fun t ht hW => ⟨⟨(-1), (), rfl, (by exact (rg_t (a := (-1)) (by decide) (by first | decide | omega) (by first | decide | omega))), by (try dsimp only); rw [ht]; exact ⟨hT, hF⟩⟩, hS.F ht⟩) hS.2.2 dX12_lifts__499
                          have key17193 : ∀ (n17193 i17164 : Nat), i17164 + n17193 = 1001 → 0 ≤ i17164 → ∀ (z17165 : Int32), ((-2147483648 ≤ z17165.toInt ∧ z17165.toInt ≤ 1000000000)) → ∀ (H : Heap) (locs : List Loc), gH (dC, dI) kA (SHm q (wP wZ wN wH wB wC wL wK wU wV) PI im PM PT lS lB lE lN) G H → gF (dC, dI) SKm G ([(0, 0), (66, 0), (67, 0), (68, 0)] : List (Nat × Nat)) s.heap H → va_S A s.heap H locs → el H (q 1) (1428 : Int32).toNatClampNeg = some (.int x15247) → ∀ ls : Array Slot, lv_has ls 13 [(7, .int (nI i17164)), (6, .int z17165), (5, .int z83), (0, .ref o0), (1, .int p0), (2, .int p1), (3, .int p2), (4, .int p3)] → W p l e (headSpec w_s_lifts_ ({ frames := 2, cells := 0, slots := 0, locals := 66 })).room s m #[.ref o0, .int p0, .int p1, .int p2, .int p3] below meth c H locs 0 0 (MQ below (va_Qi (fun (r : Int32) (u : Unit) => (-2147483648 ≤ r.toInt ∧ r.toInt ≤ 999999999)) (fun (_ : Unit) (t : State) => gH (dC, dI) kA (SHm q (wP wZ wN wH wB wC wL wK wU wV) PI im PM PT lS lB lE lN) G t.heap ∧ gF (dC, dI) SKm G ([(0, 0), (66, 0), (67, 0), (68, 0)] : List (Nat × Nat)) s.heap t.heap) A) #[.ref o0, .int p0, .int p1, .int p2, .int p3] s 0 0 A) (F0 m 457 ls []) := by
                            intro n17193
                            induction n17193 with
                            | zero =>
                              intro i17164 hn17193 hlo17194 z17165 h17166 H locs hT hF hS m17167 ls hl
                              obtain rfl : 1001 = i17164 := by omega
                              refine lv_iload hx hb dX12_lifts__457 (lv_at hl 0 rfl) ?_
                              refine lv_sipush (v := 1001) hx hb dX12_lifts__459 (by decide) ?_
                              refine lv_icmp_ge (tgt := 485) hx hb dX12_lifts__462 (by decide) (fun c17195 => ?_) (fun c17195 => (by exfalso; have q9 : ((1001 : Nat) : Int) < 1001 := ti_nle c17195 (by decide) (nI_toInt (by omega)); omega))
                              have t17196 : 1001 ≤ ((1001 : Nat) : Int) := ti_le c17195 (by decide) (nI_toInt (by omega))
                              exact jn17189 z17165 (by have q8 := ti_all z17165; omega) _ _ hT hF hS m17167 ls (lv_sub hl [0, 1, 2, 3, 4, 5, 6, 7] rfl)
                            | succ n17193 ih17193 =>
                              intro i17164 hn17193 hlo17194 z17165 h17166 H locs hT hF hS m17167 ls hl
                              have hlt17196 : i17164 < 1001 := by omega
                              refine lv_iload hx hb dX12_lifts__457 (lv_at hl 0 rfl) ?_
                              refine lv_sipush (v := 1001) hx hb dX12_lifts__459 (by decide) ?_
                              refine lv_icmp_ge (tgt := 485) hx hb dX12_lifts__462 (by decide) (fun c17197 => (by exfalso; have q9 : 1001 ≤ ((i17164 : Nat) : Int) := ti_le c17197 (by decide) (nI_toInt (by omega)); omega)) (fun c17197 => ?_)
                              have t17198 : ((i17164 : Nat) : Int) < 1001 := ti_nle c17197 (by decide) (nI_toInt (by omega))
                              refine lv_iload hx hb dX12_lifts__465 (lv_at hl 1 rfl) ?_
                              refine lv_aload_n hx hb dX12_lifts__467 rfl (lv_at hl 3 rfl) ?_
                              refine tw_get hx hb hts bF_X12 hown hK hT hr_o0 shm_0 rfl 65 (by decide) (ht_at hts 11 rfl) (fun _ h9 => h9) dX12_lifts__468 (fun v9 m17199 h9 => ?_)
                              obtain ⟨rfl, hg17200⟩ := h9 _ rfl
                              refine lv_iload hx hb dX12_lifts__471 (lv_at hl 0 rfl) ?_
                              refine tw_iald (i := (nI i17164)) hx hb hK hT hg17200 shm_66 rfl (vp_in_nI (by omega) (by decide)) dX12_lifts__473 (fun v9 m17201 h9 => ?_)
                              obtain ⟨x17202, rfl, gx17202, kx17202⟩ := h9
                              refine va_mmin hx hb (hml.trans hl.1.symm) hown (ht_at hts 12 rfl) (ht_at hts 13 rfl) (ht_at hts 14 rfl) (ht_at hts 15 rfl) (Nat.le_of_ble_eq_true rfl) (Nat.le_of_ble_eq_true rfl) (Nat.le_of_ble_eq_true rfl) (Nat.le_of_ble_eq_true rfl) dX12_lifts__474 ?_
                              refine lv_topi (fun x17203 ex17203 => ?_)
                              have t17204 : x17203.toInt ≤ z17165.toInt ∧ x17203.toInt ≤ x17202.toInt ∧ (x17203.toInt = z17165.toInt ∨ x17203.toInt = x17202.toInt) := mn_f ex17203 rfl rfl
                              refine lv_istore (lv' := [(6, .int x17203), (7, .int (nI i17164)), (5, .int z83), (0, .ref o0), (1, .int p0), (2, .int p1), (3, .int p2), (4, .int p3)]) hx hb dX12_lifts__477 hl (by decide) rfl (fun ls hl => ?_)
                              refine lv_iinc (v := nI (i17164 + 1)) (lv' := [(7, .int (nI (i17164 + 1))), (6, .int x17203), (5, .int z83), (0, .ref o0), (1, .int p0), (2, .int p1), (3, .int p2), (4, .int p3)]) hx hb dX12_lifts__479 hl (k := 1) rfl (nI_add i17164 1) (by decide) rfl (fun ls hl => ?_)
                              refine lv_goto (tgt := 457) hx hb dX12_lifts__482 (by decide) ?_
                              exact ih17193 (i17164 + 1) (by omega) (by omega) x17203 (by have q8 := ti_all x17203; omega) _ _ hT hF hS m17167 ls (lv_sub hl [0, 1, 2, 3, 4, 5, 6, 7] rfl)
                          exact key17193 (1001 - 0) 0 (by omega) (Nat.le_refl _) 1000000000 (rg_t (a := 1000000000) (by decide) (by first | decide | omega) (by first | decide | omega)) _ _ hT hF hS m15268 ls (lv_sub hl [0, 1, 2, 3, 4, 5, 6, 7] rfl)
                        · have t17205 : ((i15267 : Nat) : Int) ≤ p2.toInt := ti_nlt c17162 rfl (nI_toInt (by omega))
                          refine lv_iconst (v := 0) hx hb dX12_lifts__172 (by decide) ?_
                          refine lv_istore (lv' := [(7, .int 0), (6, .int (nI i15267)), (5, .int z83), (0, .ref o0), (1, .int p0), (2, .int p1), (3, .int p2), (4, .int p3)]) hx hb dX12_lifts__173 hl (by decide) rfl (fun ls hl => ?_)
                          refine lv_iconst (v := 0) hx hb dX12_lifts__175 (by decide) ?_
                          refine lv_istore (lv' := [(8, .int 0), (7, .int 0), (6, .int (nI i15267)), (5, .int z83), (0, .ref o0), (1, .int p0), (2, .int p1), (3, .int p2), (4, .int p3)]) hx hb dX12_lifts__176 hl (by decide) rfl (fun ls hl => ?_)
                          have key17822 : ∀ (n17822 i17206 : Nat), i17206 + n17822 = 29 → 0 ≤ i17206 → ∀ (z17207 : Int32), ∀ (H : Heap) (locs : List Loc), gH (dC, dI) kA (SHm q (wP wZ wN wH wB wC wL wK wU wV) PI im PM PT lS lB lE lN) G H → gF (dC, dI) SKm G ([(0, 0), (66, 0), (67, 0), (68, 0)] : List (Nat × Nat)) s.heap H → va_S A s.heap H locs → el H (q 1) (1428 : Int32).toNatClampNeg = some (.int x15247) → ∀ ls : Array Slot, lv_has ls 13 [(8, .int (nI i17206)), (7, .int z17207), (6, .int (nI i15267)), (5, .int z83), (0, .ref o0), (1, .int p0), (2, .int p1), (3, .int p2), (4, .int p3)] → W p l e (headSpec w_s_lifts_ ({ frames := 2, cells := 0, slots := 0, locals := 66 })).room s m #[.ref o0, .int p0, .int p1, .int p2, .int p3] below meth c H locs 0 0 (MQ below (va_Qi (fun (r : Int32) (u : Unit) => (-2147483648 ≤ r.toInt ∧ r.toInt ≤ 999999999)) (fun (_ : Unit) (t : State) => gH (dC, dI) kA (SHm q (wP wZ wN wH wB wC wL wK wU wV) PI im PM PT lS lB lE lN) G t.heap ∧ gF (dC, dI) SKm G ([(0, 0), (66, 0), (67, 0), (68, 0)] : List (Nat × Nat)) s.heap t.heap) A) #[.ref o0, .int p0, .int p1, .int p2, .int p3] s 0 0 A) (F0 m 178 ls []) := by
                            intro n17822
                            induction n17822 with
                            | zero =>
                              intro i17206 hn17822 hlo17823 z17207 H locs hT hF hS m17208 ls hl
                              obtain rfl : 29 = i17206 := by omega
                              refine lv_iload hx hb dX12_lifts__178 (lv_at hl 0 rfl) ?_
                              refine lv_aload_n hx hb dX12_lifts__180 rfl (lv_at hl 4 rfl) ?_
                              refine tw_get hx hb hts bF_X12 hown hK hT hr_o0 shm_0 rfl 1 (by decide) (ht_at hts 9 rfl) (fun _ h9 => h9) dX12_lifts__181 (fun v9 m17824 h9 => ?_)
                              obtain ⟨rfl, hg17825⟩ := h9 _ rfl
                              refine lv_sipush (v := 1428) hx hb dX12_lifts__184 (by decide) ?_
                              refine tw_iald (i := 1428) hx hb hK hT hg15245 shm_2 rfl (by unfold vp_in; decide) dX12_lifts__187 (fun v9 m17826 h9 => ?_)
                              obtain ⟨x17827, rfl, gx17827, kx17827⟩ := (gp_at h9 (w_wct (by have q9 := tn_of (show (1428 : Int32).toInt = 1428 from (by decide)) (show (0 : Int) ≤ 1428 from by omega); omega)))
                              obtain rfl : x15247 = x17827 := (el_same m17826 m17208 rfl).symm
                              refine lv_icmp_ge (tgt := 236) hx hb dX12_lifts__188 (by decide) (fun c17828 => ?_) (fun c17828 => (by exfalso; have q9 : ((29 : Nat) : Int) < x15247.toInt := ti_nle c17828 rfl (nI_toInt (by omega)); omega))
                              have t17829 : x15247.toInt ≤ ((29 : Nat) : Int) := ti_le c17828 rfl (nI_toInt (by omega))
                              refine lv_iconst (v := 0) hx hb dX12_lifts__236 (by decide) ?_
                              refine lv_istore (lv' := [(8, .int 0), (7, .int z17207), (6, .int (nI i15267)), (5, .int z83), (0, .ref o0), (1, .int p0), (2, .int p1), (3, .int p2), (4, .int p3)]) hx hb dX12_lifts__237 hl (by decide) rfl (fun ls hl => ?_)
                              have key17838 : ∀ (n17838 i17830 : Nat), i17830 + n17838 = 1001 → 0 ≤ i17830 → ∀ (H : Heap) (locs : List Loc), gH (dC, dI) kA (SHm q (wP wZ wN wH wB wC wL wK wU wV) PI im PM PT lS lB lE lN) G H → gF (dC, dI) SKm G ([(0, 0), (66, 0), (67, 0), (68, 0)] : List (Nat × Nat)) s.heap H → va_S A s.heap H locs → el H (q 1) (1428 : Int32).toNatClampNeg = some (.int x15247) → ∀ ls : Array Slot, lv_has ls 13 [(8, .int (nI i17830)), (7, .int z17207), (6, .int (nI i15267)), (5, .int z83), (0, .ref o0), (1, .int p0), (2, .int p1), (3, .int p2), (4, .int p3)] → W p l e (headSpec w_s_lifts_ ({ frames := 2, cells := 0, slots := 0, locals := 66 })).room s m #[.ref o0, .int p0, .int p1, .int p2, .int p3] below meth c H locs 0 0 (MQ below (va_Qi (fun (r : Int32) (u : Unit) => (-2147483648 ≤ r.toInt ∧ r.toInt ≤ 999999999)) (fun (_ : Unit) (t : State) => gH (dC, dI) kA (SHm q (wP wZ wN wH wB wC wL wK wU wV) PI im PM PT lS lB lE lN) G t.heap ∧ gF (dC, dI) SKm G ([(0, 0), (66, 0), (67, 0), (68, 0)] : List (Nat × Nat)) s.heap t.heap) A) #[.ref o0, .int p0, .int p1, .int p2, .int p3] s 0 0 A) (F0 m 239 ls []) := by
                                intro n17838
                                induction n17838 with
                                | zero =>
                                  intro i17830 hn17838 hlo17839  H locs hT hF hS m17831 ls hl
                                  obtain rfl : 1001 = i17830 := by omega
                                  refine lv_iload hx hb dX12_lifts__239 (lv_at hl 0 rfl) ?_
                                  refine lv_sipush (v := 1001) hx hb dX12_lifts__241 (by decide) ?_
                                  refine lv_icmp_ge (tgt := 263) hx hb dX12_lifts__244 (by decide) (fun c17840 => ?_) (fun c17840 => (by exfalso; have q9 : ((1001 : Nat) : Int) < 1001 := ti_nle c17840 (by decide) (nI_toInt (by omega)); omega))
                                  have t17841 : 1001 ≤ ((1001 : Nat) : Int) := ti_le c17840 (by decide) (nI_toInt (by omega))
                                  refine lv_iconst (v := 0) hx hb dX12_lifts__263 (by decide) ?_
                                  refine lv_istore (lv' := [(8, .int 0), (7, .int z17207), (6, .int (nI i15267)), (5, .int z83), (0, .ref o0), (1, .int p0), (2, .int p1), (3, .int p2), (4, .int p3)]) hx hb dX12_lifts__264 hl (by decide) rfl (fun ls hl => ?_)
                                  have key18101 : ∀ (n18101 i17842 : Nat), i17842 + n18101 = 2147483647 → 0 ≤ i17842 → ∀ (H : Heap) (locs : List Loc), gH (dC, dI) kA (SHm q (wP wZ wN wH wB wC wL wK wU wV) PI im PM PT lS lB lE lN) G H → gF (dC, dI) SKm G ([(0, 0), (66, 0), (67, 0), (68, 0)] : List (Nat × Nat)) s.heap H → va_S A s.heap H locs → el H (q 1) (1428 : Int32).toNatClampNeg = some (.int x15247) → ∀ ls : Array Slot, lv_has ls 13 [(8, .int (nI i17842)), (7, .int z17207), (6, .int (nI i15267)), (5, .int z83), (0, .ref o0), (1, .int p0), (2, .int p1), (3, .int p2), (4, .int p3)] → W p l e (headSpec w_s_lifts_ ({ frames := 2, cells := 0, slots := 0, locals := 66 })).room s m #[.ref o0, .int p0, .int p1, .int p2, .int p3] below meth c H locs 0 0 (MQ below (va_Qi (fun (r : Int32) (u : Unit) => (-2147483648 ≤ r.toInt ∧ r.toInt ≤ 999999999)) (fun (_ : Unit) (t : State) => gH (dC, dI) kA (SHm q (wP wZ wN wH wB wC wL wK wU wV) PI im PM PT lS lB lE lN) G t.heap ∧ gF (dC, dI) SKm G ([(0, 0), (66, 0), (67, 0), (68, 0)] : List (Nat × Nat)) s.heap t.heap) A) #[.ref o0, .int p0, .int p1, .int p2, .int p3] s 0 0 A) (F0 m 266 ls []) := by
                                    intro n18101
                                    induction n18101 with
                                    | zero =>
                                      intro i17842 hn18101 hlo18102  H locs hT hF hS m17843 ls hl
                                      obtain rfl : 2147483647 = i17842 := by omega
                                      refine lv_iload hx hb dX12_lifts__266 (lv_at hl 0 rfl) ?_
                                      refine lv_iconst (v := 1) hx hb dX12_lifts__268 (by decide) ?_
                                      refine lv_iload hx hb dX12_lifts__269 (lv_at hl 3 rfl) ?_
                                      refine lv_ishl hx hb dX12_lifts__271 ?_
                                      refine lv_topi (fun x18103 ex18103 => ?_)
                                      refine lv_icmp_ge (tgt := 412) hx hb dX12_lifts__272 (by decide) (fun c18104 => ?_) (fun c18104 => (by exfalso; have q9 : ((2147483647 : Nat) : Int) < x18103.toInt := ti_nle c18104 rfl (nI_toInt (by omega)); have := ti_all x18103; omega))
                                      have t18105 : x18103.toInt ≤ ((2147483647 : Nat) : Int) := ti_le c18104 rfl (nI_toInt (by omega))
                                      refine lv_iconst (v := 0) hx hb dX12_lifts__412 (by decide) ?_
                                      refine lv_istore (lv' := [(8, .int 0), (7, .int z17207), (6, .int (nI i15267)), (5, .int z83), (0, .ref o0), (1, .int p0), (2, .int p1), (3, .int p2), (4, .int p3)]) hx hb dX12_lifts__413 hl (by decide) rfl (fun ls hl => ?_)
                                      have key18119 : ∀ (n18119 i18106 : Nat), i18106 + n18119 = 1001 → 0 ≤ i18106 → ∀ (H : Heap) (locs : List Loc), gH (dC, dI) kA (SHm q (wP wZ wN wH wB wC wL wK wU wV) PI im PM PT lS lB lE lN) G H → gF (dC, dI) SKm G ([(0, 0), (66, 0), (67, 0), (68, 0)] : List (Nat × Nat)) s.heap H → va_S A s.heap H locs → el H (q 1) (1428 : Int32).toNatClampNeg = some (.int x15247) → ∀ ls : Array Slot, lv_has ls 13 [(8, .int (nI i18106)), (7, .int z17207), (6, .int (nI i15267)), (5, .int z83), (0, .ref o0), (1, .int p0), (2, .int p1), (3, .int p2), (4, .int p3)] → W p l e (headSpec w_s_lifts_ ({ frames := 2, cells := 0, slots := 0, locals := 66 })).room s m #[.ref o0, .int p0, .int p1, .int p2, .int p3] below meth c H locs 0 0 (MQ below (va_Qi (fun (r : Int32) (u : Unit) => (-2147483648 ≤ r.toInt ∧ r.toInt ≤ 999999999)) (fun (_ : Unit) (t : State) => gH (dC, dI) kA (SHm q (wP wZ wN wH wB wC wL wK wU wV) PI im PM PT lS lB lE lN) G t.heap ∧ gF (dC, dI) SKm G ([(0, 0), (66, 0), (67, 0), (68, 0)] : List (Nat × Nat)) s.heap t.heap) A) #[.ref o0, .int p0, .int p1, .int p2, .int p3] s 0 0 A) (F0 m 415 ls []) := by
                                        intro n18119
                                        induction n18119 with
                                        | zero =>
                                          intro i18106 hn18119 hlo18120  H locs hT hF hS m18107 ls hl
                                          obtain rfl : 1001 = i18106 := by omega
                                          refine lv_iload hx hb dX12_lifts__415 (lv_at hl 0 rfl) ?_
                                          refine lv_sipush (v := 1001) hx hb dX12_lifts__417 (by decide) ?_
                                          refine lv_icmp_ge (tgt := 443) hx hb dX12_lifts__420 (by decide) (fun c18121 => ?_) (fun c18121 => (by exfalso; have q9 : ((1001 : Nat) : Int) < 1001 := ti_nle c18121 (by decide) (nI_toInt (by omega)); omega))
                                          have t18122 : 1001 ≤ ((1001 : Nat) : Int) := ti_le c18121 (by decide) (nI_toInt (by omega))
                                          refine lv_iinc (v := nI (i15267 + 1)) (lv' := [(6, .int (nI (i15267 + 1))), (8, .int (nI 1001)), (7, .int z17207), (5, .int z83), (0, .ref o0), (1, .int p0), (2, .int p1), (3, .int p2), (4, .int p3)]) hx hb dX12_lifts__443 hl (k := 2) rfl (nI_add i15267 1) (by decide) rfl (fun ls hl => ?_)
                                          refine lv_goto (tgt := 166) hx hb dX12_lifts__446 (by decide) ?_
                                          exact ih17117 (i15267 + 1) (by omega) (by omega) _ _ hT hF hS m18107 ls (lv_sub hl [0, 3, 4, 5, 6, 7, 8] rfl)
                                        | succ n18119 ih18119 =>
                                          intro i18106 hn18119 hlo18120  H locs hT hF hS m18107 ls hl
                                          have hlt18122 : i18106 < 1001 := by omega
                                          refine lv_iload hx hb dX12_lifts__415 (lv_at hl 0 rfl) ?_
                                          refine lv_sipush (v := 1001) hx hb dX12_lifts__417 (by decide) ?_
                                          refine lv_icmp_ge (tgt := 443) hx hb dX12_lifts__420 (by decide) (fun c18123 => (by exfalso; have q9 : 1001 ≤ ((i18106 : Nat) : Int) := ti_le c18123 (by decide) (nI_toInt (by omega)); omega)) (fun c18123 => ?_)
                                          have t18124 : ((i18106 : Nat) : Int) < 1001 := ti_nle c18123 (by decide) (nI_toInt (by omega))
                                          refine lv_aload_n hx hb dX12_lifts__423 rfl (lv_at hl 4 rfl) ?_
                                          refine tw_get hx hb hts bF_X12 hown hK hT hr_o0 shm_0 rfl 65 (by decide) (ht_at hts 11 rfl) (fun _ h9 => h9) dX12_lifts__424 (fun v9 m18125 h9 => ?_)
                                          obtain ⟨rfl, hg18126⟩ := h9 _ rfl
                                          refine lv_iload hx hb dX12_lifts__427 (lv_at hl 0 rfl) ?_
                                          refine lv_aload_n hx hb dX12_lifts__429 rfl (lv_at hl 4 rfl) ?_
                                          refine tw_get hx hb hts bF_X12 hown hK hT hr_o0 shm_0 rfl 66 (by decide) (ht_at hts 16 rfl) (fun _ h9 => h9) dX12_lifts__430 (fun v9 m18127 h9 => ?_)
                                          obtain ⟨rfl, hg18128⟩ := h9 _ rfl
                                          refine lv_iload hx hb dX12_lifts__433 (lv_at hl 0 rfl) ?_
                                          refine tw_iald (i := (nI i18106)) hx hb hK hT hg18128 shm_67 rfl (vp_in_nI (by omega) (by decide)) dX12_lifts__435 (fun v9 m18129 h9 => ?_)
                                          obtain ⟨x18130, rfl, gx18130, kx18130⟩ := h9
                                          refine tw_iast (i := (nI i18106)) (x := x18130) hx hb hK hT hG hS hg18126 shm_66 rfl (vp_in_nI (by omega) (by decide)) (gi_all _) dX12_lifts__436 (fun H locs hT oq m18131 oi hS => ?_)
                                          have hF := hF.ast hg18126 skm_66 oq (by decide)
                                          have m18132 := (el_kept (oq _ (gne hg15245 hg18126 (by decide)))).trans m18107
                                          refine lv_iinc (v := nI (i18106 + 1)) (lv' := [(8, .int (nI (i18106 + 1))), (7, .int z17207), (6, .int (nI i15267)), (5, .int z83), (0, .ref o0), (1, .int p0), (2, .int p1), (3, .int p2), (4, .int p3)]) hx hb dX12_lifts__437 hl (k := 0) rfl (nI_add i18106 1) (by decide) rfl (fun ls hl => ?_)
                                          refine lv_goto (tgt := 415) hx hb dX12_lifts__440 (by decide) ?_
                                          exact ih18119 (i18106 + 1) (by omega) (by omega) _ _ hT hF hS m18132 ls (lv_sub hl [0, 1, 2, 3, 4, 5, 6, 7, 8] rfl)
                                      exact key18119 (1001 - 0) 0 (by omega) (Nat.le_refl _) _ _ hT hF hS m17843 ls (lv_sub hl [0, 1, 2, 3, 4, 5, 6, 7, 8] rfl)
                                    | succ n18101 ih18101 =>
                                      intro i17842 hn18101 hlo18102  H locs hT hF hS m17843 ls hl
                                      have hlt18133 : i17842 < 2147483647 := by omega
                                      refine lv_iload hx hb dX12_lifts__266 (lv_at hl 0 rfl) ?_
                                      refine lv_iconst (v := 1) hx hb dX12_lifts__268 (by decide) ?_
                                      refine lv_iload hx hb dX12_lifts__269 (lv_at hl 3 rfl) ?_
                                      refine lv_ishl hx hb dX12_lifts__271 ?_
                                      refine lv_topi (fun x18134 ex18134 => ?_)
                                      refine lv_icmp_ge (tgt := 412) hx hb dX12_lifts__272 (by decide) (fun c18135 => ?_) (fun c18135 => ?_)
                                      · have t18136 : x18134.toInt ≤ ((i17842 : Nat) : Int) := ti_le c18135 rfl (nI_toInt (by omega))
                                        refine lv_iconst (v := 0) hx hb dX12_lifts__412 (by decide) ?_
                                        refine lv_istore (lv' := [(8, .int 0), (7, .int z17207), (6, .int (nI i15267)), (5, .int z83), (0, .ref o0), (1, .int p0), (2, .int p1), (3, .int p2), (4, .int p3)]) hx hb dX12_lifts__413 hl (by decide) rfl (fun ls hl => ?_)
                                        have key18150 : ∀ (n18150 i18137 : Nat), i18137 + n18150 = 1001 → 0 ≤ i18137 → ∀ (H : Heap) (locs : List Loc), gH (dC, dI) kA (SHm q (wP wZ wN wH wB wC wL wK wU wV) PI im PM PT lS lB lE lN) G H → gF (dC, dI) SKm G ([(0, 0), (66, 0), (67, 0), (68, 0)] : List (Nat × Nat)) s.heap H → va_S A s.heap H locs → el H (q 1) (1428 : Int32).toNatClampNeg = some (.int x15247) → ∀ ls : Array Slot, lv_has ls 13 [(8, .int (nI i18137)), (7, .int z17207), (6, .int (nI i15267)), (5, .int z83), (0, .ref o0), (1, .int p0), (2, .int p1), (3, .int p2), (4, .int p3)] → W p l e (headSpec w_s_lifts_ ({ frames := 2, cells := 0, slots := 0, locals := 66 })).room s m #[.ref o0, .int p0, .int p1, .int p2, .int p3] below meth c H locs 0 0 (MQ below (va_Qi (fun (r : Int32) (u : Unit) => (-2147483648 ≤ r.toInt ∧ r.toInt ≤ 999999999)) (fun (_ : Unit) (t : State) => gH (dC, dI) kA (SHm q (wP wZ wN wH wB wC wL wK wU wV) PI im PM PT lS lB lE lN) G t.heap ∧ gF (dC, dI) SKm G ([(0, 0), (66, 0), (67, 0), (68, 0)] : List (Nat × Nat)) s.heap t.heap) A) #[.ref o0, .int p0, .int p1, .int p2, .int p3] s 0 0 A) (F0 m 415 ls []) := by
                                          intro n18150
                                          induction n18150 with
                                          | zero =>
                                            intro i18137 hn18150 hlo18151  H locs hT hF hS m18138 ls hl
                                            obtain rfl : 1001 = i18137 := by omega
                                            refine lv_iload hx hb dX12_lifts__415 (lv_at hl 0 rfl) ?_
                                            refine lv_sipush (v := 1001) hx hb dX12_lifts__417 (by decide) ?_
                                            refine lv_icmp_ge (tgt := 443) hx hb dX12_lifts__420 (by decide) (fun c18152 => ?_) (fun c18152 => (by exfalso; have q9 : ((1001 : Nat) : Int) < 1001 := ti_nle c18152 (by decide) (nI_toInt (by omega)); omega))
                                            have t18153 : 1001 ≤ ((1001 : Nat) : Int) := ti_le c18152 (by decide) (nI_toInt (by omega))
                                            refine lv_iinc (v := nI (i15267 + 1)) (lv' := [(6, .int (nI (i15267 + 1))), (8, .int (nI 1001)), (7, .int z17207), (5, .int z83), (0, .ref o0), (1, .int p0), (2, .int p1), (3, .int p2), (4, .int p3)]) hx hb dX12_lifts__443 hl (k := 2) rfl (nI_add i15267 1) (by decide) rfl (fun ls hl => ?_)
                                            refine lv_goto (tgt := 166) hx hb dX12_lifts__446 (by decide) ?_
                                            exact ih17117 (i15267 + 1) (by omega) (by omega) _ _ hT hF hS m18138 ls (lv_sub hl [0, 3, 4, 5, 6, 7, 8] rfl)
                                          | succ n18150 ih18150 =>
                                            intro i18137 hn18150 hlo18151  H locs hT hF hS m18138 ls hl
                                            have hlt18153 : i18137 < 1001 := by omega
                                            refine lv_iload hx hb dX12_lifts__415 (lv_at hl 0 rfl) ?_
                                            refine lv_sipush (v := 1001) hx hb dX12_lifts__417 (by decide) ?_
                                            refine lv_icmp_ge (tgt := 443) hx hb dX12_lifts__420 (by decide) (fun c18154 => (by exfalso; have q9 : 1001 ≤ ((i18137 : Nat) : Int) := ti_le c18154 (by decide) (nI_toInt (by omega)); omega)) (fun c18154 => ?_)
                                            have t18155 : ((i18137 : Nat) : Int) < 1001 := ti_nle c18154 (by decide) (nI_toInt (by omega))
                                            refine lv_aload_n hx hb dX12_lifts__423 rfl (lv_at hl 4 rfl) ?_
                                            refine tw_get hx hb hts bF_X12 hown hK hT hr_o0 shm_0 rfl 65 (by decide) (ht_at hts 11 rfl) (fun _ h9 => h9) dX12_lifts__424 (fun v9 m18156 h9 => ?_)
                                            obtain ⟨rfl, hg18157⟩ := h9 _ rfl
                                            refine lv_iload hx hb dX12_lifts__427 (lv_at hl 0 rfl) ?_
                                            refine lv_aload_n hx hb dX12_lifts__429 rfl (lv_at hl 4 rfl) ?_
                                            refine tw_get hx hb hts bF_X12 hown hK hT hr_o0 shm_0 rfl 66 (by decide) (ht_at hts 16 rfl) (fun _ h9 => h9) dX12_lifts__430 (fun v9 m18158 h9 => ?_)
                                            obtain ⟨rfl, hg18159⟩ := h9 _ rfl
                                            refine lv_iload hx hb dX12_lifts__433 (lv_at hl 0 rfl) ?_
                                            refine tw_iald (i := (nI i18137)) hx hb hK hT hg18159 shm_67 rfl (vp_in_nI (by omega) (by decide)) dX12_lifts__435 (fun v9 m18160 h9 => ?_)
                                            obtain ⟨x18161, rfl, gx18161, kx18161⟩ := h9
                                            refine tw_iast (i := (nI i18137)) (x := x18161) hx hb hK hT hG hS hg18157 shm_66 rfl (vp_in_nI (by omega) (by decide)) (gi_all _) dX12_lifts__436 (fun H locs hT oq m18162 oi hS => ?_)
                                            have hF := hF.ast hg18157 skm_66 oq (by decide)
                                            have m18163 := (el_kept (oq _ (gne hg15245 hg18157 (by decide)))).trans m18138
                                            refine lv_iinc (v := nI (i18137 + 1)) (lv' := [(8, .int (nI (i18137 + 1))), (7, .int z17207), (6, .int (nI i15267)), (5, .int z83), (0, .ref o0), (1, .int p0), (2, .int p1), (3, .int p2), (4, .int p3)]) hx hb dX12_lifts__437 hl (k := 0) rfl (nI_add i18137 1) (by decide) rfl (fun ls hl => ?_)
                                            refine lv_goto (tgt := 415) hx hb dX12_lifts__440 (by decide) ?_
                                            exact ih18150 (i18137 + 1) (by omega) (by omega) _ _ hT hF hS m18163 ls (lv_sub hl [0, 1, 2, 3, 4, 5, 6, 7, 8] rfl)
                                        exact key18150 (1001 - 0) 0 (by omega) (Nat.le_refl _) _ _ hT hF hS m17843 ls (lv_sub hl [0, 1, 2, 3, 4, 5, 6, 7, 8] rfl)
                                      · have t18165 : ((i17842 : Nat) : Int) < x18134.toInt := ti_nle c18135 rfl (nI_toInt (by omega))
                                        refine lv_iload hx hb dX12_lifts__275 (lv_at hl 1 rfl) ?_
                                        refine lv_istore (lv' := [(9, .int z17207), (8, .int (nI i17842)), (7, .int z17207), (6, .int (nI i15267)), (5, .int z83), (0, .ref o0), (1, .int p0), (2, .int p1), (3, .int p2), (4, .int p3)]) hx hb dX12_lifts__277 hl (by decide) rfl (fun ls hl => ?_)
                                        refine lv_iconst (v := 0) hx hb dX12_lifts__279 (by decide) ?_
                                        refine lv_istore (lv' := [(10, .int 0), (9, .int z17207), (8, .int (nI i17842)), (7, .int z17207), (6, .int (nI i15267)), (5, .int z83), (0, .ref o0), (1, .int p0), (2, .int p1), (3, .int p2), (4, .int p3)]) hx hb dX12_lifts__280 hl (by decide) rfl (fun ls hl => ?_)
                                        have jn18295 : ∀ (z18291 : Int32), ∀ (z18293 : Int32), ((0 ≤ z18291.toInt ∧ z18291.toInt ≤ 5)) → ∀ (H : Heap) (locs : List Loc), gH (dC, dI) kA (SHm q (wP wZ wN wH wB wC wL wK wU wV) PI im PM PT lS lB lE lN) G H → gF (dC, dI) SKm G ([(0, 0), (66, 0), (67, 0), (68, 0)] : List (Nat × Nat)) s.heap H → va_S A s.heap H locs → el H (q 1) (1428 : Int32).toNatClampNeg = some (.int x15247) → ∀ ls : Array Slot, lv_has ls 13 [(10, .int z18291), (9, .int z18293), (8, .int (nI i17842)), (7, .int z17207), (6, .int (nI i15267)), (5, .int z83), (0, .ref o0), (1, .int p0), (2, .int p1), (3, .int p2), (4, .int p3)] → W p l e (headSpec w_s_lifts_ ({ frames := 2, cells := 0, slots := 0, locals := 66 })).room s m #[.ref o0, .int p0, .int p1, .int p2, .int p3] below meth c H locs 0 0 (MQ below (va_Qi (fun (r : Int32) (u : Unit) => (-2147483648 ≤ r.toInt ∧ r.toInt ≤ 999999999)) (fun (_ : Unit) (t : State) => gH (dC, dI) kA (SHm q (wP wZ wN wH wB wC wL wK wU wV) PI im PM PT lS lB lE lN) G t.heap ∧ gF (dC, dI) SKm G ([(0, 0), (66, 0), (67, 0), (68, 0)] : List (Nat × Nat)) s.heap t.heap) A) #[.ref o0, .int p0, .int p1, .int p2, .int p3] s 0 0 A) (F0 m 322 ls []) := by
                                          intro z18291 z18293 h18292 H locs hT hF hS m18294 ls hl
                                          refine lv_iload hx hb dX12_lifts__322 (lv_at hl 2 rfl) ?_
                                          have hFc := gA_free hG hA hS
                                          refine va_calli (va_runS (As := [.int (nI i17842)]) (rest := []) ⟨hx, hb, hml, hown, hts⟩ (j_bitCount l dC dI kA adK adV G H q wZ wN wH wB wC wL wK wU wV PI im PM PT lS lB lE lN (nI i17842) hT hgz hgn hgh hgb hgc hgi hgu) (va_cwS 1 hts (goodIn_app (goodIn_r _ [22, 23, 24] rfl (by decide +kernel)) (goodIn_ca (goodIn_r _ [18, 19, 20, 21] rfl (by decide +kernel)) (bs_in _ _))) rfl rfl rfl (by decide +kernel) ⟨(Nat.le_of_ble_eq_true rfl), (Nat.le_of_ble_eq_true rfl)⟩) ⟨fun a U g mk q => by obtain ⟨q0, q1, qK, qE⟩ := q; exact ⟨q0, q1, va_K.moved (u := U) (U := U.calling g mk a) (Vm.Alike.refl U.vm) qK, EVS.blind g mk a qE⟩, fun U hU hW => ⟨rfl, hU, va_K.moved hW.alike hK, hE.call hS hFc hU hW⟩⟩ rfl rfl hl.1 rfl (lv_room (Nat.le_of_ble_eq_true rfl)) dX12_lifts__324 ⟨(Nat.le_of_ble_eq_true rfl), (Nat.le_of_ble_eq_true rfl)⟩) hS (fun q _ h => hFc q h) hFc (fun r18296 u t H locs ht hvm hw18297 hB _ _ hS => ?_)
                                          obtain ⟨hT, hF1⟩ := hB
                                          rw [ht] at hT hF1
                                          have m18298 := (el_kept (hF1.arr hg15245 skm_2 (by decide))).trans m18294
                                          have hF := hF.more hF1 (by decide)
                                          try dsimp only at hw18297
                                          refine lv_istore (lv' := [(10, .int r18296), (9, .int z18293), (8, .int (nI i17842)), (7, .int z17207), (6, .int (nI i15267)), (5, .int z83), (0, .ref o0), (1, .int p0), (2, .int p1), (3, .int p2), (4, .int p3)]) hx hb dX12_lifts__327 hl (by decide) rfl (fun ls hl => ?_)
                                          refine lv_iconst (v := 0) hx hb dX12_lifts__329 (by decide) ?_
                                          refine lv_istore (lv' := [(11, .int 0), (10, .int r18296), (9, .int z18293), (8, .int (nI i17842)), (7, .int z17207), (6, .int (nI i15267)), (5, .int z83), (0, .ref o0), (1, .int p0), (2, .int p1), (3, .int p2), (4, .int p3)]) hx hb dX12_lifts__330 hl (by decide) rfl (fun ls hl => ?_)
                                          have key18334 : ∀ (n18334 i18299 : Nat), i18299 + n18334 = 1001 → 0 ≤ i18299 → ∀ (H : Heap) (locs : List Loc), gH (dC, dI) kA (SHm q (wP wZ wN wH wB wC wL wK wU wV) PI im PM PT lS lB lE lN) G H → gF (dC, dI) SKm G ([(0, 0), (66, 0), (67, 0), (68, 0)] : List (Nat × Nat)) s.heap H → va_S A s.heap H locs → el H (q 1) (1428 : Int32).toNatClampNeg = some (.int x15247) → ∀ ls : Array Slot, lv_has ls 13 [(11, .int (nI i18299)), (10, .int r18296), (9, .int z18293), (8, .int (nI i17842)), (7, .int z17207), (6, .int (nI i15267)), (5, .int z83), (0, .ref o0), (1, .int p0), (2, .int p1), (3, .int p2), (4, .int p3)] → W p l e (headSpec w_s_lifts_ ({ frames := 2, cells := 0, slots := 0, locals := 66 })).room s m #[.ref o0, .int p0, .int p1, .int p2, .int p3] below meth c H locs 0 0 (MQ below (va_Qi (fun (r : Int32) (u : Unit) => (-2147483648 ≤ r.toInt ∧ r.toInt ≤ 999999999)) (fun (_ : Unit) (t : State) => gH (dC, dI) kA (SHm q (wP wZ wN wH wB wC wL wK wU wV) PI im PM PT lS lB lE lN) G t.heap ∧ gF (dC, dI) SKm G ([(0, 0), (66, 0), (67, 0), (68, 0)] : List (Nat × Nat)) s.heap t.heap) A) #[.ref o0, .int p0, .int p1, .int p2, .int p3] s 0 0 A) (F0 m 332 ls []) := by
                                            intro n18334
                                            induction n18334 with
                                            | zero =>
                                              intro i18299 hn18334 hlo18335  H locs hT hF hS m18300 ls hl
                                              obtain rfl : 1001 = i18299 := by omega
                                              refine lv_iload hx hb dX12_lifts__332 (lv_at hl 0 rfl) ?_
                                              refine lv_sipush (v := 1001) hx hb dX12_lifts__334 (by decide) ?_
                                              refine lv_icmp_ge (tgt := 406) hx hb dX12_lifts__337 (by decide) (fun c18336 => ?_) (fun c18336 => (by exfalso; have q9 : ((1001 : Nat) : Int) < 1001 := ti_nle c18336 (by decide) (nI_toInt (by omega)); omega))
                                              have t18337 : 1001 ≤ ((1001 : Nat) : Int) := ti_le c18336 (by decide) (nI_toInt (by omega))
                                              refine lv_iinc (v := nI (i17842 + 1)) (lv' := [(8, .int (nI (i17842 + 1))), (11, .int (nI 1001)), (10, .int r18296), (9, .int z18293), (7, .int z17207), (6, .int (nI i15267)), (5, .int z83), (0, .ref o0), (1, .int p0), (2, .int p1), (3, .int p2), (4, .int p3)]) hx hb dX12_lifts__406 hl (k := 3) rfl (nI_add i17842 1) (by decide) rfl (fun ls hl => ?_)
                                              refine lv_goto (tgt := 266) hx hb dX12_lifts__409 (by decide) ?_
                                              exact ih18101 (i17842 + 1) (by omega) (by omega) _ _ hT hF hS m18300 ls (lv_sub hl [0, 4, 5, 6, 7, 8, 9, 10, 11] rfl)
                                            | succ n18334 ih18334 =>
                                              intro i18299 hn18334 hlo18335  H locs hT hF hS m18300 ls hl
                                              have hlt18337 : i18299 < 1001 := by omega
                                              refine lv_iload hx hb dX12_lifts__332 (lv_at hl 0 rfl) ?_
                                              refine lv_sipush (v := 1001) hx hb dX12_lifts__334 (by decide) ?_
                                              refine lv_icmp_ge (tgt := 406) hx hb dX12_lifts__337 (by decide) (fun c18338 => (by exfalso; have q9 : 1001 ≤ ((i18299 : Nat) : Int) := ti_le c18338 (by decide) (nI_toInt (by omega)); omega)) (fun c18338 => ?_)
                                              have t18339 : ((i18299 : Nat) : Int) < 1001 := ti_nle c18338 (by decide) (nI_toInt (by omega))
                                              refine lv_iconst (v := 0) hx hb dX12_lifts__340 (by decide) ?_
                                              refine lv_iload hx hb dX12_lifts__341 (lv_at hl 0 rfl) ?_
                                              refine lv_iload_n hx hb dX12_lifts__343 rfl (lv_at hl 9 rfl) ?_
                                              refine lv_iadd hx hb dX12_lifts__344 ?_
                                              refine lv_topi (fun x18340 ex18340 => ?_)
                                              have t18341 : x18340.toInt = ((i18299 : Nat) : Int) + p1.toInt := ti_add ex18340 (nI_toInt (by omega)) rfl (by omega) (by omega)
                                              refine lv_iload hx hb dX12_lifts__345 (lv_at hl 2 rfl) ?_
                                              refine lv_isub hx hb dX12_lifts__347 ?_
                                              refine lv_topi (fun x18342 ex18342 => ?_)
                                              refine va_mmax hx hb (hml.trans hl.1.symm) hown (ht_at hts 24 rfl) (ht_at hts 25 rfl) (ht_at hts 14 rfl) (ht_at hts 26 rfl) (Nat.le_of_ble_eq_true rfl) (Nat.le_of_ble_eq_true rfl) (Nat.le_of_ble_eq_true rfl) (Nat.le_of_ble_eq_true rfl) dX12_lifts__348 ?_
                                              refine lv_topi (fun x18343 ex18343 => ?_)
                                              have t18344 : 0 ≤ x18343.toInt ∧ x18342.toInt ≤ x18343.toInt ∧ (x18343.toInt = 0 ∨ x18343.toInt = x18342.toInt) := mx_f ex18343 (by decide) rfl
                                              refine lv_istore (lv' := [(12, .int x18343), (11, .int (nI i18299)), (10, .int r18296), (9, .int z18293), (8, .int (nI i17842)), (7, .int z17207), (6, .int (nI i15267)), (5, .int z83), (0, .ref o0), (1, .int p0), (2, .int p1), (3, .int p2), (4, .int p3)]) hx hb dX12_lifts__351 hl (by decide) rfl (fun ls hl => ?_)
                                              refine lv_aload_n hx hb dX12_lifts__353 rfl (lv_at hl 8 rfl) ?_
                                              refine tw_get hx hb hts bF_X12 hown hK hT hr_o0 shm_0 rfl 65 (by decide) (ht_at hts 11 rfl) (fun _ h9 => h9) dX12_lifts__354 (fun v9 m18345 h9 => ?_)
                                              obtain ⟨rfl, hg18346⟩ := h9 _ rfl
                                              refine lv_iload hx hb dX12_lifts__357 (lv_at hl 1 rfl) ?_
                                              refine tw_iald (i := (nI i18299)) hx hb hK hT hg18346 shm_66 rfl (vp_in_nI (by omega) (by decide)) dX12_lifts__359 (fun v9 m18347 h9 => ?_)
                                              obtain ⟨x18348, rfl, gx18348, kx18348⟩ := h9
                                              refine lv_ldcw (v := 1000000000) hx hb hown (ht_at hts 10 rfl) dX12_lifts__360 ?_
                                              refine lv_icmp_ge (tgt := 400) hx hb dX12_lifts__363 (by decide) (fun c18349 => ?_) (fun c18349 => ?_)
                                              · have t18350 : 1000000000 ≤ x18348.toInt := ti_le c18349 (by decide) rfl
                                                refine lv_iinc (v := nI (i18299 + 1)) (lv' := [(11, .int (nI (i18299 + 1))), (12, .int x18343), (10, .int r18296), (9, .int z18293), (8, .int (nI i17842)), (7, .int z17207), (6, .int (nI i15267)), (5, .int z83), (0, .ref o0), (1, .int p0), (2, .int p1), (3, .int p2), (4, .int p3)]) hx hb dX12_lifts__400 hl (k := 1) rfl (nI_add i18299 1) (by decide) rfl (fun ls hl => ?_)
                                                refine lv_goto (tgt := 332) hx hb dX12_lifts__403 (by decide) ?_
                                                exact ih18334 (i18299 + 1) (by omega) (by omega) _ _ hT hF hS m18300 ls (lv_sub hl [0, 2, 3, 4, 5, 6, 7, 8, 9, 10, 11, 12] rfl)
                                              · have t18351 : x18348.toInt < 1000000000 := ti_nle c18349 (by decide) rfl
                                                refine lv_iload hx hb dX12_lifts__366 (lv_at hl 0 rfl) ?_
                                                refine lv_iload hx hb dX12_lifts__368 (lv_at hl 12 rfl) ?_
                                                refine lv_icmp_gt (tgt := 400) hx hb dX12_lifts__370 (by decide) (fun c18352 => ?_) (fun c18352 => ?_)
                                                · have t18353 : p3.toInt < x18343.toInt := ti_lt c18352 rfl rfl
                                                  refine lv_iinc (v := nI (i18299 + 1)) (lv' := [(11, .int (nI (i18299 + 1))), (12, .int x18343), (10, .int r18296), (9, .int z18293), (8, .int (nI i17842)), (7, .int z17207), (6, .int (nI i15267)), (5, .int z83), (0, .ref o0), (1, .int p0), (2, .int p1), (3, .int p2), (4, .int p3)]) hx hb dX12_lifts__400 hl (k := 1) rfl (nI_add i18299 1) (by decide) rfl (fun ls hl => ?_)
                                                  refine lv_goto (tgt := 332) hx hb dX12_lifts__403 (by decide) ?_
                                                  exact ih18334 (i18299 + 1) (by omega) (by omega) _ _ hT hF hS m18300 ls (lv_sub hl [0, 2, 3, 4, 5, 6, 7, 8, 9, 10, 11, 12] rfl)
                                                · have t18354 : x18343.toInt ≤ p3.toInt := ti_nlt c18352 rfl rfl
                                                  refine lv_aload_n hx hb dX12_lifts__373 rfl (lv_at hl 8 rfl) ?_
                                                  refine tw_get hx hb hts bF_X12 hown hK hT hr_o0 shm_0 rfl 66 (by decide) (ht_at hts 16 rfl) (fun _ h9 => h9) dX12_lifts__374 (fun v9 m18355 h9 => ?_)
                                                  obtain ⟨rfl, hg18356⟩ := h9 _ rfl
                                                  refine lv_iload hx hb dX12_lifts__377 (lv_at hl 0 rfl) ?_
                                                  refine lv_aload_n hx hb dX12_lifts__379 rfl (lv_at hl 8 rfl) ?_
                                                  refine tw_get hx hb hts bF_X12 hown hK hT hr_o0 shm_0 rfl 66 (by decide) (ht_at hts 16 rfl) (fun _ h9 => h9) dX12_lifts__380 (fun v9 m18357 h9 => ?_)
                                                  obtain ⟨rfl, hg18358⟩ := h9 _ rfl
                                                  refine lv_iload hx hb dX12_lifts__383 (lv_at hl 0 rfl) ?_
                                                  refine tw_iald (i := x18343) hx hb hK hT hg18356 shm_67 rfl (vin_t (a := x18343.toInt) rfl (by omega) (by omega)) dX12_lifts__385 (fun v9 m18359 h9 => ?_)
                                                  obtain ⟨x18360, rfl, gx18360, kx18360⟩ := h9
                                                  refine lv_aload_n hx hb dX12_lifts__386 rfl (lv_at hl 8 rfl) ?_
                                                  refine tw_get hx hb hts bF_X12 hown hK hT hr_o0 shm_0 rfl 65 (by decide) (ht_at hts 11 rfl) (fun _ h9 => h9) dX12_lifts__387 (fun v9 m18361 h9 => ?_)
                                                  obtain ⟨rfl, hg18362⟩ := h9 _ rfl
                                                  refine lv_iload hx hb dX12_lifts__390 (lv_at hl 1 rfl) ?_
                                                  refine tw_iald (i := (nI i18299)) hx hb hK hT hg18346 shm_66 rfl (vp_in_nI (by omega) (by decide)) dX12_lifts__392 (fun v9 m18363 h9 => ?_)
                                                  obtain ⟨x18364, rfl, gx18364, kx18364⟩ := h9
                                                  obtain rfl : x18348 = x18364 := (el_same m18363 m18347 rfl).symm
                                                  refine lv_iload hx hb dX12_lifts__393 (lv_at hl 2 rfl) ?_
                                                  refine lv_iadd hx hb dX12_lifts__395 ?_
                                                  refine lv_topi (fun x18365 ex18365 => ?_)
                                                  refine va_mmin hx hb (hml.trans hl.1.symm) hown (ht_at hts 12 rfl) (ht_at hts 13 rfl) (ht_at hts 14 rfl) (ht_at hts 15 rfl) (Nat.le_of_ble_eq_true rfl) (Nat.le_of_ble_eq_true rfl) (Nat.le_of_ble_eq_true rfl) (Nat.le_of_ble_eq_true rfl) dX12_lifts__396 ?_
                                                  refine lv_topi (fun x18366 ex18366 => ?_)
                                                  have t18367 : x18366.toInt ≤ x18360.toInt ∧ x18366.toInt ≤ x18365.toInt ∧ (x18366.toInt = x18360.toInt ∨ x18366.toInt = x18365.toInt) := mn_f ex18366 rfl rfl
                                                  refine tw_iast (i := x18343) (x := x18366) hx hb hK hT hG hS hg18356 shm_67 rfl (vin_t (a := x18343.toInt) rfl (by omega) (by omega)) (gi_all _) dX12_lifts__399 (fun H locs hT oq m18368 oi hS => ?_)
                                                  have hF := hF.ast hg18356 skm_67 oq (by decide)
                                                  have m18369 := (el_kept (oq _ (gne hg15245 hg18356 (by decide)))).trans m18300
                                                  refine lv_iinc (v := nI (i18299 + 1)) (lv' := [(11, .int (nI (i18299 + 1))), (12, .int x18343), (10, .int r18296), (9, .int z18293), (8, .int (nI i17842)), (7, .int z17207), (6, .int (nI i15267)), (5, .int z83), (0, .ref o0), (1, .int p0), (2, .int p1), (3, .int p2), (4, .int p3)]) hx hb dX12_lifts__400 hl (k := 1) rfl (nI_add i18299 1) (by decide) rfl (fun ls hl => ?_)
                                                  refine lv_goto (tgt := 332) hx hb dX12_lifts__403 (by decide) ?_
                                                  exact ih18334 (i18299 + 1) (by omega) (by omega) _ _ hT hF hS m18369 ls (lv_sub hl [0, 2, 3, 4, 5, 6, 7, 8, 9, 10, 11, 12] rfl)
                                          exact key18334 (1001 - 0) 0 (by omega) (Nat.le_refl _) _ _ hT hF hS m18298 ls (lv_sub hl [0, 1, 2, 3, 4, 5, 6, 7, 8, 9, 10, 11] rfl)
                                        have key18371 : ∀ (n18371 i18166 : Nat), i18166 + n18371 = 5 → 0 ≤ i18166 → ∀ (z18167 : Int32), ∀ (H : Heap) (locs : List Loc), gH (dC, dI) kA (SHm q (wP wZ wN wH wB wC wL wK wU wV) PI im PM PT lS lB lE lN) G H → gF (dC, dI) SKm G ([(0, 0), (66, 0), (67, 0), (68, 0)] : List (Nat × Nat)) s.heap H → va_S A s.heap H locs → el H (q 1) (1428 : Int32).toNatClampNeg = some (.int x15247) → ∀ ls : Array Slot, lv_has ls 13 [(10, .int (nI i18166)), (9, .int z18167), (8, .int (nI i17842)), (7, .int z17207), (6, .int (nI i15267)), (5, .int z83), (0, .ref o0), (1, .int p0), (2, .int p1), (3, .int p2), (4, .int p3)] → W p l e (headSpec w_s_lifts_ ({ frames := 2, cells := 0, slots := 0, locals := 66 })).room s m #[.ref o0, .int p0, .int p1, .int p2, .int p3] below meth c H locs 0 0 (MQ below (va_Qi (fun (r : Int32) (u : Unit) => (-2147483648 ≤ r.toInt ∧ r.toInt ≤ 999999999)) (fun (_ : Unit) (t : State) => gH (dC, dI) kA (SHm q (wP wZ wN wH wB wC wL wK wU wV) PI im PM PT lS lB lE lN) G t.heap ∧ gF (dC, dI) SKm G ([(0, 0), (66, 0), (67, 0), (68, 0)] : List (Nat × Nat)) s.heap t.heap) A) #[.ref o0, .int p0, .int p1, .int p2, .int p3] s 0 0 A) (F0 m 282 ls []) := by
                                          intro n18371
                                          induction n18371 with
                                          | zero =>
                                            intro i18166 hn18371 hlo18372 z18167 H locs hT hF hS m18168 ls hl
                                            obtain rfl : 5 = i18166 := by omega
                                            refine lv_iload hx hb dX12_lifts__282 (lv_at hl 0 rfl) ?_
                                            refine lv_iload hx hb dX12_lifts__284 (lv_at hl 5 rfl) ?_
                                            refine lv_icmp_ge (tgt := 322) hx hb dX12_lifts__286 (by decide) (fun c18373 => ?_) (fun c18373 => (by exfalso; have q9 : ((5 : Nat) : Int) < z83.toInt := ti_nle c18373 rfl (nI_toInt (by omega)); omega))
                                            have t18374 : z83.toInt ≤ ((5 : Nat) : Int) := ti_le c18373 rfl (nI_toInt (by omega))
                                            exact jn18295 (nI 5) z18167 (rg_t (a := ((5 : Nat) : Int)) (nI_toInt (by omega)) (by omega) (by omega)) _ _ hT hF hS m18168 ls (lv_sub hl [0, 1, 2, 3, 4, 5, 6, 7, 8, 9, 10] rfl)
                                          | succ n18371 ih18371 =>
                                            intro i18166 hn18371 hlo18372 z18167 H locs hT hF hS m18168 ls hl
                                            have hlt18374 : i18166 < 5 := by omega
                                            refine lv_iload hx hb dX12_lifts__282 (lv_at hl 0 rfl) ?_
                                            refine lv_iload hx hb dX12_lifts__284 (lv_at hl 5 rfl) ?_
                                            refine lv_icmp_ge (tgt := 322) hx hb dX12_lifts__286 (by decide) (fun c18375 => ?_) (fun c18375 => ?_)
                                            · have t18376 : z83.toInt ≤ ((i18166 : Nat) : Int) := ti_le c18375 rfl (nI_toInt (by omega))
                                              exact jn18295 (nI i18166) z18167 (rg_t (a := ((i18166 : Nat) : Int)) (nI_toInt (by omega)) (by omega) (by omega)) _ _ hT hF hS m18168 ls (lv_sub hl [0, 1, 2, 3, 4, 5, 6, 7, 8, 9, 10] rfl)
                                            · have t18377 : ((i18166 : Nat) : Int) < z83.toInt := ti_nle c18375 rfl (nI_toInt (by omega))
                                              refine lv_iload hx hb dX12_lifts__289 (lv_at hl 1 rfl) ?_
                                              refine lv_iload hx hb dX12_lifts__291 (lv_at hl 2 rfl) ?_
                                              refine lv_iload hx hb dX12_lifts__293 (lv_at hl 0 rfl) ?_
                                              refine lv_ishr hx hb dX12_lifts__295 ?_
                                              refine lv_topi (fun x18378 ex18378 => ?_)
                                              refine lv_iconst (v := 1) hx hb dX12_lifts__296 (by decide) ?_
                                              refine lv_iand hx hb dX12_lifts__297 ?_
                                              refine lv_topi (fun x18379 ex18379 => ?_)
                                              refine lv_iconst (v := 1) hx hb dX12_lifts__298 (by decide) ?_
                                              refine lv_icmp_ne (tgt := 312) hx hb dX12_lifts__299 (by decide) (fun c18380 => ?_) (fun c18380 => ?_)
                                              · have t18381 : x18379.toInt ≠ 1 := ti_ne c18380 rfl (by decide)
                                                refine lv_iconst (v := 0) hx hb dX12_lifts__312 (by decide) ?_
                                                refine lv_iadd hx hb dX12_lifts__313 ?_
                                                refine lv_topi (fun x18382 ex18382 => ?_)
                                                have t18383 : -2147483648 ≤ z18167.toInt ∧ z18167.toInt ≤ 2147483647 := ti_all z18167
                                                have t18384 : x18382.toInt = z18167.toInt + 0 := ti_add ex18382 rfl (by decide) (by omega) (by omega)
                                                refine lv_istore (lv' := [(9, .int x18382), (10, .int (nI i18166)), (8, .int (nI i17842)), (7, .int z17207), (6, .int (nI i15267)), (5, .int z83), (0, .ref o0), (1, .int p0), (2, .int p1), (3, .int p2), (4, .int p3)]) hx hb dX12_lifts__314 hl (by decide) rfl (fun ls hl => ?_)
                                                refine lv_iinc (v := nI (i18166 + 1)) (lv' := [(10, .int (nI (i18166 + 1))), (9, .int x18382), (8, .int (nI i17842)), (7, .int z17207), (6, .int (nI i15267)), (5, .int z83), (0, .ref o0), (1, .int p0), (2, .int p1), (3, .int p2), (4, .int p3)]) hx hb dX12_lifts__316 hl (k := 1) rfl (nI_add i18166 1) (by decide) rfl (fun ls hl => ?_)
                                                refine lv_goto (tgt := 282) hx hb dX12_lifts__319 (by decide) ?_
                                                exact ih18371 (i18166 + 1) (by omega) (by omega) x18382 _ _ hT hF hS m18168 ls (lv_sub hl [0, 1, 2, 3, 4, 5, 6, 7, 8, 9, 10] rfl)
                                              · have t18385 : x18379.toInt = 1 := ti_eq c18380 rfl (by decide)
                                                refine lv_aload_n hx hb dX12_lifts__302 rfl (lv_at hl 6 rfl) ?_
                                                refine tw_get hx hb hts bF_X12 hown hK hT hr_o0 shm_0 rfl 67 (by decide) (ht_at hts 46 rfl) (fun _ h9 => h9) dX12_lifts__303 (fun v9 m18386 h9 => ?_)
                                                obtain ⟨rfl, hg18387⟩ := h9 _ rfl
                                                refine lv_iload hx hb dX12_lifts__306 (lv_at hl 0 rfl) ?_
                                                refine tw_iald (i := (nI i18166)) hx hb hK hT hg18387 shm_68 rfl (vp_in_nI (by omega) (by decide)) dX12_lifts__308 (fun v9 m18388 h9 => ?_)
                                                obtain ⟨x18389, rfl, gx18389, kx18389⟩ := h9
                                                refine lv_goto (tgt := 313) hx hb dX12_lifts__309 (by decide) ?_
                                                refine lv_iadd hx hb dX12_lifts__313 ?_
                                                refine lv_topi (fun x18390 ex18390 => ?_)
                                                refine lv_istore (lv' := [(9, .int x18390), (10, .int (nI i18166)), (8, .int (nI i17842)), (7, .int z17207), (6, .int (nI i15267)), (5, .int z83), (0, .ref o0), (1, .int p0), (2, .int p1), (3, .int p2), (4, .int p3)]) hx hb dX12_lifts__314 hl (by decide) rfl (fun ls hl => ?_)
                                                refine lv_iinc (v := nI (i18166 + 1)) (lv' := [(10, .int (nI (i18166 + 1))), (9, .int x18390), (8, .int (nI i17842)), (7, .int z17207), (6, .int (nI i15267)), (5, .int z83), (0, .ref o0), (1, .int p0), (2, .int p1), (3, .int p2), (4, .int p3)]) hx hb dX12_lifts__316 hl (k := 1) rfl (nI_add i18166 1) (by decide) rfl (fun ls hl => ?_)
                                                refine lv_goto (tgt := 282) hx hb dX12_lifts__319 (by decide) ?_
                                                exact ih18371 (i18166 + 1) (by omega) (by omega) x18390 _ _ hT hF hS m18168 ls (lv_sub hl [0, 1, 2, 3, 4, 5, 6, 7, 8, 9, 10] rfl)
                                        exact key18371 (5 - 0) 0 (by omega) (Nat.le_refl _) z17207 _ _ hT hF hS m17843 ls (lv_sub hl [0, 1, 2, 3, 4, 5, 6, 7, 8, 9, 10] rfl)
                                  exact key18101 (2147483647 - 0) 0 (by omega) (Nat.le_refl _) _ _ hT hF hS m17831 ls (lv_sub hl [0, 1, 2, 3, 4, 5, 6, 7, 8] rfl)
                                | succ n17838 ih17838 =>
                                  intro i17830 hn17838 hlo17839  H locs hT hF hS m17831 ls hl
                                  have hlt18390 : i17830 < 1001 := by omega
                                  refine lv_iload hx hb dX12_lifts__239 (lv_at hl 0 rfl) ?_
                                  refine lv_sipush (v := 1001) hx hb dX12_lifts__241 (by decide) ?_
                                  refine lv_icmp_ge (tgt := 263) hx hb dX12_lifts__244 (by decide) (fun c18391 => (by exfalso; have q9 : 1001 ≤ ((i17830 : Nat) : Int) := ti_le c18391 (by decide) (nI_toInt (by omega)); omega)) (fun c18391 => ?_)
                                  have t18392 : ((i17830 : Nat) : Int) < 1001 := ti_nle c18391 (by decide) (nI_toInt (by omega))
                                  refine lv_aload_n hx hb dX12_lifts__247 rfl (lv_at hl 4 rfl) ?_
                                  refine tw_get hx hb hts bF_X12 hown hK hT hr_o0 shm_0 rfl 66 (by decide) (ht_at hts 16 rfl) (fun _ h9 => h9) dX12_lifts__248 (fun v9 m18393 h9 => ?_)
                                  obtain ⟨rfl, hg18394⟩ := h9 _ rfl
                                  refine lv_iload hx hb dX12_lifts__251 (lv_at hl 0 rfl) ?_
                                  refine lv_ldcw (v := 1000000000) hx hb hown (ht_at hts 10 rfl) dX12_lifts__253 ?_
                                  refine tw_iast (i := (nI i17830)) (x := 1000000000) hx hb hK hT hG hS hg18394 shm_67 rfl (vp_in_nI (by omega) (by decide)) (gi_all _) dX12_lifts__256 (fun H locs hT oq m18395 oi hS => ?_)
                                  have hF := hF.ast hg18394 skm_67 oq (by decide)
                                  have m18396 := (el_kept (oq _ (gne hg15245 hg18394 (by decide)))).trans m17831
                                  refine lv_iinc (v := nI (i17830 + 1)) (lv' := [(8, .int (nI (i17830 + 1))), (7, .int z17207), (6, .int (nI i15267)), (5, .int z83), (0, .ref o0), (1, .int p0), (2, .int p1), (3, .int p2), (4, .int p3)]) hx hb dX12_lifts__257 hl (k := 0) rfl (nI_add i17830 1) (by decide) rfl (fun ls hl => ?_)
                                  refine lv_goto (tgt := 239) hx hb dX12_lifts__260 (by decide) ?_
                                  exact ih17838 (i17830 + 1) (by omega) (by omega) _ _ hT hF hS m18396 ls (lv_sub hl [0, 1, 2, 3, 4, 5, 6, 7, 8] rfl)
                              exact key17838 (1001 - 0) 0 (by omega) (Nat.le_refl _) _ _ hT hF hS m17208 ls (lv_sub hl [0, 1, 2, 3, 4, 5, 6, 7, 8] rfl)
                            | succ n17822 ih17822 =>
                              intro i17206 hn17822 hlo17823 z17207 H locs hT hF hS m17208 ls hl
                              have hlt18396 : i17206 < 29 := by omega
                              refine lv_iload hx hb dX12_lifts__178 (lv_at hl 0 rfl) ?_
                              refine lv_aload_n hx hb dX12_lifts__180 rfl (lv_at hl 4 rfl) ?_
                              refine tw_get hx hb hts bF_X12 hown hK hT hr_o0 shm_0 rfl 1 (by decide) (ht_at hts 9 rfl) (fun _ h9 => h9) dX12_lifts__181 (fun v9 m18397 h9 => ?_)
                              obtain ⟨rfl, hg18398⟩ := h9 _ rfl
                              refine lv_sipush (v := 1428) hx hb dX12_lifts__184 (by decide) ?_
                              refine tw_iald (i := 1428) hx hb hK hT hg15245 shm_2 rfl (by unfold vp_in; decide) dX12_lifts__187 (fun v9 m18399 h9 => ?_)
                              obtain ⟨x18400, rfl, gx18400, kx18400⟩ := (gp_at h9 (w_wct (by have q9 := tn_of (show (1428 : Int32).toInt = 1428 from (by decide)) (show (0 : Int) ≤ 1428 from by omega); omega)))
                              obtain rfl : x15247 = x18400 := (el_same m18399 m17208 rfl).symm
                              refine lv_icmp_ge (tgt := 236) hx hb dX12_lifts__188 (by decide) (fun c18401 => ?_) (fun c18401 => ?_)
                              · have t18402 : x15247.toInt ≤ ((i17206 : Nat) : Int) := ti_le c18401 rfl (nI_toInt (by omega))
                                refine lv_iconst (v := 0) hx hb dX12_lifts__236 (by decide) ?_
                                refine lv_istore (lv' := [(8, .int 0), (7, .int z17207), (6, .int (nI i15267)), (5, .int z83), (0, .ref o0), (1, .int p0), (2, .int p1), (3, .int p2), (4, .int p3)]) hx hb dX12_lifts__237 hl (by decide) rfl (fun ls hl => ?_)
                                have key18411 : ∀ (n18411 i18403 : Nat), i18403 + n18411 = 1001 → 0 ≤ i18403 → ∀ (H : Heap) (locs : List Loc), gH (dC, dI) kA (SHm q (wP wZ wN wH wB wC wL wK wU wV) PI im PM PT lS lB lE lN) G H → gF (dC, dI) SKm G ([(0, 0), (66, 0), (67, 0), (68, 0)] : List (Nat × Nat)) s.heap H → va_S A s.heap H locs → el H (q 1) (1428 : Int32).toNatClampNeg = some (.int x15247) → ∀ ls : Array Slot, lv_has ls 13 [(8, .int (nI i18403)), (7, .int z17207), (6, .int (nI i15267)), (5, .int z83), (0, .ref o0), (1, .int p0), (2, .int p1), (3, .int p2), (4, .int p3)] → W p l e (headSpec w_s_lifts_ ({ frames := 2, cells := 0, slots := 0, locals := 66 })).room s m #[.ref o0, .int p0, .int p1, .int p2, .int p3] below meth c H locs 0 0 (MQ below (va_Qi (fun (r : Int32) (u : Unit) => (-2147483648 ≤ r.toInt ∧ r.toInt ≤ 999999999)) (fun (_ : Unit) (t : State) => gH (dC, dI) kA (SHm q (wP wZ wN wH wB wC wL wK wU wV) PI im PM PT lS lB lE lN) G t.heap ∧ gF (dC, dI) SKm G ([(0, 0), (66, 0), (67, 0), (68, 0)] : List (Nat × Nat)) s.heap t.heap) A) #[.ref o0, .int p0, .int p1, .int p2, .int p3] s 0 0 A) (F0 m 239 ls []) := by
                                  intro n18411
                                  induction n18411 with
                                  | zero =>
                                    intro i18403 hn18411 hlo18412  H locs hT hF hS m18404 ls hl
                                    obtain rfl : 1001 = i18403 := by omega
                                    refine lv_iload hx hb dX12_lifts__239 (lv_at hl 0 rfl) ?_
                                    refine lv_sipush (v := 1001) hx hb dX12_lifts__241 (by decide) ?_
                                    refine lv_icmp_ge (tgt := 263) hx hb dX12_lifts__244 (by decide) (fun c18413 => ?_) (fun c18413 => (by exfalso; have q9 : ((1001 : Nat) : Int) < 1001 := ti_nle c18413 (by decide) (nI_toInt (by omega)); omega))
                                    have t18414 : 1001 ≤ ((1001 : Nat) : Int) := ti_le c18413 (by decide) (nI_toInt (by omega))
                                    refine lv_iconst (v := 0) hx hb dX12_lifts__263 (by decide) ?_
                                    refine lv_istore (lv' := [(8, .int 0), (7, .int z17207), (6, .int (nI i15267)), (5, .int z83), (0, .ref o0), (1, .int p0), (2, .int p1), (3, .int p2), (4, .int p3)]) hx hb dX12_lifts__264 hl (by decide) rfl (fun ls hl => ?_)
                                    have key18674 : ∀ (n18674 i18415 : Nat), i18415 + n18674 = 2147483647 → 0 ≤ i18415 → ∀ (H : Heap) (locs : List Loc), gH (dC, dI) kA (SHm q (wP wZ wN wH wB wC wL wK wU wV) PI im PM PT lS lB lE lN) G H → gF (dC, dI) SKm G ([(0, 0), (66, 0), (67, 0), (68, 0)] : List (Nat × Nat)) s.heap H → va_S A s.heap H locs → el H (q 1) (1428 : Int32).toNatClampNeg = some (.int x15247) → ∀ ls : Array Slot, lv_has ls 13 [(8, .int (nI i18415)), (7, .int z17207), (6, .int (nI i15267)), (5, .int z83), (0, .ref o0), (1, .int p0), (2, .int p1), (3, .int p2), (4, .int p3)] → W p l e (headSpec w_s_lifts_ ({ frames := 2, cells := 0, slots := 0, locals := 66 })).room s m #[.ref o0, .int p0, .int p1, .int p2, .int p3] below meth c H locs 0 0 (MQ below (va_Qi (fun (r : Int32) (u : Unit) => (-2147483648 ≤ r.toInt ∧ r.toInt ≤ 999999999)) (fun (_ : Unit) (t : State) => gH (dC, dI) kA (SHm q (wP wZ wN wH wB wC wL wK wU wV) PI im PM PT lS lB lE lN) G t.heap ∧ gF (dC, dI) SKm G ([(0, 0), (66, 0), (67, 0), (68, 0)] : List (Nat × Nat)) s.heap t.heap) A) #[.ref o0, .int p0, .int p1, .int p2, .int p3] s 0 0 A) (F0 m 266 ls []) := by
                                      intro n18674
                                      induction n18674 with
                                      | zero =>
                                        intro i18415 hn18674 hlo18675  H locs hT hF hS m18416 ls hl
                                        obtain rfl : 2147483647 = i18415 := by omega
                                        refine lv_iload hx hb dX12_lifts__266 (lv_at hl 0 rfl) ?_
                                        refine lv_iconst (v := 1) hx hb dX12_lifts__268 (by decide) ?_
                                        refine lv_iload hx hb dX12_lifts__269 (lv_at hl 3 rfl) ?_
                                        refine lv_ishl hx hb dX12_lifts__271 ?_
                                        refine lv_topi (fun x18676 ex18676 => ?_)
                                        refine lv_icmp_ge (tgt := 412) hx hb dX12_lifts__272 (by decide) (fun c18677 => ?_) (fun c18677 => (by exfalso; have q9 : ((2147483647 : Nat) : Int) < x18676.toInt := ti_nle c18677 rfl (nI_toInt (by omega)); have := ti_all x18676; omega))
                                        have t18678 : x18676.toInt ≤ ((2147483647 : Nat) : Int) := ti_le c18677 rfl (nI_toInt (by omega))
                                        refine lv_iconst (v := 0) hx hb dX12_lifts__412 (by decide) ?_
                                        refine lv_istore (lv' := [(8, .int 0), (7, .int z17207), (6, .int (nI i15267)), (5, .int z83), (0, .ref o0), (1, .int p0), (2, .int p1), (3, .int p2), (4, .int p3)]) hx hb dX12_lifts__413 hl (by decide) rfl (fun ls hl => ?_)
                                        have key18692 : ∀ (n18692 i18679 : Nat), i18679 + n18692 = 1001 → 0 ≤ i18679 → ∀ (H : Heap) (locs : List Loc), gH (dC, dI) kA (SHm q (wP wZ wN wH wB wC wL wK wU wV) PI im PM PT lS lB lE lN) G H → gF (dC, dI) SKm G ([(0, 0), (66, 0), (67, 0), (68, 0)] : List (Nat × Nat)) s.heap H → va_S A s.heap H locs → el H (q 1) (1428 : Int32).toNatClampNeg = some (.int x15247) → ∀ ls : Array Slot, lv_has ls 13 [(8, .int (nI i18679)), (7, .int z17207), (6, .int (nI i15267)), (5, .int z83), (0, .ref o0), (1, .int p0), (2, .int p1), (3, .int p2), (4, .int p3)] → W p l e (headSpec w_s_lifts_ ({ frames := 2, cells := 0, slots := 0, locals := 66 })).room s m #[.ref o0, .int p0, .int p1, .int p2, .int p3] below meth c H locs 0 0 (MQ below (va_Qi (fun (r : Int32) (u : Unit) => (-2147483648 ≤ r.toInt ∧ r.toInt ≤ 999999999)) (fun (_ : Unit) (t : State) => gH (dC, dI) kA (SHm q (wP wZ wN wH wB wC wL wK wU wV) PI im PM PT lS lB lE lN) G t.heap ∧ gF (dC, dI) SKm G ([(0, 0), (66, 0), (67, 0), (68, 0)] : List (Nat × Nat)) s.heap t.heap) A) #[.ref o0, .int p0, .int p1, .int p2, .int p3] s 0 0 A) (F0 m 415 ls []) := by
                                          intro n18692
                                          induction n18692 with
                                          | zero =>
                                            intro i18679 hn18692 hlo18693  H locs hT hF hS m18680 ls hl
                                            obtain rfl : 1001 = i18679 := by omega
                                            refine lv_iload hx hb dX12_lifts__415 (lv_at hl 0 rfl) ?_
                                            refine lv_sipush (v := 1001) hx hb dX12_lifts__417 (by decide) ?_
                                            refine lv_icmp_ge (tgt := 443) hx hb dX12_lifts__420 (by decide) (fun c18694 => ?_) (fun c18694 => (by exfalso; have q9 : ((1001 : Nat) : Int) < 1001 := ti_nle c18694 (by decide) (nI_toInt (by omega)); omega))
                                            have t18695 : 1001 ≤ ((1001 : Nat) : Int) := ti_le c18694 (by decide) (nI_toInt (by omega))
                                            refine lv_iinc (v := nI (i15267 + 1)) (lv' := [(6, .int (nI (i15267 + 1))), (8, .int (nI 1001)), (7, .int z17207), (5, .int z83), (0, .ref o0), (1, .int p0), (2, .int p1), (3, .int p2), (4, .int p3)]) hx hb dX12_lifts__443 hl (k := 2) rfl (nI_add i15267 1) (by decide) rfl (fun ls hl => ?_)
                                            refine lv_goto (tgt := 166) hx hb dX12_lifts__446 (by decide) ?_
                                            exact ih17117 (i15267 + 1) (by omega) (by omega) _ _ hT hF hS m18680 ls (lv_sub hl [0, 3, 4, 5, 6, 7, 8] rfl)
                                          | succ n18692 ih18692 =>
                                            intro i18679 hn18692 hlo18693  H locs hT hF hS m18680 ls hl
                                            have hlt18695 : i18679 < 1001 := by omega
                                            refine lv_iload hx hb dX12_lifts__415 (lv_at hl 0 rfl) ?_
                                            refine lv_sipush (v := 1001) hx hb dX12_lifts__417 (by decide) ?_
                                            refine lv_icmp_ge (tgt := 443) hx hb dX12_lifts__420 (by decide) (fun c18696 => (by exfalso; have q9 : 1001 ≤ ((i18679 : Nat) : Int) := ti_le c18696 (by decide) (nI_toInt (by omega)); omega)) (fun c18696 => ?_)
                                            have t18697 : ((i18679 : Nat) : Int) < 1001 := ti_nle c18696 (by decide) (nI_toInt (by omega))
                                            refine lv_aload_n hx hb dX12_lifts__423 rfl (lv_at hl 4 rfl) ?_
                                            refine tw_get hx hb hts bF_X12 hown hK hT hr_o0 shm_0 rfl 65 (by decide) (ht_at hts 11 rfl) (fun _ h9 => h9) dX12_lifts__424 (fun v9 m18698 h9 => ?_)
                                            obtain ⟨rfl, hg18699⟩ := h9 _ rfl
                                            refine lv_iload hx hb dX12_lifts__427 (lv_at hl 0 rfl) ?_
                                            refine lv_aload_n hx hb dX12_lifts__429 rfl (lv_at hl 4 rfl) ?_
                                            refine tw_get hx hb hts bF_X12 hown hK hT hr_o0 shm_0 rfl 66 (by decide) (ht_at hts 16 rfl) (fun _ h9 => h9) dX12_lifts__430 (fun v9 m18700 h9 => ?_)
                                            obtain ⟨rfl, hg18701⟩ := h9 _ rfl
                                            refine lv_iload hx hb dX12_lifts__433 (lv_at hl 0 rfl) ?_
                                            refine tw_iald (i := (nI i18679)) hx hb hK hT hg18701 shm_67 rfl (vp_in_nI (by omega) (by decide)) dX12_lifts__435 (fun v9 m18702 h9 => ?_)
                                            obtain ⟨x18703, rfl, gx18703, kx18703⟩ := h9
                                            refine tw_iast (i := (nI i18679)) (x := x18703) hx hb hK hT hG hS hg18699 shm_66 rfl (vp_in_nI (by omega) (by decide)) (gi_all _) dX12_lifts__436 (fun H locs hT oq m18704 oi hS => ?_)
                                            have hF := hF.ast hg18699 skm_66 oq (by decide)
                                            have m18705 := (el_kept (oq _ (gne hg15245 hg18699 (by decide)))).trans m18680
                                            refine lv_iinc (v := nI (i18679 + 1)) (lv' := [(8, .int (nI (i18679 + 1))), (7, .int z17207), (6, .int (nI i15267)), (5, .int z83), (0, .ref o0), (1, .int p0), (2, .int p1), (3, .int p2), (4, .int p3)]) hx hb dX12_lifts__437 hl (k := 0) rfl (nI_add i18679 1) (by decide) rfl (fun ls hl => ?_)
                                            refine lv_goto (tgt := 415) hx hb dX12_lifts__440 (by decide) ?_
                                            exact ih18692 (i18679 + 1) (by omega) (by omega) _ _ hT hF hS m18705 ls (lv_sub hl [0, 1, 2, 3, 4, 5, 6, 7, 8] rfl)
                                        exact key18692 (1001 - 0) 0 (by omega) (Nat.le_refl _) _ _ hT hF hS m18416 ls (lv_sub hl [0, 1, 2, 3, 4, 5, 6, 7, 8] rfl)
                                      | succ n18674 ih18674 =>
                                        intro i18415 hn18674 hlo18675  H locs hT hF hS m18416 ls hl
                                        have hlt18706 : i18415 < 2147483647 := by omega
                                        refine lv_iload hx hb dX12_lifts__266 (lv_at hl 0 rfl) ?_
                                        refine lv_iconst (v := 1) hx hb dX12_lifts__268 (by decide) ?_
                                        refine lv_iload hx hb dX12_lifts__269 (lv_at hl 3 rfl) ?_
                                        refine lv_ishl hx hb dX12_lifts__271 ?_
                                        refine lv_topi (fun x18707 ex18707 => ?_)
                                        refine lv_icmp_ge (tgt := 412) hx hb dX12_lifts__272 (by decide) (fun c18708 => ?_) (fun c18708 => ?_)
                                        · have t18709 : x18707.toInt ≤ ((i18415 : Nat) : Int) := ti_le c18708 rfl (nI_toInt (by omega))
                                          refine lv_iconst (v := 0) hx hb dX12_lifts__412 (by decide) ?_
                                          refine lv_istore (lv' := [(8, .int 0), (7, .int z17207), (6, .int (nI i15267)), (5, .int z83), (0, .ref o0), (1, .int p0), (2, .int p1), (3, .int p2), (4, .int p3)]) hx hb dX12_lifts__413 hl (by decide) rfl (fun ls hl => ?_)
                                          have key18723 : ∀ (n18723 i18710 : Nat), i18710 + n18723 = 1001 → 0 ≤ i18710 → ∀ (H : Heap) (locs : List Loc), gH (dC, dI) kA (SHm q (wP wZ wN wH wB wC wL wK wU wV) PI im PM PT lS lB lE lN) G H → gF (dC, dI) SKm G ([(0, 0), (66, 0), (67, 0), (68, 0)] : List (Nat × Nat)) s.heap H → va_S A s.heap H locs → el H (q 1) (1428 : Int32).toNatClampNeg = some (.int x15247) → ∀ ls : Array Slot, lv_has ls 13 [(8, .int (nI i18710)), (7, .int z17207), (6, .int (nI i15267)), (5, .int z83), (0, .ref o0), (1, .int p0), (2, .int p1), (3, .int p2), (4, .int p3)] → W p l e (headSpec w_s_lifts_ ({ frames := 2, cells := 0, slots := 0, locals := 66 })).room s m #[.ref o0, .int p0, .int p1, .int p2, .int p3] below meth c H locs 0 0 (MQ below (va_Qi (fun (r : Int32) (u : Unit) => (-2147483648 ≤ r.toInt ∧ r.toInt ≤ 999999999)) (fun (_ : Unit) (t : State) => gH (dC, dI) kA (SHm q (wP wZ wN wH wB wC wL wK wU wV) PI im PM PT lS lB lE lN) G t.heap ∧ gF (dC, dI) SKm G ([(0, 0), (66, 0), (67, 0), (68, 0)] : List (Nat × Nat)) s.heap t.heap) A) #[.ref o0, .int p0, .int p1, .int p2, .int p3] s 0 0 A) (F0 m 415 ls []) := by
                                            intro n18723
                                            induction n18723 with
                                            | zero =>
                                              intro i18710 hn18723 hlo18724  H locs hT hF hS m18711 ls hl
                                              obtain rfl : 1001 = i18710 := by omega
                                              refine lv_iload hx hb dX12_lifts__415 (lv_at hl 0 rfl) ?_
                                              refine lv_sipush (v := 1001) hx hb dX12_lifts__417 (by decide) ?_
                                              refine lv_icmp_ge (tgt := 443) hx hb dX12_lifts__420 (by decide) (fun c18725 => ?_) (fun c18725 => (by exfalso; have q9 : ((1001 : Nat) : Int) < 1001 := ti_nle c18725 (by decide) (nI_toInt (by omega)); omega))
                                              have t18726 : 1001 ≤ ((1001 : Nat) : Int) := ti_le c18725 (by decide) (nI_toInt (by omega))
                                              refine lv_iinc (v := nI (i15267 + 1)) (lv' := [(6, .int (nI (i15267 + 1))), (8, .int (nI 1001)), (7, .int z17207), (5, .int z83), (0, .ref o0), (1, .int p0), (2, .int p1), (3, .int p2), (4, .int p3)]) hx hb dX12_lifts__443 hl (k := 2) rfl (nI_add i15267 1) (by decide) rfl (fun ls hl => ?_)
                                              refine lv_goto (tgt := 166) hx hb dX12_lifts__446 (by decide) ?_
                                              exact ih17117 (i15267 + 1) (by omega) (by omega) _ _ hT hF hS m18711 ls (lv_sub hl [0, 3, 4, 5, 6, 7, 8] rfl)
                                            | succ n18723 ih18723 =>
                                              intro i18710 hn18723 hlo18724  H locs hT hF hS m18711 ls hl
                                              have hlt18726 : i18710 < 1001 := by omega
                                              refine lv_iload hx hb dX12_lifts__415 (lv_at hl 0 rfl) ?_
                                              refine lv_sipush (v := 1001) hx hb dX12_lifts__417 (by decide) ?_
                                              refine lv_icmp_ge (tgt := 443) hx hb dX12_lifts__420 (by decide) (fun c18727 => (by exfalso; have q9 : 1001 ≤ ((i18710 : Nat) : Int) := ti_le c18727 (by decide) (nI_toInt (by omega)); omega)) (fun c18727 => ?_)
                                              have t18728 : ((i18710 : Nat) : Int) < 1001 := ti_nle c18727 (by decide) (nI_toInt (by omega))
                                              refine lv_aload_n hx hb dX12_lifts__423 rfl (lv_at hl 4 rfl) ?_
                                              refine tw_get hx hb hts bF_X12 hown hK hT hr_o0 shm_0 rfl 65 (by decide) (ht_at hts 11 rfl) (fun _ h9 => h9) dX12_lifts__424 (fun v9 m18729 h9 => ?_)
                                              obtain ⟨rfl, hg18730⟩ := h9 _ rfl
                                              refine lv_iload hx hb dX12_lifts__427 (lv_at hl 0 rfl) ?_
                                              refine lv_aload_n hx hb dX12_lifts__429 rfl (lv_at hl 4 rfl) ?_
                                              refine tw_get hx hb hts bF_X12 hown hK hT hr_o0 shm_0 rfl 66 (by decide) (ht_at hts 16 rfl) (fun _ h9 => h9) dX12_lifts__430 (fun v9 m18731 h9 => ?_)
                                              obtain ⟨rfl, hg18732⟩ := h9 _ rfl
                                              refine lv_iload hx hb dX12_lifts__433 (lv_at hl 0 rfl) ?_
                                              refine tw_iald (i := (nI i18710)) hx hb hK hT hg18732 shm_67 rfl (vp_in_nI (by omega) (by decide)) dX12_lifts__435 (fun v9 m18733 h9 => ?_)
                                              obtain ⟨x18734, rfl, gx18734, kx18734⟩ := h9
                                              refine tw_iast (i := (nI i18710)) (x := x18734) hx hb hK hT hG hS hg18730 shm_66 rfl (vp_in_nI (by omega) (by decide)) (gi_all _) dX12_lifts__436 (fun H locs hT oq m18735 oi hS => ?_)
                                              have hF := hF.ast hg18730 skm_66 oq (by decide)
                                              have m18736 := (el_kept (oq _ (gne hg15245 hg18730 (by decide)))).trans m18711
                                              refine lv_iinc (v := nI (i18710 + 1)) (lv' := [(8, .int (nI (i18710 + 1))), (7, .int z17207), (6, .int (nI i15267)), (5, .int z83), (0, .ref o0), (1, .int p0), (2, .int p1), (3, .int p2), (4, .int p3)]) hx hb dX12_lifts__437 hl (k := 0) rfl (nI_add i18710 1) (by decide) rfl (fun ls hl => ?_)
                                              refine lv_goto (tgt := 415) hx hb dX12_lifts__440 (by decide) ?_
                                              exact ih18723 (i18710 + 1) (by omega) (by omega) _ _ hT hF hS m18736 ls (lv_sub hl [0, 1, 2, 3, 4, 5, 6, 7, 8] rfl)
                                          exact key18723 (1001 - 0) 0 (by omega) (Nat.le_refl _) _ _ hT hF hS m18416 ls (lv_sub hl [0, 1, 2, 3, 4, 5, 6, 7, 8] rfl)
                                        · have t18738 : ((i18415 : Nat) : Int) < x18707.toInt := ti_nle c18708 rfl (nI_toInt (by omega))
                                          refine lv_iload hx hb dX12_lifts__275 (lv_at hl 1 rfl) ?_
                                          refine lv_istore (lv' := [(9, .int z17207), (8, .int (nI i18415)), (7, .int z17207), (6, .int (nI i15267)), (5, .int z83), (0, .ref o0), (1, .int p0), (2, .int p1), (3, .int p2), (4, .int p3)]) hx hb dX12_lifts__277 hl (by decide) rfl (fun ls hl => ?_)
                                          refine lv_iconst (v := 0) hx hb dX12_lifts__279 (by decide) ?_
                                          refine lv_istore (lv' := [(10, .int 0), (9, .int z17207), (8, .int (nI i18415)), (7, .int z17207), (6, .int (nI i15267)), (5, .int z83), (0, .ref o0), (1, .int p0), (2, .int p1), (3, .int p2), (4, .int p3)]) hx hb dX12_lifts__280 hl (by decide) rfl (fun ls hl => ?_)
                                          have jn18868 : ∀ (z18864 : Int32), ∀ (z18866 : Int32), ((0 ≤ z18864.toInt ∧ z18864.toInt ≤ 5)) → ∀ (H : Heap) (locs : List Loc), gH (dC, dI) kA (SHm q (wP wZ wN wH wB wC wL wK wU wV) PI im PM PT lS lB lE lN) G H → gF (dC, dI) SKm G ([(0, 0), (66, 0), (67, 0), (68, 0)] : List (Nat × Nat)) s.heap H → va_S A s.heap H locs → el H (q 1) (1428 : Int32).toNatClampNeg = some (.int x15247) → ∀ ls : Array Slot, lv_has ls 13 [(10, .int z18864), (9, .int z18866), (8, .int (nI i18415)), (7, .int z17207), (6, .int (nI i15267)), (5, .int z83), (0, .ref o0), (1, .int p0), (2, .int p1), (3, .int p2), (4, .int p3)] → W p l e (headSpec w_s_lifts_ ({ frames := 2, cells := 0, slots := 0, locals := 66 })).room s m #[.ref o0, .int p0, .int p1, .int p2, .int p3] below meth c H locs 0 0 (MQ below (va_Qi (fun (r : Int32) (u : Unit) => (-2147483648 ≤ r.toInt ∧ r.toInt ≤ 999999999)) (fun (_ : Unit) (t : State) => gH (dC, dI) kA (SHm q (wP wZ wN wH wB wC wL wK wU wV) PI im PM PT lS lB lE lN) G t.heap ∧ gF (dC, dI) SKm G ([(0, 0), (66, 0), (67, 0), (68, 0)] : List (Nat × Nat)) s.heap t.heap) A) #[.ref o0, .int p0, .int p1, .int p2, .int p3] s 0 0 A) (F0 m 322 ls []) := by
                                            intro z18864 z18866 h18865 H locs hT hF hS m18867 ls hl
                                            refine lv_iload hx hb dX12_lifts__322 (lv_at hl 2 rfl) ?_
                                            have hFc := gA_free hG hA hS
                                            refine va_calli (va_runS (As := [.int (nI i18415)]) (rest := []) ⟨hx, hb, hml, hown, hts⟩ (j_bitCount l dC dI kA adK adV G H q wZ wN wH wB wC wL wK wU wV PI im PM PT lS lB lE lN (nI i18415) hT hgz hgn hgh hgb hgc hgi hgu) (va_cwS 1 hts (goodIn_app (goodIn_r _ [22, 23, 24] rfl (by decide +kernel)) (goodIn_ca (goodIn_r _ [18, 19, 20, 21] rfl (by decide +kernel)) (bs_in _ _))) rfl rfl rfl (by decide +kernel) ⟨(Nat.le_of_ble_eq_true rfl), (Nat.le_of_ble_eq_true rfl)⟩) ⟨fun a U g mk q => by obtain ⟨q0, q1, qK, qE⟩ := q; exact ⟨q0, q1, va_K.moved (u := U) (U := U.calling g mk a) (Vm.Alike.refl U.vm) qK, EVS.blind g mk a qE⟩, fun U hU hW => ⟨rfl, hU, va_K.moved hW.alike hK, hE.call hS hFc hU hW⟩⟩ rfl rfl hl.1 rfl (lv_room (Nat.le_of_ble_eq_true rfl)) dX12_lifts__324 ⟨(Nat.le_of_ble_eq_true rfl), (Nat.le_of_ble_eq_true rfl)⟩) hS (fun q _ h => hFc q h) hFc (fun r18869 u t H locs ht hvm hw18870 hB _ _ hS => ?_)
                                            obtain ⟨hT, hF1⟩ := hB
                                            rw [ht] at hT hF1
                                            have m18871 := (el_kept (hF1.arr hg15245 skm_2 (by decide))).trans m18867
                                            have hF := hF.more hF1 (by decide)
                                            try dsimp only at hw18870
                                            refine lv_istore (lv' := [(10, .int r18869), (9, .int z18866), (8, .int (nI i18415)), (7, .int z17207), (6, .int (nI i15267)), (5, .int z83), (0, .ref o0), (1, .int p0), (2, .int p1), (3, .int p2), (4, .int p3)]) hx hb dX12_lifts__327 hl (by decide) rfl (fun ls hl => ?_)
                                            refine lv_iconst (v := 0) hx hb dX12_lifts__329 (by decide) ?_
                                            refine lv_istore (lv' := [(11, .int 0), (10, .int r18869), (9, .int z18866), (8, .int (nI i18415)), (7, .int z17207), (6, .int (nI i15267)), (5, .int z83), (0, .ref o0), (1, .int p0), (2, .int p1), (3, .int p2), (4, .int p3)]) hx hb dX12_lifts__330 hl (by decide) rfl (fun ls hl => ?_)
                                            have key18907 : ∀ (n18907 i18872 : Nat), i18872 + n18907 = 1001 → 0 ≤ i18872 → ∀ (H : Heap) (locs : List Loc), gH (dC, dI) kA (SHm q (wP wZ wN wH wB wC wL wK wU wV) PI im PM PT lS lB lE lN) G H → gF (dC, dI) SKm G ([(0, 0), (66, 0), (67, 0), (68, 0)] : List (Nat × Nat)) s.heap H → va_S A s.heap H locs → el H (q 1) (1428 : Int32).toNatClampNeg = some (.int x15247) → ∀ ls : Array Slot, lv_has ls 13 [(11, .int (nI i18872)), (10, .int r18869), (9, .int z18866), (8, .int (nI i18415)), (7, .int z17207), (6, .int (nI i15267)), (5, .int z83), (0, .ref o0), (1, .int p0), (2, .int p1), (3, .int p2), (4, .int p3)] → W p l e (headSpec w_s_lifts_ ({ frames := 2, cells := 0, slots := 0, locals := 66 })).room s m #[.ref o0, .int p0, .int p1, .int p2, .int p3] below meth c H locs 0 0 (MQ below (va_Qi (fun (r : Int32) (u : Unit) => (-2147483648 ≤ r.toInt ∧ r.toInt ≤ 999999999)) (fun (_ : Unit) (t : State) => gH (dC, dI) kA (SHm q (wP wZ wN wH wB wC wL wK wU wV) PI im PM PT lS lB lE lN) G t.heap ∧ gF (dC, dI) SKm G ([(0, 0), (66, 0), (67, 0), (68, 0)] : List (Nat × Nat)) s.heap t.heap) A) #[.ref o0, .int p0, .int p1, .int p2, .int p3] s 0 0 A) (F0 m 332 ls []) := by
                                              intro n18907
                                              induction n18907 with
                                              | zero =>
                                                intro i18872 hn18907 hlo18908  H locs hT hF hS m18873 ls hl
                                                obtain rfl : 1001 = i18872 := by omega
                                                refine lv_iload hx hb dX12_lifts__332 (lv_at hl 0 rfl) ?_
                                                refine lv_sipush (v := 1001) hx hb dX12_lifts__334 (by decide) ?_
                                                refine lv_icmp_ge (tgt := 406) hx hb dX12_lifts__337 (by decide) (fun c18909 => ?_) (fun c18909 => (by exfalso; have q9 : ((1001 : Nat) : Int) < 1001 := ti_nle c18909 (by decide) (nI_toInt (by omega)); omega))
                                                have t18910 : 1001 ≤ ((1001 : Nat) : Int) := ti_le c18909 (by decide) (nI_toInt (by omega))
                                                refine lv_iinc (v := nI (i18415 + 1)) (lv' := [(8, .int (nI (i18415 + 1))), (11, .int (nI 1001)), (10, .int r18869), (9, .int z18866), (7, .int z17207), (6, .int (nI i15267)), (5, .int z83), (0, .ref o0), (1, .int p0), (2, .int p1), (3, .int p2), (4, .int p3)]) hx hb dX12_lifts__406 hl (k := 3) rfl (nI_add i18415 1) (by decide) rfl (fun ls hl => ?_)
                                                refine lv_goto (tgt := 266) hx hb dX12_lifts__409 (by decide) ?_
                                                exact ih18674 (i18415 + 1) (by omega) (by omega) _ _ hT hF hS m18873 ls (lv_sub hl [0, 4, 5, 6, 7, 8, 9, 10, 11] rfl)
                                              | succ n18907 ih18907 =>
                                                intro i18872 hn18907 hlo18908  H locs hT hF hS m18873 ls hl
                                                have hlt18910 : i18872 < 1001 := by omega
                                                refine lv_iload hx hb dX12_lifts__332 (lv_at hl 0 rfl) ?_
                                                refine lv_sipush (v := 1001) hx hb dX12_lifts__334 (by decide) ?_
                                                refine lv_icmp_ge (tgt := 406) hx hb dX12_lifts__337 (by decide) (fun c18911 => (by exfalso; have q9 : 1001 ≤ ((i18872 : Nat) : Int) := ti_le c18911 (by decide) (nI_toInt (by omega)); omega)) (fun c18911 => ?_)
                                                have t18912 : ((i18872 : Nat) : Int) < 1001 := ti_nle c18911 (by decide) (nI_toInt (by omega))
                                                refine lv_iconst (v := 0) hx hb dX12_lifts__340 (by decide) ?_
                                                refine lv_iload hx hb dX12_lifts__341 (lv_at hl 0 rfl) ?_
                                                refine lv_iload_n hx hb dX12_lifts__343 rfl (lv_at hl 9 rfl) ?_
                                                refine lv_iadd hx hb dX12_lifts__344 ?_
                                                refine lv_topi (fun x18913 ex18913 => ?_)
                                                have t18914 : x18913.toInt = ((i18872 : Nat) : Int) + p1.toInt := ti_add ex18913 (nI_toInt (by omega)) rfl (by omega) (by omega)
                                                refine lv_iload hx hb dX12_lifts__345 (lv_at hl 2 rfl) ?_
                                                refine lv_isub hx hb dX12_lifts__347 ?_
                                                refine lv_topi (fun x18915 ex18915 => ?_)
                                                refine va_mmax hx hb (hml.trans hl.1.symm) hown (ht_at hts 24 rfl) (ht_at hts 25 rfl) (ht_at hts 14 rfl) (ht_at hts 26 rfl) (Nat.le_of_ble_eq_true rfl) (Nat.le_of_ble_eq_true rfl) (Nat.le_of_ble_eq_true rfl) (Nat.le_of_ble_eq_true rfl) dX12_lifts__348 ?_
                                                refine lv_topi (fun x18916 ex18916 => ?_)
                                                have t18917 : 0 ≤ x18916.toInt ∧ x18915.toInt ≤ x18916.toInt ∧ (x18916.toInt = 0 ∨ x18916.toInt = x18915.toInt) := mx_f ex18916 (by decide) rfl
                                                refine lv_istore (lv' := [(12, .int x18916), (11, .int (nI i18872)), (10, .int r18869), (9, .int z18866), (8, .int (nI i18415)), (7, .int z17207), (6, .int (nI i15267)), (5, .int z83), (0, .ref o0), (1, .int p0), (2, .int p1), (3, .int p2), (4, .int p3)]) hx hb dX12_lifts__351 hl (by decide) rfl (fun ls hl => ?_)
                                                refine lv_aload_n hx hb dX12_lifts__353 rfl (lv_at hl 8 rfl) ?_
                                                refine tw_get hx hb hts bF_X12 hown hK hT hr_o0 shm_0 rfl 65 (by decide) (ht_at hts 11 rfl) (fun _ h9 => h9) dX12_lifts__354 (fun v9 m18918 h9 => ?_)
                                                obtain ⟨rfl, hg18919⟩ := h9 _ rfl
                                                refine lv_iload hx hb dX12_lifts__357 (lv_at hl 1 rfl) ?_
                                                refine tw_iald (i := (nI i18872)) hx hb hK hT hg18919 shm_66 rfl (vp_in_nI (by omega) (by decide)) dX12_lifts__359 (fun v9 m18920 h9 => ?_)
                                                obtain ⟨x18921, rfl, gx18921, kx18921⟩ := h9
                                                refine lv_ldcw (v := 1000000000) hx hb hown (ht_at hts 10 rfl) dX12_lifts__360 ?_
                                                refine lv_icmp_ge (tgt := 400) hx hb dX12_lifts__363 (by decide) (fun c18922 => ?_) (fun c18922 => ?_)
                                                · have t18923 : 1000000000 ≤ x18921.toInt := ti_le c18922 (by decide) rfl
                                                  refine lv_iinc (v := nI (i18872 + 1)) (lv' := [(11, .int (nI (i18872 + 1))), (12, .int x18916), (10, .int r18869), (9, .int z18866), (8, .int (nI i18415)), (7, .int z17207), (6, .int (nI i15267)), (5, .int z83), (0, .ref o0), (1, .int p0), (2, .int p1), (3, .int p2), (4, .int p3)]) hx hb dX12_lifts__400 hl (k := 1) rfl (nI_add i18872 1) (by decide) rfl (fun ls hl => ?_)
                                                  refine lv_goto (tgt := 332) hx hb dX12_lifts__403 (by decide) ?_
                                                  exact ih18907 (i18872 + 1) (by omega) (by omega) _ _ hT hF hS m18873 ls (lv_sub hl [0, 2, 3, 4, 5, 6, 7, 8, 9, 10, 11, 12] rfl)
                                                · have t18924 : x18921.toInt < 1000000000 := ti_nle c18922 (by decide) rfl
                                                  refine lv_iload hx hb dX12_lifts__366 (lv_at hl 0 rfl) ?_
                                                  refine lv_iload hx hb dX12_lifts__368 (lv_at hl 12 rfl) ?_
                                                  refine lv_icmp_gt (tgt := 400) hx hb dX12_lifts__370 (by decide) (fun c18925 => ?_) (fun c18925 => ?_)
                                                  · have t18926 : p3.toInt < x18916.toInt := ti_lt c18925 rfl rfl
                                                    refine lv_iinc (v := nI (i18872 + 1)) (lv' := [(11, .int (nI (i18872 + 1))), (12, .int x18916), (10, .int r18869), (9, .int z18866), (8, .int (nI i18415)), (7, .int z17207), (6, .int (nI i15267)), (5, .int z83), (0, .ref o0), (1, .int p0), (2, .int p1), (3, .int p2), (4, .int p3)]) hx hb dX12_lifts__400 hl (k := 1) rfl (nI_add i18872 1) (by decide) rfl (fun ls hl => ?_)
                                                    refine lv_goto (tgt := 332) hx hb dX12_lifts__403 (by decide) ?_
                                                    exact ih18907 (i18872 + 1) (by omega) (by omega) _ _ hT hF hS m18873 ls (lv_sub hl [0, 2, 3, 4, 5, 6, 7, 8, 9, 10, 11, 12] rfl)
                                                  · have t18927 : x18916.toInt ≤ p3.toInt := ti_nlt c18925 rfl rfl
                                                    refine lv_aload_n hx hb dX12_lifts__373 rfl (lv_at hl 8 rfl) ?_
                                                    refine tw_get hx hb hts bF_X12 hown hK hT hr_o0 shm_0 rfl 66 (by decide) (ht_at hts 16 rfl) (fun _ h9 => h9) dX12_lifts__374 (fun v9 m18928 h9 => ?_)
                                                    obtain ⟨rfl, hg18929⟩ := h9 _ rfl
                                                    refine lv_iload hx hb dX12_lifts__377 (lv_at hl 0 rfl) ?_
                                                    refine lv_aload_n hx hb dX12_lifts__379 rfl (lv_at hl 8 rfl) ?_
                                                    refine tw_get hx hb hts bF_X12 hown hK hT hr_o0 shm_0 rfl 66 (by decide) (ht_at hts 16 rfl) (fun _ h9 => h9) dX12_lifts__380 (fun v9 m18930 h9 => ?_)
                                                    obtain ⟨rfl, hg18931⟩ := h9 _ rfl
                                                    refine lv_iload hx hb dX12_lifts__383 (lv_at hl 0 rfl) ?_
                                                    refine tw_iald (i := x18916) hx hb hK hT hg18929 shm_67 rfl (vin_t (a := x18916.toInt) rfl (by omega) (by omega)) dX12_lifts__385 (fun v9 m18932 h9 => ?_)
                                                    obtain ⟨x18933, rfl, gx18933, kx18933⟩ := h9
                                                    refine lv_aload_n hx hb dX12_lifts__386 rfl (lv_at hl 8 rfl) ?_
                                                    refine tw_get hx hb hts bF_X12 hown hK hT hr_o0 shm_0 rfl 65 (by decide) (ht_at hts 11 rfl) (fun _ h9 => h9) dX12_lifts__387 (fun v9 m18934 h9 => ?_)
                                                    obtain ⟨rfl, hg18935⟩ := h9 _ rfl
                                                    refine lv_iload hx hb dX12_lifts__390 (lv_at hl 1 rfl) ?_
                                                    refine tw_iald (i := (nI i18872)) hx hb hK hT hg18919 shm_66 rfl (vp_in_nI (by omega) (by decide)) dX12_lifts__392 (fun v9 m18936 h9 => ?_)
                                                    obtain ⟨x18937, rfl, gx18937, kx18937⟩ := h9
                                                    obtain rfl : x18921 = x18937 := (el_same m18936 m18920 rfl).symm
                                                    refine lv_iload hx hb dX12_lifts__393 (lv_at hl 2 rfl) ?_
                                                    refine lv_iadd hx hb dX12_lifts__395 ?_
                                                    refine lv_topi (fun x18938 ex18938 => ?_)
                                                    refine va_mmin hx hb (hml.trans hl.1.symm) hown (ht_at hts 12 rfl) (ht_at hts 13 rfl) (ht_at hts 14 rfl) (ht_at hts 15 rfl) (Nat.le_of_ble_eq_true rfl) (Nat.le_of_ble_eq_true rfl) (Nat.le_of_ble_eq_true rfl) (Nat.le_of_ble_eq_true rfl) dX12_lifts__396 ?_
                                                    refine lv_topi (fun x18939 ex18939 => ?_)
                                                    have t18940 : x18939.toInt ≤ x18933.toInt ∧ x18939.toInt ≤ x18938.toInt ∧ (x18939.toInt = x18933.toInt ∨ x18939.toInt = x18938.toInt) := mn_f ex18939 rfl rfl
                                                    refine tw_iast (i := x18916) (x := x18939) hx hb hK hT hG hS hg18929 shm_67 rfl (vin_t (a := x18916.toInt) rfl (by omega) (by omega)) (gi_all _) dX12_lifts__399 (fun H locs hT oq m18941 oi hS => ?_)
                                                    have hF := hF.ast hg18929 skm_67 oq (by decide)
                                                    have m18942 := (el_kept (oq _ (gne hg15245 hg18929 (by decide)))).trans m18873
                                                    refine lv_iinc (v := nI (i18872 + 1)) (lv' := [(11, .int (nI (i18872 + 1))), (12, .int x18916), (10, .int r18869), (9, .int z18866), (8, .int (nI i18415)), (7, .int z17207), (6, .int (nI i15267)), (5, .int z83), (0, .ref o0), (1, .int p0), (2, .int p1), (3, .int p2), (4, .int p3)]) hx hb dX12_lifts__400 hl (k := 1) rfl (nI_add i18872 1) (by decide) rfl (fun ls hl => ?_)
                                                    refine lv_goto (tgt := 332) hx hb dX12_lifts__403 (by decide) ?_
                                                    exact ih18907 (i18872 + 1) (by omega) (by omega) _ _ hT hF hS m18942 ls (lv_sub hl [0, 2, 3, 4, 5, 6, 7, 8, 9, 10, 11, 12] rfl)
                                            exact key18907 (1001 - 0) 0 (by omega) (Nat.le_refl _) _ _ hT hF hS m18871 ls (lv_sub hl [0, 1, 2, 3, 4, 5, 6, 7, 8, 9, 10, 11] rfl)
                                          have key18944 : ∀ (n18944 i18739 : Nat), i18739 + n18944 = 5 → 0 ≤ i18739 → ∀ (z18740 : Int32), ∀ (H : Heap) (locs : List Loc), gH (dC, dI) kA (SHm q (wP wZ wN wH wB wC wL wK wU wV) PI im PM PT lS lB lE lN) G H → gF (dC, dI) SKm G ([(0, 0), (66, 0), (67, 0), (68, 0)] : List (Nat × Nat)) s.heap H → va_S A s.heap H locs → el H (q 1) (1428 : Int32).toNatClampNeg = some (.int x15247) → ∀ ls : Array Slot, lv_has ls 13 [(10, .int (nI i18739)), (9, .int z18740), (8, .int (nI i18415)), (7, .int z17207), (6, .int (nI i15267)), (5, .int z83), (0, .ref o0), (1, .int p0), (2, .int p1), (3, .int p2), (4, .int p3)] → W p l e (headSpec w_s_lifts_ ({ frames := 2, cells := 0, slots := 0, locals := 66 })).room s m #[.ref o0, .int p0, .int p1, .int p2, .int p3] below meth c H locs 0 0 (MQ below (va_Qi (fun (r : Int32) (u : Unit) => (-2147483648 ≤ r.toInt ∧ r.toInt ≤ 999999999)) (fun (_ : Unit) (t : State) => gH (dC, dI) kA (SHm q (wP wZ wN wH wB wC wL wK wU wV) PI im PM PT lS lB lE lN) G t.heap ∧ gF (dC, dI) SKm G ([(0, 0), (66, 0), (67, 0), (68, 0)] : List (Nat × Nat)) s.heap t.heap) A) #[.ref o0, .int p0, .int p1, .int p2, .int p3] s 0 0 A) (F0 m 282 ls []) := by
                                            intro n18944
                                            induction n18944 with
                                            | zero =>
                                              intro i18739 hn18944 hlo18945 z18740 H locs hT hF hS m18741 ls hl
                                              obtain rfl : 5 = i18739 := by omega
                                              refine lv_iload hx hb dX12_lifts__282 (lv_at hl 0 rfl) ?_
                                              refine lv_iload hx hb dX12_lifts__284 (lv_at hl 5 rfl) ?_
                                              refine lv_icmp_ge (tgt := 322) hx hb dX12_lifts__286 (by decide) (fun c18946 => ?_) (fun c18946 => (by exfalso; have q9 : ((5 : Nat) : Int) < z83.toInt := ti_nle c18946 rfl (nI_toInt (by omega)); omega))
                                              have t18947 : z83.toInt ≤ ((5 : Nat) : Int) := ti_le c18946 rfl (nI_toInt (by omega))
                                              exact jn18868 (nI 5) z18740 (rg_t (a := ((5 : Nat) : Int)) (nI_toInt (by omega)) (by omega) (by omega)) _ _ hT hF hS m18741 ls (lv_sub hl [0, 1, 2, 3, 4, 5, 6, 7, 8, 9, 10] rfl)
                                            | succ n18944 ih18944 =>
                                              intro i18739 hn18944 hlo18945 z18740 H locs hT hF hS m18741 ls hl
                                              have hlt18947 : i18739 < 5 := by omega
                                              refine lv_iload hx hb dX12_lifts__282 (lv_at hl 0 rfl) ?_
                                              refine lv_iload hx hb dX12_lifts__284 (lv_at hl 5 rfl) ?_
                                              refine lv_icmp_ge (tgt := 322) hx hb dX12_lifts__286 (by decide) (fun c18948 => ?_) (fun c18948 => ?_)
                                              · have t18949 : z83.toInt ≤ ((i18739 : Nat) : Int) := ti_le c18948 rfl (nI_toInt (by omega))
                                                exact jn18868 (nI i18739) z18740 (rg_t (a := ((i18739 : Nat) : Int)) (nI_toInt (by omega)) (by omega) (by omega)) _ _ hT hF hS m18741 ls (lv_sub hl [0, 1, 2, 3, 4, 5, 6, 7, 8, 9, 10] rfl)
                                              · have t18950 : ((i18739 : Nat) : Int) < z83.toInt := ti_nle c18948 rfl (nI_toInt (by omega))
                                                refine lv_iload hx hb dX12_lifts__289 (lv_at hl 1 rfl) ?_
                                                refine lv_iload hx hb dX12_lifts__291 (lv_at hl 2 rfl) ?_
                                                refine lv_iload hx hb dX12_lifts__293 (lv_at hl 0 rfl) ?_
                                                refine lv_ishr hx hb dX12_lifts__295 ?_
                                                refine lv_topi (fun x18951 ex18951 => ?_)
                                                refine lv_iconst (v := 1) hx hb dX12_lifts__296 (by decide) ?_
                                                refine lv_iand hx hb dX12_lifts__297 ?_
                                                refine lv_topi (fun x18952 ex18952 => ?_)
                                                refine lv_iconst (v := 1) hx hb dX12_lifts__298 (by decide) ?_
                                                refine lv_icmp_ne (tgt := 312) hx hb dX12_lifts__299 (by decide) (fun c18953 => ?_) (fun c18953 => ?_)
                                                · have t18954 : x18952.toInt ≠ 1 := ti_ne c18953 rfl (by decide)
                                                  refine lv_iconst (v := 0) hx hb dX12_lifts__312 (by decide) ?_
                                                  refine lv_iadd hx hb dX12_lifts__313 ?_
                                                  refine lv_topi (fun x18955 ex18955 => ?_)
                                                  have t18956 : -2147483648 ≤ z18740.toInt ∧ z18740.toInt ≤ 2147483647 := ti_all z18740
                                                  have t18957 : x18955.toInt = z18740.toInt + 0 := ti_add ex18955 rfl (by decide) (by omega) (by omega)
                                                  refine lv_istore (lv' := [(9, .int x18955), (10, .int (nI i18739)), (8, .int (nI i18415)), (7, .int z17207), (6, .int (nI i15267)), (5, .int z83), (0, .ref o0), (1, .int p0), (2, .int p1), (3, .int p2), (4, .int p3)]) hx hb dX12_lifts__314 hl (by decide) rfl (fun ls hl => ?_)
                                                  refine lv_iinc (v := nI (i18739 + 1)) (lv' := [(10, .int (nI (i18739 + 1))), (9, .int x18955), (8, .int (nI i18415)), (7, .int z17207), (6, .int (nI i15267)), (5, .int z83), (0, .ref o0), (1, .int p0), (2, .int p1), (3, .int p2), (4, .int p3)]) hx hb dX12_lifts__316 hl (k := 1) rfl (nI_add i18739 1) (by decide) rfl (fun ls hl => ?_)
                                                  refine lv_goto (tgt := 282) hx hb dX12_lifts__319 (by decide) ?_
                                                  exact ih18944 (i18739 + 1) (by omega) (by omega) x18955 _ _ hT hF hS m18741 ls (lv_sub hl [0, 1, 2, 3, 4, 5, 6, 7, 8, 9, 10] rfl)
                                                · have t18958 : x18952.toInt = 1 := ti_eq c18953 rfl (by decide)
                                                  refine lv_aload_n hx hb dX12_lifts__302 rfl (lv_at hl 6 rfl) ?_
                                                  refine tw_get hx hb hts bF_X12 hown hK hT hr_o0 shm_0 rfl 67 (by decide) (ht_at hts 46 rfl) (fun _ h9 => h9) dX12_lifts__303 (fun v9 m18959 h9 => ?_)
                                                  obtain ⟨rfl, hg18960⟩ := h9 _ rfl
                                                  refine lv_iload hx hb dX12_lifts__306 (lv_at hl 0 rfl) ?_
                                                  refine tw_iald (i := (nI i18739)) hx hb hK hT hg18960 shm_68 rfl (vp_in_nI (by omega) (by decide)) dX12_lifts__308 (fun v9 m18961 h9 => ?_)
                                                  obtain ⟨x18962, rfl, gx18962, kx18962⟩ := h9
                                                  refine lv_goto (tgt := 313) hx hb dX12_lifts__309 (by decide) ?_
                                                  refine lv_iadd hx hb dX12_lifts__313 ?_
                                                  refine lv_topi (fun x18963 ex18963 => ?_)
                                                  refine lv_istore (lv' := [(9, .int x18963), (10, .int (nI i18739)), (8, .int (nI i18415)), (7, .int z17207), (6, .int (nI i15267)), (5, .int z83), (0, .ref o0), (1, .int p0), (2, .int p1), (3, .int p2), (4, .int p3)]) hx hb dX12_lifts__314 hl (by decide) rfl (fun ls hl => ?_)
                                                  refine lv_iinc (v := nI (i18739 + 1)) (lv' := [(10, .int (nI (i18739 + 1))), (9, .int x18963), (8, .int (nI i18415)), (7, .int z17207), (6, .int (nI i15267)), (5, .int z83), (0, .ref o0), (1, .int p0), (2, .int p1), (3, .int p2), (4, .int p3)]) hx hb dX12_lifts__316 hl (k := 1) rfl (nI_add i18739 1) (by decide) rfl (fun ls hl => ?_)
                                                  refine lv_goto (tgt := 282) hx hb dX12_lifts__319 (by decide) ?_
                                                  exact ih18944 (i18739 + 1) (by omega) (by omega) x18963 _ _ hT hF hS m18741 ls (lv_sub hl [0, 1, 2, 3, 4, 5, 6, 7, 8, 9, 10] rfl)
                                          exact key18944 (5 - 0) 0 (by omega) (Nat.le_refl _) z17207 _ _ hT hF hS m18416 ls (lv_sub hl [0, 1, 2, 3, 4, 5, 6, 7, 8, 9, 10] rfl)
                                    exact key18674 (2147483647 - 0) 0 (by omega) (Nat.le_refl _) _ _ hT hF hS m18404 ls (lv_sub hl [0, 1, 2, 3, 4, 5, 6, 7, 8] rfl)
                                  | succ n18411 ih18411 =>
                                    intro i18403 hn18411 hlo18412  H locs hT hF hS m18404 ls hl
                                    have hlt18963 : i18403 < 1001 := by omega
                                    refine lv_iload hx hb dX12_lifts__239 (lv_at hl 0 rfl) ?_
                                    refine lv_sipush (v := 1001) hx hb dX12_lifts__241 (by decide) ?_
                                    refine lv_icmp_ge (tgt := 263) hx hb dX12_lifts__244 (by decide) (fun c18964 => (by exfalso; have q9 : 1001 ≤ ((i18403 : Nat) : Int) := ti_le c18964 (by decide) (nI_toInt (by omega)); omega)) (fun c18964 => ?_)
                                    have t18965 : ((i18403 : Nat) : Int) < 1001 := ti_nle c18964 (by decide) (nI_toInt (by omega))
                                    refine lv_aload_n hx hb dX12_lifts__247 rfl (lv_at hl 4 rfl) ?_
                                    refine tw_get hx hb hts bF_X12 hown hK hT hr_o0 shm_0 rfl 66 (by decide) (ht_at hts 16 rfl) (fun _ h9 => h9) dX12_lifts__248 (fun v9 m18966 h9 => ?_)
                                    obtain ⟨rfl, hg18967⟩ := h9 _ rfl
                                    refine lv_iload hx hb dX12_lifts__251 (lv_at hl 0 rfl) ?_
                                    refine lv_ldcw (v := 1000000000) hx hb hown (ht_at hts 10 rfl) dX12_lifts__253 ?_
                                    refine tw_iast (i := (nI i18403)) (x := 1000000000) hx hb hK hT hG hS hg18967 shm_67 rfl (vp_in_nI (by omega) (by decide)) (gi_all _) dX12_lifts__256 (fun H locs hT oq m18968 oi hS => ?_)
                                    have hF := hF.ast hg18967 skm_67 oq (by decide)
                                    have m18969 := (el_kept (oq _ (gne hg15245 hg18967 (by decide)))).trans m18404
                                    refine lv_iinc (v := nI (i18403 + 1)) (lv' := [(8, .int (nI (i18403 + 1))), (7, .int z17207), (6, .int (nI i15267)), (5, .int z83), (0, .ref o0), (1, .int p0), (2, .int p1), (3, .int p2), (4, .int p3)]) hx hb dX12_lifts__257 hl (k := 0) rfl (nI_add i18403 1) (by decide) rfl (fun ls hl => ?_)
                                    refine lv_goto (tgt := 239) hx hb dX12_lifts__260 (by decide) ?_
                                    exact ih18411 (i18403 + 1) (by omega) (by omega) _ _ hT hF hS m18969 ls (lv_sub hl [0, 1, 2, 3, 4, 5, 6, 7, 8] rfl)
                                exact key18411 (1001 - 0) 0 (by omega) (Nat.le_refl _) _ _ hT hF hS m17208 ls (lv_sub hl [0, 1, 2, 3, 4, 5, 6, 7, 8] rfl)
                              · have t18970 : ((i17206 : Nat) : Int) < x15247.toInt := ti_nle c18401 rfl (nI_toInt (by omega))
                                refine lv_aload_n hx hb dX12_lifts__191 rfl (lv_at hl 4 rfl) ?_
                                refine lv_iload hx hb dX12_lifts__192 (lv_at hl 0 rfl) ?_
                                refine lv_iconst (v := 0) hx hb dX12_lifts__194 (by decide) ?_
                                have hFc := gA_free hG hA hS
                                refine va_calli (va_runV (As := [.int (nI i17206), .int 0]) (rest := []) ⟨hx, hb, hml, hown, hts⟩ (s_of0 l dC dI kA adK adV G H q wZ wN wH wB wC wL wK wU wV PI im PM PT lS lB lE lN o0 (nI i17206) hT hr_o0 (rg_t (a := ((i17206 : Nat) : Int)) (nI_toInt (by omega)) (by omega) (by omega)) hgz hgn hgh hgb hgc hgi hgu) (cwV 2 hts (goodIn_app (goodIn_r _ [32, 33, 34, 5] rfl (by decide +kernel)) (goodIn_ca (goodIn_r _ [28, 10, 29, 30, 31, 5] rfl (by decide +kernel)) (bs_in _ _))) rfl rfl rfl (by decide +kernel) ⟨(Nat.le_of_ble_eq_true rfl), (Nat.le_of_ble_eq_true rfl)⟩) ⟨fun a U g mk q => by obtain ⟨q0, q1, qK, qE⟩ := q; exact ⟨q0, q1, va_K.moved (u := U) (U := U.calling g mk a) (Vm.Alike.refl U.vm) qK, EVS.blind g mk a qE⟩, gH_rc hK hT hr_o0 shm_0 rfl, fun U hU hW => ⟨rfl, hU, va_K.moved hW.alike hK, hE.call hS hFc hU hW⟩⟩ rfl rfl hl.1 rfl (lv_room (Nat.le_of_ble_eq_true rfl)) dX12_lifts__195 ⟨(Nat.le_of_ble_eq_true rfl), (Nat.le_of_ble_eq_true rfl)⟩) hS (fun q _ h => hFc q h) hFc (fun r18971 u t H locs ht hvm hw18972 hB _ _ hS => ?_)
                                obtain ⟨hT, hF1⟩ := hB
                                rw [ht] at hT hF1
                                have m18973 := (el_kept (hF1.arr hg15245 skm_2 (by decide))).trans m17208
                                have hF := hF.more hF1 (by decide)
                                try dsimp only at hw18972
                                have ⟨ix18974, hix18974, m18975⟩ := hw18972
                                have t18976 : (nI i17206).toInt = ((i17206 : Nat) : Int) := nI_toInt (by omega)
                                refine lv_iconst (v := 2) hx hb dX12_lifts__198 (by decide) ?_
                                refine lv_icmp_ne (tgt := 230) hx hb dX12_lifts__199 (by decide) (fun c18978 => ?_) (fun c18978 => ?_)
                                · have t18979 : r18971.toInt ≠ 2 := ti_ne c18978 rfl (by decide)
                                  refine lv_iinc (v := nI (i17206 + 1)) (lv' := [(8, .int (nI (i17206 + 1))), (7, .int z17207), (6, .int (nI i15267)), (5, .int z83), (0, .ref o0), (1, .int p0), (2, .int p1), (3, .int p2), (4, .int p3)]) hx hb dX12_lifts__230 hl (k := 0) rfl (nI_add i17206 1) (by decide) rfl (fun ls hl => ?_)
                                  refine lv_goto (tgt := 178) hx hb dX12_lifts__233 (by decide) ?_
                                  exact ih17822 (i17206 + 1) (by omega) (by omega) z17207 _ _ hT hF hS m18973 ls (lv_sub hl [0, 1, 2, 3, 4, 5, 6, 7, 8] rfl)
                                · have t18980 : r18971.toInt = 2 := ti_eq c18978 rfl (by decide)
                                  refine lv_iload hx hb dX12_lifts__202 (lv_at hl 1 rfl) ?_
                                  refine lv_aload_n hx hb dX12_lifts__204 rfl (lv_at hl 4 rfl) ?_
                                  refine lv_iload hx hb dX12_lifts__205 (lv_at hl 0 rfl) ?_
                                  refine lv_bipush (v := 17) hx hb dX12_lifts__207 (by decide) ?_
                                  have hFc := gA_free hG hA hS
                                  refine va_calli (va_runV (As := [.int (nI i17206), .int 17]) (rest := [.int z17207]) ⟨hx, hb, hml, hown, hts⟩ (s_of17 l dC dI kA adK adV G H q wZ wN wH wB wC wL wK wU wV PI im PM PT lS lB lE lN o0 (nI i17206) hT hr_o0 (rg_t (a := ((i17206 : Nat) : Int)) (nI_toInt (by omega)) (by omega) (by omega)) hgz hgn hgh hgb hgc hgi hgu) (cwV 2 hts (goodIn_app (goodIn_r _ [32, 33, 34, 5] rfl (by decide +kernel)) (goodIn_ca (goodIn_r _ [28, 10, 29, 30, 31, 5] rfl (by decide +kernel)) (bs_in _ _))) rfl rfl rfl (by decide +kernel) ⟨(Nat.le_of_ble_eq_true rfl), (Nat.le_of_ble_eq_true rfl)⟩) ⟨fun a U g mk q => by obtain ⟨q0, q1, qK, qE⟩ := q; exact ⟨q0, q1, va_K.moved (u := U) (U := U.calling g mk a) (Vm.Alike.refl U.vm) qK, EVS.blind g mk a qE⟩, gH_rc hK hT hr_o0 shm_0 rfl, fun U hU hW => ⟨rfl, hU, va_K.moved hW.alike hK, hE.call hS hFc hU hW⟩⟩ rfl rfl hl.1 rfl (lv_room (Nat.le_of_ble_eq_true rfl)) dX12_lifts__209 ⟨(Nat.le_of_ble_eq_true rfl), (Nat.le_of_ble_eq_true rfl)⟩) hS (fun q _ h => hFc q h) hFc (fun r18981 u t H locs ht hvm hw18982 hB _ _ hS => ?_)
                                  obtain ⟨hT, hF1⟩ := hB
                                  rw [ht] at hT hF1
                                  have m18983 := (el_kept (hF1.arr hg15245 skm_2 (by decide))).trans m18973
                                  have hF := hF.more hF1 (by decide)
                                  try dsimp only at hw18982
                                  obtain ⟨h18985, ⟨ix18986, hix18986, m18987⟩⟩ := hw18982
                                  have t18988 : (nI i17206).toInt = ((i17206 : Nat) : Int) := nI_toInt (by omega)
                                  refine lv_aload_n hx hb dX12_lifts__212 rfl (lv_at hl 4 rfl) ?_
                                  refine lv_aload_n hx hb dX12_lifts__213 rfl (lv_at hl 4 rfl) ?_
                                  have hFc := gA_free hG hA hS
                                  refine va_calli (va_runV (As := []) (rest := [.ref o0, .int r18981, .int z17207]) ⟨hx, hb, hml, hown, hts⟩ (s_hour l dC dI kA adK adV G H q wZ wN wH wB wC wL wK wU wV PI im PM PT lS lB lE lN o0 hT hr_o0 hgz hgn hgh hgb hgc hgi hgu) (cwV 0 hts (goodIn_app (goodIn_r _ [36, 37, 38, 5] rfl (by decide +kernel)) (goodIn_ca (goodIn_r _ [35, 10] rfl (by decide +kernel)) (bs_in _ _))) rfl rfl rfl (by decide +kernel) ⟨(Nat.le_of_ble_eq_true rfl), (Nat.le_of_ble_eq_true rfl)⟩) ⟨fun a U g mk q => by obtain ⟨q0, q1, qK, qE⟩ := q; exact ⟨q0, q1, va_K.moved (u := U) (U := U.calling g mk a) (Vm.Alike.refl U.vm) qK, EVS.blind g mk a qE⟩, gH_rc hK hT hr_o0 shm_0 rfl, fun U hU hW => ⟨rfl, hU, va_K.moved hW.alike hK, hE.call hS hFc hU hW⟩⟩ rfl rfl hl.1 rfl (lv_room (Nat.le_of_ble_eq_true rfl)) dX12_lifts__214 ⟨(Nat.le_of_ble_eq_true rfl), (Nat.le_of_ble_eq_true rfl)⟩) hS (fun q _ h => hFc q h) hFc (fun r18990 u t H locs ht hvm hw18991 hB _ _ hS => ?_)
                                  obtain ⟨hT, hF1⟩ := hB
                                  rw [ht] at hT hF1
                                  have m18992 := (el_kept (hF1.arr hg15245 skm_2 (by decide))).trans m18983
                                  have hF := hF.more hF1 (by decide)
                                  try dsimp only at hw18991
                                  obtain ⟨h18995, hf18996⟩ := hw18991
                                  refine lv_iload hx hb dX12_lifts__217 (lv_at hl 2 rfl) ?_
                                  refine lv_iadd hx hb dX12_lifts__219 ?_
                                  refine lv_topi (fun x18997 ex18997 => ?_)
                                  have t18998 : x18997.toInt = r18990.toInt + ((i15267 : Nat) : Int) := ti_add ex18997 rfl (nI_toInt (by omega)) (by omega) (by omega)
                                  have hFc := gA_free hG hA hS
                                  refine va_calli (va_runV (As := [.int x18997]) (rest := [.int r18981, .int z17207]) ⟨hx, hb, hml, hown, hts⟩ (s_wind l dC dI kA adK adV G H q wZ wN wH wB wC wL wK wU wV PI im PM PT lS lB lE lN o0 x18997 hT hr_o0 hgz hgn hgh hgb hgc hgi hgu) (cwV 1 hts (goodIn_app (goodIn_r _ [44, 45, 46, 5] rfl (by decide +kernel)) (goodIn_ca (goodIn_r _ [39, 40, 10, 41, 42, 43, 5, 25, 26, 15, 27] rfl (by decide +kernel)) (bs_in _ _))) rfl rfl rfl (by decide +kernel) ⟨(Nat.le_of_ble_eq_true rfl), (Nat.le_of_ble_eq_true rfl)⟩) ⟨fun a U g mk q => by obtain ⟨q0, q1, qK, qE⟩ := q; exact ⟨q0, q1, va_K.moved (u := U) (U := U.calling g mk a) (Vm.Alike.refl U.vm) qK, EVS.blind g mk a qE⟩, gH_rc hK hT hr_o0 shm_0 rfl, fun U hU hW => ⟨rfl, hU, va_K.moved hW.alike hK, hE.call hS hFc hU hW⟩⟩ rfl rfl hl.1 rfl (lv_room (Nat.le_of_ble_eq_true rfl)) dX12_lifts__220 ⟨(Nat.le_of_ble_eq_true rfl), (Nat.le_of_ble_eq_true rfl)⟩) hS (fun q _ h => hFc q h) hFc (fun r18999 u t H locs ht hvm hw19000 hB _ _ hS => ?_)
                                  obtain ⟨hT, hF1⟩ := hB
                                  rw [ht] at hT hF1
                                  have m19001 := (el_kept (hF1.arr hg15245 skm_2 (by decide))).trans m18992
                                  have hF := hF.more hF1 (by decide)
                                  try dsimp only at hw19000
                                  have h19004 := hw19000
                                  refine lv_imul hx hb dX12_lifts__223 ?_
                                  refine lv_topi (fun x19005 ex19005 => ?_)
                                  have t19006 : 0 ≤ x19005.toInt ∧ x19005.toInt ≤ 60 * 9 ∧ (r18981.toInt = 0 → x19005.toInt = 0) ∧ (r18999.toInt = 0 → x19005.toInt = 0) ∧ x19005.toInt ≤ r18981.toInt * 9 ∧ x19005.toInt ≤ 60 * r18999.toInt := ti_mulnn ex19005 rfl rfl (by omega) (by omega) (by omega) (by omega) (by decide)
                                  refine lv_bipush (v := 10) hx hb dX12_lifts__224 (by decide) ?_
                                  refine lv_idiv hx hb dX12_lifts__226 (by decide) ?_
                                  refine lv_topi (fun x19007 ex19007 => ?_)
                                  have t19008 : x19007.toInt = x19005.toInt / 10 := ti_div ex19007 rfl (by decide) (by omega) (by omega)
                                  refine lv_iadd hx hb dX12_lifts__227 ?_
                                  refine lv_topi (fun x19009 ex19009 => ?_)
                                  refine lv_istore (lv' := [(7, .int x19009), (8, .int (nI i17206)), (6, .int (nI i15267)), (5, .int z83), (0, .ref o0), (1, .int p0), (2, .int p1), (3, .int p2), (4, .int p3)]) hx hb dX12_lifts__228 hl (by decide) rfl (fun ls hl => ?_)
                                  refine lv_iinc (v := nI (i17206 + 1)) (lv' := [(8, .int (nI (i17206 + 1))), (7, .int x19009), (6, .int (nI i15267)), (5, .int z83), (0, .ref o0), (1, .int p0), (2, .int p1), (3, .int p2), (4, .int p3)]) hx hb dX12_lifts__230 hl (k := 1) rfl (nI_add i17206 1) (by decide) rfl (fun ls hl => ?_)
                                  refine lv_goto (tgt := 178) hx hb dX12_lifts__233 (by decide) ?_
                                  exact ih17822 (i17206 + 1) (by omega) (by omega) x19009 _ _ hT hF hS m19001 ls (lv_sub hl [0, 1, 2, 3, 4, 5, 6, 7, 8] rfl)
                          exact key17822 (29 - 0) 0 (by omega) (Nat.le_refl _) 0 _ _ hT hF hS m15268 ls (lv_sub hl [0, 1, 2, 3, 4, 5, 6, 7, 8] rfl)
                    exact key17117 (25 - 1) 1 (by omega) (Nat.le_refl _) _ _ hT hF hS m15251 ls (lv_sub hl [0, 1, 2, 3, 4, 5, 6] rfl)
                  | succ n15263 ih15263 =>
                    intro i15250 hn15263 hlo15264  H locs hT hF hS m15251 ls hl
                    have hlt19009 : i15250 < 1001 := by omega
                    refine lv_iload hx hb dX12_lifts__129 (lv_at hl 0 rfl) ?_
                    refine lv_sipush (v := 1001) hx hb dX12_lifts__131 (by decide) ?_
                    refine lv_icmp_ge (tgt := 163) hx hb dX12_lifts__134 (by decide) (fun c19010 => (by exfalso; have q9 : 1001 ≤ ((i15250 : Nat) : Int) := ti_le c19010 (by decide) (nI_toInt (by omega)); omega)) (fun c19010 => ?_)
                    have t19011 : ((i15250 : Nat) : Int) < 1001 := ti_nle c19010 (by decide) (nI_toInt (by omega))
                    refine lv_aload_n hx hb dX12_lifts__137 rfl (lv_at hl 2 rfl) ?_
                    refine tw_get hx hb hts bF_X12 hown hK hT hr_o0 shm_0 rfl 65 (by decide) (ht_at hts 11 rfl) (fun _ h9 => h9) dX12_lifts__138 (fun v9 m19012 h9 => ?_)
                    obtain ⟨rfl, hg19013⟩ := h9 _ rfl
                    refine lv_iload hx hb dX12_lifts__141 (lv_at hl 0 rfl) ?_
                    refine lv_iload hx hb dX12_lifts__143 (lv_at hl 0 rfl) ?_
                    refine lv_iload_n hx hb dX12_lifts__145 rfl (lv_at hl 3 rfl) ?_
                    refine lv_icmp_ne (tgt := 153) hx hb dX12_lifts__146 (by decide) (fun c19014 => ?_) (fun c19014 => ?_)
                    · have t19015 : ((i15250 : Nat) : Int) ≠ p0.toInt := ti_ne c19014 (nI_toInt (by omega)) rfl
                      refine lv_ldcw (v := 1000000000) hx hb hown (ht_at hts 10 rfl) dX12_lifts__153 ?_
                      refine tw_iast (i := (nI i15250)) (x := 1000000000) hx hb hK hT hG hS hg19013 shm_66 rfl (vp_in_nI (by omega) (by decide)) (gi_all _) dX12_lifts__156 (fun H locs hT oq m19016 oi hS => ?_)
                      have hF := hF.ast hg19013 skm_66 oq (by decide)
                      have m19017 := (el_kept (oq _ (gne hg15245 hg19013 (by decide)))).trans m15251
                      refine lv_iinc (v := nI (i15250 + 1)) (lv' := [(6, .int (nI (i15250 + 1))), (5, .int z83), (0, .ref o0), (1, .int p0), (2, .int p1), (3, .int p2), (4, .int p3)]) hx hb dX12_lifts__157 hl (k := 0) rfl (nI_add i15250 1) (by decide) rfl (fun ls hl => ?_)
                      refine lv_goto (tgt := 129) hx hb dX12_lifts__160 (by decide) ?_
                      exact ih15263 (i15250 + 1) (by omega) (by omega) _ _ hT hF hS m19017 ls (lv_sub hl [0, 1, 2, 3, 4, 5, 6] rfl)
                    · have t19018 : ((i15250 : Nat) : Int) = p0.toInt := ti_eq c19014 (nI_toInt (by omega)) rfl
                      refine lv_iconst (v := 0) hx hb dX12_lifts__149 (by decide) ?_
                      refine lv_goto (tgt := 156) hx hb dX12_lifts__150 (by decide) ?_
                      refine tw_iast (i := (nI i15250)) (x := 0) hx hb hK hT hG hS hg19013 shm_66 rfl (vp_in_nI (by omega) (by decide)) (gi_all _) dX12_lifts__156 (fun H locs hT oq m19019 oi hS => ?_)
                      have hF := hF.ast hg19013 skm_66 oq (by decide)
                      have m19020 := (el_kept (oq _ (gne hg15245 hg19013 (by decide)))).trans m15251
                      refine lv_iinc (v := nI (i15250 + 1)) (lv' := [(6, .int (nI (i15250 + 1))), (5, .int z83), (0, .ref o0), (1, .int p0), (2, .int p1), (3, .int p2), (4, .int p3)]) hx hb dX12_lifts__157 hl (k := 0) rfl (nI_add i15250 1) (by decide) rfl (fun ls hl => ?_)
                      refine lv_goto (tgt := 129) hx hb dX12_lifts__160 (by decide) ?_
                      exact ih15263 (i15250 + 1) (by omega) (by omega) _ _ hT hF hS m19020 ls (lv_sub hl [0, 1, 2, 3, 4, 5, 6] rfl)
                exact key15263 (1001 - 0) 0 (by omega) (Nat.le_refl _) _ _ hT hF hS m15246 ls (lv_sub hl [0, 1, 2, 3, 4, 5, 6] rfl)
              · have t19021 : ((i82 : Nat) : Int) < x15247.toInt := ti_nle c15248 rfl (nI_toInt (by omega))
                refine lv_aload_n hx hb dX12_lifts__82 rfl (lv_at hl 2 rfl) ?_
                refine lv_iload hx hb dX12_lifts__83 (lv_at hl 0 rfl) ?_
                refine lv_iconst (v := 0) hx hb dX12_lifts__85 (by decide) ?_
                have hFc := gA_free hG hA hS
                refine va_calli (va_runV (As := [.int (nI i82), .int 0]) (rest := []) ⟨hx, hb, hml, hown, hts⟩ (s_of0 l dC dI kA adK adV G H q wZ wN wH wB wC wL wK wU wV PI im PM PT lS lB lE lN o0 (nI i82) hT hr_o0 (rg_t (a := ((i82 : Nat) : Int)) (nI_toInt (by omega)) (by omega) (by omega)) hgz hgn hgh hgb hgc hgi hgu) (cwV 2 hts (goodIn_app (goodIn_r _ [32, 33, 34, 5] rfl (by decide +kernel)) (goodIn_ca (goodIn_r _ [28, 10, 29, 30, 31, 5] rfl (by decide +kernel)) (bs_in _ _))) rfl rfl rfl (by decide +kernel) ⟨(Nat.le_of_ble_eq_true rfl), (Nat.le_of_ble_eq_true rfl)⟩) ⟨fun a U g mk q => by obtain ⟨q0, q1, qK, qE⟩ := q; exact ⟨q0, q1, va_K.moved (u := U) (U := U.calling g mk a) (Vm.Alike.refl U.vm) qK, EVS.blind g mk a qE⟩, gH_rc hK hT hr_o0 shm_0 rfl, fun U hU hW => ⟨rfl, hU, va_K.moved hW.alike hK, hE.call hS hFc hU hW⟩⟩ rfl rfl hl.1 rfl (lv_room (Nat.le_of_ble_eq_true rfl)) dX12_lifts__86 ⟨(Nat.le_of_ble_eq_true rfl), (Nat.le_of_ble_eq_true rfl)⟩) hS (fun q _ h => hFc q h) hFc (fun r19022 u t H locs ht hvm hw19023 hB _ _ hS => ?_)
                obtain ⟨hT, hF1⟩ := hB
                rw [ht] at hT hF1
                have hF := hF.more hF1 (by decide)
                try dsimp only at hw19023
                have ⟨ix19025, hix19025, m19026⟩ := hw19023
                have t19027 : (nI i82).toInt = ((i82 : Nat) : Int) := nI_toInt (by omega)
                refine lv_iconst (v := 3) hx hb dX12_lifts__89 (by decide) ?_
                refine lv_icmp_ne (tgt := 120) hx hb dX12_lifts__90 (by decide) (fun c19029 => ?_) (fun c19029 => ?_)
                · have t19030 : r19022.toInt ≠ 3 := ti_ne c19029 rfl (by decide)
                  refine lv_iinc (v := nI (i82 + 1)) (lv' := [(6, .int (nI (i82 + 1))), (5, .int z83), (0, .ref o0), (1, .int p0), (2, .int p1), (3, .int p2), (4, .int p3)]) hx hb dX12_lifts__120 hl (k := 0) rfl (nI_add i82 1) (by decide) rfl (fun ls hl => ?_)
                  refine lv_goto (tgt := 69) hx hb dX12_lifts__123 (by decide) ?_
                  exact ih3893 (i82 + 1) (by omega) (by omega) z83 (by have q8 := ti_all z83; omega) _ _ hT hF hS ls (lv_sub hl [0, 1, 2, 3, 4, 5, 6] rfl)
                · have t19031 : r19022.toInt = 3 := ti_eq c19029 rfl (by decide)
                  refine lv_iload hx hb dX12_lifts__93 (lv_at hl 1 rfl) ?_
                  refine lv_iconst (v := 5) hx hb dX12_lifts__95 (by decide) ?_
                  refine lv_icmp_ne (tgt := 102) hx hb dX12_lifts__96 (by decide) (fun c19032 => ?_) (fun c19032 => ?_)
                  · have t19033 : z83.toInt ≠ 5 := ti_ne c19032 rfl (by decide)
                    refine lv_aload_n hx hb dX12_lifts__102 rfl (lv_at hl 2 rfl) ?_
                    refine tw_get hx hb hts bF_X12 hown hK hT hr_o0 shm_0 rfl 67 (by decide) (ht_at hts 46 rfl) (fun _ h9 => h9) dX12_lifts__103 (fun v9 m19034 h9 => ?_)
                    obtain ⟨rfl, hg19035⟩ := h9 _ rfl
                    refine lv_iload hx hb dX12_lifts__106 (lv_at hl 1 rfl) ?_
                    refine lv_aload_n hx hb dX12_lifts__108 rfl (lv_at hl 2 rfl) ?_
                    refine lv_iload hx hb dX12_lifts__109 (lv_at hl 0 rfl) ?_
                    refine lv_bipush (v := 17) hx hb dX12_lifts__111 (by decide) ?_
                    have hFc := gA_free hG hA hS
                    refine va_calli (va_runV (As := [.int (nI i82), .int 17]) (rest := [.int z83, .ref (q 67)]) ⟨hx, hb, hml, hown, hts⟩ (s_of17 l dC dI kA adK adV G H q wZ wN wH wB wC wL wK wU wV PI im PM PT lS lB lE lN o0 (nI i82) hT hr_o0 (rg_t (a := ((i82 : Nat) : Int)) (nI_toInt (by omega)) (by omega) (by omega)) hgz hgn hgh hgb hgc hgi hgu) (cwV 2 hts (goodIn_app (goodIn_r _ [32, 33, 34, 5] rfl (by decide +kernel)) (goodIn_ca (goodIn_r _ [28, 10, 29, 30, 31, 5] rfl (by decide +kernel)) (bs_in _ _))) rfl rfl rfl (by decide +kernel) ⟨(Nat.le_of_ble_eq_true rfl), (Nat.le_of_ble_eq_true rfl)⟩) ⟨fun a U g mk q => by obtain ⟨q0, q1, qK, qE⟩ := q; exact ⟨q0, q1, va_K.moved (u := U) (U := U.calling g mk a) (Vm.Alike.refl U.vm) qK, EVS.blind g mk a qE⟩, gH_rc hK hT hr_o0 shm_0 rfl, fun U hU hW => ⟨rfl, hU, va_K.moved hW.alike hK, hE.call hS hFc hU hW⟩⟩ rfl rfl hl.1 rfl (lv_room (Nat.le_of_ble_eq_true rfl)) dX12_lifts__113 ⟨(Nat.le_of_ble_eq_true rfl), (Nat.le_of_ble_eq_true rfl)⟩) hS (fun q _ h => hFc q h) hFc (fun r19036 u t H locs ht hvm hw19037 hB _ _ hS => ?_)
                    obtain ⟨hT, hF1⟩ := hB
                    rw [ht] at hT hF1
                    have hF := hF.more hF1 (by decide)
                    try dsimp only at hw19037
                    obtain ⟨h19040, ⟨ix19041, hix19041, m19042⟩⟩ := hw19037
                    have t19043 : (nI i82).toInt = ((i82 : Nat) : Int) := nI_toInt (by omega)
                    refine tw_iast (i := z83) (x := r19036) hx hb hK hT hG hS hg19035 shm_68 rfl (vin_t (a := z83.toInt) rfl (by omega) (by omega)) (gi_all _) dX12_lifts__116 (fun H locs hT oq m19045 oi hS => ?_)
                    have hF := hF.ast hg19035 skm_68 oq (by decide)
                    obtain ⟨x19049, ex19049⟩ : ∃ y : Int32, y = z83 + 1 := ⟨_, rfl⟩
                    have t19050 : x19049.toInt = z83.toInt + 1 := ti_add ex19049 rfl (by decide) (by omega) (by omega)
                    refine lv_iinc (v := x19049) (lv' := [(5, .int x19049), (6, .int (nI i82)), (0, .ref o0), (1, .int p0), (2, .int p1), (3, .int p2), (4, .int p3)]) hx hb dX12_lifts__117 hl (k := 1) rfl (by first | (rw [ex19049]; done) | (rw [ex19049]; rfl)) (by decide) rfl (fun ls hl => ?_)
                    refine lv_iinc (v := nI (i82 + 1)) (lv' := [(6, .int (nI (i82 + 1))), (5, .int x19049), (0, .ref o0), (1, .int p0), (2, .int p1), (3, .int p2), (4, .int p3)]) hx hb dX12_lifts__120 hl (k := 1) rfl (nI_add i82 1) (by decide) rfl (fun ls hl => ?_)
                    refine lv_goto (tgt := 69) hx hb dX12_lifts__123 (by decide) ?_
                    exact ih3893 (i82 + 1) (by omega) (by omega) x19049 (by have q8 := ti_all x19049; omega) _ _ hT hF hS ls (lv_sub hl [0, 1, 2, 3, 4, 5, 6] rfl)
                  · have t19051 : z83.toInt = 5 := ti_eq c19032 rfl (by decide)
                    refine lv_goto (tgt := 120) hx hb dX12_lifts__99 (by decide) ?_
                    refine lv_iinc (v := nI (i82 + 1)) (lv' := [(6, .int (nI (i82 + 1))), (5, .int z83), (0, .ref o0), (1, .int p0), (2, .int p1), (3, .int p2), (4, .int p3)]) hx hb dX12_lifts__120 hl (k := 0) rfl (nI_add i82 1) (by decide) rfl (fun ls hl => ?_)
                    refine lv_goto (tgt := 69) hx hb dX12_lifts__123 (by decide) ?_
                    exact ih3893 (i82 + 1) (by omega) (by omega) z83 (by have q8 := ti_all z83; omega) _ _ hT hF hS ls (lv_sub hl [0, 1, 2, 3, 4, 5, 6] rfl)
          exact key3893 (30 - 0) 0 (by omega) (Nat.le_refl _) 0 (rg_t (a := 0) (by decide) (by first | decide | omega) (by first | decide | omega)) _ _ hT hF hS ls (lv_sub hl [0, 1, 2, 3, 4, 5, 6] rfl)
        · have t19052 : r65.toInt = 0 := ti_eq c71 rfl (by decide)
          have t19053 : (1000 : Int32).toInt = 1000 := by decide
          have t19054 : (0 : Int32).toInt = 0 := by decide
          have t19055 : p3.toInt < (0 : Int32).toInt ∨ (1000 : Int32).toInt < p3.toInt := hi70 c71
          refine lv_iconst (v := 1) hx hb dX12_lifts__49 (by decide) ?_
          refine lv_goto (tgt := 54) hx hb dX12_lifts__50 (by decide) ?_
          refine lv_iconst (v := 1) hx hb dX12_lifts__54 (by decide) ?_
          have hFc := gA_free hG hA hS
          refine va_calli (va_runV (As := [.int 1, .int 1]) (rest := []) ⟨hx, hb, hml, hown, hts⟩ (s_throwsIf l dC dI kA adK adV G H q wZ wN wH wB wC wL wK wU wV PI im PM PT lS lB lE lN o0 1 1 hT hr_o0 (rg_t (a := 1) (by decide) (by first | decide | omega) (by first | decide | omega)) hgz hgn hgh hgb hgc hgi hgu) (cwV 2 hts (goodIn_app (goodIn_r _ [7, 8, 9, 5] rfl (by decide +kernel)) (goodIn_ca (goodIn_r _ [6, 1] rfl (by decide +kernel)) (bs_in _ _))) rfl rfl rfl (by decide +kernel) ⟨(Nat.le_of_ble_eq_true rfl), (Nat.le_of_ble_eq_true rfl)⟩) ⟨fun a U g mk q => by obtain ⟨q0, q1, qK, qE⟩ := q; exact ⟨q0, q1, va_K.moved (u := U) (U := U.calling g mk a) (Vm.Alike.refl U.vm) qK, EVS.blind g mk a qE⟩, gH_rc hK hT hr_o0 shm_0 rfl, fun U hU hW => ⟨rfl, hU, va_K.moved hW.alike hK, hE.call hS hFc hU hW⟩⟩ rfl rfl hl.1 rfl (lv_room (Nat.le_of_ble_eq_true rfl)) dX12_lifts__55 ⟨(Nat.le_of_ble_eq_true rfl), (Nat.le_of_ble_eq_true rfl)⟩) hS (fun q _ h => hFc q h) hFc (fun r19056 u t H locs ht hvm hw19057 hB _ _ hS => ?_)
          obtain ⟨hT, hF1⟩ := hB
          rw [ht] at hT hF1
          have hF := hF.more hF1 (by decide)
          try dsimp only at hw19057
          obtain ⟨h19059, hd19060⟩ := hw19057
          obtain rfl : (1 : Int32) = r19056 := hd19060.symm
          refine lv_if_eq (tgt := 63) hx hb dX12_lifts__58 (by decide) (fun c19061 => absurd c19061 (by decide)) (fun c19061 => ?_)
          refine lv_iconst (v := 0) hx hb dX12_lifts__61 (by decide) ?_
          exact W.iret (v := 0) hx hb hr (fun t ht hW => ⟨⟨0, (), rfl, (by exact (rg_t (a := 0) (by decide) (by first | decide | omega) (by first | decide | omega))), by (try dsimp only); rw [ht]; exact ⟨hT, hF⟩⟩, hS.F ht⟩) hS.2.2 dX12_lifts__62
