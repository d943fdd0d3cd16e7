def w_s_throwsIfP : List Cond := .code yX12_throwsIf cX12_throwsIf 3 (some .boolean) :: (HAppend.hAppend (α := List Cond) (β := List Cond) (γ := List Cond) [.fieldLink RX12 194 "SeaLandModel" "thrown" "I"] bs)
set_option maxHeartbeats 4000000 in
set_option maxRecDepth 100000 in
theorem s_throwsIfP (l : Launch) (dC : Nat → ClassId) (dI : Nat → Nat → Nat) (kA : Nat → ClassId) (adK adV : Nat → Nat) (G : gT) (H0 : Heap) (q : Nat → Nat) (wZ wN : Nat → Int) (wH wB wC : Int) (wL wK : Nat → Prop) (wU wV : Nat → Nat) (PI : Nat → Int → Prop) (im : Int) (PM PT : Nat → Int → Prop) (lS lB lE : Nat → Nat → Int → Prop) (lN : Nat → Int) (o0 : Nat) (bo : Int32) (cd : Int32) (t0 : Int32)  (hT : gH (dC, dI) kA (SHm q (wP wZ wN wH wB wC wL wK wU wV) PI im PM PT lS lB lE lN) G H0) (hr_o0 : G o0 = some 0) (hm_t0 : el H0 o0 (dI 15 0) = some (.int t0)) (hq0 : 0 ≤ bo.toInt ∧ bo.toInt ≤ 1) (hgz : ∀ i, 0 ≤ wZ i) (hgn : ∀ i, 6500000 ≤ wN i ∧ wN i ≤ 20200000) (hgh : 0 ≤ wH ∧ wH ≤ 40000) (hgb : 0 ≤ wB ∧ wB ≤ 3850000) (hgc : 0 ≤ wC ∧ wC ≤ 30) (hgi : 0 ≤ im ∧ im ≤ 1) (hgu : ∀ a t, G a = some (t + 1) → a = q t) : Met l yX12_throwsIf w_s_throwsIfP ({ frames := 0, cells := 0, slots := 0, locals := 0 }) (va_Pc [.ref o0, .int bo, .int cd] (fun U => U.heap = H0 ∧ va_K (dC, dI) vwCl (tyl kA) U ∧ EVS adK adV (gA G H0.size) U U.heap)) (va_Qi (fun (r : Int32) (u : Int32) => (0 ≤ r.toInt ∧ r.toInt ≤ 1) ∧ ((bo.toInt = 1 → u.toInt = cd.toInt) ∧ (bo.toInt = 0 → u.toInt = t0.toInt)) ∧ (r = bo)) (fun (t1 : Int32) (t : State) => gH (dC, dI) kA (SHm q (wP wZ wN wH wB wC wL wK wU wV) PI im PM PT lS lB lE lN) G t.heap ∧ gF (dC, dI) SKm G ([(0, 0)] : List (Nat × Nat)) H0 t.heap ∧ el t.heap o0 (dI 15 0) = some (.int t1)) (gA G H0.size)) 0 0 (gA G H0.size) := by
  refine Met.ofW (cc := cX12_throwsIf) (maxL := 3) (ret := (some .boolean)) (by decide) rfl ?_
  intro p e s m args below meth c s₁ B hml hv
  obtain ⟨rfl, hH0, hK, hE⟩ := hv
  have hx := B.exec
  have hb := B.bytes
  have hr := B.returns
  have hts := atoms_spec (ws := w_s_throwsIfP) B.pre
  have hown : s.vm.findClass RX12 = some m.cls := findClass_of_methodNamed B.named
  have hlocks := B.notSynchronized
  subst hH0
  generalize hAe : gA G s.heap.size = A at hE ⊢
  have hA : ∀ q : Nat, s.heap.size ≤ q → A q := fun q h => by rw [← hAe]; exact Or.inr h
  have hG := gA_of hAe
  have hS : va_S A s.heap s.heap [] := va_S.rf
  have hF : gF (dC, dI) SKm G ([(0, 0)] : List (Nat × Nat)) s.heap s.heap := gF.rf
  have hl := lv_entry ([.ref o0, .int bo, .int cd]) (n := 3) (Nat.le_of_ble_eq_true rfl)
  rw [lg_entry_eq]
  generalize (lg_sl ([.ref o0, .int bo, .int cd]) ++ List.replicate (3 - (lg_sl ([.ref o0, .int bo, .int cd])).length) Slot.unset).toArray = ls at hl ⊢
  have hl : lv_has ls 3 [(0, .ref o0), (1, .int bo), (2, .int cd)] := hl
  refine lv_iload_n hx hb dX12_throwsIf_0 rfl (lv_at hl 1 rfl) ?_
  refine lv_if_eq (tgt := 9) hx hb dX12_throwsIf_1 (by decide) (fun c1 => ?_) (fun c1 => ?_)
  · have t2 : bo.toInt = 0 := ti_eq c1 rfl (by decide)
    refine lv_iload_n hx hb dX12_throwsIf_9 rfl (lv_at hl 1 rfl) ?_
    exact W.zret (v := bo) hx hb hr (nar_b (by have q8 := ti_all bo; omega)) (fun t ht hW => ⟨⟨bo, t0, rfl, (by exact ⟨(by have q8 := ti_all bo; omega), (by omega), rfl⟩), by (try dsimp only); rw [ht]; exact ⟨hT, hF, hm_t0⟩⟩, hS.F ht⟩) hS.2.2 dX12_throwsIf_10
  · have t3 : bo.toInt ≠ 0 := ti_ne c1 rfl (by decide)
    refine lv_aload_n hx hb dX12_throwsIf_4 rfl (lv_at hl 0 rfl) ?_
    refine lv_iload_n hx hb dX12_throwsIf_5 rfl (lv_at hl 2 rfl) ?_
    refine tw_put (v := .int cd) (ty := .int) hx hb hts bF_X12 tyX12 tyX12_ok nmX12 hown hK hT hG hS hr_o0 shm_0 rfl 0 (by decide) (ht_at hts 0 rfl) (fun _ h9 => h9) rfl (by decide +kernel) rfl rfl (gl_at rfl (gi_all _)) dX12_throwsIf_6 (fun H locs hT oq m4 oj hS => ?_)
    have hF := hF.put hr_o0 skm_0 oq oj (by decide)
    refine lv_iload_n hx hb dX12_throwsIf_9 rfl (lv_at hl 1 rfl) ?_
    exact W.zret (v := bo) hx hb hr (nar_b (by have q8 := ti_all bo; omega)) (fun t ht hW => ⟨⟨bo, cd, rfl, (by exact ⟨(by have q8 := ti_all bo; omega), (by omega), rfl⟩), by (try dsimp only); rw [ht]; exact ⟨hT, hF, m4⟩⟩, hS.F ht⟩) hS.2.2 dX12_throwsIf_10
def w_s_tideP : List Cond := .code yX12_tide cX12_tide 3 none :: (HAppend.hAppend (α := List Cond) (β := List Cond) (γ := List Cond) [.fieldLink RX12 194 "SeaLandModel" "thrown" "I", .code yX12_in cX12_in 3 (some .boolean), .methodLink RX12 197 yX12_in, .static yX12_in, .initialized RX12, .code yX12_throwsIf cX12_throwsIf 3 (some .boolean), .methodLink RX12 224 yX12_throwsIf, .instanceMethod yX12_throwsIf, .selects RX12 yX12_throwsIf yX12_throwsIf, .fieldLink RX12 9 "SeaLandModel" "world" "[I", .fieldLink RX12 238 "SeaLandModel" "rows" "I"] bs)
set_option maxHeartbeats 4000000 in
set_option maxRecDepth 100000 in
theorem s_tideP (l : Launch) (dC : Nat → ClassId) (dI : Nat → Nat → Nat) (kA : Nat → ClassId) (adK adV : Nat → Nat) (G : gT) (H0 : Heap) (q : Nat → Nat) (wZ wN : Nat → Int) (wH wB wC : Int) (wL wK : Nat → Prop) (wU wV : Nat → Nat) (PI : Nat → Int → Prop) (im : Int) (PM PT : Nat → Int → Prop) (lS lB lE : Nat → Nat → Int → Prop) (lN : Nat → Int) (o0 : Nat) (p0 : Int32) (p1 : Int32)  (hT : gH (dC, dI) kA (SHm q (wP wZ wN wH wB wC wL wK wU wV) PI im PM PT lS lB lE lN) G H0) (hr_o0 : G o0 = some 0) (hgz : ∀ i, 0 ≤ wZ i) (hgn : ∀ i, 6500000 ≤ wN i ∧ wN i ≤ 20200000) (hgh : 0 ≤ wH ∧ wH ≤ 40000) (hgb : 0 ≤ wB ∧ wB ≤ 3850000) (hgc : 0 ≤ wC ∧ wC ≤ 30) (hgi : 0 ≤ im ∧ im ≤ 1) (hgu : ∀ a t, G a = some (t + 1) → a = q t) : Met l yX12_tide w_s_tideP ({ frames := 1, cells := 0, slots := 0, locals := 22 }) (va_Pc [.ref o0, .int p0, .int p1] (fun U => U.heap = H0 ∧ va_K (dC, dI) vwCl (tyl kA) U ∧ EVS adK adV (gA G H0.size) U U.heap)) (va_Qv (fun (u : Int32) => ((u.toInt = 0 ∧ (0 ≤ p0.toInt ∧ p0.toInt ≤ 11 ∧ -400 ≤ p1.toInt ∧ p1.toInt ≤ 400)) ∨ (u.toInt = 1 ∧ ¬ (0 ≤ p0.toInt ∧ p0.toInt ≤ 11 ∧ -400 ≤ p1.toInt ∧ p1.toInt ≤ 400)))) (fun (t1 : Int32) (t : State) => gH (dC, dI) kA (SHm q (wP wZ wN wH wB wC wL wK wU wV) PI im PM PT lS lB lE lN) G t.heap ∧ gF (dC, dI) SKm G ([(0, 0), (0, 9), (2, 0)] : List (Nat × Nat)) H0 t.heap ∧ el t.heap o0 (dI 15 0) = some (.int t1)) (gA G H0.size)) 0 0 (gA G H0.size) := by
  refine Met.ofW (cc := cX12_tide) (maxL := 3) (ret := none) (by decide) rfl ?_
  intro p e s m args below meth c s₁ B hml hv
  obtain ⟨rfl, hH0, hK, hE⟩ := hv
  have hx := B.exec
  have hb := B.bytes
  have hr := B.returns
  have hts := atoms_spec (ws := w_s_tideP) B.pre
  have hown : s.vm.findClass RX12 = some m.cls := findClass_of_methodNamed B.named
  have hlocks := B.notSynchronized
  subst hH0
  generalize hAe : gA G s.heap.size = A at hE ⊢
  have hA : ∀ q : Nat, s.heap.size ≤ q → A q := fun q h => by rw [← hAe]; exact Or.inr h
  have hG := gA_of hAe
  have hS : va_S A s.heap s.heap [] := va_S.rf
  have hF : gF (dC, dI) SKm G ([(0, 0), (0, 9), (2, 0)] : List (Nat × Nat)) s.heap s.heap := gF.rf
  have hl := lv_entry ([.ref o0, .int p0, .int p1]) (n := 3) (Nat.le_of_ble_eq_true rfl)
  rw [lg_entry_eq]
  generalize (lg_sl ([.ref o0, .int p0, .int p1]) ++ List.replicate (3 - (lg_sl ([.ref o0, .int p0, .int p1])).length) Slot.unset).toArray = ls at hl ⊢
  have hl : lv_has ls 3 [(0, .ref o0), (1, .int p0), (2, .int p1)] := hl
  refine lv_aload_n hx hb dX12_tide_0 rfl (lv_at hl 0 rfl) ?_
  refine lv_iconst (v := 0) hx hb dX12_tide_1 (by decide) ?_
  refine tw_put (v := .int 0) (ty := .int) hx hb hts bF_X12 tyX12 tyX12_ok nmX12 hown hK hT hG hS hr_o0 shm_0 rfl 0 (by decide) (ht_at hts 0 rfl) (fun _ h9 => h9) rfl (by decide +kernel) rfl rfl (gl_at rfl (gi_all _)) dX12_tide_2 (fun H locs hT oq m1 oj hS => ?_)
  have hF := hF.put hr_o0 skm_0 oq oj (by decide)
  refine lv_aload_n hx hb dX12_tide_5 rfl (lv_at hl 0 rfl) ?_
  refine lv_iload_n hx hb dX12_tide_6 rfl (lv_at hl 1 rfl) ?_
  refine lv_iconst (v := 0) hx hb dX12_tide_7 (by decide) ?_
  refine lv_bipush (v := 11) hx hb dX12_tide_8 (by decide) ?_
  have hFc := gA_free hG hA hS
  refine va_calli (va_runS (As := [.int p0, .int 0, .int 11]) (rest := [.ref o0]) ⟨hx, hb, hml, hown, hts⟩ (s_in l dC dI kA adK adV G H q wZ wN wH wB wC wL wK wU wV PI im PM PT lS lB lE lN p0 0 11 hT hgz hgn hgh hgb hgc hgi hgu) (va_cwS 3 hts (goodIn_app (goodIn_r _ [3, 4, 5] rfl (by decide +kernel)) (goodIn_ca (goodIn_r _ [2] rfl (by decide +kernel)) (bs_in _ _))) rfl rfl rfl (by decide +kernel) ⟨(Nat.le_of_ble_eq_true rfl), (Nat.le_of_ble_eq_true rfl)⟩) ⟨fun a U g mk q => by obtain ⟨q0, q1, qK, qE⟩ := q; exact ⟨q0, q1, va_K.moved (u := U) (U := U.calling g mk a) (Vm.Alike.refl U.vm) qK, EVS.blind g mk a qE⟩, fun U hU hW => ⟨rfl, hU, va_K.moved hW.alike hK, hE.call hS hFc hU hW⟩⟩ rfl rfl hl.1 rfl (lv_room (Nat.le_of_ble_eq_true rfl)) dX12_tide_10 ⟨(Nat.le_of_ble_eq_true rfl), (Nat.le_of_ble_eq_true rfl)⟩) hS (fun q _ h => hFc q h) hFc (fun r2 u t H locs ht hvm hw3 hB _ _ hS => ?_)
  obtain ⟨hT, hF1⟩ := hB
  rw [ht] at hT hF1
  have m4 := (hF1.fld hr_o0 skm_0 (k := 0) (by decide) (by decide)).trans m1
  have hF := hF.more hF1 (by decide)
  try dsimp only at hw3
  obtain ⟨h5, hi6, hi7⟩ := hw3
  refine lv_if_eq (tgt := 29) hx hb dX12_tide_13 (by decide) (fun c8 => ?_) (fun c8 => ?_)
  · have t9 : r2.toInt = 0 := ti_eq c8 rfl (by decide)
    have t10 : (0 : Int32).toInt = 0 := by decide
    have t11 : (11 : Int32).toInt = 11 := by decide
    have t12 : p0.toInt < (0 : Int32).toInt ∨ (11 : Int32).toInt < p0.toInt := hi7 c8
    refine lv_iconst (v := 1) hx hb dX12_tide_29 (by decide) ?_
    refine lv_goto (tgt := 34) hx hb dX12_tide_30 (by decide) ?_
    refine lv_iconst (v := 1) hx hb dX12_tide_34 (by decide) ?_
    have hFc := gA_free hG hA hS
    refine va_calli (va_runV (As := [.int 1, .int 1]) (rest := []) ⟨hx, hb, hml, hown, hts⟩ (s_throwsIfP l dC dI kA adK adV G H q wZ wN wH wB wC wL wK wU wV PI im PM PT lS lB lE lN o0 1 1 0 hT hr_o0 m4 (rg_t (a := 1) (by decide) (by first | decide | omega) (by first | decide | omega)) hgz hgn hgh hgb hgc hgi hgu) (cwV 2 hts (goodIn_app (goodIn_r _ [7, 8, 9, 5] rfl (by decide +kernel)) (goodIn_ca (goodIn_r _ [6, 1] rfl (by decide +kernel)) (bs_in _ _))) rfl rfl rfl (by decide +kernel) ⟨(Nat.le_of_ble_eq_true rfl), (Nat.le_of_ble_eq_true rfl)⟩) ⟨fun a U g mk q => by obtain ⟨q0, q1, qK, qE⟩ := q; exact ⟨q0, q1, va_K.moved (u := U) (U := U.calling g mk a) (Vm.Alike.refl U.vm) qK, EVS.blind g mk a qE⟩, gH_rc hK hT hr_o0 shm_0 rfl, fun U hU hW => ⟨rfl, hU, va_K.moved hW.alike hK, hE.call hS hFc hU hW⟩⟩ rfl rfl hl.1 rfl (lv_room (Nat.le_of_ble_eq_true rfl)) dX12_tide_35 ⟨(Nat.le_of_ble_eq_true rfl), (Nat.le_of_ble_eq_true rfl)⟩) hS (fun q _ h => hFc q h) hFc (fun r13 u t H locs ht hvm hw14 hB _ _ hS => ?_)
    obtain ⟨u15, rfl⟩ : ∃ z, z = u := ⟨_, rfl⟩
    obtain ⟨hT, hF1, m16⟩ := hB
    rw [ht] at hT hF1 m16
    have hF := hF.more hF1 (by decide)
    try dsimp only at hw14
    obtain ⟨h18, hf19, hd20⟩ := hw14
    have t21 : (1 : Int32).toInt = 1 := by decide
    have t22 : (1 : Int32).toInt = 1 := by decide
    have t23 : (0 : Int32).toInt = 0 := by decide
    obtain rfl : (1 : Int32) = r13 := hd20.symm
    refine lv_if_eq (tgt := 42) hx hb dX12_tide_38 (by decide) (fun c24 => absurd c24 (by decide)) (fun c24 => ?_)
    exact W.vret hx hb hr (fun t ht hW => ⟨⟨u15, rfl, (by exact (by omega)), by (try dsimp only); rw [ht]; exact ⟨hT, hF, m16⟩⟩, hS.F ht⟩) hS.2.2 dX12_tide_41
  · have t25 : r2.toInt ≠ 0 := ti_ne c8 rfl (by decide)
    have t26 : (0 : Int32).toInt = 0 := by decide
    have t27 : (11 : Int32).toInt = 11 := by decide
    have t28 : (0 : Int32).toInt ≤ p0.toInt ∧ p0.toInt ≤ (11 : Int32).toInt := hi6 ((bit_of ⟨by omega, by omega⟩).resolve_left c8)
    refine lv_iload_n hx hb dX12_tide_16 rfl (lv_at hl 2 rfl) ?_
    refine lv_sipush (v := (-400)) hx hb dX12_tide_17 (by decide) ?_
    refine lv_sipush (v := 400) hx hb dX12_tide_20 (by decide) ?_
    have hFc := gA_free hG hA hS
    refine va_calli (va_runS (As := [.int p1, .int (-400), .int 400]) (rest := [.ref o0]) ⟨hx, hb, hml, hown, hts⟩ (s_in l dC dI kA adK adV G H q wZ wN wH wB wC wL wK wU wV PI im PM PT lS lB lE lN p1 (-400) 400 hT hgz hgn hgh hgb hgc hgi hgu) (va_cwS 3 hts (goodIn_app (goodIn_r _ [3, 4, 5] rfl (by decide +kernel)) (goodIn_ca (goodIn_r _ [2] rfl (by decide +kernel)) (bs_in _ _))) rfl rfl rfl (by decide +kernel) ⟨(Nat.le_of_ble_eq_true rfl), (Nat.le_of_ble_eq_true rfl)⟩) ⟨fun a U g mk q => by obtain ⟨q0, q1, qK, qE⟩ := q; exact ⟨q0, q1, va_K.moved (u := U) (U := U.calling g mk a) (Vm.Alike.refl U.vm) qK, EVS.blind g mk a qE⟩, fun U hU hW => ⟨rfl, hU, va_K.moved hW.alike hK, hE.call hS hFc hU hW⟩⟩ rfl rfl hl.1 rfl (lv_room (Nat.le_of_ble_eq_true rfl)) dX12_tide_23 ⟨(Nat.le_of_ble_eq_true rfl), (Nat.le_of_ble_eq_true rfl)⟩) hS (fun q _ h => hFc q h) hFc (fun r29 u t H locs ht hvm hw30 hB _ _ hS => ?_)
    obtain ⟨hT, hF1⟩ := hB
    rw [ht] at hT hF1
    have m31 := (hF1.fld hr_o0 skm_0 (k := 0) (by decide) (by decide)).trans m4
    have hF := hF.more hF1 (by decide)
    try dsimp only at hw30
    obtain ⟨h32, hi33, hi34⟩ := hw30
    refine lv_if_ne (tgt := 33) hx hb dX12_tide_26 (by decide) (fun c35 => ?_) (fun c35 => ?_)
    · have t36 : r29.toInt ≠ 0 := ti_ne c35 rfl (by decide)
      have t37 : (-400 : Int32).toInt = (-400) := by decide
      have t38 : (400 : Int32).toInt = 400 := by decide
      have t39 : (-400 : Int32).toInt ≤ p1.toInt ∧ p1.toInt ≤ (400 : Int32).toInt := hi33 ((bit_of ⟨by omega, by omega⟩).resolve_left c35)
      refine lv_iconst (v := 0) hx hb dX12_tide_33 (by decide) ?_
      refine lv_iconst (v := 1) hx hb dX12_tide_34 (by decide) ?_
      have hFc := gA_free hG hA hS
      refine va_calli (va_runV (As := [.int 0, .int 1]) (rest := []) ⟨hx, hb, hml, hown, hts⟩ (s_throwsIfP l dC dI kA adK adV G H q wZ wN wH wB wC wL wK wU wV PI im PM PT lS lB lE lN o0 0 1 0 hT hr_o0 m31 (rg_t (a := 0) (by decide) (by first | decide | omega) (by first | decide | omega)) hgz hgn hgh hgb hgc hgi hgu) (cwV 2 hts (goodIn_app (goodIn_r _ [7, 8, 9, 5] rfl (by decide +kernel)) (goodIn_ca (goodIn_r _ [6, 1] rfl (by decide +kernel)) (bs_in _ _))) rfl rfl rfl (by decide +kernel) ⟨(Nat.le_of_ble_eq_true rfl), (Nat.le_of_ble_eq_true rfl)⟩) ⟨fun a U g mk q => by obtain ⟨q0, q1, qK, qE⟩ := q; exact ⟨q0, q1, va_K.moved (u := U) (U := U.calling g mk a) (Vm.Alike.refl U.vm) qK, EVS.blind g mk a qE⟩, gH_rc hK hT hr_o0 shm_0 rfl, fun U hU hW => ⟨rfl, hU, va_K.moved hW.alike hK, hE.call hS hFc hU hW⟩⟩ rfl rfl hl.1 rfl (lv_room (Nat.le_of_ble_eq_true rfl)) dX12_tide_35 ⟨(Nat.le_of_ble_eq_true rfl), (Nat.le_of_ble_eq_true rfl)⟩) hS (fun q _ h => hFc q h) hFc (fun r40 u t H locs ht hvm hw41 hB _ _ hS => ?_)
      obtain ⟨u42, rfl⟩ : ∃ z, z = u := ⟨_, rfl⟩
      obtain ⟨hT, hF1, m43⟩ := hB
      rw [ht] at hT hF1 m43
      have hF := hF.more hF1 (by decide)
      try dsimp only at hw41
      obtain ⟨h45, hf46, hd47⟩ := hw41
      have t48 : (0 : Int32).toInt = 0 := by decide
      have t49 : (1 : Int32).toInt = 1 := by decide
      have t50 : (0 : Int32).toInt = 0 := by decide
      obtain rfl : (0 : Int32) = r40 := hd47.symm
      refine lv_if_eq (tgt := 42) hx hb dX12_tide_38 (by decide) (fun c51 => ?_) (fun c51 => absurd c51 (by decide))
      refine lv_aload_n hx hb dX12_tide_42 rfl (lv_at hl 0 rfl) ?_
      refine tw_get hx hb hts bF_X12 hown hK hT hr_o0 shm_0 rfl 1 (by decide) (ht_at hts 9 rfl) (fun _ h9 => h9) dX12_tide_43 (fun v9 m52 h9 => ?_)
      obtain ⟨rfl, hg53⟩ := h9 _ rfl
      refine lv_sipush (v := 1430) hx hb dX12_tide_46 (by decide) ?_
      refine lv_iload_n hx hb dX12_tide_49 rfl (lv_at hl 1 rfl) ?_
      refine lv_iadd hx hb dX12_tide_50 ?_
      refine lv_topi (fun x54 ex54 => ?_)
      have t55 : x54.toInt = 1430 + p0.toInt := ti_add ex54 (by decide) rfl (by omega) (by omega)
      refine lv_iload_n hx hb dX12_tide_51 rfl (lv_at hl 2 rfl) ?_
      refine tw_iast (i := x54) (x := p1) hx hb hK hT hG hS hg53 shm_2 rfl (vin_t (a := x54.toInt) rfl (by omega) (by omega)) (gp_of (gi_of (show p1.toInt = p1.toInt from rfl) (by omega) (by omega)) (w_tid (by have q9 := tn_of (show x54.toInt = x54.toInt from rfl) (show (0 : Int) ≤ x54.toInt from by omega); omega)) (wX_o (by have q9 := tn_of (show x54.toInt = x54.toInt from rfl) (show (0 : Int) ≤ x54.toInt from by omega); omega) (by omega))) dX12_tide_52 (fun H locs hT oq m56 oi hS => ?_)
      have hF := hF.ast hg53 skm_2 oq (by decide)
      have m57 := (el_kept (oq _ (gne hr_o0 hg53 (by decide)))).trans m43
      refine lv_aload_n hx hb dX12_tide_53 rfl (lv_at hl 0 rfl) ?_
      refine lv_iconst (v := 0) hx hb dX12_tide_54 (by decide) ?_
      refine tw_put (v := .int 0) (ty := .int) hx hb hts bF_X12 tyX12 tyX12_ok nmX12 hown hK hT hG hS hr_o0 shm_0 rfl 9 (by decide) (ht_at hts 10 rfl) (fun _ h9 => h9) rfl (by decide +kernel) rfl rfl (gl_at rfl (gi_of (show (0 : Int32).toInt = 0 from (by decide)) (by first | decide | omega) (by first | decide | omega))) dX12_tide_55 (fun H locs hT oq m58 oj hS => ?_)
      have hF := hF.put hr_o0 skm_0 oq oj (by decide)
      have m59 := (oj 0 (by decide) (by decide)).trans m57
      exact W.vret hx hb hr (fun t ht hW => ⟨⟨u42, rfl, (by exact (by omega)), by (try dsimp only); rw [ht]; exact ⟨hT, hF, m59⟩⟩, hS.F ht⟩) hS.2.2 dX12_tide_58
    · have t61 : r29.toInt = 0 := ti_eq c35 rfl (by decide)
      have t62 : (-400 : Int32).toInt = (-400) := by decide
      have t63 : (400 : Int32).toInt = 400 := by decide
      have t64 : p1.toInt < (-400 : Int32).toInt ∨ (400 : Int32).toInt < p1.toInt := hi34 c35
      refine lv_iconst (v := 1) hx hb dX12_tide_29 (by decide) ?_
      refine lv_goto (tgt := 34) hx hb dX12_tide_30 (by decide) ?_
      refine lv_iconst (v := 1) hx hb dX12_tide_34 (by decide) ?_
      have hFc := gA_free hG hA hS
      refine va_calli (va_runV (As := [.int 1, .int 1]) (rest := []) ⟨hx, hb, hml, hown, hts⟩ (s_throwsIfP l dC dI kA adK adV G H q wZ wN wH wB wC wL wK wU wV PI im PM PT lS lB lE lN o0 1 1 0 hT hr_o0 m31 (rg_t (a := 1) (by decide) (by first | decide | omega) (by first | decide | omega)) hgz hgn hgh hgb hgc hgi hgu) (cwV 2 hts (goodIn_app (goodIn_r _ [7, 8, 9, 5] rfl (by decide +kernel)) (goodIn_ca (goodIn_r _ [6, 1] rfl (by decide +kernel)) (bs_in _ _))) rfl rfl rfl (by decide +kernel) ⟨(Nat.le_of_ble_eq_true rfl), (Nat.le_of_ble_eq_true rfl)⟩) ⟨fun a U g mk q => by obtain ⟨q0, q1, qK, qE⟩ := q; exact ⟨q0, q1, va_K.moved (u := U) (U := U.calling g mk a) (Vm.Alike.refl U.vm) qK, EVS.blind g mk a qE⟩, gH_rc hK hT hr_o0 shm_0 rfl, fun U hU hW => ⟨rfl, hU, va_K.moved hW.alike hK, hE.call hS hFc hU hW⟩⟩ rfl rfl hl.1 rfl (lv_room (Nat.le_of_ble_eq_true rfl)) dX12_tide_35 ⟨(Nat.le_of_ble_eq_true rfl), (Nat.le_of_ble_eq_true rfl)⟩) hS (fun q _ h => hFc q h) hFc (fun r65 u t H locs ht hvm hw66 hB _ _ hS => ?_)
      obtain ⟨u67, rfl⟩ : ∃ z, z = u := ⟨_, rfl⟩
      obtain ⟨hT, hF1, m68⟩ := hB
      rw [ht] at hT hF1 m68
      have hF := hF.more hF1 (by decide)
      try dsimp only at hw66
      obtain ⟨h70, hf71, hd72⟩ := hw66
      have t73 : (1 : Int32).toInt = 1 := by decide
      have t74 : (1 : Int32).toInt = 1 := by decide
      have t75 : (0 : Int32).toInt = 0 := by decide
      obtain rfl : (1 : Int32) = r65 := hd72.symm
      refine lv_if_eq (tgt := 42) hx hb dX12_tide_38 (by decide) (fun c76 => absurd c76 (by decide)) (fun c76 => ?_)
      exact W.vret hx hb hr (fun t ht hW => ⟨⟨u67, rfl, (by exact (by omega)), by (try dsimp only); rw [ht]; exact ⟨hT, hF, m68⟩⟩, hS.F ht⟩) hS.2.2 dX12_tide_41
