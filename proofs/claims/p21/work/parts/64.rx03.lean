def w_s_fillC : List Cond := .code yX12_fill cX12_fill 4 (some .boolean) :: (HAppend.hAppend (α := List Cond) (β := List Cond) (γ := List Cond) [.fieldLink RX12 194 "SeaLandModel" "thrown" "I", .code yX12_noSquare cX12_noSquare 1 (some .boolean), .code yX12_in cX12_in 3 (some .boolean), .methodLink RX12 197 yX12_in, .static yX12_in, .initialized RX12, .methodLink RX12 220 yX12_noSquare, .static yX12_noSquare, .code yX12_throwsIf cX12_throwsIf 3 (some .boolean), .methodLink RX12 224 yX12_throwsIf, .instanceMethod yX12_throwsIf, .selects RX12 yX12_throwsIf yX12_throwsIf, .constant RX12 241 100000, .code yX12_isLand cX12_isLand 2 (some .boolean), .fieldLink RX12 9 "SeaLandModel" "world" "[I", .methodLink RX12 235 yX12_isLand, .instanceMethod yX12_isLand, .selects RX12 yX12_isLand yX12_isLand, .fieldLink RX12 238 "SeaLandModel" "rows" "I"] bs)
set_option maxHeartbeats 4000000 in
set_option maxRecDepth 100000 in
theorem s_fillC (l : Launch) (dC : Nat → ClassId) (dI : Nat → Nat → Nat) (kA : Nat → ClassId) (adK adV : Nat → Nat) (G : gT) (H0 : Heap) (q : Nat → Nat) (wZ wN : Nat → Int) (wH wB wC : Int) (wL wK : Nat → Prop) (wU wV : Nat → Nat) (PI : Nat → Int → Prop) (im : Int) (PM PT : Nat → Int → Prop) (lS lB lE : Nat → Nat → Int → Prop) (lN : Nat → Int) (o0 : Nat) (p0 : Int32) (p1 : Int32) (p2 : Int32)  (hT : gH (dC, dI) kA (SHm q (wP wZ0 wN wH wB wC wL wK wU wV) PI im PM PT lS lB lE lN) G H0) (hr_o0 : G o0 = some 0) (hgz : ∀ i, 0 ≤ wZ i) (hgn : ∀ i, 6500000 ≤ wN i ∧ wN i ≤ 20200000) (hgh : 0 ≤ wH ∧ wH ≤ 40000) (hgb : 0 ≤ wB ∧ wB ≤ 3850000) (hgc : 0 ≤ wC ∧ wC ≤ 30) (hgi : 0 ≤ im ∧ im ≤ 1) (hgu : ∀ a t, G a = some (t + 1) → a = q t) : Met l yX12_fill w_s_fillC ({ frames := 2, cells := 0, slots := 0, locals := 42 }) (va_Pc [.ref o0, .int p0, .int p1, .int p2] (fun U => U.heap = H0 ∧ va_K (dC, dI) vwCl (tyl kA) U ∧ EVS adK adV (gA G H0.size) U U.heap)) (va_Qi (fun (r : Int32) (u : Int32) => (0 ≤ r.toInt ∧ r.toInt ≤ 1) ∧ ((fiC p0.toInt p1.toInt p2.toInt = 0 ∧ u.toInt = 0 ∧ ((r.toInt = 1 ∧ wL p0.toNatClampNeg) ∨ (r.toInt = 0 ∧ ¬ wL p0.toNatClampNeg))) ∨ (fiC p0.toInt p1.toInt p2.toInt ≠ 0 ∧ u.toInt = fiC p0.toInt p1.toInt p2.toInt))) (fun (t1 : Int32) (t : State) => gH (dC, dI) kA (SHm q (wP wZ0 wN wH wB wC wL wK wU wV) PI im PM PT lS lB lE lN) G t.heap ∧ gF (dC, dI) SKm G ([(0, 0), (0, 9), (2, 0)] : List (Nat × Nat)) H0 t.heap ∧ el t.heap o0 (dI 15 0) = some (.int t1)) (gA G H0.size)) 0 0 (gA G H0.size) := by
  refine Met.ofW (cc := cX12_fill) (maxL := 4) (ret := (some .boolean)) (by decide) rfl ?_
  intro p e s m args below meth c s₁ B hml hv
  obtain ⟨rfl, hH0, hK, hE⟩ := hv
  have hx := B.exec
  have hb := B.bytes
  have hr := B.returns
  have hts := atoms_spec (ws := w_s_fillC) B.pre
  have hown : s.vm.findClass RX12 = some m.cls := findClass_of_methodNamed B.named
  have hlocks := B.notSynchronized
  subst hH0
  generalize hAe : gA G s.heap.size = A at hE ⊢
  have hA : ∀ q : Nat, s.heap.size ≤ q → A q := fun q h => by rw [← hAe]; exact Or.inr h
  have hG := gA_of hAe
  have hS : va_S A s.heap s.heap [] := va_S.rf
  have hF : gF (dC, dI) SKm G ([(0, 0), (0, 9), (2, 0)] : List (Nat × Nat)) s.heap s.heap := gF.rf
  have hl := lv_entry ([.ref o0, .int p0, .int p1, .int p2]) (n := 4) (Nat.le_of_ble_eq_true rfl)
  rw [lg_entry_eq]
  generalize (lg_sl ([.ref o0, .int p0, .int p1, .int p2]) ++ List.replicate (4 - (lg_sl ([.ref o0, .int p0, .int p1, .int p2])).length) Slot.unset).toArray = ls at hl ⊢
  have hl : lv_has ls 4 [(0, .ref o0), (1, .int p0), (2, .int p1), (3, .int p2)] := hl
  refine lv_aload_n hx hb dX12_fill_0 rfl (lv_at hl 0 rfl) ?_
  refine lv_iconst (v := 0) hx hb dX12_fill_1 (by decide) ?_
  refine tw_put (v := .int 0) (ty := .int) hx hb hts bF_X12 tyX12 tyX12_ok nmX12 hown hK hT hG hS hr_o0 shm_0 rfl 0 (by decide) (ht_at hts 0 rfl) (fun _ h9 => h9) rfl (by decide +kernel) rfl rfl (gl_at rfl (gi_all _)) dX12_fill_2 (fun H locs hT oq m1 oj hS => ?_)
  have hF := hF.put hr_o0 skm_0 oq oj (by decide)
  refine lv_aload_n hx hb dX12_fill_5 rfl (lv_at hl 0 rfl) ?_
  refine lv_iload_n hx hb dX12_fill_6 rfl (lv_at hl 1 rfl) ?_
  have hFc := gA_free hG hA hS
  refine va_calli (va_runS (As := [.int p0]) (rest := [.ref o0]) ⟨hx, hb, hml, hown, hts⟩ (s_noSquareE l dC dI kA adK adV G H q wZ0 wN wH wB wC wL wK wU wV PI im PM PT lS lB lE lN p0 hT (fun _ => Int.le_refl 0) hgn hgh hgb hgc hgi hgu) (va_cwS 1 hts (goodIn_app (goodIn_r _ [7, 8, 6] rfl (by decide +kernel)) (goodIn_ca (goodIn_r _ [2, 3, 4, 5, 6] rfl (by decide +kernel)) (bs_in _ _))) rfl rfl rfl (by decide +kernel) ⟨(Nat.le_of_ble_eq_true rfl), (Nat.le_of_ble_eq_true rfl)⟩) ⟨fun a U g mk q => by obtain ⟨q0, q1, qK, qE⟩ := q; exact ⟨q0, q1, va_K.moved (u := U) (U := U.calling g mk a) (Vm.Alike.refl U.vm) qK, EVS.blind g mk a qE⟩, fun U hU hW => ⟨rfl, hU, va_K.moved hW.alike hK, hE.call hS hFc hU hW⟩⟩ rfl rfl hl.1 rfl (lv_room (Nat.le_of_ble_eq_true rfl)) dX12_fill_7 ⟨(Nat.le_of_ble_eq_true rfl), (Nat.le_of_ble_eq_true rfl)⟩) hS (fun q _ h => hFc q h) hFc (fun r2 u t H locs ht hvm hw3 hB _ _ hS => ?_)
  obtain ⟨hT, hF1⟩ := hB
  rw [ht] at hT hF1
  have m4 := (hF1.fld hr_o0 skm_0 (k := 0) (by decide) (by decide)).trans m1
  have hF := hF.more hF1 (by decide)
  try dsimp only at hw3
  obtain ⟨h5, hf6⟩ := hw3
  refine lv_iconst (v := 1) hx hb dX12_fill_10 (by decide) ?_
  have hFc := gA_free hG hA hS
  refine va_calli (va_runV (As := [.int r2, .int 1]) (rest := []) ⟨hx, hb, hml, hown, hts⟩ (s_throwsIfP l dC dI kA adK adV G H q wZ0 wN wH wB wC wL wK wU wV PI im PM PT lS lB lE lN o0 r2 1 0 hT hr_o0 m4 (by have q8 := ti_all r2; omega) (fun _ => Int.le_refl 0) hgn hgh hgb hgc hgi hgu) (cwV 2 hts (goodIn_app (goodIn_r _ [10, 11, 12, 6] rfl (by decide +kernel)) (goodIn_ca (goodIn_r _ [9, 1] rfl (by decide +kernel)) (bs_in _ _))) rfl rfl rfl (by decide +kernel) ⟨(Nat.le_of_ble_eq_true rfl), (Nat.le_of_ble_eq_true rfl)⟩) ⟨fun a U g mk q => by obtain ⟨q0, q1, qK, qE⟩ := q; exact ⟨q0, q1, va_K.moved (u := U) (U := U.calling g mk a) (Vm.Alike.refl U.vm) qK, EVS.blind g mk a qE⟩, gH_rc hK hT hr_o0 shm_0 rfl, fun U hU hW => ⟨rfl, hU, va_K.moved hW.alike hK, hE.call hS hFc hU hW⟩⟩ rfl rfl hl.1 rfl (lv_room (Nat.le_of_ble_eq_true rfl)) dX12_fill_11 ⟨(Nat.le_of_ble_eq_true rfl), (Nat.le_of_ble_eq_true rfl)⟩) hS (fun q _ h => hFc q h) hFc (fun r7 u t H locs ht hvm hw8 hB _ _ hS => ?_)
  obtain ⟨u9, rfl⟩ : ∃ z, z = u := ⟨_, rfl⟩
  obtain ⟨hT, hF1, m10⟩ := hB
  rw [ht] at hT hF1 m10
  have hF := hF.more hF1 (by decide)
  try dsimp only at hw8
  obtain ⟨h12, hf13, hd14⟩ := hw8
  have t15 : (1 : Int32).toInt = 1 := by decide
  have t16 : (0 : Int32).toInt = 0 := by decide
  obtain rfl : r2 = r7 := hd14.symm
  refine lv_if_ne (tgt := 59) hx hb dX12_fill_14 (by decide) (fun c17 => ?_) (fun c17 => ?_)
  · have t18 : r2.toInt ≠ 0 := ti_ne c17 rfl (by decide)
    refine lv_iconst (v := 0) hx hb dX12_fill_59 (by decide) ?_
    exact W.zret (v := 0) hx hb hr (by decide) (fun t ht hW => ⟨⟨0, u9, rfl, (by exact ⟨(rg_t (a := 0) (by decide) (by first | decide | omega) (by first | decide | omega)), (by first | exact Or.inl ⟨by have := fiC_s p0.toInt p1.toInt p2.toInt; omega, by have q0 : (0 : Int32).toInt = 0 := (by decide); have q1 : (1 : Int32).toInt = 1 := (by decide); have q2 : (2 : Int32).toInt = 2 := (by decide); have q3 : (3 : Int32).toInt = 3 := (by decide); have qm : (-1 : Int32).toInt = -1 := (by decide); omega, Or.inr ⟨by decide, by assumption⟩⟩ | exact Or.inr ⟨by have := fiC_s p0.toInt p1.toInt p2.toInt; have q0 : (0 : Int32).toInt = 0 := (by decide); have q1 : (1 : Int32).toInt = 1 := (by decide); have q2 : (2 : Int32).toInt = 2 := (by decide); have q3 : (3 : Int32).toInt = 3 := (by decide); have qm : (-1 : Int32).toInt = -1 := (by decide); omega, by have := fiC_s p0.toInt p1.toInt p2.toInt; have q0 : (0 : Int32).toInt = 0 := (by decide); have q1 : (1 : Int32).toInt = 1 := (by decide); have q2 : (2 : Int32).toInt = 2 := (by decide); have q3 : (3 : Int32).toInt = 3 := (by decide); have qm : (-1 : Int32).toInt = -1 := (by decide); omega⟩)⟩), by (try dsimp only); rw [ht]; exact ⟨hT, hF, m10⟩⟩, hS.F ht⟩) hS.2.2 dX12_fill_60
  · have t19 : r2.toInt = 0 := ti_eq c17 rfl (by decide)
    refine lv_aload_n hx hb dX12_fill_17 rfl (lv_at hl 0 rfl) ?_
    refine lv_iload_n hx hb dX12_fill_18 rfl (lv_at hl 2 rfl) ?_
    refine lv_iconst (v := 0) hx hb dX12_fill_19 (by decide) ?_
    refine lv_sipush (v := 900) hx hb dX12_fill_20 (by decide) ?_
    have hFc := gA_free hG hA hS
    refine va_calli (va_runS (As := [.int p1, .int 0, .int 900]) (rest := [.ref o0]) ⟨hx, hb, hml, hown, hts⟩ (s_in l dC dI kA adK adV G H q wZ0 wN wH wB wC wL wK wU wV PI im PM PT lS lB lE lN p1 0 900 hT (fun _ => Int.le_refl 0) hgn hgh hgb hgc hgi hgu) (va_cwS 3 hts (goodIn_app (goodIn_r _ [4, 5, 6] rfl (by decide +kernel)) (goodIn_ca (goodIn_r _ [3] rfl (by decide +kernel)) (bs_in _ _))) rfl rfl rfl (by decide +kernel) ⟨(Nat.le_of_ble_eq_true rfl), (Nat.le_of_ble_eq_true rfl)⟩) ⟨fun a U g mk q => by obtain ⟨q0, q1, qK, qE⟩ := q; exact ⟨q0, q1, va_K.moved (u := U) (U := U.calling g mk a) (Vm.Alike.refl U.vm) qK, EVS.blind g mk a qE⟩, fun U hU hW => ⟨rfl, hU, va_K.moved hW.alike hK, hE.call hS hFc hU hW⟩⟩ rfl rfl hl.1 rfl (lv_room (Nat.le_of_ble_eq_true rfl)) dX12_fill_23 ⟨(Nat.le_of_ble_eq_true rfl), (Nat.le_of_ble_eq_true rfl)⟩) hS (fun q _ h => hFc q h) hFc (fun r20 u t H locs ht hvm hw21 hB _ _ hS => ?_)
    obtain ⟨hT, hF1⟩ := hB
    rw [ht] at hT hF1
    have m22 := (hF1.fld hr_o0 skm_0 (k := 0) (by decide) (by decide)).trans m10
    have hF := hF.more hF1 (by decide)
    try dsimp only at hw21
    obtain ⟨h23, hi24, hi25⟩ := hw21
    refine lv_if_eq (tgt := 39) hx hb dX12_fill_26 (by decide) (fun c26 => ?_) (fun c26 => ?_)
    · have t27 : r20.toInt = 0 := ti_eq c26 rfl (by decide)
      have t28 : (0 : Int32).toInt = 0 := by decide
      have t29 : (900 : Int32).toInt = 900 := by decide
      have t30 : p1.toInt < (0 : Int32).toInt ∨ (900 : Int32).toInt < p1.toInt := hi25 c26
      refine lv_iconst (v := 1) hx hb dX12_fill_39 (by decide) ?_
      refine lv_goto (tgt := 44) hx hb dX12_fill_40 (by decide) ?_
      refine lv_iconst (v := 2) hx hb dX12_fill_44 (by decide) ?_
      have hFc := gA_free hG hA hS
      refine va_calli (va_runV (As := [.int 1, .int 2]) (rest := []) ⟨hx, hb, hml, hown, hts⟩ (s_throwsIfP l dC dI kA adK adV G H q wZ0 wN wH wB wC wL wK wU wV PI im PM PT lS lB lE lN o0 1 2 u9 hT hr_o0 m22 (rg_t (a := 1) (by decide) (by first | decide | omega) (by first | decide | omega)) (fun _ => Int.le_refl 0) hgn hgh hgb hgc hgi hgu) (cwV 2 hts (goodIn_app (goodIn_r _ [10, 11, 12, 6] rfl (by decide +kernel)) (goodIn_ca (goodIn_r _ [9, 1] rfl (by decide +kernel)) (bs_in _ _))) rfl rfl rfl (by decide +kernel) ⟨(Nat.le_of_ble_eq_true rfl), (Nat.le_of_ble_eq_true rfl)⟩) ⟨fun a U g mk q => by obtain ⟨q0, q1, qK, qE⟩ := q; exact ⟨q0, q1, va_K.moved (u := U) (U := U.calling g mk a) (Vm.Alike.refl U.vm) qK, EVS.blind g mk a qE⟩, gH_rc hK hT hr_o0 shm_0 rfl, fun U hU hW => ⟨rfl, hU, va_K.moved hW.alike hK, hE.call hS hFc hU hW⟩⟩ rfl rfl hl.1 rfl (lv_room (Nat.le_of_ble_eq_true rfl)) dX12_fill_45 ⟨(Nat.le_of_ble_eq_true rfl), (Nat.le_of_ble_eq_true rfl)⟩) hS (fun q _ h => hFc q h) hFc (fun r31 u t H locs ht hvm hw32 hB _ _ hS => ?_)
      obtain ⟨u33, rfl⟩ : ∃ z, z = u := ⟨_, rfl⟩
      obtain ⟨hT, hF1, m34⟩ := hB
      rw [ht] at hT hF1 m34
      have hF := hF.more hF1 (by decide)
      try dsimp only at hw32
      obtain ⟨h36, hf37, hd38⟩ := hw32
      have t39 : (1 : Int32).toInt = 1 := by decide
      have t40 : (2 : Int32).toInt = 2 := by decide
      obtain rfl : (1 : Int32) = r31 := hd38.symm
      refine lv_if_ne (tgt := 59) hx hb dX12_fill_48 (by decide) (fun c41 => ?_) (fun c41 => absurd c41 (by decide))
      refine lv_iconst (v := 0) hx hb dX12_fill_59 (by decide) ?_
      exact W.zret (v := 0) hx hb hr (by decide) (fun t ht hW => ⟨⟨0, u33, rfl, (by exact ⟨(rg_t (a := 0) (by decide) (by first | decide | omega) (by first | decide | omega)), (by first | exact Or.inl ⟨by have := fiC_s p0.toInt p1.toInt p2.toInt; omega, by have q0 : (0 : Int32).toInt = 0 := (by decide); have q1 : (1 : Int32).toInt = 1 := (by decide); have q2 : (2 : Int32).toInt = 2 := (by decide); have q3 : (3 : Int32).toInt = 3 := (by decide); have qm : (-1 : Int32).toInt = -1 := (by decide); omega, Or.inr ⟨by decide, by assumption⟩⟩ | exact Or.inr ⟨by have := fiC_s p0.toInt p1.toInt p2.toInt; have q0 : (0 : Int32).toInt = 0 := (by decide); have q1 : (1 : Int32).toInt = 1 := (by decide); have q2 : (2 : Int32).toInt = 2 := (by decide); have q3 : (3 : Int32).toInt = 3 := (by decide); have qm : (-1 : Int32).toInt = -1 := (by decide); omega, by have := fiC_s p0.toInt p1.toInt p2.toInt; have q0 : (0 : Int32).toInt = 0 := (by decide); have q1 : (1 : Int32).toInt = 1 := (by decide); have q2 : (2 : Int32).toInt = 2 := (by decide); have q3 : (3 : Int32).toInt = 3 := (by decide); have qm : (-1 : Int32).toInt = -1 := (by decide); omega⟩)⟩), by (try dsimp only); rw [ht]; exact ⟨hT, hF, m34⟩⟩, hS.F ht⟩) hS.2.2 dX12_fill_60
    · have t42 : r20.toInt ≠ 0 := ti_ne c26 rfl (by decide)
      have t43 : (0 : Int32).toInt = 0 := by decide
      have t44 : (900 : Int32).toInt = 900 := by decide
      have t45 : (0 : Int32).toInt ≤ p1.toInt ∧ p1.toInt ≤ (900 : Int32).toInt := hi24 ((bit_of ⟨by omega, by omega⟩).resolve_left c26)
      refine lv_iload_n hx hb dX12_fill_29 rfl (lv_at hl 3 rfl) ?_
      refine lv_iconst (v := 0) hx hb dX12_fill_30 (by decide) ?_
      refine lv_ldc (v := 100000) hx hb hown (ht_at hts 12 rfl) dX12_fill_31 ?_
      have hFc := gA_free hG hA hS
      refine va_calli (va_runS (As := [.int p2, .int 0, .int 100000]) (rest := [.ref o0]) ⟨hx, hb, hml, hown, hts⟩ (s_in l dC dI kA adK adV G H q wZ0 wN wH wB wC wL wK wU wV PI im PM PT lS lB lE lN p2 0 100000 hT (fun _ => Int.le_refl 0) hgn hgh hgb hgc hgi hgu) (va_cwS 3 hts (goodIn_app (goodIn_r _ [4, 5, 6] rfl (by decide +kernel)) (goodIn_ca (goodIn_r _ [3] rfl (by decide +kernel)) (bs_in _ _))) rfl rfl rfl (by decide +kernel) ⟨(Nat.le_of_ble_eq_true rfl), (Nat.le_of_ble_eq_true rfl)⟩) ⟨fun a U g mk q => by obtain ⟨q0, q1, qK, qE⟩ := q; exact ⟨q0, q1, va_K.moved (u := U) (U := U.calling g mk a) (Vm.Alike.refl U.vm) qK, EVS.blind g mk a qE⟩, fun U hU hW => ⟨rfl, hU, va_K.moved hW.alike hK, hE.call hS hFc hU hW⟩⟩ rfl rfl hl.1 rfl (lv_room (Nat.le_of_ble_eq_true rfl)) dX12_fill_33 ⟨(Nat.le_of_ble_eq_true rfl), (Nat.le_of_ble_eq_true rfl)⟩) hS (fun q _ h => hFc q h) hFc (fun r46 u t H locs ht hvm hw47 hB _ _ hS => ?_)
      obtain ⟨hT, hF1⟩ := hB
      rw [ht] at hT hF1
      have m48 := (hF1.fld hr_o0 skm_0 (k := 0) (by decide) (by decide)).trans m22
      have hF := hF.more hF1 (by decide)
      try dsimp only at hw47
      obtain ⟨h49, hi50, hi51⟩ := hw47
      refine lv_if_ne (tgt := 43) hx hb dX12_fill_36 (by decide) (fun c52 => ?_) (fun c52 => ?_)
      · have t53 : r46.toInt ≠ 0 := ti_ne c52 rfl (by decide)
        have t54 : (0 : Int32).toInt = 0 := by decide
        have t55 : (100000 : Int32).toInt = 100000 := by decide
        have t56 : (0 : Int32).toInt ≤ p2.toInt ∧ p2.toInt ≤ (100000 : Int32).toInt := hi50 ((bit_of ⟨by omega, by omega⟩).resolve_left c52)
        refine lv_iconst (v := 0) hx hb dX12_fill_43 (by decide) ?_
        refine lv_iconst (v := 2) hx hb dX12_fill_44 (by decide) ?_
        have hFc := gA_free hG hA hS
        refine va_calli (va_runV (As := [.int 0, .int 2]) (rest := []) ⟨hx, hb, hml, hown, hts⟩ (s_throwsIfP l dC dI kA adK adV G H q wZ0 wN wH wB wC wL wK wU wV PI im PM PT lS lB lE lN o0 0 2 u9 hT hr_o0 m48 (rg_t (a := 0) (by decide) (by first | decide | omega) (by first | decide | omega)) (fun _ => Int.le_refl 0) hgn hgh hgb hgc hgi hgu) (cwV 2 hts (goodIn_app (goodIn_r _ [10, 11, 12, 6] rfl (by decide +kernel)) (goodIn_ca (goodIn_r _ [9, 1] rfl (by decide +kernel)) (bs_in _ _))) rfl rfl rfl (by decide +kernel) ⟨(Nat.le_of_ble_eq_true rfl), (Nat.le_of_ble_eq_true rfl)⟩) ⟨fun a U g mk q => by obtain ⟨q0, q1, qK, qE⟩ := q; exact ⟨q0, q1, va_K.moved (u := U) (U := U.calling g mk a) (Vm.Alike.refl U.vm) qK, EVS.blind g mk a qE⟩, gH_rc hK hT hr_o0 shm_0 rfl, fun U hU hW => ⟨rfl, hU, va_K.moved hW.alike hK, hE.call hS hFc hU hW⟩⟩ rfl rfl hl.1 rfl (lv_room (Nat.le_of_ble_eq_true rfl)) dX12_fill_45 ⟨(Nat.le_of_ble_eq_true rfl), (Nat.le_of_ble_eq_true rfl)⟩) hS (fun q _ h => hFc q h) hFc (fun r57 u t H locs ht hvm hw58 hB _ _ hS => ?_)
        obtain ⟨u59, rfl⟩ : ∃ z, z = u := ⟨_, rfl⟩
        obtain ⟨hT, hF1, m60⟩ := hB
        rw [ht] at hT hF1 m60
        have hF := hF.more hF1 (by decide)
        try dsimp only at hw58
        obtain ⟨h62, hf63, hd64⟩ := hw58
        have t65 : (0 : Int32).toInt = 0 := by decide
        have t66 : (2 : Int32).toInt = 2 := by decide
        obtain rfl : (0 : Int32) = r57 := hd64.symm
        refine lv_if_ne (tgt := 59) hx hb dX12_fill_48 (by decide) (fun c67 => absurd c67 (by decide)) (fun c67 => ?_)
        refine lv_aload_n hx hb dX12_fill_51 rfl (lv_at hl 0 rfl) ?_
        refine lv_iload_n hx hb dX12_fill_52 rfl (lv_at hl 1 rfl) ?_
        have hFc := gA_free hG hA hS
        refine va_calli (va_runV (As := [.int p0]) (rest := []) ⟨hx, hb, hml, hown, hts⟩ (s_isLand l dC dI kA adK adV G H q wZ0 wN wH wB wC wL wK wU wV PI im PM PT lS lB lE lN o0 p0 hT hr_o0 (by have q8 := ti_all p0; omega) (fun _ => Int.le_refl 0) hgn hgh hgb hgc hgi hgu) (cwV 1 hts (goodIn_app (goodIn_r _ [16, 17, 18, 6] rfl (by decide +kernel)) (goodIn_ca (goodIn_r _ [14, 15] rfl (by decide +kernel)) (bs_in _ _))) rfl rfl rfl (by decide +kernel) ⟨(Nat.le_of_ble_eq_true rfl), (Nat.le_of_ble_eq_true rfl)⟩) ⟨fun a U g mk q => by obtain ⟨q0, q1, qK, qE⟩ := q; exact ⟨q0, q1, va_K.moved (u := U) (U := U.calling g mk a) (Vm.Alike.refl U.vm) qK, EVS.blind g mk a qE⟩, gH_rc hK hT hr_o0 shm_0 rfl, fun U hU hW => ⟨rfl, hU, va_K.moved hW.alike hK, hE.call hS hFc hU hW⟩⟩ rfl rfl hl.1 rfl (lv_room (Nat.le_of_ble_eq_true rfl)) dX12_fill_53 ⟨(Nat.le_of_ble_eq_true rfl), (Nat.le_of_ble_eq_true rfl)⟩) hS (fun q _ h => hFc q h) hFc (fun r68 u t H locs ht hvm hw69 hB _ _ hS => ?_)
        obtain ⟨hT, hF1⟩ := hB
        rw [ht] at hT hF1
        have m70 := (hF1.fld hr_o0 skm_0 (k := 0) (by decide) (by decide)).trans m60
        have hF := hF.more hF1 (by decide)
        try dsimp only at hw69
        obtain ⟨h71, hi72, hi73⟩ := hw69
        refine lv_if_ne (tgt := 61) hx hb dX12_fill_56 (by decide) (fun c74 => ?_) (fun c74 => ?_)
        · have t75 : r68.toInt ≠ 0 := ti_ne c74 rfl (by decide)
          have t76 : wL p0.toNatClampNeg := hi72 ((bit_of ⟨by omega, by omega⟩).resolve_left c74)
          refine lv_aload_n hx hb dX12_fill_61 rfl (lv_at hl 0 rfl) ?_
          refine tw_get hx hb hts bF_X12 hown hK hT hr_o0 shm_0 rfl 1 (by decide) (ht_at hts 14 rfl) (fun _ h9 => h9) dX12_fill_62 (fun v9 m77 h9 => ?_)
          obtain ⟨rfl, hg78⟩ := h9 _ rfl
          refine lv_sipush (v := 1748) hx hb dX12_fill_65 (by decide) ?_
          refine lv_dup2_11 hx hb dX12_fill_68 rfl rfl ?_
          refine tw_iald (i := 1748) hx hb hK hT hg78 shm_2 rfl (by unfold vp_in; decide) dX12_fill_69 (fun v9 m79 h9 => ?_)
          obtain ⟨x80, rfl, gx80, kx80⟩ := (gp_at h9 (w_fre (by have q9 := tn_of (show (1748 : Int32).toInt = 1748 from (by decide)) (show (0 : Int) ≤ 1748 from by omega); omega)))
          refine lv_iload_n hx hb dX12_fill_70 rfl (lv_at hl 2 rfl) ?_
          refine lv_aload_n hx hb dX12_fill_71 rfl (lv_at hl 0 rfl) ?_
          refine tw_get hx hb hts bF_X12 hown hK hT hr_o0 shm_0 rfl 1 (by decide) (ht_at hts 14 rfl) (fun _ h9 => h9) dX12_fill_72 (fun v9 m81 h9 => ?_)
          obtain ⟨rfl, hg82⟩ := h9 _ rfl
          refine lv_sipush (v := 384) hx hb dX12_fill_75 (by decide) ?_
          refine lv_iload_n hx hb dX12_fill_78 rfl (lv_at hl 1 rfl) ?_
          refine lv_iadd hx hb dX12_fill_79 ?_
          refine lv_topi (fun x83 ex83 => ?_)
          have t84 : x83.toInt = 384 + p0.toInt := ti_add ex83 (by decide) rfl (by omega) (by omega)
          refine tw_iald (i := x83) hx hb hK hT hg78 shm_2 rfl (vin_t (a := x83.toInt) rfl (by omega) (by omega)) dX12_fill_80 (fun v9 m85 h9 => ?_)
          obtain ⟨x86, rfl, gx86, kx86⟩ := (gw_at h9 (w_wat (by have q9 := tn_of (show x83.toInt = x83.toInt from rfl) (show (0 : Int) ≤ x83.toInt from by omega); omega)) hgn (fun _ => Int.le_refl 0))
          refine lv_isub hx hb dX12_fill_81 ?_
          refine lv_topi (fun x87 ex87 => ?_)
          have t88 : x87.toInt = p1.toInt - x86.toInt := ti_sub ex87 rfl rfl (by omega) (by omega)
          refine lv_iadd hx hb dX12_fill_82 ?_
          refine lv_topi (fun x89 ex89 => ?_)
          refine tw_iast (i := 1748) (x := x89) hx hb hK hT hG hS hg78 shm_2 rfl (by unfold vp_in; decide) (gp_of (gi_all _) (w_fre (by have q9 := tn_of (show (1748 : Int32).toInt = 1748 from (by decide)) (show (0 : Int) ≤ 1748 from by omega); omega)) (wX_o (by have q9 := tn_of (show (1748 : Int32).toInt = 1748 from (by decide)) (show (0 : Int) ≤ 1748 from by omega); omega) (by omega))) dX12_fill_83 (fun H locs hT oq m90 oi hS => ?_)
          have hF := hF.ast hg78 skm_2 oq (by decide)
          have m91 := (el_kept (oq _ (gne hr_o0 hg78 (by decide)))).trans m70
          have m92 := (oi _ (tn_ne (show x83.toInt = x83.toInt from rfl) (show (1748 : Int32).toInt = 1748 from (by decide)) (by omega) (by omega) (by omega))).trans m85
          refine lv_aload_n hx hb dX12_fill_84 rfl (lv_at hl 0 rfl) ?_
          refine tw_get hx hb hts bF_X12 hown hK hT hr_o0 shm_0 rfl 1 (by decide) (ht_at hts 14 rfl) (fun _ h9 => h9) dX12_fill_85 (fun v9 m93 h9 => ?_)
          obtain ⟨rfl, hg94⟩ := h9 _ rfl
          refine lv_sipush (v := 384) hx hb dX12_fill_88 (by decide) ?_
          refine lv_iload_n hx hb dX12_fill_91 rfl (lv_at hl 1 rfl) ?_
          refine lv_iadd hx hb dX12_fill_92 ?_
          refine lv_topi (fun x95 ex95 => ?_)
          have t96 : x95.toInt = 384 + p0.toInt := ti_add ex95 (by decide) rfl (by omega) (by omega)
          refine lv_iload_n hx hb dX12_fill_93 rfl (lv_at hl 2 rfl) ?_
          have t97 : 6500000 ≤ wN x95.toNatClampNeg ∧ wN x95.toNatClampNeg ≤ 20200000 := hgn _
          have t98 : wN x83.toNatClampNeg = wN x95.toNatClampNeg := congrArg _ (tn_same (show x83.toInt = x83.toInt from rfl) (show x95.toInt = x95.toInt from rfl) (by omega))
          refine tw_iast (i := x95) (x := p1) hx hb hK hT hG hS hg78 shm_2 rfl (vin_t (a := x95.toInt) rfl (by omega) (by omega)) (gp_of (gi_of (show p1.toInt = p1.toInt from rfl) (by omega) (by omega)) (w_wat0 (by have q9 := tn_of (show x95.toInt = x95.toInt from rfl) (show (0 : Int) ≤ x95.toInt from by omega); omega)) (wX_o (by have q9 := tn_of (show x95.toInt = x95.toInt from rfl) (show (0 : Int) ≤ x95.toInt from by omega); omega) (by omega))) dX12_fill_94 (fun H locs hT oq m99 oi hS => ?_)
          have hF := hF.ast hg78 skm_2 oq (by decide)
          have m100 := (el_kept (oq _ (gne hr_o0 hg78 (by decide)))).trans m91
          have m101 := (oi _ (tn_ne (show (1748 : Int32).toInt = 1748 from (by decide)) (show x95.toInt = x95.toInt from rfl) (by omega) (by omega) (by omega))).trans m90
          refine lv_aload_n hx hb dX12_fill_95 rfl (lv_at hl 0 rfl) ?_
          refine tw_get hx hb hts bF_X12 hown hK hT hr_o0 shm_0 rfl 1 (by decide) (ht_at hts 14 rfl) (fun _ h9 => h9) dX12_fill_96 (fun v9 m102 h9 => ?_)
          obtain ⟨rfl, hg103⟩ := h9 _ rfl
          refine lv_sipush (v := 480) hx hb dX12_fill_99 (by decide) ?_
          refine lv_iload_n hx hb dX12_fill_102 rfl (lv_at hl 1 rfl) ?_
          refine lv_iadd hx hb dX12_fill_103 ?_
          refine lv_topi (fun x104 ex104 => ?_)
          have t105 : x104.toInt = 480 + p0.toInt := ti_add ex104 (by decide) rfl (by omega) (by omega)
          refine lv_iload_n hx hb dX12_fill_104 rfl (lv_at hl 3 rfl) ?_
          refine tw_iast (i := x104) (x := p2) hx hb hK hT hG hS hg78 shm_2 rfl (vin_t (a := x104.toInt) rfl (by omega) (by omega)) (gp_of (gi_all _) (w_fre (by have q9 := tn_of (show x104.toInt = x104.toInt from rfl) (show (0 : Int) ≤ x104.toInt from by omega); omega)) (wX_o (by have q9 := tn_of (show x104.toInt = x104.toInt from rfl) (show (0 : Int) ≤ x104.toInt from by omega); omega) (by omega))) dX12_fill_105 (fun H locs hT oq m106 oi hS => ?_)
          have hF := hF.ast hg78 skm_2 oq (by decide)
          have m107 := (el_kept (oq _ (gne hr_o0 hg78 (by decide)))).trans m100
          have m108 := (oi _ (tn_ne (show (1748 : Int32).toInt = 1748 from (by decide)) (show x104.toInt = x104.toInt from rfl) (by omega) (by omega) (by omega))).trans m101
          have m109 := (oi _ (tn_ne (show x95.toInt = x95.toInt from rfl) (show x104.toInt = x104.toInt from rfl) (by omega) (by omega) (by omega))).trans m99
          refine lv_aload_n hx hb dX12_fill_106 rfl (lv_at hl 0 rfl) ?_
          refine lv_iconst (v := 0) hx hb dX12_fill_107 (by decide) ?_
          refine tw_put (v := .int 0) (ty := .int) hx hb hts bF_X12 tyX12 tyX12_ok nmX12 hown hK hT hG hS hr_o0 shm_0 rfl 9 (by decide) (ht_at hts 18 rfl) (fun _ h9 => h9) rfl (by decide +kernel) rfl rfl (gl_at rfl (gi_of (show (0 : Int32).toInt = 0 from (by decide)) (by first | decide | omega) (by first | decide | omega))) dX12_fill_108 (fun H locs hT oq m110 oj hS => ?_)
          have hF := hF.put hr_o0 skm_0 oq oj (by decide)
          have m111 := (oj 0 (by decide) (by decide)).trans m107
          have m112 := (el_kept (oq _ (gne hg78 hr_o0 (by decide)))).trans m108
          have m113 := (el_kept (oq _ (gne hg78 hr_o0 (by decide)))).trans m109
          have m114 := (el_kept (oq _ (gne hg78 hr_o0 (by decide)))).trans m106
          refine lv_iconst (v := 1) hx hb dX12_fill_111 (by decide) ?_
          exact W.zret (v := 1) hx hb hr (by decide) (fun t ht hW => ⟨⟨1, u59, rfl, (by exact ⟨(rg_t (a := 1) (by decide) (by first | decide | omega) (by first | decide | omega)), (Or.inl ⟨by have := fiC_s p0.toInt p1.toInt p2.toInt; omega, by have q0 : (0 : Int32).toInt = 0 := (by decide); have q1 : (1 : Int32).toInt = 1 := (by decide); have q2 : (2 : Int32).toInt = 2 := (by decide); have q3 : (3 : Int32).toInt = 3 := (by decide); have qm : (-1 : Int32).toInt = -1 := (by decide); omega, Or.inl ⟨by decide, by assumption⟩⟩)⟩), by (try dsimp only); rw [ht]; exact ⟨hT, hF, m111⟩⟩, hS.F ht⟩) hS.2.2 dX12_fill_112
        · have t115 : r68.toInt = 0 := ti_eq c74 rfl (by decide)
          have t116 : ¬ wL p0.toNatClampNeg := hi73 c74
          refine lv_iconst (v := 0) hx hb dX12_fill_59 (by decide) ?_
          exact W.zret (v := 0) hx hb hr (by decide) (fun t ht hW => ⟨⟨0, u59, rfl, (by exact ⟨(rg_t (a := 0) (by decide) (by first | decide | omega) (by first | decide | omega)), (by first | exact Or.inl ⟨by have := fiC_s p0.toInt p1.toInt p2.toInt; omega, by have q0 : (0 : Int32).toInt = 0 := (by decide); have q1 : (1 : Int32).toInt = 1 := (by decide); have q2 : (2 : Int32).toInt = 2 := (by decide); have q3 : (3 : Int32).toInt = 3 := (by decide); have qm : (-1 : Int32).toInt = -1 := (by decide); omega, Or.inr ⟨by decide, by assumption⟩⟩ | exact Or.inr ⟨by have := fiC_s p0.toInt p1.toInt p2.toInt; have q0 : (0 : Int32).toInt = 0 := (by decide); have q1 : (1 : Int32).toInt = 1 := (by decide); have q2 : (2 : Int32).toInt = 2 := (by decide); have q3 : (3 : Int32).toInt = 3 := (by decide); have qm : (-1 : Int32).toInt = -1 := (by decide); omega, by have := fiC_s p0.toInt p1.toInt p2.toInt; have q0 : (0 : Int32).toInt = 0 := (by decide); have q1 : (1 : Int32).toInt = 1 := (by decide); have q2 : (2 : Int32).toInt = 2 := (by decide); have q3 : (3 : Int32).toInt = 3 := (by decide); have qm : (-1 : Int32).toInt = -1 := (by decide); omega⟩)⟩), by (try dsimp only); rw [ht]; exact ⟨hT, hF, m70⟩⟩, hS.F ht⟩) hS.2.2 dX12_fill_60
      · have t117 : r46.toInt = 0 := ti_eq c52 rfl (by decide)
        have t118 : (0 : Int32).toInt = 0 := by decide
        have t119 : (100000 : Int32).toInt = 100000 := by decide
        have t120 : p2.toInt < (0 : Int32).toInt ∨ (100000 : Int32).toInt < p2.toInt := hi51 c52
        refine lv_iconst (v := 1) hx hb dX12_fill_39 (by decide) ?_
        refine lv_goto (tgt := 44) hx hb dX12_fill_40 (by decide) ?_
        refine lv_iconst (v := 2) hx hb dX12_fill_44 (by decide) ?_
        have hFc := gA_free hG hA hS
        refine va_calli (va_runV (As := [.int 1, .int 2]) (rest := []) ⟨hx, hb, hml, hown, hts⟩ (s_throwsIfP l dC dI kA adK adV G H q wZ0 wN wH wB wC wL wK wU wV PI im PM PT lS lB lE lN o0 1 2 u9 hT hr_o0 m48 (rg_t (a := 1) (by decide) (by first | decide | omega) (by first | decide | omega)) (fun _ => Int.le_refl 0) hgn hgh hgb hgc hgi hgu) (cwV 2 hts (goodIn_app (goodIn_r _ [10, 11, 12, 6] rfl (by decide +kernel)) (goodIn_ca (goodIn_r _ [9, 1] rfl (by decide +kernel)) (bs_in _ _))) rfl rfl rfl (by decide +kernel) ⟨(Nat.le_of_ble_eq_true rfl), (Nat.le_of_ble_eq_true rfl)⟩) ⟨fun a U g mk q => by obtain ⟨q0, q1, qK, qE⟩ := q; exact ⟨q0, q1, va_K.moved (u := U) (U := U.calling g mk a) (Vm.Alike.refl U.vm) qK, EVS.blind g mk a qE⟩, gH_rc hK hT hr_o0 shm_0 rfl, fun U hU hW => ⟨rfl, hU, va_K.moved hW.alike hK, hE.call hS hFc hU hW⟩⟩ rfl rfl hl.1 rfl (lv_room (Nat.le_of_ble_eq_true rfl)) dX12_fill_45 ⟨(Nat.le_of_ble_eq_true rfl), (Nat.le_of_ble_eq_true rfl)⟩) hS (fun q _ h => hFc q h) hFc (fun r121 u t H locs ht hvm hw122 hB _ _ hS => ?_)
        obtain ⟨u123, rfl⟩ : ∃ z, z = u := ⟨_, rfl⟩
        obtain ⟨hT, hF1, m124⟩ := hB
        rw [ht] at hT hF1 m124
        have hF := hF.more hF1 (by decide)
        try dsimp only at hw122
        obtain ⟨h126, hf127, hd128⟩ := hw122
        have t129 : (1 : Int32).toInt = 1 := by decide
        have t130 : (2 : Int32).toInt = 2 := by decide
        obtain rfl : (1 : Int32) = r121 := hd128.symm
        refine lv_if_ne (tgt := 59) hx hb dX12_fill_48 (by decide) (fun c131 => ?_) (fun c131 => absurd c131 (by decide))
        refine lv_iconst (v := 0) hx hb dX12_fill_59 (by decide) ?_
        exact W.zret (v := 0) hx hb hr (by decide) (fun t ht hW => ⟨⟨0, u123, rfl, (by exact ⟨(rg_t (a := 0) (by decide) (by first | decide | omega) (by first | decide | omega)), (by first | exact Or.inl ⟨by have := fiC_s p0.toInt p1.toInt p2.toInt; omega, by have q0 : (0 : Int32).toInt = 0 := (by decide); have q1 : (1 : Int32).toInt = 1 := (by decide); have q2 : (2 : Int32).toInt = 2 := (by decide); have q3 : (3 : Int32).toInt = 3 := (by decide); have qm : (-1 : Int32).toInt = -1 := (by decide); omega, Or.inr ⟨by decide, by assumption⟩⟩ | exact Or.inr ⟨by have := fiC_s p0.toInt p1.toInt p2.toInt; have q0 : (0 : Int32).toInt = 0 := (by decide); have q1 : (1 : Int32).toInt = 1 := (by decide); have q2 : (2 : Int32).toInt = 2 := (by decide); have q3 : (3 : Int32).toInt = 3 := (by decide); have qm : (-1 : Int32).toInt = -1 := (by decide); omega, by have := fiC_s p0.toInt p1.toInt p2.toInt; have q0 : (0 : Int32).toInt = 0 := (by decide); have q1 : (1 : Int32).toInt = 1 := (by decide); have q2 : (2 : Int32).toInt = 2 := (by decide); have q3 : (3 : Int32).toInt = 3 := (by decide); have qm : (-1 : Int32).toInt = -1 := (by decide); omega⟩)⟩), by (try dsimp only); rw [ht]; exact ⟨hT, hF, m124⟩⟩, hS.F ht⟩) hS.2.2 dX12_fill_60
def w_s_farmOfC : List Cond := .code yX12_farmOf cX12_farmOf 3 (some .int) :: (HAppend.hAppend (α := List Cond) (β := List Cond) (γ := List Cond) [.fieldLink RX12 498 "SeaLandModel" "farms" "I", .fieldLink RX12 113 "SeaLandModel" "farmFrom" "[I", .fieldLink RX12 116 "SeaLandModel" "farmTo" "[I", .code yX12_isIn cX12_isIn 5 (some .boolean), .methodLink RX12 207 Lib.Math.min.name, .static Lib.Math.min.name, .initialized "java/lang/Math", .code Lib.Math.min.name Lib.Math.min.code 2 (some .int), .methodLink RX12 211 Lib.Math.max.name, .static Lib.Math.max.name, .code Lib.Math.max.name Lib.Math.max.code 2 (some .int), .code yX12_in cX12_in 3 (some .boolean), .methodLink RX12 197 yX12_in, .static yX12_in, .initialized RX12, .methodLink RX12 232 yX12_isIn, .static yX12_isIn] bs)
set_option maxHeartbeats 4000000 in
set_option maxRecDepth 100000 in
theorem s_farmOfC (l : Launch) (dC : Nat → ClassId) (dI : Nat → Nat → Nat) (kA : Nat → ClassId) (adK adV : Nat → Nat) (G : gT) (H0 : Heap) (q : Nat → Nat) (wZ wN : Nat → Int) (wH wB wC : Int) (wL wK : Nat → Prop) (wU wV : Nat → Nat) (PI : Nat → Int → Prop) (im : Int) (PM PT : Nat → Int → Prop) (lS lB lE : Nat → Nat → Int → Prop) (lN : Nat → Int) (o0 : Nat) (sq : Int32) (nf : Int32) (aFr : Nat → Int32) (aTo : Nat → Int32)  (hT : gH (dC, dI) kA (SHm q (wP wZ wN wH wB wC wL wK wU wV) PI im PM PT lS lB lE lN) G H0) (hr_o0 : G o0 = some 0) (hm_nf : el H0 o0 (dI 15 47) = some (.int nf)) (hq0 : 0 ≤ sq.toInt ∧ sq.toInt ≤ 95) (hq1 : 0 ≤ nf.toInt ∧ nf.toInt ≤ 30) (hAB : ∀ f : Nat, ((f : Nat) : Int) < nf.toInt → (0 ≤ (aFr f).toInt ∧ (aFr f).toInt ≤ 95) ∧ (0 ≤ (aTo f).toInt ∧ (aTo f).toInt ≤ 95)) (hc_aFr : ct H0 (q 43) 30 aFr) (hc_aTo : ct H0 (q 44) 30 aTo) (hgz : ∀ i, 0 ≤ wZ i) (hgn : ∀ i, 6500000 ≤ wN i ∧ wN i ≤ 20200000) (hgh : 0 ≤ wH ∧ wH ≤ 40000) (hgb : 0 ≤ wB ∧ wB ≤ 3850000) (hgc : 0 ≤ wC ∧ wC ≤ 30) (hgi : 0 ≤ im ∧ im ≤ 1) (hgu : ∀ a t, G a = some (t + 1) → a = q t) : Met l yX12_farmOf w_s_farmOfC ({ frames := 2, cells := 0, slots := 0, locals := 64 }) (va_Pc [.ref o0, .int sq] (fun U => U.heap = H0 ∧ va_K (dC, dI) vwCl (tyl kA) U ∧ EVS adK adV (gA G H0.size) U U.heap)) (va_Qi (fun (r : Int32) (u : Unit) => (-1 ≤ r.toInt ∧ r.toInt ≤ 29) ∧ ((r.toInt = -1 ∧ ¬ frm aFr aTo nf.toInt sq.toInt) ∨ (0 ≤ r.toInt ∧ frm aFr aTo nf.toInt sq.toInt))) (fun (_ : Unit) (t : State) => gH (dC, dI) kA (SHm q (wP wZ wN wH wB wC wL wK wU wV) PI im PM PT lS lB lE lN) G t.heap ∧ gF (dC, dI) SKm G ([] : List (Nat × Nat)) H0 t.heap) (gA G H0.size)) 0 0 (gA G H0.size) := by
  refine Met.ofW (cc := cX12_farmOf) (maxL := 3) (ret := (some .int)) (by decide) rfl ?_
  intro p e s m args below meth c s₁ B hml hv
  obtain ⟨rfl, hH0, hK, hE⟩ := hv
  have hx := B.exec
  have hb := B.bytes
  have hr := B.returns
  have hts := atoms_spec (ws := w_s_farmOfC) B.pre
  have hown : s.vm.findClass RX12 = some m.cls := findClass_of_methodNamed B.named
  have hlocks := B.notSynchronized
  subst hH0
  generalize hAe : gA G s.heap.size = A at hE ⊢
  have hA : ∀ q : Nat, s.heap.size ≤ q → A q := fun q h => by rw [← hAe]; exact Or.inr h
  have hG := gA_of hAe
  have hS : va_S A s.heap s.heap [] := va_S.rf
  have hF : gF (dC, dI) SKm G ([] : List (Nat × Nat)) s.heap s.heap := gF.rf
  have hl := lv_entry ([.ref o0, .int sq]) (n := 3) (Nat.le_of_ble_eq_true rfl)
  rw [lg_entry_eq]
  generalize (lg_sl ([.ref o0, .int sq]) ++ List.replicate (3 - (lg_sl ([.ref o0, .int sq])).length) Slot.unset).toArray = ls at hl ⊢
  have hl : lv_has ls 3 [(0, .ref o0), (1, .int sq)] := hl
  have hg1 : G (q 43) = some 44 := gx_of hT hr_o0 shm_0 (k := 43) (by decide) rfl
  have hg2 : G (q 44) = some 45 := gx_of hT hr_o0 shm_0 (k := 44) (by decide) rfl
  refine lv_iconst (v := 0) hx hb dX12_farmOf_0 (by decide) ?_
  refine lv_istore_n (lv' := [(2, .int 0), (0, .ref o0), (1, .int sq)]) hx hb dX12_farmOf_1 rfl hl (by decide) rfl (fun ls hl => ?_)
  have key35 : ∀ (n35 i3 : Nat), i3 + n35 = 30 → 0 ≤ i3 → ((∀ f9 : Nat, f9 < i3 → inRb sq.toInt (aFr f9).toInt (aTo f9).toInt = false)) → ∀ (H : Heap) (locs : List Loc), gH (dC, dI) kA (SHm q (wP wZ wN wH wB wC wL wK wU wV) PI im PM PT lS lB lE lN) G H → gF (dC, dI) SKm G ([] : List (Nat × Nat)) s.heap H → va_S A s.heap H locs → ct H (q 43) 30 aFr → ct H (q 44) 30 aTo → el H o0 (dI 15 47) = some (.int nf) → ∀ ls : Array Slot, lv_has ls 3 [(2, .int (nI i3)), (0, .ref o0), (1, .int sq)] → W p l e (headSpec w_s_farmOfC ({ frames := 2, cells := 0, slots := 0, locals := 64 })).room s m #[.ref o0, .int sq] below meth c H locs 0 0 (MQ below (va_Qi (fun (r : Int32) (u : Unit) => (-1 ≤ r.toInt ∧ r.toInt ≤ 29) ∧ ((r.toInt = -1 ∧ ¬ frm aFr aTo nf.toInt sq.toInt) ∨ (0 ≤ r.toInt ∧ frm aFr aTo nf.toInt sq.toInt))) (fun (_ : Unit) (t : State) => gH (dC, dI) kA (SHm q (wP wZ wN wH wB wC wL wK wU wV) PI im PM PT lS lB lE lN) G t.heap ∧ gF (dC, dI) SKm G ([] : List (Nat × Nat)) s.heap t.heap) A) #[.ref o0, .int sq] s 0 0 A) (F0 m 2 ls []) := by
    intro n35
    induction n35 with
    | zero =>
      intro i3 hn35 hlo36 hj7 H locs hT hF hS m4 m5 m6 ls hl
      obtain rfl : 30 = i3 := by omega
      refine lv_iload_n hx hb dX12_farmOf_2 rfl (lv_at hl 0 rfl) ?_
      refine lv_aload_n hx hb dX12_farmOf_3 rfl (lv_at hl 1 rfl) ?_
      refine tw_getM (v := .int nf) hx hb hts bF_X12 hown hK hT hr_o0 shm_0 rfl 47 (by decide) (ht_at hts 0 rfl) (fun _ h9 => h9) m6 dX12_farmOf_4 ?_
      refine lv_icmp_ge (tgt := 37) hx hb dX12_farmOf_7 (by decide) (fun c37 => ?_) (fun c37 => (by exfalso; have q9 : ((30 : Nat) : Int) < nf.toInt := ti_nle c37 rfl (nI_toInt (by omega)); omega))
      have t38 : nf.toInt ≤ ((30 : Nat) : Int) := ti_le c37 rfl (nI_toInt (by omega))
      refine lv_iconst (v := (-1)) hx hb dX12_farmOf_37 (by decide) ?_
      exact W.iret (v := (-1)) hx hb hr (fun t ht hW => ⟨⟨(-1), (), rfl, (by exact ⟨(rg_t (a := (-1)) (by decide) (by first | decide | omega) (by first | decide | omega)), (Or.inl ⟨by decide, frm_no (fun f9 h9 => hj7 f9 (by omega))⟩)⟩), by (try dsimp only); rw [ht]; exact ⟨hT, hF⟩⟩, hS.F ht⟩) hS.2.2 dX12_farmOf_38
    | succ n35 ih35 =>
      intro i3 hn35 hlo36 hj7 H locs hT hF hS m4 m5 m6 ls hl
      have hlt38 : i3 < 30 := by omega
      refine lv_iload_n hx hb dX12_farmOf_2 rfl (lv_at hl 0 rfl) ?_
      refine lv_aload_n hx hb dX12_farmOf_3 rfl (lv_at hl 1 rfl) ?_
      refine tw_getM (v := .int nf) hx hb hts bF_X12 hown hK hT hr_o0 shm_0 rfl 47 (by decide) (ht_at hts 0 rfl) (fun _ h9 => h9) m6 dX12_farmOf_4 ?_
      refine lv_icmp_ge (tgt := 37) hx hb dX12_farmOf_7 (by decide) (fun c39 => ?_) (fun c39 => ?_)
      · have t40 : nf.toInt ≤ ((i3 : Nat) : Int) := ti_le c39 rfl (nI_toInt (by omega))
        refine lv_iconst (v := (-1)) hx hb dX12_farmOf_37 (by decide) ?_
        exact W.iret (v := (-1)) hx hb hr (fun t ht hW => ⟨⟨(-1), (), rfl, (by exact ⟨(rg_t (a := (-1)) (by decide) (by first | decide | omega) (by first | decide | omega)), (Or.inl ⟨by decide, frm_no (fun f9 h9 => hj7 f9 (by omega))⟩)⟩), by (try dsimp only); rw [ht]; exact ⟨hT, hF⟩⟩, hS.F ht⟩) hS.2.2 dX12_farmOf_38
      · have t41 : ((i3 : Nat) : Int) < nf.toInt := ti_nle c39 rfl (nI_toInt (by omega))
        refine lv_iload_n hx hb dX12_farmOf_10 rfl (lv_at hl 2 rfl) ?_
        refine lv_aload_n hx hb dX12_farmOf_11 rfl (lv_at hl 1 rfl) ?_
        refine tw_get hx hb hts bF_X12 hown hK hT hr_o0 shm_0 rfl 43 (by decide) (ht_at hts 1 rfl) (fun _ h9 => h9) dX12_farmOf_12 (fun v9 m42 h9 => ?_)
        obtain ⟨rfl, hg43⟩ := h9 _ rfl
        refine lv_iload_n hx hb dX12_farmOf_15 rfl (lv_at hl 0 rfl) ?_
        refine tw_iald (i := (nI i3)) hx hb hK hT hg1 shm_44 rfl (vp_in_nI (by omega) (by decide)) dX12_farmOf_16 (fun v9 m44 h9 => ?_)
        obtain ⟨x45, rfl, gx45, kx45⟩ := h9
        have cx45 := m4.at m44 (by have q9 := tn_of (show (nI i3).toInt = ((i3 : Nat) : Int) from (nI_toInt (by omega))) (by omega); omega)
        refine lv_aload_n hx hb dX12_farmOf_17 rfl (lv_at hl 1 rfl) ?_
        refine tw_get hx hb hts bF_X12 hown hK hT hr_o0 shm_0 rfl 44 (by decide) (ht_at hts 2 rfl) (fun _ h9 => h9) dX12_farmOf_18 (fun v9 m46 h9 => ?_)
        obtain ⟨rfl, hg47⟩ := h9 _ rfl
        refine lv_iload_n hx hb dX12_farmOf_21 rfl (lv_at hl 0 rfl) ?_
        refine tw_iald (i := (nI i3)) hx hb hK hT hg2 shm_45 rfl (vp_in_nI (by omega) (by decide)) dX12_farmOf_22 (fun v9 m48 h9 => ?_)
        obtain ⟨x49, rfl, gx49, kx49⟩ := h9
        have cx49 := m5.at m48 (by have q9 := tn_of (show (nI i3).toInt = ((i3 : Nat) : Int) from (nI_toInt (by omega))) (by omega); omega)
        have t50 : x45.toInt = (aFr i3).toInt := congrArg Int32.toInt (cx45.trans (by rw [tn_nI (by omega)]))
        have t51 : 0 ≤ (aFr i3).toInt ∧ (aFr i3).toInt ≤ 95 := (hAB i3 (by omega)).1
        have t52 : x49.toInt = (aTo i3).toInt := congrArg Int32.toInt (cx49.trans (by rw [tn_nI (by omega)]))
        have t53 : 0 ≤ (aTo i3).toInt ∧ (aTo i3).toInt ≤ 95 := (hAB i3 (by omega)).2
        have hFc := gA_free hG hA hS
        refine va_calli (va_runS (As := [.int sq, .int x45, .int x49]) (rest := []) ⟨hx, hb, hml, hown, hts⟩ (s_isInE l dC dI kA adK adV G H q wZ wN wH wB wC wL wK wU wV PI im PM PT lS lB lE lN sq x45 x49 hT (by have q8 := ti_all sq; omega) (by have q8 := ti_all x45; omega) (by have q8 := ti_all x49; omega) hgz hgn hgh hgb hgc hgi hgu) (va_cwS 3 hts (goodIn_app (goodIn_r _ [16, 17, 15] rfl (by decide +kernel)) (goodIn_ca (goodIn_r _ [4, 5, 6, 7, 8, 9, 10, 11, 12, 13, 14, 15] rfl (by decide +kernel)) (bs_in _ _))) rfl rfl rfl (by decide +kernel) ⟨(Nat.le_of_ble_eq_true rfl), (Nat.le_of_ble_eq_true rfl)⟩) ⟨fun a U g mk q => by obtain ⟨q0, q1, qK, qE⟩ := q; exact ⟨q0, q1, va_K.moved (u := U) (U := U.calling g mk a) (Vm.Alike.refl U.vm) qK, EVS.blind g mk a qE⟩, fun U hU hW => ⟨rfl, hU, va_K.moved hW.alike hK, hE.call hS hFc hU hW⟩⟩ rfl rfl hl.1 rfl (lv_room (Nat.le_of_ble_eq_true rfl)) dX12_farmOf_23 ⟨(Nat.le_of_ble_eq_true rfl), (Nat.le_of_ble_eq_true rfl)⟩) hS (fun q _ h => hFc q h) hFc (fun r54 u t H locs ht hvm hw55 hB _ _ hS => ?_)
        obtain ⟨hT, hF1⟩ := hB
        rw [ht] at hT hF1
        have m56 := m4.kept (hF1.arr hg1 skm_44 (by decide))
        have m57 := m5.kept (hF1.arr hg2 skm_45 (by decide))
        have m58 := (hF1.fld hr_o0 skm_0 (k := 47) (by decide) (by decide)).trans m6
        have hF := hF.more hF1 (by decide)
        try dsimp only at hw55
        obtain ⟨h61, hf62⟩ := hw55
        refine lv_if_eq (tgt := 31) hx hb dX12_farmOf_26 (by decide) (fun c63 => ?_) (fun c63 => ?_)
        · have t64 : r54.toInt = 0 := ti_eq c63 rfl (by decide)
          refine lv_iinc (v := nI (i3 + 1)) (lv' := [(2, .int (nI (i3 + 1))), (0, .ref o0), (1, .int sq)]) hx hb dX12_farmOf_31 hl (k := 0) rfl (nI_add i3 1) (by decide) rfl (fun ls hl => ?_)
          refine lv_goto (tgt := 2) hx hb dX12_farmOf_34 (by decide) ?_
          exact ih35 (i3 + 1) (by omega) (by omega) (fun f9 h9 => by by_cases e9 : f9 = i3; (· rw [e9]; exact inR_0 (s := sq.toInt) (a := (aFr i3).toInt) (b := (aTo i3).toInt) (by omega)); exact hj7 f9 (by omega)) _ _ hT hF hS m56 m57 m58 ls (lv_sub hl [0, 1, 2] rfl)
        · have t65 : r54.toInt ≠ 0 := ti_ne c63 rfl (by decide)
          refine lv_iload_n hx hb dX12_farmOf_29 rfl (lv_at hl 0 rfl) ?_
          exact W.iret (v := nI i3) hx hb hr (fun t ht hW => ⟨⟨nI i3, (), rfl, (by exact ⟨(rg_t (a := ((i3 : Nat) : Int)) (nI_toInt (by omega)) (by omega) (by omega)), (Or.inr ⟨by have q9 : (nI i3).toInt = ((i3 : Nat) : Int) := nI_toInt (by omega); omega, i3, by omega, inR_1 (s := sq.toInt) (a := (aFr i3).toInt) (b := (aTo i3).toInt) (by omega)⟩)⟩), by (try dsimp only); rw [ht]; exact ⟨hT, hF⟩⟩, hS.F ht⟩) hS.2.2 dX12_farmOf_30
  exact key35 (30 - 0) 0 (by omega) (Nat.le_refl _) (fun f9 h9 => absurd h9 (Nat.not_lt_zero f9)) _ _ hT hF hS hc_aFr hc_aTo hm_nf ls (lv_sub hl [0, 1, 2] rfl)
def w_s_farmC : List Cond := .code yX12_farm cX12_farm 4 (some .int) :: (HAppend.hAppend (α := List Cond) (β := List Cond) (γ := List Cond) [.fieldLink RX12 194 "SeaLandModel" "thrown" "I", .code yX12_noSquare cX12_noSquare 1 (some .boolean), .code yX12_in cX12_in 3 (some .boolean), .methodLink RX12 197 yX12_in, .static yX12_in, .initialized RX12, .methodLink RX12 220 yX12_noSquare, .static yX12_noSquare, .code yX12_throwsIf cX12_throwsIf 3 (some .boolean), .methodLink RX12 224 yX12_throwsIf, .instanceMethod yX12_throwsIf, .selects RX12 yX12_throwsIf yX12_throwsIf, .fieldLink RX12 498 "SeaLandModel" "farms" "I", .fieldLink RX12 113 "SeaLandModel" "farmFrom" "[I", .fieldLink RX12 116 "SeaLandModel" "farmTo" "[I", .fieldLink RX12 122 "SeaLandModel" "holder" "[I", .code yX12_isIn cX12_isIn 5 (some .boolean), .methodLink RX12 207 Lib.Math.min.name, .static Lib.Math.min.name, .initialized "java/lang/Math", .code Lib.Math.min.name Lib.Math.min.code 2 (some .int), .methodLink RX12 211 Lib.Math.max.name, .static Lib.Math.max.name, .code Lib.Math.max.name Lib.Math.max.code 2 (some .int), .methodLink RX12 232 yX12_isIn, .static yX12_isIn, .code yX12_isLand cX12_isLand 2 (some .boolean), .fieldLink RX12 9 "SeaLandModel" "world" "[I", .methodLink RX12 235 yX12_isLand, .instanceMethod yX12_isLand, .selects RX12 yX12_isLand yX12_isLand, .code yX12_farmOf cX12_farmOf 3 (some .int), .methodLink RX12 329 yX12_farmOf, .instanceMethod yX12_farmOf, .selects RX12 yX12_farmOf yX12_farmOf] bs)
