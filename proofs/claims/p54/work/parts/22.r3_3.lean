def w_s_coal : List Cond := .code yX12_coal cX12_coal 3 (some .int) :: (HAppend.hAppend (α := List Cond) (β := List Cond) (γ := List Cond) [.fieldLink RX12 194 "SeaLandModel" "thrown" "I", .code yX12_noWork cX12_noWork 2 (some .boolean), .fieldLink RX12 9 "SeaLandModel" "world" "[I", .code yX12_in cX12_in 3 (some .boolean), .methodLink RX12 197 yX12_in, .static yX12_in, .initialized RX12, .methodLink RX12 269 yX12_noWork, .instanceMethod yX12_noWork, .selects RX12 yX12_noWork yX12_noWork, .code yX12_throwsIf cX12_throwsIf 3 (some .boolean), .methodLink RX12 224 yX12_throwsIf, .instanceMethod yX12_throwsIf, .selects RX12 yX12_throwsIf yX12_throwsIf, .code yX12_of cX12_of 3 (some .int), .code yX12_at cX12_at 2 (some .int), .methodLink RX12 214 yX12_at, .static yX12_at, .methodLink RX12 217 yX12_of, .instanceMethod yX12_of, .selects RX12 yX12_of yX12_of, .fieldLink RX12 238 "SeaLandModel" "rows" "I", .constant RX12 241 100000] bs)
set_option maxHeartbeats 4000000 in
set_option maxRecDepth 100000 in
theorem s_coal (l : Launch) (dC : Nat → ClassId) (dI : Nat → Nat → Nat) (kA : Nat → ClassId) (adK adV : Nat → Nat) (G : gT) (H0 : Heap) (q : Nat → Nat) (wZ wN : Nat → Int) (wH wB wC : Int) (wL wK : Nat → Prop) (wU wV : Nat → Nat) (PI : Nat → Int → Prop) (im : Int) (PM PT : Nat → Int → Prop) (lS lB lE : Nat → Nat → Int → Prop) (lN : Nat → Int) (o0 : Nat) (p0 : Int32) (p1 : Int32)  (hT : gH (dC, dI) kA (SHm q (wP wZ wN wH wB wC wL wK wU wV) PI im PM PT lS lB lE lN) G H0) (hr_o0 : G o0 = some 0) (hgz : ∀ i, 0 ≤ wZ i) (hgn : ∀ i, 6500000 ≤ wN i ∧ wN i ≤ 20200000) (hgh : 0 ≤ wH ∧ wH ≤ 40000) (hgb : 0 ≤ wB ∧ wB ≤ 3850000) (hgc : 0 ≤ wC ∧ wC ≤ 30) (hgi : 0 ≤ im ∧ im ≤ 1) (hgu : ∀ a t, G a = some (t + 1) → a = q t) : Met l yX12_coal w_s_coal ({ frames := 2, cells := 0, slots := 0, locals := 43 }) (va_Pc [.ref o0, .int p0, .int p1] (fun U => U.heap = H0 ∧ va_K (dC, dI) vwCl (tyl kA) U ∧ EVS adK adV (gA G H0.size) U U.heap)) (va_Qi (fun (r : Int32) (u : Unit) => True) (fun (_ : Unit) (t : State) => gH (dC, dI) kA (SHm q (wP wZ wN wH wB wC wL wK wU wV) PI im PM PT lS lB lE lN) G t.heap ∧ gF (dC, dI) SKm G ([(0, 0), (0, 9), (2, 0)] : List (Nat × Nat)) H0 t.heap) (gA G H0.size)) 0 0 (gA G H0.size) := by
  refine Met.ofW (cc := cX12_coal) (maxL := 3) (ret := (some .int)) (by decide) rfl ?_
  intro p e s m args below meth c s₁ B hml hv
  obtain ⟨rfl, hH0, hK, hE⟩ := hv
  have hx := B.exec
  have hb := B.bytes
  have hr := B.returns
  have hts := atoms_spec (ws := w_s_coal) B.pre
  have hown : s.vm.findClass RX12 = some m.cls := findClass_of_methodNamed B.named
  have hlocks := B.notSynchronized
  subst hH0
  generalize hAe : gA G s.heap.size = A at hE ⊢
  have hA : ∀ q : Nat, s.heap.size ≤ q → A q := fun q h => by rw [← hAe]; exact Or.inr h
  have hG := gA_of hAe
  have hS : va_S A s.heap s.heap [] := va_S.rf
  have hF : gF (dC, dI) SKm G ([(0, 0), (0, 9), (2, 0)] : List (Nat × Nat)) s.heap s.heap := gF.rf
  have hl := lv_entry ([.ref o0, .int p0, .int p1]) (n := 3) (Nat.le_of_ble_eq_true rfl)
  rw [lg_entry_eq]
  generalize (lg_sl ([.ref o0, .int p0, .int p1]) ++ List.replicate (3 - (lg_sl ([.ref o0, .int p0, .int p1])).length) Slot.unset).toArray = ls at hl ⊢
  have hl : lv_has ls 3 [(0, .ref o0), (1, .int p0), (2, .int p1)] := hl
  refine lv_aload_n hx hb dX12_coal_0 rfl (lv_at hl 0 rfl) ?_
  refine lv_iconst (v := 0) hx hb dX12_coal_1 (by decide) ?_
  refine tw_put (v := .int 0) (ty := .int) hx hb hts bF_X12 tyX12 tyX12_ok nmX12 hown hK hT hG hS hr_o0 shm_0 rfl 0 (by decide) (ht_at hts 0 rfl) (fun _ h9 => h9) rfl (by decide +kernel) rfl rfl (gl_at rfl (gi_all _)) dX12_coal_2 (fun H locs hT oq m1 oj hS => ?_)
  have hF := hF.put hr_o0 skm_0 oq oj (by decide)
  refine lv_aload_n hx hb dX12_coal_5 rfl (lv_at hl 0 rfl) ?_
  refine lv_aload_n hx hb dX12_coal_6 rfl (lv_at hl 0 rfl) ?_
  refine lv_iload_n hx hb dX12_coal_7 rfl (lv_at hl 1 rfl) ?_
  have hFc := gA_free hG hA hS
  refine va_calli (va_runV (As := [.int p0]) (rest := [.ref o0]) ⟨hx, hb, hml, hown, hts⟩ (s_noWork l dC dI kA adK adV G H q wZ wN wH wB wC wL wK wU wV PI im PM PT lS lB lE lN o0 p0 hT hr_o0 hgz hgn hgh hgb hgc hgi hgu) (cwV 1 hts (goodIn_app (goodIn_r _ [8, 9, 10, 7] rfl (by decide +kernel)) (goodIn_ca (goodIn_r _ [2, 3, 4, 5, 6, 7] rfl (by decide +kernel)) (bs_in _ _))) rfl rfl rfl (by decide +kernel) ⟨(Nat.le_of_ble_eq_true rfl), (Nat.le_of_ble_eq_true rfl)⟩) ⟨fun a U g mk q => by obtain ⟨q0, q1, qK, qE⟩ := q; exact ⟨q0, q1, va_K.moved (u := U) (U := U.calling g mk a) (Vm.Alike.refl U.vm) qK, EVS.blind g mk a qE⟩, gH_rc hK hT hr_o0 shm_0 rfl, fun U hU hW => ⟨rfl, hU, va_K.moved hW.alike hK, hE.call hS hFc hU hW⟩⟩ rfl rfl hl.1 rfl (lv_room (Nat.le_of_ble_eq_true rfl)) dX12_coal_8 ⟨(Nat.le_of_ble_eq_true rfl), (Nat.le_of_ble_eq_true rfl)⟩) hS (fun q _ h => hFc q h) hFc (fun r2 u t H locs ht hvm hw3 hB _ _ hS => ?_)
  obtain ⟨hT, hF1⟩ := hB
  rw [ht] at hT hF1
  have hF := hF.more hF1 (by decide)
  try dsimp only at hw3
  obtain ⟨h5, hi6⟩ := hw3
  refine lv_iconst (v := 1) hx hb dX12_coal_11 (by decide) ?_
  have hFc := gA_free hG hA hS
  refine va_calli (va_runV (As := [.int r2, .int 1]) (rest := []) ⟨hx, hb, hml, hown, hts⟩ (s_throwsIf l dC dI kA adK adV G H q wZ wN wH wB wC wL wK wU wV PI im PM PT lS lB lE lN o0 r2 1 hT hr_o0 (by have q8 := ti_all r2; omega) hgz hgn hgh hgb hgc hgi hgu) (cwV 2 hts (goodIn_app (goodIn_r _ [12, 13, 14, 7] rfl (by decide +kernel)) (goodIn_ca (goodIn_r _ [11, 1] rfl (by decide +kernel)) (bs_in _ _))) rfl rfl rfl (by decide +kernel) ⟨(Nat.le_of_ble_eq_true rfl), (Nat.le_of_ble_eq_true rfl)⟩) ⟨fun a U g mk q => by obtain ⟨q0, q1, qK, qE⟩ := q; exact ⟨q0, q1, va_K.moved (u := U) (U := U.calling g mk a) (Vm.Alike.refl U.vm) qK, EVS.blind g mk a qE⟩, gH_rc hK hT hr_o0 shm_0 rfl, fun U hU hW => ⟨rfl, hU, va_K.moved hW.alike hK, hE.call hS hFc hU hW⟩⟩ rfl rfl hl.1 rfl (lv_room (Nat.le_of_ble_eq_true rfl)) dX12_coal_12 ⟨(Nat.le_of_ble_eq_true rfl), (Nat.le_of_ble_eq_true rfl)⟩) hS (fun q _ h => hFc q h) hFc (fun r7 u t H locs ht hvm hw8 hB _ _ hS => ?_)
  obtain ⟨hT, hF1⟩ := hB
  rw [ht] at hT hF1
  have hF := hF.more hF1 (by decide)
  try dsimp only at hw8
  obtain ⟨h10, hd11⟩ := hw8
  obtain rfl : r2 = r7 := hd11.symm
  refine lv_if_ne (tgt := 89) hx hb dX12_coal_15 (by decide) (fun c12 => ?_) (fun c12 => ?_)
  · have t13 : r2.toInt ≠ 0 := ti_ne c12 rfl (by decide)
    refine lv_iconst (v := 0) hx hb dX12_coal_89 (by decide) ?_
    exact W.iret (v := 0) hx hb hr (fun t ht hW => ⟨⟨0, (), rfl, (by exact trivial), by (try dsimp only); rw [ht]; exact ⟨hT, hF⟩⟩, hS.F ht⟩) hS.2.2 dX12_coal_90
  · have t14 : r2.toInt = 0 := ti_eq c12 rfl (by decide)
    have t15 : 0 ≤ p0.toInt ∧ p0.toInt ≤ 29 ∧ p0.toInt < wC := hi6 c12
    refine lv_aload_n hx hb dX12_coal_18 rfl (lv_at hl 0 rfl) ?_
    refine lv_iload_n hx hb dX12_coal_19 rfl (lv_at hl 2 rfl) ?_
    refine lv_iconst (v := 0) hx hb dX12_coal_20 (by decide) ?_
    refine lv_sipush (v := 10000) hx hb dX12_coal_21 (by decide) ?_
    have hFc := gA_free hG hA hS
    refine va_calli (va_runS (As := [.int p1, .int 0, .int 10000]) (rest := [.ref o0]) ⟨hx, hb, hml, hown, hts⟩ (s_in l dC dI kA adK adV G H q wZ wN wH wB wC wL wK wU wV PI im PM PT lS lB lE lN p1 0 10000 hT hgz hgn hgh hgb hgc hgi hgu) (va_cwS 3 hts (goodIn_app (goodIn_r _ [5, 6, 7] rfl (by decide +kernel)) (goodIn_ca (goodIn_r _ [4] rfl (by decide +kernel)) (bs_in _ _))) rfl rfl rfl (by decide +kernel) ⟨(Nat.le_of_ble_eq_true rfl), (Nat.le_of_ble_eq_true rfl)⟩) ⟨fun a U g mk q => by obtain ⟨q0, q1, qK, qE⟩ := q; exact ⟨q0, q1, va_K.moved (u := U) (U := U.calling g mk a) (Vm.Alike.refl U.vm) qK, EVS.blind g mk a qE⟩, fun U hU hW => ⟨rfl, hU, va_K.moved hW.alike hK, hE.call hS hFc hU hW⟩⟩ rfl rfl hl.1 rfl (lv_room (Nat.le_of_ble_eq_true rfl)) dX12_coal_24 ⟨(Nat.le_of_ble_eq_true rfl), (Nat.le_of_ble_eq_true rfl)⟩) hS (fun q _ h => hFc q h) hFc (fun r16 u t H locs ht hvm hw17 hB _ _ hS => ?_)
    obtain ⟨hT, hF1⟩ := hB
    rw [ht] at hT hF1
    have hF := hF.more hF1 (by decide)
    try dsimp only at hw17
    obtain ⟨h18, hi19, hi20⟩ := hw17
    refine lv_if_eq (tgt := 54) hx hb dX12_coal_27 (by decide) (fun c21 => ?_) (fun c21 => ?_)
    · have t22 : r16.toInt = 0 := ti_eq c21 rfl (by decide)
      have t23 : (10000 : Int32).toInt = 10000 := by decide
      have t24 : (0 : Int32).toInt = 0 := by decide
      have t25 : p1.toInt < (0 : Int32).toInt ∨ (10000 : Int32).toInt < p1.toInt := hi20 c21
      refine lv_iconst (v := 1) hx hb dX12_coal_54 (by decide) ?_
      refine lv_goto (tgt := 59) hx hb dX12_coal_55 (by decide) ?_
      refine lv_iconst (v := 2) hx hb dX12_coal_59 (by decide) ?_
      have hFc := gA_free hG hA hS
      refine va_calli (va_runV (As := [.int 1, .int 2]) (rest := []) ⟨hx, hb, hml, hown, hts⟩ (s_throwsIf l dC dI kA adK adV G H q wZ wN wH wB wC wL wK wU wV PI im PM PT lS lB lE lN o0 1 2 hT hr_o0 (rg_t (a := 1) (by decide) (by first | decide | omega) (by first | decide | omega)) hgz hgn hgh hgb hgc hgi hgu) (cwV 2 hts (goodIn_app (goodIn_r _ [12, 13, 14, 7] rfl (by decide +kernel)) (goodIn_ca (goodIn_r _ [11, 1] rfl (by decide +kernel)) (bs_in _ _))) rfl rfl rfl (by decide +kernel) ⟨(Nat.le_of_ble_eq_true rfl), (Nat.le_of_ble_eq_true rfl)⟩) ⟨fun a U g mk q => by obtain ⟨q0, q1, qK, qE⟩ := q; exact ⟨q0, q1, va_K.moved (u := U) (U := U.calling g mk a) (Vm.Alike.refl U.vm) qK, EVS.blind g mk a qE⟩, gH_rc hK hT hr_o0 shm_0 rfl, fun U hU hW => ⟨rfl, hU, va_K.moved hW.alike hK, hE.call hS hFc hU hW⟩⟩ rfl rfl hl.1 rfl (lv_room (Nat.le_of_ble_eq_true rfl)) dX12_coal_60 ⟨(Nat.le_of_ble_eq_true rfl), (Nat.le_of_ble_eq_true rfl)⟩) hS (fun q _ h => hFc q h) hFc (fun r26 u t H locs ht hvm hw27 hB _ _ hS => ?_)
      obtain ⟨hT, hF1⟩ := hB
      rw [ht] at hT hF1
      have hF := hF.more hF1 (by decide)
      try dsimp only at hw27
      obtain ⟨h28, hd29⟩ := hw27
      obtain rfl : (1 : Int32) = r26 := hd29.symm
      refine lv_if_ne (tgt := 89) hx hb dX12_coal_63 (by decide) (fun c30 => ?_) (fun c30 => absurd c30 (by decide))
      refine lv_iconst (v := 0) hx hb dX12_coal_89 (by decide) ?_
      exact W.iret (v := 0) hx hb hr (fun t ht hW => ⟨⟨0, (), rfl, (by exact trivial), by (try dsimp only); rw [ht]; exact ⟨hT, hF⟩⟩, hS.F ht⟩) hS.2.2 dX12_coal_90
    · have t31 : r16.toInt ≠ 0 := ti_ne c21 rfl (by decide)
      have t32 : (10000 : Int32).toInt = 10000 := by decide
      have t33 : (0 : Int32).toInt = 0 := by decide
      have t34 : (0 : Int32).toInt ≤ p1.toInt ∧ p1.toInt ≤ (10000 : Int32).toInt := hi19 ((bit_of ⟨by omega, by omega⟩).resolve_left c21)
      refine lv_aload_n hx hb dX12_coal_30 rfl (lv_at hl 0 rfl) ?_
      refine lv_iload_n hx hb dX12_coal_31 rfl (lv_at hl 1 rfl) ?_
      refine lv_iconst (v := 0) hx hb dX12_coal_32 (by decide) ?_
      have hFc := gA_free hG hA hS
      refine va_calli (va_runV (As := [.int p0, .int 0]) (rest := [.ref o0]) ⟨hx, hb, hml, hown, hts⟩ (s_of0 l dC dI kA adK adV G H q wZ wN wH wB wC wL wK wU wV PI im PM PT lS lB lE lN o0 p0 hT hr_o0 (by have q8 := ti_all p0; omega) hgz hgn hgh hgb hgc hgi hgu) (cwV 2 hts (goodIn_app (goodIn_r _ [19, 20, 21, 7] rfl (by decide +kernel)) (goodIn_ca (goodIn_r _ [15, 3, 16, 17, 18, 7] rfl (by decide +kernel)) (bs_in _ _))) rfl rfl rfl (by decide +kernel) ⟨(Nat.le_of_ble_eq_true rfl), (Nat.le_of_ble_eq_true rfl)⟩) ⟨fun a U g mk q => by obtain ⟨q0, q1, qK, qE⟩ := q; exact ⟨q0, q1, va_K.moved (u := U) (U := U.calling g mk a) (Vm.Alike.refl U.vm) qK, EVS.blind g mk a qE⟩, gH_rc hK hT hr_o0 shm_0 rfl, fun U hU hW => ⟨rfl, hU, va_K.moved hW.alike hK, hE.call hS hFc hU hW⟩⟩ rfl rfl hl.1 rfl (lv_room (Nat.le_of_ble_eq_true rfl)) dX12_coal_33 ⟨(Nat.le_of_ble_eq_true rfl), (Nat.le_of_ble_eq_true rfl)⟩) hS (fun q _ h => hFc q h) hFc (fun r35 u t H locs ht hvm hw36 hB _ _ hS => ?_)
      obtain ⟨hT, hF1⟩ := hB
      rw [ht] at hT hF1
      have hF := hF.more hF1 (by decide)
      try dsimp only at hw36
      have ⟨ix37, hix37, m38⟩ := hw36
      have hg39 : G (q 1) = some 2 := gx_of hT hr_o0 shm_0 (k := 1) (by decide) rfl
      have m40 := (el_kept (hF1.arr hg39 skm_2 (by decide))).trans m38
      refine lv_iconst (v := 3) hx hb dX12_coal_36 (by decide) ?_
      refine lv_icmp_ne (tgt := 58) hx hb dX12_coal_37 (by decide) (fun c41 => ?_) (fun c41 => ?_)
      · have t42 : r35.toInt ≠ 3 := ti_ne c41 rfl (by decide)
        refine lv_iconst (v := 0) hx hb dX12_coal_58 (by decide) ?_
        refine lv_iconst (v := 2) hx hb dX12_coal_59 (by decide) ?_
        have hFc := gA_free hG hA hS
        refine va_calli (va_runV (As := [.int 0, .int 2]) (rest := []) ⟨hx, hb, hml, hown, hts⟩ (s_throwsIf l dC dI kA adK adV G H q wZ wN wH wB wC wL wK wU wV PI im PM PT lS lB lE lN o0 0 2 hT hr_o0 (rg_t (a := 0) (by decide) (by first | decide | omega) (by first | decide | omega)) hgz hgn hgh hgb hgc hgi hgu) (cwV 2 hts (goodIn_app (goodIn_r _ [12, 13, 14, 7] rfl (by decide +kernel)) (goodIn_ca (goodIn_r _ [11, 1] rfl (by decide +kernel)) (bs_in _ _))) rfl rfl rfl (by decide +kernel) ⟨(Nat.le_of_ble_eq_true rfl), (Nat.le_of_ble_eq_true rfl)⟩) ⟨fun a U g mk q => by obtain ⟨q0, q1, qK, qE⟩ := q; exact ⟨q0, q1, va_K.moved (u := U) (U := U.calling g mk a) (Vm.Alike.refl U.vm) qK, EVS.blind g mk a qE⟩, gH_rc hK hT hr_o0 shm_0 rfl, fun U hU hW => ⟨rfl, hU, va_K.moved hW.alike hK, hE.call hS hFc hU hW⟩⟩ rfl rfl hl.1 rfl (lv_room (Nat.le_of_ble_eq_true rfl)) dX12_coal_60 ⟨(Nat.le_of_ble_eq_true rfl), (Nat.le_of_ble_eq_true rfl)⟩) hS (fun q _ h => hFc q h) hFc (fun r43 u t H locs ht hvm hw44 hB _ _ hS => ?_)
        obtain ⟨hT, hF1⟩ := hB
        rw [ht] at hT hF1
        have m45 := (el_kept (hF1.arr hg39 skm_2 (by decide))).trans m40
        have hF := hF.more hF1 (by decide)
        try dsimp only at hw44
        obtain ⟨h46, hd47⟩ := hw44
        obtain rfl : (0 : Int32) = r43 := hd47.symm
        refine lv_if_ne (tgt := 89) hx hb dX12_coal_63 (by decide) (fun c48 => absurd c48 (by decide)) (fun c48 => ?_)
        refine lv_aload_n hx hb dX12_coal_66 rfl (lv_at hl 0 rfl) ?_
        refine lv_aload_n hx hb dX12_coal_67 rfl (lv_at hl 0 rfl) ?_
        refine lv_iload_n hx hb dX12_coal_68 rfl (lv_at hl 1 rfl) ?_
        refine lv_iconst (v := 0) hx hb dX12_coal_69 (by decide) ?_
        have hFc := gA_free hG hA hS
        refine va_calli (va_runV (As := [.int p0, .int 0]) (rest := [.ref o0]) ⟨hx, hb, hml, hown, hts⟩ (s_of0 l dC dI kA adK adV G H q wZ wN wH wB wC wL wK wU wV PI im PM PT lS lB lE lN o0 p0 hT hr_o0 (by have q8 := ti_all p0; omega) hgz hgn hgh hgb hgc hgi hgu) (cwV 2 hts (goodIn_app (goodIn_r _ [19, 20, 21, 7] rfl (by decide +kernel)) (goodIn_ca (goodIn_r _ [15, 3, 16, 17, 18, 7] rfl (by decide +kernel)) (bs_in _ _))) rfl rfl rfl (by decide +kernel) ⟨(Nat.le_of_ble_eq_true rfl), (Nat.le_of_ble_eq_true rfl)⟩) ⟨fun a U g mk q => by obtain ⟨q0, q1, qK, qE⟩ := q; exact ⟨q0, q1, va_K.moved (u := U) (U := U.calling g mk a) (Vm.Alike.refl U.vm) qK, EVS.blind g mk a qE⟩, gH_rc hK hT hr_o0 shm_0 rfl, fun U hU hW => ⟨rfl, hU, va_K.moved hW.alike hK, hE.call hS hFc hU hW⟩⟩ rfl rfl hl.1 rfl (lv_room (Nat.le_of_ble_eq_true rfl)) dX12_coal_70 ⟨(Nat.le_of_ble_eq_true rfl), (Nat.le_of_ble_eq_true rfl)⟩) hS (fun q _ h => hFc q h) hFc (fun r49 u t H locs ht hvm hw50 hB _ _ hS => ?_)
        obtain ⟨hT, hF1⟩ := hB
        rw [ht] at hT hF1
        have m51 := (el_kept (hF1.arr hg39 skm_2 (by decide))).trans m45
        have hF := hF.more hF1 (by decide)
        try dsimp only at hw50
        have ⟨ix52, hix52, m53⟩ := hw50
        have m54 := (el_kept (hF1.arr hg39 skm_2 (by decide))).trans m53
        obtain rfl : r35 = r49 := (el_same m54 m51 (by have q8 := (show ix37.toInt = ix37.toInt from rfl); omega)).symm
        refine lv_iconst (v := 3) hx hb dX12_coal_73 (by decide) ?_
        refine lv_icmp_eq (tgt := 81) hx hb dX12_coal_74 (by decide) (fun c55 => ?_) (fun c55 => ?_)
        · have t56 : r35.toInt = 3 := ti_eq c55 rfl (by decide)
          refine lv_iconst (v := 0) hx hb dX12_coal_81 (by decide) ?_
          refine lv_iconst (v := 3) hx hb dX12_coal_82 (by decide) ?_
          have hFc := gA_free hG hA hS
          refine va_calli (va_runV (As := [.int 0, .int 3]) (rest := []) ⟨hx, hb, hml, hown, hts⟩ (s_throwsIf l dC dI kA adK adV G H q wZ wN wH wB wC wL wK wU wV PI im PM PT lS lB lE lN o0 0 3 hT hr_o0 (rg_t (a := 0) (by decide) (by first | decide | omega) (by first | decide | omega)) hgz hgn hgh hgb hgc hgi hgu) (cwV 2 hts (goodIn_app (goodIn_r _ [12, 13, 14, 7] rfl (by decide +kernel)) (goodIn_ca (goodIn_r _ [11, 1] rfl (by decide +kernel)) (bs_in _ _))) rfl rfl rfl (by decide +kernel) ⟨(Nat.le_of_ble_eq_true rfl), (Nat.le_of_ble_eq_true rfl)⟩) ⟨fun a U g mk q => by obtain ⟨q0, q1, qK, qE⟩ := q; exact ⟨q0, q1, va_K.moved (u := U) (U := U.calling g mk a) (Vm.Alike.refl U.vm) qK, EVS.blind g mk a qE⟩, gH_rc hK hT hr_o0 shm_0 rfl, fun U hU hW => ⟨rfl, hU, va_K.moved hW.alike hK, hE.call hS hFc hU hW⟩⟩ rfl rfl hl.1 rfl (lv_room (Nat.le_of_ble_eq_true rfl)) dX12_coal_83 ⟨(Nat.le_of_ble_eq_true rfl), (Nat.le_of_ble_eq_true rfl)⟩) hS (fun q _ h => hFc q h) hFc (fun r57 u t H locs ht hvm hw58 hB _ _ hS => ?_)
          obtain ⟨hT, hF1⟩ := hB
          rw [ht] at hT hF1
          have hF := hF.more hF1 (by decide)
          try dsimp only at hw58
          obtain ⟨h60, hd61⟩ := hw58
          obtain rfl : (0 : Int32) = r57 := hd61.symm
          refine lv_if_eq (tgt := 91) hx hb dX12_coal_86 (by decide) (fun c62 => ?_) (fun c62 => absurd c62 (by decide))
          refine lv_aload_n hx hb dX12_coal_91 rfl (lv_at hl 0 rfl) ?_
          refine tw_get hx hb hts bF_X12 hown hK hT hr_o0 shm_0 rfl 1 (by decide) (ht_at hts 2 rfl) (fun _ h9 => h9) dX12_coal_92 (fun v9 m63 h9 => ?_)
          obtain ⟨rfl, hg64⟩ := h9 _ rfl
          refine lv_iload_n hx hb dX12_coal_95 rfl (lv_at hl 1 rfl) ?_
          refine lv_bipush (v := 18) hx hb dX12_coal_96 (by decide) ?_
          have hFc := gA_free hG hA hS
          refine va_calli (va_runS (As := [.int p0, .int 18]) (rest := [.ref (q 1)]) ⟨hx, hb, hml, hown, hts⟩ (s_at l dC dI kA adK adV G H q wZ wN wH wB wC wL wK wU wV PI im PM PT lS lB lE lN p0 18 hT (by have q8 := ti_all p0; omega) (rg_t (a := 18) (by decide) (by first | decide | omega) (by first | decide | omega)) hgz hgn hgh hgb hgc hgi hgu) (va_cwS 2 hts (goodIn_app (goodIn_r _ [17, 18, 7] rfl (by decide +kernel)) (goodIn_ca (goodIn_r _ [16] rfl (by decide +kernel)) (bs_in _ _))) rfl rfl rfl (by decide +kernel) ⟨(Nat.le_of_ble_eq_true rfl), (Nat.le_of_ble_eq_true rfl)⟩) ⟨fun a U g mk q => by obtain ⟨q0, q1, qK, qE⟩ := q; exact ⟨q0, q1, va_K.moved (u := U) (U := U.calling g mk a) (Vm.Alike.refl U.vm) qK, EVS.blind g mk a qE⟩, fun U hU hW => ⟨rfl, hU, va_K.moved hW.alike hK, hE.call hS hFc hU hW⟩⟩ rfl rfl hl.1 rfl (lv_room (Nat.le_of_ble_eq_true rfl)) dX12_coal_98 ⟨(Nat.le_of_ble_eq_true rfl), (Nat.le_of_ble_eq_true rfl)⟩) hS (fun q _ h => hFc q h) hFc (fun r65 u t H locs ht hvm hw66 hB _ _ hS => ?_)
          obtain ⟨hT, hF1⟩ := hB
          rw [ht] at hT hF1
          have hF := hF.more hF1 (by decide)
          try dsimp only at hw66
          obtain ⟨h68, hf69⟩ := hw66
          have t70 : (18 : Int32).toInt = 18 := by decide
          refine lv_dup2_11 hx hb dX12_coal_101 rfl rfl ?_
          refine tw_iald (i := r65) hx hb hK hT hg39 shm_2 rfl (vin_t (a := r65.toInt) rfl (by omega) (by omega)) dX12_coal_102 (fun v9 m71 h9 => ?_)
          obtain ⟨x72, rfl, gx72, kx72⟩ := (gp_at h9 (w_fre (by have q9 := tn_of (show r65.toInt = r65.toInt from rfl) (show (0 : Int) ≤ r65.toInt from by omega); omega)))
          refine lv_iload_n hx hb dX12_coal_103 rfl (lv_at hl 2 rfl) ?_
          refine lv_iadd hx hb dX12_coal_104 ?_
          refine lv_topi (fun x73 ex73 => ?_)
          refine tw_iast (i := r65) (x := x73) hx hb hK hT hG hS hg39 shm_2 rfl (vin_t (a := r65.toInt) rfl (by omega) (by omega)) (gp_of (gi_all _) (w_fre (by have q9 := tn_of (show r65.toInt = r65.toInt from rfl) (show (0 : Int) ≤ r65.toInt from by omega); omega)) (wX_o (by have q9 := tn_of (show r65.toInt = r65.toInt from rfl) (show (0 : Int) ≤ r65.toInt from by omega); omega) (by omega))) dX12_coal_105 (fun H locs hT oq m74 oi hS => ?_)
          have hF := hF.ast hg39 skm_2 oq (by decide)
          refine lv_aload_n hx hb dX12_coal_106 rfl (lv_at hl 0 rfl) ?_
          refine lv_iconst (v := 0) hx hb dX12_coal_107 (by decide) ?_
          refine tw_put (v := .int 0) (ty := .int) hx hb hts bF_X12 tyX12 tyX12_ok nmX12 hown hK hT hG hS hr_o0 shm_0 rfl 9 (by decide) (ht_at hts 21 rfl) (fun _ h9 => h9) rfl (by decide +kernel) rfl rfl (gl_at rfl (gi_of (show (0 : Int32).toInt = 0 from (by decide)) (by first | decide | omega) (by first | decide | omega))) dX12_coal_108 (fun H locs hT oq m76 oj hS => ?_)
          have hF := hF.put hr_o0 skm_0 oq oj (by decide)
          have m78 := (el_kept (oq _ (gne hg39 hr_o0 (by decide)))).trans m74
          refine lv_aload_n hx hb dX12_coal_111 rfl (lv_at hl 0 rfl) ?_
          refine lv_iload_n hx hb dX12_coal_112 rfl (lv_at hl 1 rfl) ?_
          refine lv_bipush (v := 18) hx hb dX12_coal_113 (by decide) ?_
          have hFc := gA_free hG hA hS
          refine va_calli (va_runV (As := [.int p0, .int 18]) (rest := []) ⟨hx, hb, hml, hown, hts⟩ (s_of18 l dC dI kA adK adV G H q wZ wN wH wB wC wL wK wU wV PI im PM PT lS lB lE lN o0 p0 hT hr_o0 (by have q8 := ti_all p0; omega) hgz hgn hgh hgb hgc hgi hgu) (cwV 2 hts (goodIn_app (goodIn_r _ [19, 20, 21, 7] rfl (by decide +kernel)) (goodIn_ca (goodIn_r _ [15, 3, 16, 17, 18, 7] rfl (by decide +kernel)) (bs_in _ _))) rfl rfl rfl (by decide +kernel) ⟨(Nat.le_of_ble_eq_true rfl), (Nat.le_of_ble_eq_true rfl)⟩) ⟨fun a U g mk q => by obtain ⟨q0, q1, qK, qE⟩ := q; exact ⟨q0, q1, va_K.moved (u := U) (U := U.calling g mk a) (Vm.Alike.refl U.vm) qK, EVS.blind g mk a qE⟩, gH_rc hK hT hr_o0 shm_0 rfl, fun U hU hW => ⟨rfl, hU, va_K.moved hW.alike hK, hE.call hS hFc hU hW⟩⟩ rfl rfl hl.1 rfl (lv_room (Nat.le_of_ble_eq_true rfl)) dX12_coal_115 ⟨(Nat.le_of_ble_eq_true rfl), (Nat.le_of_ble_eq_true rfl)⟩) hS (fun q _ h => hFc q h) hFc (fun r79 u t H locs ht hvm hw80 hB _ _ hS => ?_)
          obtain ⟨hT, hF1⟩ := hB
          rw [ht] at hT hF1
          have m82 := (el_kept (hF1.arr hg39 skm_2 (by decide))).trans m78
          have hF := hF.more hF1 (by decide)
          try dsimp only at hw80
          have ⟨ix84, hix84, m85⟩ := hw80
          have m86 := (el_kept (hF1.arr hg39 skm_2 (by decide))).trans m85
          obtain rfl : x73 = r79 := (el_same m86 m82 (by have q8 := (show r65.toInt = r65.toInt from rfl); omega)).symm
          exact W.iret (v := x73) hx hb hr (fun t ht hW => ⟨⟨x73, (), rfl, (by exact trivial), by (try dsimp only); rw [ht]; exact ⟨hT, hF⟩⟩, hS.F ht⟩) hS.2.2 dX12_coal_118
        · have t87 : r35.toInt ≠ 3 := ti_ne c55 rfl (by decide)
          refine lv_iconst (v := 1) hx hb dX12_coal_77 (by decide) ?_
          refine lv_goto (tgt := 82) hx hb dX12_coal_78 (by decide) ?_
          refine lv_iconst (v := 3) hx hb dX12_coal_82 (by decide) ?_
          have hFc := gA_free hG hA hS
          refine va_calli (va_runV (As := [.int 1, .int 3]) (rest := []) ⟨hx, hb, hml, hown, hts⟩ (s_throwsIf l dC dI kA adK adV G H q wZ wN wH wB wC wL wK wU wV PI im PM PT lS lB lE lN o0 1 3 hT hr_o0 (rg_t (a := 1) (by decide) (by first | decide | omega) (by first | decide | omega)) hgz hgn hgh hgb hgc hgi hgu) (cwV 2 hts (goodIn_app (goodIn_r _ [12, 13, 14, 7] rfl (by decide +kernel)) (goodIn_ca (goodIn_r _ [11, 1] rfl (by decide +kernel)) (bs_in _ _))) rfl rfl rfl (by decide +kernel) ⟨(Nat.le_of_ble_eq_true rfl), (Nat.le_of_ble_eq_true rfl)⟩) ⟨fun a U g mk q => by obtain ⟨q0, q1, qK, qE⟩ := q; exact ⟨q0, q1, va_K.moved (u := U) (U := U.calling g mk a) (Vm.Alike.refl U.vm) qK, EVS.blind g mk a qE⟩, gH_rc hK hT hr_o0 shm_0 rfl, fun U hU hW => ⟨rfl, hU, va_K.moved hW.alike hK, hE.call hS hFc hU hW⟩⟩ rfl rfl hl.1 rfl (lv_room (Nat.le_of_ble_eq_true rfl)) dX12_coal_83 ⟨(Nat.le_of_ble_eq_true rfl), (Nat.le_of_ble_eq_true rfl)⟩) hS (fun q _ h => hFc q h) hFc (fun r88 u t H locs ht hvm hw89 hB _ _ hS => ?_)
          obtain ⟨hT, hF1⟩ := hB
          rw [ht] at hT hF1
          have hF := hF.more hF1 (by decide)
          try dsimp only at hw89
          obtain ⟨h91, hd92⟩ := hw89
          obtain rfl : (1 : Int32) = r88 := hd92.symm
          refine lv_if_eq (tgt := 91) hx hb dX12_coal_86 (by decide) (fun c93 => absurd c93 (by decide)) (fun c93 => ?_)
          refine lv_iconst (v := 0) hx hb dX12_coal_89 (by decide) ?_
          exact W.iret (v := 0) hx hb hr (fun t ht hW => ⟨⟨0, (), rfl, (by exact trivial), by (try dsimp only); rw [ht]; exact ⟨hT, hF⟩⟩, hS.F ht⟩) hS.2.2 dX12_coal_90
      · have t94 : r35.toInt = 3 := ti_eq c41 rfl (by decide)
        refine lv_aload_n hx hb dX12_coal_40 rfl (lv_at hl 0 rfl) ?_
        refine lv_iload_n hx hb dX12_coal_41 rfl (lv_at hl 1 rfl) ?_
        refine lv_bipush (v := 18) hx hb dX12_coal_42 (by decide) ?_
        have hFc := gA_free hG hA hS
        refine va_calli (va_runV (As := [.int p0, .int 18]) (rest := [.ref o0]) ⟨hx, hb, hml, hown, hts⟩ (s_of18 l dC dI kA adK adV G H q wZ wN wH wB wC wL wK wU wV PI im PM PT lS lB lE lN o0 p0 hT hr_o0 (by have q8 := ti_all p0; omega) hgz hgn hgh hgb hgc hgi hgu) (cwV 2 hts (goodIn_app (goodIn_r _ [19, 20, 21, 7] rfl (by decide +kernel)) (goodIn_ca (goodIn_r _ [15, 3, 16, 17, 18, 7] rfl (by decide +kernel)) (bs_in _ _))) rfl rfl rfl (by decide +kernel) ⟨(Nat.le_of_ble_eq_true rfl), (Nat.le_of_ble_eq_true rfl)⟩) ⟨fun a U g mk q => by obtain ⟨q0, q1, qK, qE⟩ := q; exact ⟨q0, q1, va_K.moved (u := U) (U := U.calling g mk a) (Vm.Alike.refl U.vm) qK, EVS.blind g mk a qE⟩, gH_rc hK hT hr_o0 shm_0 rfl, fun U hU hW => ⟨rfl, hU, va_K.moved hW.alike hK, hE.call hS hFc hU hW⟩⟩ rfl rfl hl.1 rfl (lv_room (Nat.le_of_ble_eq_true rfl)) dX12_coal_44 ⟨(Nat.le_of_ble_eq_true rfl), (Nat.le_of_ble_eq_true rfl)⟩) hS (fun q _ h => hFc q h) hFc (fun r95 u t H locs ht hvm hw96 hB _ _ hS => ?_)
        obtain ⟨hT, hF1⟩ := hB
        rw [ht] at hT hF1
        have m97 := (el_kept (hF1.arr hg39 skm_2 (by decide))).trans m40
        have hF := hF.more hF1 (by decide)
        try dsimp only at hw96
        have ⟨ix98, hix98, m99⟩ := hw96
        have m100 := (el_kept (hF1.arr hg39 skm_2 (by decide))).trans m99
        refine lv_iload_n hx hb dX12_coal_47 rfl (lv_at hl 2 rfl) ?_
        refine lv_iadd hx hb dX12_coal_48 ?_
        refine lv_topi (fun x101 ex101 => ?_)
        refine lv_ldc (v := 100000) hx hb hown (ht_at hts 22 rfl) dX12_coal_49 ?_
        refine lv_icmp_le (tgt := 58) hx hb dX12_coal_51 (by decide) (fun c102 => ?_) (fun c102 => ?_)
        · have t103 : x101.toInt ≤ 100000 := ti_le c102 rfl (by decide)
          refine lv_iconst (v := 0) hx hb dX12_coal_58 (by decide) ?_
          refine lv_iconst (v := 2) hx hb dX12_coal_59 (by decide) ?_
          have hFc := gA_free hG hA hS
          refine va_calli (va_runV (As := [.int 0, .int 2]) (rest := []) ⟨hx, hb, hml, hown, hts⟩ (s_throwsIf l dC dI kA adK adV G H q wZ wN wH wB wC wL wK wU wV PI im PM PT lS lB lE lN o0 0 2 hT hr_o0 (rg_t (a := 0) (by decide) (by first | decide | omega) (by first | decide | omega)) hgz hgn hgh hgb hgc hgi hgu) (cwV 2 hts (goodIn_app (goodIn_r _ [12, 13, 14, 7] rfl (by decide +kernel)) (goodIn_ca (goodIn_r _ [11, 1] rfl (by decide +kernel)) (bs_in _ _))) rfl rfl rfl (by decide +kernel) ⟨(Nat.le_of_ble_eq_true rfl), (Nat.le_of_ble_eq_true rfl)⟩) ⟨fun a U g mk q => by obtain ⟨q0, q1, qK, qE⟩ := q; exact ⟨q0, q1, va_K.moved (u := U) (U := U.calling g mk a) (Vm.Alike.refl U.vm) qK, EVS.blind g mk a qE⟩, gH_rc hK hT hr_o0 shm_0 rfl, fun U hU hW => ⟨rfl, hU, va_K.moved hW.alike hK, hE.call hS hFc hU hW⟩⟩ rfl rfl hl.1 rfl (lv_room (Nat.le_of_ble_eq_true rfl)) dX12_coal_60 ⟨(Nat.le_of_ble_eq_true rfl), (Nat.le_of_ble_eq_true rfl)⟩) hS (fun q _ h => hFc q h) hFc (fun r104 u t H locs ht hvm hw105 hB _ _ hS => ?_)
          obtain ⟨hT, hF1⟩ := hB
          rw [ht] at hT hF1
          have m106 := (el_kept (hF1.arr hg39 skm_2 (by decide))).trans m97
          have m107 := (el_kept (hF1.arr hg39 skm_2 (by decide))).trans m100
          have hF := hF.more hF1 (by decide)
          try dsimp only at hw105
          obtain ⟨h108, hd109⟩ := hw105
          obtain rfl : (0 : Int32) = r104 := hd109.symm
          refine lv_if_ne (tgt := 89) hx hb dX12_coal_63 (by decide) (fun c110 => absurd c110 (by decide)) (fun c110 => ?_)
          refine lv_aload_n hx hb dX12_coal_66 rfl (lv_at hl 0 rfl) ?_
          refine lv_aload_n hx hb dX12_coal_67 rfl (lv_at hl 0 rfl) ?_
          refine lv_iload_n hx hb dX12_coal_68 rfl (lv_at hl 1 rfl) ?_
          refine lv_iconst (v := 0) hx hb dX12_coal_69 (by decide) ?_
          have hFc := gA_free hG hA hS
          refine va_calli (va_runV (As := [.int p0, .int 0]) (rest := [.ref o0]) ⟨hx, hb, hml, hown, hts⟩ (s_of0 l dC dI kA adK adV G H q wZ wN wH wB wC wL wK wU wV PI im PM PT lS lB lE lN o0 p0 hT hr_o0 (by have q8 := ti_all p0; omega) hgz hgn hgh hgb hgc hgi hgu) (cwV 2 hts (goodIn_app (goodIn_r _ [19, 20, 21, 7] rfl (by decide +kernel)) (goodIn_ca (goodIn_r _ [15, 3, 16, 17, 18, 7] rfl (by decide +kernel)) (bs_in _ _))) rfl rfl rfl (by decide +kernel) ⟨(Nat.le_of_ble_eq_true rfl), (Nat.le_of_ble_eq_true rfl)⟩) ⟨fun a U g mk q => by obtain ⟨q0, q1, qK, qE⟩ := q; exact ⟨q0, q1, va_K.moved (u := U) (U := U.calling g mk a) (Vm.Alike.refl U.vm) qK, EVS.blind g mk a qE⟩, gH_rc hK hT hr_o0 shm_0 rfl, fun U hU hW => ⟨rfl, hU, va_K.moved hW.alike hK, hE.call hS hFc hU hW⟩⟩ rfl rfl hl.1 rfl (lv_room (Nat.le_of_ble_eq_true rfl)) dX12_coal_70 ⟨(Nat.le_of_ble_eq_true rfl), (Nat.le_of_ble_eq_true rfl)⟩) hS (fun q _ h => hFc q h) hFc (fun r111 u t H locs ht hvm hw112 hB _ _ hS => ?_)
          obtain ⟨hT, hF1⟩ := hB
          rw [ht] at hT hF1
          have m113 := (el_kept (hF1.arr hg39 skm_2 (by decide))).trans m106
          have m114 := (el_kept (hF1.arr hg39 skm_2 (by decide))).trans m107
          have hF := hF.more hF1 (by decide)
          try dsimp only at hw112
          have ⟨ix115, hix115, m116⟩ := hw112
          have m117 := (el_kept (hF1.arr hg39 skm_2 (by decide))).trans m116
          obtain rfl : r35 = r111 := (el_same m117 m113 (by have q8 := (show ix37.toInt = ix37.toInt from rfl); omega)).symm
          refine lv_iconst (v := 3) hx hb dX12_coal_73 (by decide) ?_
          refine lv_icmp_eq (tgt := 81) hx hb dX12_coal_74 (by decide) (fun c118 => ?_) (fun c118 => (by exfalso; have q9 : r35.toInt ≠ 3 := ti_ne c118 rfl (by decide); omega))
          have t119 : r35.toInt = 3 := ti_eq c118 rfl (by decide)
          refine lv_iconst (v := 0) hx hb dX12_coal_81 (by decide) ?_
          refine lv_iconst (v := 3) hx hb dX12_coal_82 (by decide) ?_
          have hFc := gA_free hG hA hS
          refine va_calli (va_runV (As := [.int 0, .int 3]) (rest := []) ⟨hx, hb, hml, hown, hts⟩ (s_throwsIf l dC dI kA adK adV G H q wZ wN wH wB wC wL wK wU wV PI im PM PT lS lB lE lN o0 0 3 hT hr_o0 (rg_t (a := 0) (by decide) (by first | decide | omega) (by first | decide | omega)) hgz hgn hgh hgb hgc hgi hgu) (cwV 2 hts (goodIn_app (goodIn_r _ [12, 13, 14, 7] rfl (by decide +kernel)) (goodIn_ca (goodIn_r _ [11, 1] rfl (by decide +kernel)) (bs_in _ _))) rfl rfl rfl (by decide +kernel) ⟨(Nat.le_of_ble_eq_true rfl), (Nat.le_of_ble_eq_true rfl)⟩) ⟨fun a U g mk q => by obtain ⟨q0, q1, qK, qE⟩ := q; exact ⟨q0, q1, va_K.moved (u := U) (U := U.calling g mk a) (Vm.Alike.refl U.vm) qK, EVS.blind g mk a qE⟩, gH_rc hK hT hr_o0 shm_0 rfl, fun U hU hW => ⟨rfl, hU, va_K.moved hW.alike hK, hE.call hS hFc hU hW⟩⟩ rfl rfl hl.1 rfl (lv_room (Nat.le_of_ble_eq_true rfl)) dX12_coal_83 ⟨(Nat.le_of_ble_eq_true rfl), (Nat.le_of_ble_eq_true rfl)⟩) hS (fun q _ h => hFc q h) hFc (fun r120 u t H locs ht hvm hw121 hB _ _ hS => ?_)
          obtain ⟨hT, hF1⟩ := hB
          rw [ht] at hT hF1
          have m123 := (el_kept (hF1.arr hg39 skm_2 (by decide))).trans m114
          have hF := hF.more hF1 (by decide)
          try dsimp only at hw121
          obtain ⟨h124, hd125⟩ := hw121
          obtain rfl : (0 : Int32) = r120 := hd125.symm
          refine lv_if_eq (tgt := 91) hx hb dX12_coal_86 (by decide) (fun c126 => ?_) (fun c126 => absurd c126 (by decide))
          refine lv_aload_n hx hb dX12_coal_91 rfl (lv_at hl 0 rfl) ?_
          refine tw_get hx hb hts bF_X12 hown hK hT hr_o0 shm_0 rfl 1 (by decide) (ht_at hts 2 rfl) (fun _ h9 => h9) dX12_coal_92 (fun v9 m127 h9 => ?_)
          obtain ⟨rfl, hg128⟩ := h9 _ rfl
          refine lv_iload_n hx hb dX12_coal_95 rfl (lv_at hl 1 rfl) ?_
          refine lv_bipush (v := 18) hx hb dX12_coal_96 (by decide) ?_
          have hFc := gA_free hG hA hS
          refine va_calli (va_runS (As := [.int p0, .int 18]) (rest := [.ref (q 1)]) ⟨hx, hb, hml, hown, hts⟩ (s_at l dC dI kA adK adV G H q wZ wN wH wB wC wL wK wU wV PI im PM PT lS lB lE lN p0 18 hT (by have q8 := ti_all p0; omega) (rg_t (a := 18) (by decide) (by first | decide | omega) (by first | decide | omega)) hgz hgn hgh hgb hgc hgi hgu) (va_cwS 2 hts (goodIn_app (goodIn_r _ [17, 18, 7] rfl (by decide +kernel)) (goodIn_ca (goodIn_r _ [16] rfl (by decide +kernel)) (bs_in _ _))) rfl rfl rfl (by decide +kernel) ⟨(Nat.le_of_ble_eq_true rfl), (Nat.le_of_ble_eq_true rfl)⟩) ⟨fun a U g mk q => by obtain ⟨q0, q1, qK, qE⟩ := q; exact ⟨q0, q1, va_K.moved (u := U) (U := U.calling g mk a) (Vm.Alike.refl U.vm) qK, EVS.blind g mk a qE⟩, fun U hU hW => ⟨rfl, hU, va_K.moved hW.alike hK, hE.call hS hFc hU hW⟩⟩ rfl rfl hl.1 rfl (lv_room (Nat.le_of_ble_eq_true rfl)) dX12_coal_98 ⟨(Nat.le_of_ble_eq_true rfl), (Nat.le_of_ble_eq_true rfl)⟩) hS (fun q _ h => hFc q h) hFc (fun r129 u t H locs ht hvm hw130 hB _ _ hS => ?_)
          obtain ⟨hT, hF1⟩ := hB
          rw [ht] at hT hF1
          have m132 := (el_kept (hF1.arr hg39 skm_2 (by decide))).trans m123
          have hF := hF.more hF1 (by decide)
          try dsimp only at hw130
          obtain ⟨h133, hf134⟩ := hw130
          have t135 : (18 : Int32).toInt = 18 := by decide
          refine lv_dup2_11 hx hb dX12_coal_101 rfl rfl ?_
          refine tw_iald (i := r129) hx hb hK hT hg39 shm_2 rfl (vin_t (a := r129.toInt) rfl (by omega) (by omega)) dX12_coal_102 (fun v9 m136 h9 => ?_)
          obtain ⟨x137, rfl, gx137, kx137⟩ := (gp_at h9 (w_fre (by have q9 := tn_of (show r129.toInt = r129.toInt from rfl) (show (0 : Int) ≤ r129.toInt from by omega); omega)))
          obtain rfl : r95 = x137 := (el_same m136 m132 (show r129.toInt = ix98.toInt from by rw []; try omega)).symm
          refine lv_iload_n hx hb dX12_coal_103 rfl (lv_at hl 2 rfl) ?_
          refine lv_iadd hx hb dX12_coal_104 ?_
          refine lv_topi (fun x138 ex138 => ?_)
          refine tw_iast (i := r129) (x := x138) hx hb hK hT hG hS hg39 shm_2 rfl (vin_t (a := r129.toInt) rfl (by omega) (by omega)) (gp_of (gi_all _) (w_fre (by have q9 := tn_of (show r129.toInt = r129.toInt from rfl) (show (0 : Int) ≤ r129.toInt from by omega); omega)) (wX_o (by have q9 := tn_of (show r129.toInt = r129.toInt from rfl) (show (0 : Int) ≤ r129.toInt from by omega); omega) (by omega))) dX12_coal_105 (fun H locs hT oq m139 oi hS => ?_)
          have hF := hF.ast hg39 skm_2 oq (by decide)
          refine lv_aload_n hx hb dX12_coal_106 rfl (lv_at hl 0 rfl) ?_
          refine lv_iconst (v := 0) hx hb dX12_coal_107 (by decide) ?_
          refine tw_put (v := .int 0) (ty := .int) hx hb hts bF_X12 tyX12 tyX12_ok nmX12 hown hK hT hG hS hr_o0 shm_0 rfl 9 (by decide) (ht_at hts 21 rfl) (fun _ h9 => h9) rfl (by decide +kernel) rfl rfl (gl_at rfl (gi_of (show (0 : Int32).toInt = 0 from (by decide)) (by first | decide | omega) (by first | decide | omega))) dX12_coal_108 (fun H locs hT oq m141 oj hS => ?_)
          have hF := hF.put hr_o0 skm_0 oq oj (by decide)
          have m143 := (el_kept (oq _ (gne hg39 hr_o0 (by decide)))).trans m139
          refine lv_aload_n hx hb dX12_coal_111 rfl (lv_at hl 0 rfl) ?_
          refine lv_iload_n hx hb dX12_coal_112 rfl (lv_at hl 1 rfl) ?_
          refine lv_bipush (v := 18) hx hb dX12_coal_113 (by decide) ?_
          have hFc := gA_free hG hA hS
          refine va_calli (va_runV (As := [.int p0, .int 18]) (rest := []) ⟨hx, hb, hml, hown, hts⟩ (s_of18 l dC dI kA adK adV G H q wZ wN wH wB wC wL wK wU wV PI im PM PT lS lB lE lN o0 p0 hT hr_o0 (by have q8 := ti_all p0; omega) hgz hgn hgh hgb hgc hgi hgu) (cwV 2 hts (goodIn_app (goodIn_r _ [19, 20, 21, 7] rfl (by decide +kernel)) (goodIn_ca (goodIn_r _ [15, 3, 16, 17, 18, 7] rfl (by decide +kernel)) (bs_in _ _))) rfl rfl rfl (by decide +kernel) ⟨(Nat.le_of_ble_eq_true rfl), (Nat.le_of_ble_eq_true rfl)⟩) ⟨fun a U g mk q => by obtain ⟨q0, q1, qK, qE⟩ := q; exact ⟨q0, q1, va_K.moved (u := U) (U := U.calling g mk a) (Vm.Alike.refl U.vm) qK, EVS.blind g mk a qE⟩, gH_rc hK hT hr_o0 shm_0 rfl, fun U hU hW => ⟨rfl, hU, va_K.moved hW.alike hK, hE.call hS hFc hU hW⟩⟩ rfl rfl hl.1 rfl (lv_room (Nat.le_of_ble_eq_true rfl)) dX12_coal_115 ⟨(Nat.le_of_ble_eq_true rfl), (Nat.le_of_ble_eq_true rfl)⟩) hS (fun q _ h => hFc q h) hFc (fun r144 u t H locs ht hvm hw145 hB _ _ hS => ?_)
          obtain ⟨hT, hF1⟩ := hB
          rw [ht] at hT hF1
          have m147 := (el_kept (hF1.arr hg39 skm_2 (by decide))).trans m143
          have hF := hF.more hF1 (by decide)
          try dsimp only at hw145
          have ⟨ix149, hix149, m150⟩ := hw145
          have m151 := (el_kept (hF1.arr hg39 skm_2 (by decide))).trans m150
          obtain rfl : x138 = r144 := (el_same m151 m147 (by have q8 := (show r129.toInt = r129.toInt from rfl); omega)).symm
          exact W.iret (v := x138) hx hb hr (fun t ht hW => ⟨⟨x138, (), rfl, (by exact trivial), by (try dsimp only); rw [ht]; exact ⟨hT, hF⟩⟩, hS.F ht⟩) hS.2.2 dX12_coal_118
        · have t152 : 100000 < x101.toInt := ti_nle c102 rfl (by decide)
          refine lv_iconst (v := 1) hx hb dX12_coal_54 (by decide) ?_
          refine lv_goto (tgt := 59) hx hb dX12_coal_55 (by decide) ?_
          refine lv_iconst (v := 2) hx hb dX12_coal_59 (by decide) ?_
          have hFc := gA_free hG hA hS
          refine va_calli (va_runV (As := [.int 1, .int 2]) (rest := []) ⟨hx, hb, hml, hown, hts⟩ (s_throwsIf l dC dI kA adK adV G H q wZ wN wH wB wC wL wK wU wV PI im PM PT lS lB lE lN o0 1 2 hT hr_o0 (rg_t (a := 1) (by decide) (by first | decide | omega) (by first | decide | omega)) hgz hgn hgh hgb hgc hgi hgu) (cwV 2 hts (goodIn_app (goodIn_r _ [12, 13, 14, 7] rfl (by decide +kernel)) (goodIn_ca (goodIn_r _ [11, 1] rfl (by decide +kernel)) (bs_in _ _))) rfl rfl rfl (by decide +kernel) ⟨(Nat.le_of_ble_eq_true rfl), (Nat.le_of_ble_eq_true rfl)⟩) ⟨fun a U g mk q => by obtain ⟨q0, q1, qK, qE⟩ := q; exact ⟨q0, q1, va_K.moved (u := U) (U := U.calling g mk a) (Vm.Alike.refl U.vm) qK, EVS.blind g mk a qE⟩, gH_rc hK hT hr_o0 shm_0 rfl, fun U hU hW => ⟨rfl, hU, va_K.moved hW.alike hK, hE.call hS hFc hU hW⟩⟩ rfl rfl hl.1 rfl (lv_room (Nat.le_of_ble_eq_true rfl)) dX12_coal_60 ⟨(Nat.le_of_ble_eq_true rfl), (Nat.le_of_ble_eq_true rfl)⟩) hS (fun q _ h => hFc q h) hFc (fun r153 u t H locs ht hvm hw154 hB _ _ hS => ?_)
          obtain ⟨hT, hF1⟩ := hB
          rw [ht] at hT hF1
          have hF := hF.more hF1 (by decide)
          try dsimp only at hw154
          obtain ⟨h157, hd158⟩ := hw154
          obtain rfl : (1 : Int32) = r153 := hd158.symm
          refine lv_if_ne (tgt := 89) hx hb dX12_coal_63 (by decide) (fun c159 => ?_) (fun c159 => absurd c159 (by decide))
          refine lv_iconst (v := 0) hx hb dX12_coal_89 (by decide) ?_
          exact W.iret (v := 0) hx hb hr (fun t ht hW => ⟨⟨0, (), rfl, (by exact trivial), by (try dsimp only); rw [ht]; exact ⟨hT, hF⟩⟩, hS.F ht⟩) hS.2.2 dX12_coal_90
def w_s_work : List Cond := .code yX12_work cX12_work 4 (some .int) :: (HAppend.hAppend (α := List Cond) (β := List Cond) (γ := List Cond) [.fieldLink RX12 194 "SeaLandModel" "thrown" "I", .code yX12_noWork cX12_noWork 2 (some .boolean), .fieldLink RX12 9 "SeaLandModel" "world" "[I", .code yX12_in cX12_in 3 (some .boolean), .methodLink RX12 197 yX12_in, .static yX12_in, .initialized RX12, .methodLink RX12 269 yX12_noWork, .instanceMethod yX12_noWork, .selects RX12 yX12_noWork yX12_noWork, .code yX12_throwsIf cX12_throwsIf 3 (some .boolean), .methodLink RX12 224 yX12_throwsIf, .instanceMethod yX12_throwsIf, .selects RX12 yX12_throwsIf yX12_throwsIf, .code yX12_of cX12_of 3 (some .int), .code yX12_at cX12_at 2 (some .int), .methodLink RX12 214 yX12_at, .static yX12_at, .methodLink RX12 217 yX12_of, .instanceMethod yX12_of, .selects RX12 yX12_of yX12_of, .code yX12_crest cX12_crest 4 (some .int), .methodLink RX12 282 yX12_crest, .instanceMethod yX12_crest, .selects RX12 yX12_crest yX12_crest, .code yX12_isDike cX12_isDike 2 (some .boolean), .methodLink RX12 272 yX12_isDike, .instanceMethod yX12_isDike, .selects RX12 yX12_isDike yX12_isDike] bs)
set_option maxHeartbeats 4000000 in
set_option maxRecDepth 100000 in
theorem s_work (l : Launch) (dC : Nat → ClassId) (dI : Nat → Nat → Nat) (kA : Nat → ClassId) (adK adV : Nat → Nat) (G : gT) (H0 : Heap) (q : Nat → Nat) (wZ wN : Nat → Int) (wH wB wC : Int) (wL wK : Nat → Prop) (wU wV : Nat → Nat) (PI : Nat → Int → Prop) (im : Int) (PM PT : Nat → Int → Prop) (lS lB lE : Nat → Nat → Int → Prop) (lN : Nat → Int) (o0 : Nat) (p0 : Int32) (p1 : Int32)  (hT : gH (dC, dI) kA (SHm q (wP wZ wN wH wB wC wL wK wU wV) PI im PM PT lS lB lE lN) G H0) (hr_o0 : G o0 = some 0) (hgz : ∀ i, 0 ≤ wZ i) (hgn : ∀ i, 6500000 ≤ wN i ∧ wN i ≤ 20200000) (hgh : 0 ≤ wH ∧ wH ≤ 40000) (hgb : 0 ≤ wB ∧ wB ≤ 3850000) (hgc : 0 ≤ wC ∧ wC ≤ 30) (hgi : 0 ≤ im ∧ im ≤ 1) (hgu : ∀ a t, G a = some (t + 1) → a = q t) : Met l yX12_work w_s_work ({ frames := 3, cells := 0, slots := 0, locals := 66 }) (va_Pc [.ref o0, .int p0, .int p1] (fun U => U.heap = H0 ∧ va_K (dC, dI) vwCl (tyl kA) U ∧ EVS adK adV (gA G H0.size) U U.heap)) (va_Qi (fun (r : Int32) (u : Unit) => True) (fun (_ : Unit) (t : State) => gH (dC, dI) kA (SHm q (wP wZ wN wH wB wC wL wK wU wV) PI im PM PT lS lB lE lN) G t.heap ∧ gF (dC, dI) SKm G ([(0, 0)] : List (Nat × Nat)) H0 t.heap) (gA G H0.size)) 0 0 (gA G H0.size) := by
  refine Met.ofW (cc := cX12_work) (maxL := 4) (ret := (some .int)) (by decide) rfl ?_
  intro p e s m args below meth c s₁ B hml hv
  obtain ⟨rfl, hH0, hK, hE⟩ := hv
  have hx := B.exec
  have hb := B.bytes
  have hr := B.returns
  have hts := atoms_spec (ws := w_s_work) B.pre
  have hown : s.vm.findClass RX12 = some m.cls := findClass_of_methodNamed B.named
  have hlocks := B.notSynchronized
  subst hH0
  generalize hAe : gA G s.heap.size = A at hE ⊢
  have hA : ∀ q : Nat, s.heap.size ≤ q → A q := fun q h => by rw [← hAe]; exact Or.inr h
  have hG := gA_of hAe
  have hS : va_S A s.heap s.heap [] := va_S.rf
  have hF : gF (dC, dI) SKm G ([(0, 0)] : List (Nat × Nat)) s.heap s.heap := gF.rf
  have hl := lv_entry ([.ref o0, .int p0, .int p1]) (n := 4) (Nat.le_of_ble_eq_true rfl)
  rw [lg_entry_eq]
  generalize (lg_sl ([.ref o0, .int p0, .int p1]) ++ List.replicate (4 - (lg_sl ([.ref o0, .int p0, .int p1])).length) Slot.unset).toArray = ls at hl ⊢
  have hl : lv_has ls 4 [(0, .ref o0), (1, .int p0), (2, .int p1)] := hl
  refine lv_aload_n hx hb dX12_work_0 rfl (lv_at hl 0 rfl) ?_
  refine lv_iconst (v := 0) hx hb dX12_work_1 (by decide) ?_
  refine tw_put (v := .int 0) (ty := .int) hx hb hts bF_X12 tyX12 tyX12_ok nmX12 hown hK hT hG hS hr_o0 shm_0 rfl 0 (by decide) (ht_at hts 0 rfl) (fun _ h9 => h9) rfl (by decide +kernel) rfl rfl (gl_at rfl (gi_all _)) dX12_work_2 (fun H locs hT oq m1 oj hS => ?_)
  have hF := hF.put hr_o0 skm_0 oq oj (by decide)
  refine lv_aload_n hx hb dX12_work_5 rfl (lv_at hl 0 rfl) ?_
  refine lv_aload_n hx hb dX12_work_6 rfl (lv_at hl 0 rfl) ?_
  refine lv_iload_n hx hb dX12_work_7 rfl (lv_at hl 1 rfl) ?_
  have hFc := gA_free hG hA hS
  refine va_calli (va_runV (As := [.int p0]) (rest := [.ref o0]) ⟨hx, hb, hml, hown, hts⟩ (s_noWork l dC dI kA adK adV G H q wZ wN wH wB wC wL wK wU wV PI im PM PT lS lB lE lN o0 p0 hT hr_o0 hgz hgn hgh hgb hgc hgi hgu) (cwV 1 hts (goodIn_app (goodIn_r _ [8, 9, 10, 7] rfl (by decide +kernel)) (goodIn_ca (goodIn_r _ [2, 3, 4, 5, 6, 7] rfl (by decide +kernel)) (bs_in _ _))) rfl rfl rfl (by decide +kernel) ⟨(Nat.le_of_ble_eq_true rfl), (Nat.le_of_ble_eq_true rfl)⟩) ⟨fun a U g mk q => by obtain ⟨q0, q1, qK, qE⟩ := q; exact ⟨q0, q1, va_K.moved (u := U) (U := U.calling g mk a) (Vm.Alike.refl U.vm) qK, EVS.blind g mk a qE⟩, gH_rc hK hT hr_o0 shm_0 rfl, fun U hU hW => ⟨rfl, hU, va_K.moved hW.alike hK, hE.call hS hFc hU hW⟩⟩ rfl rfl hl.1 rfl (lv_room (Nat.le_of_ble_eq_true rfl)) dX12_work_8 ⟨(Nat.le_of_ble_eq_true rfl), (Nat.le_of_ble_eq_true rfl)⟩) hS (fun q _ h => hFc q h) hFc (fun r2 u t H locs ht hvm hw3 hB _ _ hS => ?_)
  obtain ⟨hT, hF1⟩ := hB
  rw [ht] at hT hF1
  have hF := hF.more hF1 (by decide)
  try dsimp only at hw3
  obtain ⟨h5, hi6⟩ := hw3
  refine lv_iconst (v := 1) hx hb dX12_work_11 (by decide) ?_
  have hFc := gA_free hG hA hS
  refine va_calli (va_runV (As := [.int r2, .int 1]) (rest := []) ⟨hx, hb, hml, hown, hts⟩ (s_throwsIf l dC dI kA adK adV G H q wZ wN wH wB wC wL wK wU wV PI im PM PT lS lB lE lN o0 r2 1 hT hr_o0 (by have q8 := ti_all r2; omega) hgz hgn hgh hgb hgc hgi hgu) (cwV 2 hts (goodIn_app (goodIn_r _ [12, 13, 14, 7] rfl (by decide +kernel)) (goodIn_ca (goodIn_r _ [11, 1] rfl (by decide +kernel)) (bs_in _ _))) rfl rfl rfl (by decide +kernel) ⟨(Nat.le_of_ble_eq_true rfl), (Nat.le_of_ble_eq_true rfl)⟩) ⟨fun a U g mk q => by obtain ⟨q0, q1, qK, qE⟩ := q; exact ⟨q0, q1, va_K.moved (u := U) (U := U.calling g mk a) (Vm.Alike.refl U.vm) qK, EVS.blind g mk a qE⟩, gH_rc hK hT hr_o0 shm_0 rfl, fun U hU hW => ⟨rfl, hU, va_K.moved hW.alike hK, hE.call hS hFc hU hW⟩⟩ rfl rfl hl.1 rfl (lv_room (Nat.le_of_ble_eq_true rfl)) dX12_work_12 ⟨(Nat.le_of_ble_eq_true rfl), (Nat.le_of_ble_eq_true rfl)⟩) hS (fun q _ h => hFc q h) hFc (fun r7 u t H locs ht hvm hw8 hB _ _ hS => ?_)
  obtain ⟨hT, hF1⟩ := hB
  rw [ht] at hT hF1
  have hF := hF.more hF1 (by decide)
  try dsimp only at hw8
  obtain ⟨h10, hd11⟩ := hw8
  obtain rfl : r2 = r7 := hd11.symm
  refine lv_if_eq (tgt := 20) hx hb dX12_work_15 (by decide) (fun c12 => ?_) (fun c12 => ?_)
  · have t13 : r2.toInt = 0 := ti_eq c12 rfl (by decide)
    have t14 : 0 ≤ p0.toInt ∧ p0.toInt ≤ 29 ∧ p0.toInt < wC := hi6 c12
    refine lv_aload_n hx hb dX12_work_20 rfl (lv_at hl 0 rfl) ?_
    refine lv_iload_n hx hb dX12_work_21 rfl (lv_at hl 1 rfl) ?_
    refine lv_iconst (v := 0) hx hb dX12_work_22 (by decide) ?_
    have hFc := gA_free hG hA hS
    refine va_calli (va_runV (As := [.int p0, .int 0]) (rest := []) ⟨hx, hb, hml, hown, hts⟩ (s_of0 l dC dI kA adK adV G H q wZ wN wH wB wC wL wK wU wV PI im PM PT lS lB lE lN o0 p0 hT hr_o0 (by have q8 := ti_all p0; omega) hgz hgn hgh hgb hgc hgi hgu) (cwV 2 hts (goodIn_app (goodIn_r _ [19, 20, 21, 7] rfl (by decide +kernel)) (goodIn_ca (goodIn_r _ [15, 3, 16, 17, 18, 7] rfl (by decide +kernel)) (bs_in _ _))) rfl rfl rfl (by decide +kernel) ⟨(Nat.le_of_ble_eq_true rfl), (Nat.le_of_ble_eq_true rfl)⟩) ⟨fun a U g mk q => by obtain ⟨q0, q1, qK, qE⟩ := q; exact ⟨q0, q1, va_K.moved (u := U) (U := U.calling g mk a) (Vm.Alike.refl U.vm) qK, EVS.blind g mk a qE⟩, gH_rc hK hT hr_o0 shm_0 rfl, fun U hU hW => ⟨rfl, hU, va_K.moved hW.alike hK, hE.call hS hFc hU hW⟩⟩ rfl rfl hl.1 rfl (lv_room (Nat.le_of_ble_eq_true rfl)) dX12_work_23 ⟨(Nat.le_of_ble_eq_true rfl), (Nat.le_of_ble_eq_true rfl)⟩) hS (fun q _ h => hFc q h) hFc (fun r15 u t H locs ht hvm hw16 hB _ _ hS => ?_)
    obtain ⟨hT, hF1⟩ := hB
    rw [ht] at hT hF1
    have hF := hF.more hF1 (by decide)
    try dsimp only at hw16
    have ⟨ix17, hix17, m18⟩ := hw16
    have hg19 : G (q 1) = some 2 := gx_of hT hr_o0 shm_0 (k := 1) (by decide) rfl
    refine lv_istore_n (lv' := [(3, .int r15), (0, .ref o0), (1, .int p0), (2, .int p1)]) hx hb dX12_work_26 rfl hl (by decide) rfl (fun ls hl => ?_)
    refine lv_iload_n hx hb dX12_work_27 rfl (lv_at hl 3 rfl) ?_
    by_cases hs21 : p1 = 0
    · subst hs21
      refine lv_tableIn (x := 0) (off := 48) (tgt := 76) hx hb dX12_work_28 (by decide) (by decide) (by decide) (by decide) ?_
      refine lv_iload_n hx hb dX12_work_76 rfl (lv_at hl 0 rfl) ?_
      exact W.iret (v := r15) hx hb hr (fun t ht hW => ⟨⟨r15, (), rfl, (by exact trivial), by (try dsimp only); rw [ht]; exact ⟨hT, hF⟩⟩, hS.F ht⟩) hS.2.2 dX12_work_77
    by_cases hs22 : p1 = 1
    · subst hs22
      refine lv_tableIn (x := 1) (off := 50) (tgt := 78) hx hb dX12_work_28 (by decide) (by decide) (by decide) (by decide) ?_
      refine lv_aload_n hx hb dX12_work_78 rfl (lv_at hl 1 rfl) ?_
      refine lv_iload_n hx hb dX12_work_79 rfl (lv_at hl 2 rfl) ?_
      refine lv_iconst (v := 1) hx hb dX12_work_80 (by decide) ?_
      have hFc := gA_free hG hA hS
      refine va_calli (va_runV (As := [.int p0, .int 1]) (rest := []) ⟨hx, hb, hml, hown, hts⟩ (s_of1 l dC dI kA adK adV G H q wZ wN wH wB wC wL wK wU wV PI im PM PT lS lB lE lN o0 p0 hT hr_o0 (by have q8 := ti_all p0; omega) hgz hgn hgh hgb hgc hgi hgu) (cwV 2 hts (goodIn_app (goodIn_r _ [19, 20, 21, 7] rfl (by decide +kernel)) (goodIn_ca (goodIn_r _ [15, 3, 16, 17, 18, 7] rfl (by decide +kernel)) (bs_in _ _))) rfl rfl rfl (by decide +kernel) ⟨(Nat.le_of_ble_eq_true rfl), (Nat.le_of_ble_eq_true rfl)⟩) ⟨fun a U g mk q => by obtain ⟨q0, q1, qK, qE⟩ := q; exact ⟨q0, q1, va_K.moved (u := U) (U := U.calling g mk a) (Vm.Alike.refl U.vm) qK, EVS.blind g mk a qE⟩, gH_rc hK hT hr_o0 shm_0 rfl, fun U hU hW => ⟨rfl, hU, va_K.moved hW.alike hK, hE.call hS hFc hU hW⟩⟩ rfl rfl hl.1 rfl (lv_room (Nat.le_of_ble_eq_true rfl)) dX12_work_81 ⟨(Nat.le_of_ble_eq_true rfl), (Nat.le_of_ble_eq_true rfl)⟩) hS (fun q _ h => hFc q h) hFc (fun r23 u t H locs ht hvm hw24 hB _ _ hS => ?_)
      obtain ⟨hT, hF1⟩ := hB
      rw [ht] at hT hF1
      have hF := hF.more hF1 (by decide)
      try dsimp only at hw24
      obtain ⟨h26, ⟨ix27, hix27, m28⟩⟩ := hw24
      exact W.iret (v := r23) hx hb hr (fun t ht hW => ⟨⟨r23, (), rfl, (by exact trivial), by (try dsimp only); rw [ht]; exact ⟨hT, hF⟩⟩, hS.F ht⟩) hS.2.2 dX12_work_84
    by_cases hs30 : p1 = 2
    · subst hs30
      refine lv_tableIn (x := 2) (off := 57) (tgt := 85) hx hb dX12_work_28 (by decide) (by decide) (by decide) (by decide) ?_
      refine lv_iload_n hx hb dX12_work_85 rfl (lv_at hl 0 rfl) ?_
      refine lv_if_ne (tgt := 93) hx hb dX12_work_86 (by decide) (fun c31 => ?_) (fun c31 => ?_)
      · have t32 : r15.toInt ≠ 0 := ti_ne c31 rfl (by decide)
        refine lv_iconst (v := 0) hx hb dX12_work_93 (by decide) ?_
        exact W.iret (v := 0) hx hb hr (fun t ht hW => ⟨⟨0, (), rfl, (by exact trivial), by (try dsimp only); rw [ht]; exact ⟨hT, hF⟩⟩, hS.F ht⟩) hS.2.2 dX12_work_94
      · have t33 : r15.toInt = 0 := ti_eq c31 rfl (by decide)
        refine lv_iconst (v := 1) hx hb dX12_work_89 (by decide) ?_
        refine lv_goto (tgt := 94) hx hb dX12_work_90 (by decide) ?_
        exact W.iret (v := 1) hx hb hr (fun t ht hW => ⟨⟨1, (), rfl, (by exact trivial), by (try dsimp only); rw [ht]; exact ⟨hT, hF⟩⟩, hS.F ht⟩) hS.2.2 dX12_work_94
    by_cases hs34 : p1 = 3
    · subst hs34
      refine lv_tableIn (x := 3) (off := 67) (tgt := 95) hx hb dX12_work_28 (by decide) (by decide) (by decide) (by decide) ?_
      refine lv_aload_n hx hb dX12_work_95 rfl (lv_at hl 1 rfl) ?_
      refine lv_iload_n hx hb dX12_work_96 rfl (lv_at hl 2 rfl) ?_
      refine lv_bipush (v := 20) hx hb dX12_work_97 (by decide) ?_
      have hFc := gA_free hG hA hS
      refine va_calli (va_runV (As := [.int p0, .int 20]) (rest := []) ⟨hx, hb, hml, hown, hts⟩ (s_of20 l dC dI kA adK adV G H q wZ wN wH wB wC wL wK wU wV PI im PM PT lS lB lE lN o0 p0 hT hr_o0 (by have q8 := ti_all p0; omega) hgz hgn hgh hgb hgc hgi hgu) (cwV 2 hts (goodIn_app (goodIn_r _ [19, 20, 21, 7] rfl (by decide +kernel)) (goodIn_ca (goodIn_r _ [15, 3, 16, 17, 18, 7] rfl (by decide +kernel)) (bs_in _ _))) rfl rfl rfl (by decide +kernel) ⟨(Nat.le_of_ble_eq_true rfl), (Nat.le_of_ble_eq_true rfl)⟩) ⟨fun a U g mk q => by obtain ⟨q0, q1, qK, qE⟩ := q; exact ⟨q0, q1, va_K.moved (u := U) (U := U.calling g mk a) (Vm.Alike.refl U.vm) qK, EVS.blind g mk a qE⟩, gH_rc hK hT hr_o0 shm_0 rfl, fun U hU hW => ⟨rfl, hU, va_K.moved hW.alike hK, hE.call hS hFc hU hW⟩⟩ rfl rfl hl.1 rfl (lv_room (Nat.le_of_ble_eq_true rfl)) dX12_work_99 ⟨(Nat.le_of_ble_eq_true rfl), (Nat.le_of_ble_eq_true rfl)⟩) hS (fun q _ h => hFc q h) hFc (fun r35 u t H locs ht hvm hw36 hB _ _ hS => ?_)
      obtain ⟨hT, hF1⟩ := hB
      rw [ht] at hT hF1
      have hF := hF.more hF1 (by decide)
      try dsimp only at hw36
      have ⟨ix38, hix38, m39⟩ := hw36
      exact W.iret (v := r35) hx hb hr (fun t ht hW => ⟨⟨r35, (), rfl, (by exact trivial), by (try dsimp only); rw [ht]; exact ⟨hT, hF⟩⟩, hS.F ht⟩) hS.2.2 dX12_work_102
    by_cases hs41 : p1 = 4
    · subst hs41
      refine lv_tableIn (x := 4) (off := 75) (tgt := 103) hx hb dX12_work_28 (by decide) (by decide) (by decide) (by decide) ?_
      refine lv_aload_n hx hb dX12_work_103 rfl (lv_at hl 1 rfl) ?_
      refine lv_iload_n hx hb dX12_work_104 rfl (lv_at hl 2 rfl) ?_
      refine lv_bipush (v := 21) hx hb dX12_work_105 (by decide) ?_
      have hFc := gA_free hG hA hS
      refine va_calli (va_runV (As := [.int p0, .int 21]) (rest := []) ⟨hx, hb, hml, hown, hts⟩ (s_of21 l dC dI kA adK adV G H q wZ wN wH wB wC wL wK wU wV PI im PM PT lS lB lE lN o0 p0 hT hr_o0 (by have q8 := ti_all p0; omega) hgz hgn hgh hgb hgc hgi hgu) (cwV 2 hts (goodIn_app (goodIn_r _ [19, 20, 21, 7] rfl (by decide +kernel)) (goodIn_ca (goodIn_r _ [15, 3, 16, 17, 18, 7] rfl (by decide +kernel)) (bs_in _ _))) rfl rfl rfl (by decide +kernel) ⟨(Nat.le_of_ble_eq_true rfl), (Nat.le_of_ble_eq_true rfl)⟩) ⟨fun a U g mk q => by obtain ⟨q0, q1, qK, qE⟩ := q; exact ⟨q0, q1, va_K.moved (u := U) (U := U.calling g mk a) (Vm.Alike.refl U.vm) qK, EVS.blind g mk a qE⟩, gH_rc hK hT hr_o0 shm_0 rfl, fun U hU hW => ⟨rfl, hU, va_K.moved hW.alike hK, hE.call hS hFc hU hW⟩⟩ rfl rfl hl.1 rfl (lv_room (Nat.le_of_ble_eq_true rfl)) dX12_work_107 ⟨(Nat.le_of_ble_eq_true rfl), (Nat.le_of_ble_eq_true rfl)⟩) hS (fun q _ h => hFc q h) hFc (fun r42 u t H locs ht hvm hw43 hB _ _ hS => ?_)
      obtain ⟨hT, hF1⟩ := hB
      rw [ht] at hT hF1
      have hF := hF.more hF1 (by decide)
      try dsimp only at hw43
      have ⟨ix45, hix45, m46⟩ := hw43
      exact W.iret (v := r42) hx hb hr (fun t ht hW => ⟨⟨r42, (), rfl, (by exact trivial), by (try dsimp only); rw [ht]; exact ⟨hT, hF⟩⟩, hS.F ht⟩) hS.2.2 dX12_work_110
    by_cases hs48 : p1 = 5
    · subst hs48
      refine lv_tableIn (x := 5) (off := 83) (tgt := 111) hx hb dX12_work_28 (by decide) (by decide) (by decide) (by decide) ?_
      refine lv_iload_n hx hb dX12_work_111 rfl (lv_at hl 0 rfl) ?_
      refine lv_if_ne (tgt := 123) hx hb dX12_work_112 (by decide) (fun c49 => ?_) (fun c49 => ?_)
      · have t50 : r15.toInt ≠ 0 := ti_ne c49 rfl (by decide)
        refine lv_aload_n hx hb dX12_work_123 rfl (lv_at hl 1 rfl) ?_
        refine lv_iload_n hx hb dX12_work_124 rfl (lv_at hl 2 rfl) ?_
        refine lv_bipush (v := 17) hx hb dX12_work_125 (by decide) ?_
        have hFc := gA_free hG hA hS
        refine va_calli (va_runV (As := [.int p0, .int 17]) (rest := []) ⟨hx, hb, hml, hown, hts⟩ (s_of17 l dC dI kA adK adV G H q wZ wN wH wB wC wL wK wU wV PI im PM PT lS lB lE lN o0 p0 hT hr_o0 (by have q8 := ti_all p0; omega) hgz hgn hgh hgb hgc hgi hgu) (cwV 2 hts (goodIn_app (goodIn_r _ [19, 20, 21, 7] rfl (by decide +kernel)) (goodIn_ca (goodIn_r _ [15, 3, 16, 17, 18, 7] rfl (by decide +kernel)) (bs_in _ _))) rfl rfl rfl (by decide +kernel) ⟨(Nat.le_of_ble_eq_true rfl), (Nat.le_of_ble_eq_true rfl)⟩) ⟨fun a U g mk q => by obtain ⟨q0, q1, qK, qE⟩ := q; exact ⟨q0, q1, va_K.moved (u := U) (U := U.calling g mk a) (Vm.Alike.refl U.vm) qK, EVS.blind g mk a qE⟩, gH_rc hK hT hr_o0 shm_0 rfl, fun U hU hW => ⟨rfl, hU, va_K.moved hW.alike hK, hE.call hS hFc hU hW⟩⟩ rfl rfl hl.1 rfl (lv_room (Nat.le_of_ble_eq_true rfl)) dX12_work_127 ⟨(Nat.le_of_ble_eq_true rfl), (Nat.le_of_ble_eq_true rfl)⟩) hS (fun q _ h => hFc q h) hFc (fun r51 u t H locs ht hvm hw52 hB _ _ hS => ?_)
        obtain ⟨hT, hF1⟩ := hB
        rw [ht] at hT hF1
        have hF := hF.more hF1 (by decide)
        try dsimp only at hw52
        obtain ⟨h54, ⟨ix55, hix55, m56⟩⟩ := hw52
        exact W.iret (v := r51) hx hb hr (fun t ht hW => ⟨⟨r51, (), rfl, (by exact trivial), by (try dsimp only); rw [ht]; exact ⟨hT, hF⟩⟩, hS.F ht⟩) hS.2.2 dX12_work_130
      · have t58 : r15.toInt = 0 := ti_eq c49 rfl (by decide)
        refine lv_aload_n hx hb dX12_work_115 rfl (lv_at hl 1 rfl) ?_
        refine lv_iload_n hx hb dX12_work_116 rfl (lv_at hl 2 rfl) ?_
        have hFc := gA_free hG hA hS
        refine va_calli (va_runV (As := [.int p0]) (rest := []) ⟨hx, hb, hml, hown, hts⟩ (s_crest l dC dI kA adK adV G H q wZ wN wH wB wC wL wK wU wV PI im PM PT lS lB lE lN o0 p0 hT hr_o0 (by have q8 := ti_all p0; omega) hgz hgn hgh hgb hgc hgi hgu) (cwV 1 hts (goodIn_app (goodIn_r _ [23, 24, 25, 7] rfl (by decide +kernel)) (goodIn_ca (goodIn_r _ [22, 3, 15, 16, 17, 18, 7, 19, 20, 21] rfl (by decide +kernel)) (bs_in _ _))) rfl rfl rfl (by decide +kernel) ⟨(Nat.le_of_ble_eq_true rfl), (Nat.le_of_ble_eq_true rfl)⟩) ⟨fun a U g mk q => by obtain ⟨q0, q1, qK, qE⟩ := q; exact ⟨q0, q1, va_K.moved (u := U) (U := U.calling g mk a) (Vm.Alike.refl U.vm) qK, EVS.blind g mk a qE⟩, gH_rc hK hT hr_o0 shm_0 rfl, fun U hU hW => ⟨rfl, hU, va_K.moved hW.alike hK, hE.call hS hFc hU hW⟩⟩ rfl rfl hl.1 rfl (lv_room (Nat.le_of_ble_eq_true rfl)) dX12_work_117 ⟨(Nat.le_of_ble_eq_true rfl), (Nat.le_of_ble_eq_true rfl)⟩) hS (fun q _ h => hFc q h) hFc (fun r59 u t H locs ht hvm hw60 hB _ _ hS => ?_)
        obtain ⟨hT, hF1⟩ := hB
        rw [ht] at hT hF1
        have hF := hF.more hF1 (by decide)
        try dsimp only at hw60
        refine lv_goto (tgt := 130) hx hb dX12_work_120 (by decide) ?_
        exact W.iret (v := r59) hx hb hr (fun t ht hW => ⟨⟨r59, (), rfl, (by exact trivial), by (try dsimp only); rw [ht]; exact ⟨hT, hF⟩⟩, hS.F ht⟩) hS.2.2 dX12_work_130
    by_cases hs62 : p1 = 6
    · subst hs62
      refine lv_tableIn (x := 6) (off := 103) (tgt := 131) hx hb dX12_work_28 (by decide) (by decide) (by decide) (by decide) ?_
      refine lv_aload_n hx hb dX12_work_131 rfl (lv_at hl 1 rfl) ?_
      refine lv_iload_n hx hb dX12_work_132 rfl (lv_at hl 2 rfl) ?_
      have hFc := gA_free hG hA hS
      refine va_calli (va_runV (As := [.int p0]) (rest := []) ⟨hx, hb, hml, hown, hts⟩ (s_isDike l dC dI kA adK adV G H q wZ wN wH wB wC wL wK wU wV PI im PM PT lS lB lE lN o0 p0 hT hr_o0 (by have q8 := ti_all p0; omega) hgz hgn hgh hgb hgc hgi hgu) (cwV 1 hts (goodIn_app (goodIn_r _ [27, 28, 29, 7] rfl (by decide +kernel)) (goodIn_ca (goodIn_r _ [26, 15, 3, 16, 17, 18, 7, 19, 20, 21] rfl (by decide +kernel)) (bs_in _ _))) rfl rfl rfl (by decide +kernel) ⟨(Nat.le_of_ble_eq_true rfl), (Nat.le_of_ble_eq_true rfl)⟩) ⟨fun a U g mk q => by obtain ⟨q0, q1, qK, qE⟩ := q; exact ⟨q0, q1, va_K.moved (u := U) (U := U.calling g mk a) (Vm.Alike.refl U.vm) qK, EVS.blind g mk a qE⟩, gH_rc hK hT hr_o0 shm_0 rfl, fun U hU hW => ⟨rfl, hU, va_K.moved hW.alike hK, hE.call hS hFc hU hW⟩⟩ rfl rfl hl.1 rfl (lv_room (Nat.le_of_ble_eq_true rfl)) dX12_work_133 ⟨(Nat.le_of_ble_eq_true rfl), (Nat.le_of_ble_eq_true rfl)⟩) hS (fun q _ h => hFc q h) hFc (fun r63 u t H locs ht hvm hw64 hB _ _ hS => ?_)
      obtain ⟨hT, hF1⟩ := hB
      rw [ht] at hT hF1
      have hF := hF.more hF1 (by decide)
      try dsimp only at hw64
      obtain ⟨h66, hi67⟩ := hw64
      refine lv_if_eq (tgt := 148) hx hb dX12_work_136 (by decide) (fun c68 => ?_) (fun c68 => ?_)
      · have t69 : r63.toInt = 0 := ti_eq c68 rfl (by decide)
        refine lv_aload_n hx hb dX12_work_148 rfl (lv_at hl 1 rfl) ?_
        refine lv_iload_n hx hb dX12_work_149 rfl (lv_at hl 2 rfl) ?_
        refine lv_bipush (v := 18) hx hb dX12_work_150 (by decide) ?_
        have hFc := gA_free hG hA hS
        refine va_calli (va_runV (As := [.int p0, .int 18]) (rest := []) ⟨hx, hb, hml, hown, hts⟩ (s_of18 l dC dI kA adK adV G H q wZ wN wH wB wC wL wK wU wV PI im PM PT lS lB lE lN o0 p0 hT hr_o0 (by have q8 := ti_all p0; omega) hgz hgn hgh hgb hgc hgi hgu) (cwV 2 hts (goodIn_app (goodIn_r _ [19, 20, 21, 7] rfl (by decide +kernel)) (goodIn_ca (goodIn_r _ [15, 3, 16, 17, 18, 7] rfl (by decide +kernel)) (bs_in _ _))) rfl rfl rfl (by decide +kernel) ⟨(Nat.le_of_ble_eq_true rfl), (Nat.le_of_ble_eq_true rfl)⟩) ⟨fun a U g mk q => by obtain ⟨q0, q1, qK, qE⟩ := q; exact ⟨q0, q1, va_K.moved (u := U) (U := U.calling g mk a) (Vm.Alike.refl U.vm) qK, EVS.blind g mk a qE⟩, gH_rc hK hT hr_o0 shm_0 rfl, fun U hU hW => ⟨rfl, hU, va_K.moved hW.alike hK, hE.call hS hFc hU hW⟩⟩ rfl rfl hl.1 rfl (lv_room (Nat.le_of_ble_eq_true rfl)) dX12_work_152 ⟨(Nat.le_of_ble_eq_true rfl), (Nat.le_of_ble_eq_true rfl)⟩) hS (fun q _ h => hFc q h) hFc (fun r70 u t H locs ht hvm hw71 hB _ _ hS => ?_)
        obtain ⟨hT, hF1⟩ := hB
        rw [ht] at hT hF1
        have hF := hF.more hF1 (by decide)
        try dsimp only at hw71
        have ⟨ix73, hix73, m74⟩ := hw71
        exact W.iret (v := r70) hx hb hr (fun t ht hW => ⟨⟨r70, (), rfl, (by exact trivial), by (try dsimp only); rw [ht]; exact ⟨hT, hF⟩⟩, hS.F ht⟩) hS.2.2 dX12_work_155
      · have t76 : r63.toInt ≠ 0 := ti_ne c68 rfl (by decide)
        have t77 : p0.toInt < wC → wK p0.toNatClampNeg := hi67 ((bit_of ⟨by omega, by omega⟩).resolve_left c68)
        refine lv_aload_n hx hb dX12_work_139 rfl (lv_at hl 1 rfl) ?_
        refine lv_iload_n hx hb dX12_work_140 rfl (lv_at hl 2 rfl) ?_
        refine lv_iconst (v := 4) hx hb dX12_work_141 (by decide) ?_
        have hFc := gA_free hG hA hS
        refine va_calli (va_runV (As := [.int p0, .int 4]) (rest := []) ⟨hx, hb, hml, hown, hts⟩ (s_of4 l dC dI kA adK adV G H q wZ wN wH wB wC wL wK wU wV PI im PM PT lS lB lE lN o0 p0 hT hr_o0 (by have q8 := ti_all p0; omega) hgz hgn hgh hgb hgc hgi hgu) (cwV 2 hts (goodIn_app (goodIn_r _ [19, 20, 21, 7] rfl (by decide +kernel)) (goodIn_ca (goodIn_r _ [15, 3, 16, 17, 18, 7] rfl (by decide +kernel)) (bs_in _ _))) rfl rfl rfl (by decide +kernel) ⟨(Nat.le_of_ble_eq_true rfl), (Nat.le_of_ble_eq_true rfl)⟩) ⟨fun a U g mk q => by obtain ⟨q0, q1, qK, qE⟩ := q; exact ⟨q0, q1, va_K.moved (u := U) (U := U.calling g mk a) (Vm.Alike.refl U.vm) qK, EVS.blind g mk a qE⟩, gH_rc hK hT hr_o0 shm_0 rfl, fun U hU hW => ⟨rfl, hU, va_K.moved hW.alike hK, hE.call hS hFc hU hW⟩⟩ rfl rfl hl.1 rfl (lv_room (Nat.le_of_ble_eq_true rfl)) dX12_work_142 ⟨(Nat.le_of_ble_eq_true rfl), (Nat.le_of_ble_eq_true rfl)⟩) hS (fun q _ h => hFc q h) hFc (fun r78 u t H locs ht hvm hw79 hB _ _ hS => ?_)
        obtain ⟨hT, hF1⟩ := hB
        rw [ht] at hT hF1
        have hF := hF.more hF1 (by decide)
        try dsimp only at hw79
        obtain ⟨h81, ⟨ix82, hix82, m83⟩⟩ := hw79
        refine lv_goto (tgt := 155) hx hb dX12_work_145 (by decide) ?_
        exact W.iret (v := r78) hx hb hr (fun t ht hW => ⟨⟨r78, (), rfl, (by exact trivial), by (try dsimp only); rw [ht]; exact ⟨hT, hF⟩⟩, hS.F ht⟩) hS.2.2 dX12_work_155
    by_cases hs85 : p1 = 7
    · subst hs85
      refine lv_tableIn (x := 7) (off := 128) (tgt := 156) hx hb dX12_work_28 (by decide) (by decide) (by decide) (by decide) ?_
      refine lv_aload_n hx hb dX12_work_156 rfl (lv_at hl 1 rfl) ?_
      refine lv_iload_n hx hb dX12_work_157 rfl (lv_at hl 2 rfl) ?_
      refine lv_bipush (v := 19) hx hb dX12_work_158 (by decide) ?_
      have hFc := gA_free hG hA hS
      refine va_calli (va_runV (As := [.int p0, .int 19]) (rest := []) ⟨hx, hb, hml, hown, hts⟩ (s_of19 l dC dI kA adK adV G H q wZ wN wH wB wC wL wK wU wV PI im PM PT lS lB lE lN o0 p0 hT hr_o0 (by have q8 := ti_all p0; omega) hgz hgn hgh hgb hgc hgi hgu) (cwV 2 hts (goodIn_app (goodIn_r _ [19, 20, 21, 7] rfl (by decide +kernel)) (goodIn_ca (goodIn_r _ [15, 3, 16, 17, 18, 7] rfl (by decide +kernel)) (bs_in _ _))) rfl rfl rfl (by decide +kernel) ⟨(Nat.le_of_ble_eq_true rfl), (Nat.le_of_ble_eq_true rfl)⟩) ⟨fun a U g mk q => by obtain ⟨q0, q1, qK, qE⟩ := q; exact ⟨q0, q1, va_K.moved (u := U) (U := U.calling g mk a) (Vm.Alike.refl U.vm) qK, EVS.blind g mk a qE⟩, gH_rc hK hT hr_o0 shm_0 rfl, fun U hU hW => ⟨rfl, hU, va_K.moved hW.alike hK, hE.call hS hFc hU hW⟩⟩ rfl rfl hl.1 rfl (lv_room (Nat.le_of_ble_eq_true rfl)) dX12_work_160 ⟨(Nat.le_of_ble_eq_true rfl), (Nat.le_of_ble_eq_true rfl)⟩) hS (fun q _ h => hFc q h) hFc (fun r86 u t H locs ht hvm hw87 hB _ _ hS => ?_)
      obtain ⟨hT, hF1⟩ := hB
      rw [ht] at hT hF1
      have hF := hF.more hF1 (by decide)
      try dsimp only at hw87
      have ⟨ix89, hix89, m90⟩ := hw87
      exact W.iret (v := r86) hx hb hr (fun t ht hW => ⟨⟨r86, (), rfl, (by exact trivial), by (try dsimp only); rw [ht]; exact ⟨hT, hF⟩⟩, hS.F ht⟩) hS.2.2 dX12_work_163
    have ho92 : p1.toInt < 0 ∨ 7 < p1.toInt := by
      by_cases hz9 : p1.toInt < 0
      · exact Or.inl hz9
      have u9 : (0 : Int) ≤ p1.toInt := Int.not_lt.mp hz9
      have u9 := ll_nx (k1 := 1) u9 hs21 (by decide) (by decide)
      have u9 := ll_nx (k1 := 2) u9 hs22 (by decide) (by decide)
      have u9 := ll_nx (k1 := 3) u9 hs30 (by decide) (by decide)
      have u9 := ll_nx (k1 := 4) u9 hs34 (by decide) (by decide)
      have u9 := ll_nx (k1 := 5) u9 hs41 (by decide) (by decide)
      have u9 := ll_nx (k1 := 6) u9 hs48 (by decide) (by decide)
      have u9 := ll_nx (k1 := 7) u9 hs62 (by decide) (by decide)
      have u9 := ll_nx (k1 := 8) u9 hs85 (by decide) (by decide)
      exact Or.inr (Int.lt_of_lt_of_le (by decide) u9)
    refine lv_tableOut (tgt := 164) hx hb dX12_work_28 ho92 (by decide) ?_
    refine lv_aload_n hx hb dX12_work_164 rfl (lv_at hl 1 rfl) ?_
    refine lv_iconst (v := 2) hx hb dX12_work_165 (by decide) ?_
    refine tw_put (v := .int 2) (ty := .int) hx hb hts bF_X12 tyX12 tyX12_ok nmX12 hown hK hT hG hS hr_o0 shm_0 rfl 0 (by decide) (ht_at hts 0 rfl) (fun _ h9 => h9) rfl (by decide +kernel) rfl rfl (gl_at rfl (gi_all _)) dX12_work_166 (fun H locs hT oq m93 oj hS => ?_)
    have hF := hF.put hr_o0 skm_0 oq oj (by decide)
    refine lv_iconst (v := 0) hx hb dX12_work_169 (by decide) ?_
    exact W.iret (v := 0) hx hb hr (fun t ht hW => ⟨⟨0, (), rfl, (by exact trivial), by (try dsimp only); rw [ht]; exact ⟨hT, hF⟩⟩, hS.F ht⟩) hS.2.2 dX12_work_170
  · have t95 : r2.toInt ≠ 0 := ti_ne c12 rfl (by decide)
    refine lv_iconst (v := 0) hx hb dX12_work_18 (by decide) ?_
    exact W.iret (v := 0) hx hb hr (fun t ht hW => ⟨⟨0, (), rfl, (by exact trivial), by (try dsimp only); rw [ht]; exact ⟨hT, hF⟩⟩, hS.F ht⟩) hS.2.2 dX12_work_19
def w_s_row : List Cond := .code yX12_row cX12_row 3 (some .int) :: (HAppend.hAppend (α := List Cond) (β := List Cond) (γ := List Cond) [.fieldLink RX12 194 "SeaLandModel" "thrown" "I", .code yX12_noSquare cX12_noSquare 1 (some .boolean), .code yX12_in cX12_in 3 (some .boolean), .methodLink RX12 197 yX12_in, .static yX12_in, .initialized RX12, .methodLink RX12 220 yX12_noSquare, .static yX12_noSquare, .code yX12_throwsIf cX12_throwsIf 3 (some .boolean), .methodLink RX12 224 yX12_throwsIf, .instanceMethod yX12_throwsIf, .selects RX12 yX12_throwsIf yX12_throwsIf, .fieldLink RX12 238 "SeaLandModel" "rows" "I", .fieldLink RX12 25 "SeaLandModel" "rowTold" "[I"] bs)
set_option maxHeartbeats 4000000 in
set_option maxRecDepth 100000 in
theorem s_row (l : Launch) (dC : Nat → ClassId) (dI : Nat → Nat → Nat) (kA : Nat → ClassId) (adK adV : Nat → Nat) (G : gT) (H0 : Heap) (q : Nat → Nat) (wZ wN : Nat → Int) (wH wB wC : Int) (wL wK : Nat → Prop) (wU wV : Nat → Nat) (PI : Nat → Int → Prop) (im : Int) (PM PT : Nat → Int → Prop) (lS lB lE : Nat → Nat → Int → Prop) (lN : Nat → Int) (o0 : Nat) (p0 : Int32) (p1 : Int32)  (hT : gH (dC, dI) kA (SHm q (wP wZ wN wH wB wC wL wK wU wV) PI im PM PT lS lB lE lN) G H0) (hr_o0 : G o0 = some 0) (hgz : ∀ i, 0 ≤ wZ i) (hgn : ∀ i, 6500000 ≤ wN i ∧ wN i ≤ 20200000) (hgh : 0 ≤ wH ∧ wH ≤ 40000) (hgb : 0 ≤ wB ∧ wB ≤ 3850000) (hgc : 0 ≤ wC ∧ wC ≤ 30) (hgi : 0 ≤ im ∧ im ≤ 1) (hgu : ∀ a t, G a = some (t + 1) → a = q t) : Met l yX12_row w_s_row ({ frames := 2, cells := 0, slots := 0, locals := 42 }) (va_Pc [.ref o0, .int p0, .int p1] (fun U => U.heap = H0 ∧ va_K (dC, dI) vwCl (tyl kA) U ∧ EVS adK adV (gA G H0.size) U U.heap)) (va_Qi (fun (r : Int32) (u : Unit) => True) (fun (_ : Unit) (t : State) => gH (dC, dI) kA (SHm q (wP wZ wN wH wB wC wL wK wU wV) PI im PM PT lS lB lE lN) G t.heap ∧ gF (dC, dI) SKm G ([(0, 0)] : List (Nat × Nat)) H0 t.heap) (gA G H0.size)) 0 0 (gA G H0.size) := by
  refine Met.ofW (cc := cX12_row) (maxL := 3) (ret := (some .int)) (by decide) rfl ?_
  intro p e s m args below meth c s₁ B hml hv
  obtain ⟨rfl, hH0, hK, hE⟩ := hv
  have hx := B.exec
  have hb := B.bytes
  have hr := B.returns
  have hts := atoms_spec (ws := w_s_row) B.pre
  have hown : s.vm.findClass RX12 = some m.cls := findClass_of_methodNamed B.named
  have hlocks := B.notSynchronized
  subst hH0
  generalize hAe : gA G s.heap.size = A at hE ⊢
  have hA : ∀ q : Nat, s.heap.size ≤ q → A q := fun q h => by rw [← hAe]; exact Or.inr h
  have hG := gA_of hAe
  have hS : va_S A s.heap s.heap [] := va_S.rf
  have hF : gF (dC, dI) SKm G ([(0, 0)] : List (Nat × Nat)) s.heap s.heap := gF.rf
  have hl := lv_entry ([.ref o0, .int p0, .int p1]) (n := 3) (Nat.le_of_ble_eq_true rfl)
  rw [lg_entry_eq]
  generalize (lg_sl ([.ref o0, .int p0, .int p1]) ++ List.replicate (3 - (lg_sl ([.ref o0, .int p0, .int p1])).length) Slot.unset).toArray = ls at hl ⊢
  have hl : lv_has ls 3 [(0, .ref o0), (1, .int p0), (2, .int p1)] := hl
  refine lv_aload_n hx hb dX12_row_0 rfl (lv_at hl 0 rfl) ?_
  refine lv_iconst (v := 0) hx hb dX12_row_1 (by decide) ?_
  refine tw_put (v := .int 0) (ty := .int) hx hb hts bF_X12 tyX12 tyX12_ok nmX12 hown hK hT hG hS hr_o0 shm_0 rfl 0 (by decide) (ht_at hts 0 rfl) (fun _ h9 => h9) rfl (by decide +kernel) rfl rfl (gl_at rfl (gi_all _)) dX12_row_2 (fun H locs hT oq m1 oj hS => ?_)
  have hF := hF.put hr_o0 skm_0 oq oj (by decide)
  refine lv_aload_n hx hb dX12_row_5 rfl (lv_at hl 0 rfl) ?_
  refine lv_iload_n hx hb dX12_row_6 rfl (lv_at hl 2 rfl) ?_
  have hFc := gA_free hG hA hS
  refine va_calli (va_runS (As := [.int p1]) (rest := [.ref o0]) ⟨hx, hb, hml, hown, hts⟩ (s_noSquare l dC dI kA adK adV G H q wZ wN wH wB wC wL wK wU wV PI im PM PT lS lB lE lN p1 hT hgz hgn hgh hgb hgc hgi hgu) (va_cwS 1 hts (goodIn_app (goodIn_r _ [7, 8, 6] rfl (by decide +kernel)) (goodIn_ca (goodIn_r _ [2, 3, 4, 5, 6] rfl (by decide +kernel)) (bs_in _ _))) rfl rfl rfl (by decide +kernel) ⟨(Nat.le_of_ble_eq_true rfl), (Nat.le_of_ble_eq_true rfl)⟩) ⟨fun a U g mk q => by obtain ⟨q0, q1, qK, qE⟩ := q; exact ⟨q0, q1, va_K.moved (u := U) (U := U.calling g mk a) (Vm.Alike.refl U.vm) qK, EVS.blind g mk a qE⟩, fun U hU hW => ⟨rfl, hU, va_K.moved hW.alike hK, hE.call hS hFc hU hW⟩⟩ rfl rfl hl.1 rfl (lv_room (Nat.le_of_ble_eq_true rfl)) dX12_row_7 ⟨(Nat.le_of_ble_eq_true rfl), (Nat.le_of_ble_eq_true rfl)⟩) hS (fun q _ h => hFc q h) hFc (fun r2 u t H locs ht hvm hw3 hB _ _ hS => ?_)
  obtain ⟨hT, hF1⟩ := hB
  rw [ht] at hT hF1
  have hF := hF.more hF1 (by decide)
  try dsimp only at hw3
  obtain ⟨h5, hi6⟩ := hw3
  refine lv_iconst (v := 1) hx hb dX12_row_10 (by decide) ?_
  have hFc := gA_free hG hA hS
  refine va_calli (va_runV (As := [.int r2, .int 1]) (rest := []) ⟨hx, hb, hml, hown, hts⟩ (s_throwsIf l dC dI kA adK adV G H q wZ wN wH wB wC wL wK wU wV PI im PM PT lS lB lE lN o0 r2 1 hT hr_o0 (by have q8 := ti_all r2; omega) hgz hgn hgh hgb hgc hgi hgu) (cwV 2 hts (goodIn_app (goodIn_r _ [10, 11, 12, 6] rfl (by decide +kernel)) (goodIn_ca (goodIn_r _ [9, 1] rfl (by decide +kernel)) (bs_in _ _))) rfl rfl rfl (by decide +kernel) ⟨(Nat.le_of_ble_eq_true rfl), (Nat.le_of_ble_eq_true rfl)⟩) ⟨fun a U g mk q => by obtain ⟨q0, q1, qK, qE⟩ := q; exact ⟨q0, q1, va_K.moved (u := U) (U := U.calling g mk a) (Vm.Alike.refl U.vm) qK, EVS.blind g mk a qE⟩, gH_rc hK hT hr_o0 shm_0 rfl, fun U hU hW => ⟨rfl, hU, va_K.moved hW.alike hK, hE.call hS hFc hU hW⟩⟩ rfl rfl hl.1 rfl (lv_room (Nat.le_of_ble_eq_true rfl)) dX12_row_11 ⟨(Nat.le_of_ble_eq_true rfl), (Nat.le_of_ble_eq_true rfl)⟩) hS (fun q _ h => hFc q h) hFc (fun r7 u t H locs ht hvm hw8 hB _ _ hS => ?_)
  obtain ⟨hT, hF1⟩ := hB
  rw [ht] at hT hF1
  have hF := hF.more hF1 (by decide)
  try dsimp only at hw8
  obtain ⟨h10, hd11⟩ := hw8
  obtain rfl : r2 = r7 := hd11.symm
  refine lv_if_ne (tgt := 44) hx hb dX12_row_14 (by decide) (fun c12 => ?_) (fun c12 => ?_)
  · have t13 : r2.toInt ≠ 0 := ti_ne c12 rfl (by decide)
    refine lv_iconst (v := 0) hx hb dX12_row_44 (by decide) ?_
    refine lv_goto (tgt := 59) hx hb dX12_row_45 (by decide) ?_
    exact W.iret (v := 0) hx hb hr (fun t ht hW => ⟨⟨0, (), rfl, (by exact trivial), by (try dsimp only); rw [ht]; exact ⟨hT, hF⟩⟩, hS.F ht⟩) hS.2.2 dX12_row_59
  · have t14 : r2.toInt = 0 := ti_eq c12 rfl (by decide)
    have t15 : 0 ≤ p1.toInt ∧ p1.toInt ≤ 95 := hi6 c12
    refine lv_aload_n hx hb dX12_row_17 rfl (lv_at hl 0 rfl) ?_
    refine lv_iload_n hx hb dX12_row_18 rfl (lv_at hl 1 rfl) ?_
    refine lv_iconst (v := 0) hx hb dX12_row_19 (by decide) ?_
    refine lv_aload_n hx hb dX12_row_20 rfl (lv_at hl 0 rfl) ?_
    refine tw_get hx hb hts bF_X12 hown hK hT hr_o0 shm_0 rfl 9 (by decide) (ht_at hts 12 rfl) (fun _ h9 => h9) dX12_row_21 (fun v9 m16 h9 => ?_)
    obtain ⟨x17, rfl, gx17, kx17⟩ := h9 _ rfl
    refine lv_iconst (v := 1) hx hb dX12_row_24 (by decide) ?_
    refine lv_isub hx hb dX12_row_25 ?_
    refine lv_topi (fun x18 ex18 => ?_)
    have t19 : x18.toInt = x17.toInt - 1 := ti_sub ex18 rfl (by decide) (by omega) (by omega)
    have hFc := gA_free hG hA hS
    refine va_calli (va_runS (As := [.int p0, .int 0, .int x18]) (rest := [.ref o0]) ⟨hx, hb, hml, hown, hts⟩ (s_in l dC dI kA adK adV G H q wZ wN wH wB wC wL wK wU wV PI im PM PT lS lB lE lN p0 0 x18 hT hgz hgn hgh hgb hgc hgi hgu) (va_cwS 3 hts (goodIn_app (goodIn_r _ [4, 5, 6] rfl (by decide +kernel)) (goodIn_ca (goodIn_r _ [3] rfl (by decide +kernel)) (bs_in _ _))) rfl rfl rfl (by decide +kernel) ⟨(Nat.le_of_ble_eq_true rfl), (Nat.le_of_ble_eq_true rfl)⟩) ⟨fun a U g mk q => by obtain ⟨q0, q1, qK, qE⟩ := q; exact ⟨q0, q1, va_K.moved (u := U) (U := U.calling g mk a) (Vm.Alike.refl U.vm) qK, EVS.blind g mk a qE⟩, fun U hU hW => ⟨rfl, hU, va_K.moved hW.alike hK, hE.call hS hFc hU hW⟩⟩ rfl rfl hl.1 rfl (lv_room (Nat.le_of_ble_eq_true rfl)) dX12_row_26 ⟨(Nat.le_of_ble_eq_true rfl), (Nat.le_of_ble_eq_true rfl)⟩) hS (fun q _ h => hFc q h) hFc (fun r20 u t H locs ht hvm hw21 hB _ _ hS => ?_)
    obtain ⟨hT, hF1⟩ := hB
    rw [ht] at hT hF1
    have hF := hF.more hF1 (by decide)
    try dsimp only at hw21
    obtain ⟨h23, hi24, hi25⟩ := hw21
    refine lv_if_ne (tgt := 36) hx hb dX12_row_29 (by decide) (fun c26 => ?_) (fun c26 => ?_)
    · have t27 : r20.toInt ≠ 0 := ti_ne c26 rfl (by decide)
      have t28 : (0 : Int32).toInt = 0 := by decide
      have t29 : (0 : Int32).toInt ≤ p0.toInt ∧ p0.toInt ≤ x18.toInt := hi24 ((bit_of ⟨by omega, by omega⟩).resolve_left c26)
      refine lv_iconst (v := 0) hx hb dX12_row_36 (by decide) ?_
      refine lv_iconst (v := 2) hx hb dX12_row_37 (by decide) ?_
      have hFc := gA_free hG hA hS
      refine va_calli (va_runV (As := [.int 0, .int 2]) (rest := []) ⟨hx, hb, hml, hown, hts⟩ (s_throwsIf l dC dI kA adK adV G H q wZ wN wH wB wC wL wK wU wV PI im PM PT lS lB lE lN o0 0 2 hT hr_o0 (rg_t (a := 0) (by decide) (by first | decide | omega) (by first | decide | omega)) hgz hgn hgh hgb hgc hgi hgu) (cwV 2 hts (goodIn_app (goodIn_r _ [10, 11, 12, 6] rfl (by decide +kernel)) (goodIn_ca (goodIn_r _ [9, 1] rfl (by decide +kernel)) (bs_in _ _))) rfl rfl rfl (by decide +kernel) ⟨(Nat.le_of_ble_eq_true rfl), (Nat.le_of_ble_eq_true rfl)⟩) ⟨fun a U g mk q => by obtain ⟨q0, q1, qK, qE⟩ := q; exact ⟨q0, q1, va_K.moved (u := U) (U := U.calling g mk a) (Vm.Alike.refl U.vm) qK, EVS.blind g mk a qE⟩, gH_rc hK hT hr_o0 shm_0 rfl, fun U hU hW => ⟨rfl, hU, va_K.moved hW.alike hK, hE.call hS hFc hU hW⟩⟩ rfl rfl hl.1 rfl (lv_room (Nat.le_of_ble_eq_true rfl)) dX12_row_38 ⟨(Nat.le_of_ble_eq_true rfl), (Nat.le_of_ble_eq_true rfl)⟩) hS (fun q _ h => hFc q h) hFc (fun r30 u t H locs ht hvm hw31 hB _ _ hS => ?_)
      obtain ⟨hT, hF1⟩ := hB
      rw [ht] at hT hF1
      have hF := hF.more hF1 (by decide)
      try dsimp only at hw31
      obtain ⟨h33, hd34⟩ := hw31
      obtain rfl : (0 : Int32) = r30 := hd34.symm
      refine lv_if_eq (tgt := 48) hx hb dX12_row_41 (by decide) (fun c35 => ?_) (fun c35 => absurd c35 (by decide))
      refine lv_aload_n hx hb dX12_row_48 rfl (lv_at hl 0 rfl) ?_
      refine tw_get hx hb hts bF_X12 hown hK hT hr_o0 shm_0 rfl 7 (by decide) (ht_at hts 13 rfl) (fun _ h9 => h9) dX12_row_49 (fun v9 m36 h9 => ?_)
      obtain ⟨rfl, hg37⟩ := h9 _ rfl
      refine lv_bipush (v := 96) hx hb dX12_row_52 (by decide) ?_
      refine lv_iload_n hx hb dX12_row_54 rfl (lv_at hl 1 rfl) ?_
      refine lv_imul hx hb dX12_row_55 ?_
      refine lv_topi (fun x38 ex38 => ?_)
      have t39 : x38.toInt = 96 * p0.toInt := ti_mul ex38 (by decide) rfl (by omega) (by omega)
      refine lv_iload_n hx hb dX12_row_56 rfl (lv_at hl 2 rfl) ?_
      refine lv_iadd hx hb dX12_row_57 ?_
      refine lv_topi (fun x40 ex40 => ?_)
      have t41 : x40.toInt = x38.toInt + p1.toInt := ti_add ex40 rfl rfl (by omega) (by omega)
      refine tw_iald (i := x40) hx hb hK hT hg37 shm_8 rfl (vin_t (a := x40.toInt) rfl (by omega) (by omega)) dX12_row_58 (fun v9 m42 h9 => ?_)
      obtain ⟨x43, rfl, gx43, kx43⟩ := h9
      exact W.iret (v := x43) hx hb hr (fun t ht hW => ⟨⟨x43, (), rfl, (by exact trivial), by (try dsimp only); rw [ht]; exact ⟨hT, hF⟩⟩, hS.F ht⟩) hS.2.2 dX12_row_59
    · have t44 : r20.toInt = 0 := ti_eq c26 rfl (by decide)
      have t45 : (0 : Int32).toInt = 0 := by decide
      have t46 : p0.toInt < (0 : Int32).toInt ∨ x18.toInt < p0.toInt := hi25 c26
      refine lv_iconst (v := 1) hx hb dX12_row_32 (by decide) ?_
      refine lv_goto (tgt := 37) hx hb dX12_row_33 (by decide) ?_
      refine lv_iconst (v := 2) hx hb dX12_row_37 (by decide) ?_
      have hFc := gA_free hG hA hS
      refine va_calli (va_runV (As := [.int 1, .int 2]) (rest := []) ⟨hx, hb, hml, hown, hts⟩ (s_throwsIf l dC dI kA adK adV G H q wZ wN wH wB wC wL wK wU wV PI im PM PT lS lB lE lN o0 1 2 hT hr_o0 (rg_t (a := 1) (by decide) (by first | decide | omega) (by first | decide | omega)) hgz hgn hgh hgb hgc hgi hgu) (cwV 2 hts (goodIn_app (goodIn_r _ [10, 11, 12, 6] rfl (by decide +kernel)) (goodIn_ca (goodIn_r _ [9, 1] rfl (by decide +kernel)) (bs_in _ _))) rfl rfl rfl (by decide +kernel) ⟨(Nat.le_of_ble_eq_true rfl), (Nat.le_of_ble_eq_true rfl)⟩) ⟨fun a U g mk q => by obtain ⟨q0, q1, qK, qE⟩ := q; exact ⟨q0, q1, va_K.moved (u := U) (U := U.calling g mk a) (Vm.Alike.refl U.vm) qK, EVS.blind g mk a qE⟩, gH_rc hK hT hr_o0 shm_0 rfl, fun U hU hW => ⟨rfl, hU, va_K.moved hW.alike hK, hE.call hS hFc hU hW⟩⟩ rfl rfl hl.1 rfl (lv_room (Nat.le_of_ble_eq_true rfl)) dX12_row_38 ⟨(Nat.le_of_ble_eq_true rfl), (Nat.le_of_ble_eq_true rfl)⟩) hS (fun q _ h => hFc q h) hFc (fun r47 u t H locs ht hvm hw48 hB _ _ hS => ?_)
      obtain ⟨hT, hF1⟩ := hB
      rw [ht] at hT hF1
      have hF := hF.more hF1 (by decide)
      try dsimp only at hw48
      obtain ⟨h50, hd51⟩ := hw48
      obtain rfl : (1 : Int32) = r47 := hd51.symm
      refine lv_if_eq (tgt := 48) hx hb dX12_row_41 (by decide) (fun c52 => absurd c52 (by decide)) (fun c52 => ?_)
      refine lv_iconst (v := 0) hx hb dX12_row_44 (by decide) ?_
      refine lv_goto (tgt := 59) hx hb dX12_row_45 (by decide) ?_
      exact W.iret (v := 0) hx hb hr (fun t ht hW => ⟨⟨0, (), rfl, (by exact trivial), by (try dsimp only); rw [ht]; exact ⟨hT, hF⟩⟩, hS.F ht⟩) hS.2.2 dX12_row_59
def w_s_tear : List Cond := .code yX12_tear cX12_tear 4 (some .int) :: (HAppend.hAppend (α := List Cond) (β := List Cond) (γ := List Cond) [.fieldLink RX12 194 "SeaLandModel" "thrown" "I", .code yX12_noSquare cX12_noSquare 1 (some .boolean), .code yX12_in cX12_in 3 (some .boolean), .methodLink RX12 197 yX12_in, .static yX12_in, .initialized RX12, .methodLink RX12 220 yX12_noSquare, .static yX12_noSquare, .code yX12_throwsIf cX12_throwsIf 3 (some .boolean), .methodLink RX12 224 yX12_throwsIf, .instanceMethod yX12_throwsIf, .selects RX12 yX12_throwsIf yX12_throwsIf, .fieldLink RX12 238 "SeaLandModel" "rows" "I", .fieldLink RX12 25 "SeaLandModel" "rowTold" "[I"] bs)
set_option maxHeartbeats 4000000 in
set_option maxRecDepth 100000 in
theorem s_tear (l : Launch) (dC : Nat → ClassId) (dI : Nat → Nat → Nat) (kA : Nat → ClassId) (adK adV : Nat → Nat) (G : gT) (H0 : Heap) (q : Nat → Nat) (wZ wN : Nat → Int) (wH wB wC : Int) (wL wK : Nat → Prop) (wU wV : Nat → Nat) (PI : Nat → Int → Prop) (im : Int) (PM PT : Nat → Int → Prop) (lS lB lE : Nat → Nat → Int → Prop) (lN : Nat → Int) (o0 : Nat) (p0 : Int32) (p1 : Int32) (p2 : Int32)  (hT : gH (dC, dI) kA (SHm q (wP wZ wN wH wB wC wL wK wU wV) PI im PM PT lS lB lE lN) G H0) (hr_o0 : G o0 = some 0) (hgz : ∀ i, 0 ≤ wZ i) (hgn : ∀ i, 6500000 ≤ wN i ∧ wN i ≤ 20200000) (hgh : 0 ≤ wH ∧ wH ≤ 40000) (hgb : 0 ≤ wB ∧ wB ≤ 3850000) (hgc : 0 ≤ wC ∧ wC ≤ 30) (hgi : 0 ≤ im ∧ im ≤ 1) (hgu : ∀ a t, G a = some (t + 1) → a = q t) : Met l yX12_tear w_s_tear ({ frames := 2, cells := 0, slots := 0, locals := 42 }) (va_Pc [.ref o0, .int p0, .int p1, .int p2] (fun U => U.heap = H0 ∧ va_K (dC, dI) vwCl (tyl kA) U ∧ EVS adK adV (gA G H0.size) U U.heap)) (va_Qi (fun (r : Int32) (u : Unit) => True) (fun (_ : Unit) (t : State) => gH (dC, dI) kA (SHm q (wP wZ wN wH wB wC wL wK wU wV) PI im PM PT lS lB lE lN) G t.heap ∧ gF (dC, dI) SKm G ([(0, 0), (8, 0)] : List (Nat × Nat)) H0 t.heap) (gA G H0.size)) 0 0 (gA G H0.size) := by
  refine Met.ofW (cc := cX12_tear) (maxL := 4) (ret := (some .int)) (by decide) rfl ?_
  intro p e s m args below meth c s₁ B hml hv
  obtain ⟨rfl, hH0, hK, hE⟩ := hv
  have hx := B.exec
  have hb := B.bytes
  have hr := B.returns
  have hts := atoms_spec (ws := w_s_tear) B.pre
  have hown : s.vm.findClass RX12 = some m.cls := findClass_of_methodNamed B.named
  have hlocks := B.notSynchronized
  subst hH0
  generalize hAe : gA G s.heap.size = A at hE ⊢
  have hA : ∀ q : Nat, s.heap.size ≤ q → A q := fun q h => by rw [← hAe]; exact Or.inr h
  have hG := gA_of hAe
  have hS : va_S A s.heap s.heap [] := va_S.rf
  have hF : gF (dC, dI) SKm G ([(0, 0), (8, 0)] : List (Nat × Nat)) s.heap s.heap := gF.rf
  have hl := lv_entry ([.ref o0, .int p0, .int p1, .int p2]) (n := 4) (Nat.le_of_ble_eq_true rfl)
  rw [lg_entry_eq]
  generalize (lg_sl ([.ref o0, .int p0, .int p1, .int p2]) ++ List.replicate (4 - (lg_sl ([.ref o0, .int p0, .int p1, .int p2])).length) Slot.unset).toArray = ls at hl ⊢
  have hl : lv_has ls 4 [(0, .ref o0), (1, .int p0), (2, .int p1), (3, .int p2)] := hl
  refine lv_aload_n hx hb dX12_tear_0 rfl (lv_at hl 0 rfl) ?_
  refine lv_iconst (v := 0) hx hb dX12_tear_1 (by decide) ?_
  refine tw_put (v := .int 0) (ty := .int) hx hb hts bF_X12 tyX12 tyX12_ok nmX12 hown hK hT hG hS hr_o0 shm_0 rfl 0 (by decide) (ht_at hts 0 rfl) (fun _ h9 => h9) rfl (by decide +kernel) rfl rfl (gl_at rfl (gi_all _)) dX12_tear_2 (fun H locs hT oq m1 oj hS => ?_)
  have hF := hF.put hr_o0 skm_0 oq oj (by decide)
  refine lv_aload_n hx hb dX12_tear_5 rfl (lv_at hl 0 rfl) ?_
  refine lv_iload_n hx hb dX12_tear_6 rfl (lv_at hl 2 rfl) ?_
  have hFc := gA_free hG hA hS
  refine va_calli (va_runS (As := [.int p1]) (rest := [.ref o0]) ⟨hx, hb, hml, hown, hts⟩ (s_noSquare l dC dI kA adK adV G H q wZ wN wH wB wC wL wK wU wV PI im PM PT lS lB lE lN p1 hT hgz hgn hgh hgb hgc hgi hgu) (va_cwS 1 hts (goodIn_app (goodIn_r _ [7, 8, 6] rfl (by decide +kernel)) (goodIn_ca (goodIn_r _ [2, 3, 4, 5, 6] rfl (by decide +kernel)) (bs_in _ _))) rfl rfl rfl (by decide +kernel) ⟨(Nat.le_of_ble_eq_true rfl), (Nat.le_of_ble_eq_true rfl)⟩) ⟨fun a U g mk q => by obtain ⟨q0, q1, qK, qE⟩ := q; exact ⟨q0, q1, va_K.moved (u := U) (U := U.calling g mk a) (Vm.Alike.refl U.vm) qK, EVS.blind g mk a qE⟩, fun U hU hW => ⟨rfl, hU, va_K.moved hW.alike hK, hE.call hS hFc hU hW⟩⟩ rfl rfl hl.1 rfl (lv_room (Nat.le_of_ble_eq_true rfl)) dX12_tear_7 ⟨(Nat.le_of_ble_eq_true rfl), (Nat.le_of_ble_eq_true rfl)⟩) hS (fun q _ h => hFc q h) hFc (fun r2 u t H locs ht hvm hw3 hB _ _ hS => ?_)
  obtain ⟨hT, hF1⟩ := hB
  rw [ht] at hT hF1
  have hF := hF.more hF1 (by decide)
  try dsimp only at hw3
  obtain ⟨h5, hi6⟩ := hw3
  refine lv_iconst (v := 1) hx hb dX12_tear_10 (by decide) ?_
  have hFc := gA_free hG hA hS
  refine va_calli (va_runV (As := [.int r2, .int 1]) (rest := []) ⟨hx, hb, hml, hown, hts⟩ (s_throwsIf l dC dI kA adK adV G H q wZ wN wH wB wC wL wK wU wV PI im PM PT lS lB lE lN o0 r2 1 hT hr_o0 (by have q8 := ti_all r2; omega) hgz hgn hgh hgb hgc hgi hgu) (cwV 2 hts (goodIn_app (goodIn_r _ [10, 11, 12, 6] rfl (by decide +kernel)) (goodIn_ca (goodIn_r _ [9, 1] rfl (by decide +kernel)) (bs_in _ _))) rfl rfl rfl (by decide +kernel) ⟨(Nat.le_of_ble_eq_true rfl), (Nat.le_of_ble_eq_true rfl)⟩) ⟨fun a U g mk q => by obtain ⟨q0, q1, qK, qE⟩ := q; exact ⟨q0, q1, va_K.moved (u := U) (U := U.calling g mk a) (Vm.Alike.refl U.vm) qK, EVS.blind g mk a qE⟩, gH_rc hK hT hr_o0 shm_0 rfl, fun U hU hW => ⟨rfl, hU, va_K.moved hW.alike hK, hE.call hS hFc hU hW⟩⟩ rfl rfl hl.1 rfl (lv_room (Nat.le_of_ble_eq_true rfl)) dX12_tear_11 ⟨(Nat.le_of_ble_eq_true rfl), (Nat.le_of_ble_eq_true rfl)⟩) hS (fun q _ h => hFc q h) hFc (fun r7 u t H locs ht hvm hw8 hB _ _ hS => ?_)
  obtain ⟨hT, hF1⟩ := hB
  rw [ht] at hT hF1
  have hF := hF.more hF1 (by decide)
  try dsimp only at hw8
  obtain ⟨h10, hd11⟩ := hw8
  obtain rfl : r2 = r7 := hd11.symm
  refine lv_if_ne (tgt := 44) hx hb dX12_tear_14 (by decide) (fun c12 => ?_) (fun c12 => ?_)
  · have t13 : r2.toInt ≠ 0 := ti_ne c12 rfl (by decide)
    refine lv_iconst (v := 0) hx hb dX12_tear_44 (by decide) ?_
    exact W.iret (v := 0) hx hb hr (fun t ht hW => ⟨⟨0, (), rfl, (by exact trivial), by (try dsimp only); rw [ht]; exact ⟨hT, hF⟩⟩, hS.F ht⟩) hS.2.2 dX12_tear_45
  · have t14 : r2.toInt = 0 := ti_eq c12 rfl (by decide)
    have t15 : 0 ≤ p1.toInt ∧ p1.toInt ≤ 95 := hi6 c12
    refine lv_aload_n hx hb dX12_tear_17 rfl (lv_at hl 0 rfl) ?_
    refine lv_iload_n hx hb dX12_tear_18 rfl (lv_at hl 1 rfl) ?_
    refine lv_iconst (v := 0) hx hb dX12_tear_19 (by decide) ?_
    refine lv_aload_n hx hb dX12_tear_20 rfl (lv_at hl 0 rfl) ?_
    refine tw_get hx hb hts bF_X12 hown hK hT hr_o0 shm_0 rfl 9 (by decide) (ht_at hts 12 rfl) (fun _ h9 => h9) dX12_tear_21 (fun v9 m16 h9 => ?_)
    obtain ⟨x17, rfl, gx17, kx17⟩ := h9 _ rfl
    refine lv_iconst (v := 1) hx hb dX12_tear_24 (by decide) ?_
    refine lv_isub hx hb dX12_tear_25 ?_
    refine lv_topi (fun x18 ex18 => ?_)
    have t19 : x18.toInt = x17.toInt - 1 := ti_sub ex18 rfl (by decide) (by omega) (by omega)
    have hFc := gA_free hG hA hS
    refine va_calli (va_runS (As := [.int p0, .int 0, .int x18]) (rest := [.ref o0]) ⟨hx, hb, hml, hown, hts⟩ (s_in l dC dI kA adK adV G H q wZ wN wH wB wC wL wK wU wV PI im PM PT lS lB lE lN p0 0 x18 hT hgz hgn hgh hgb hgc hgi hgu) (va_cwS 3 hts (goodIn_app (goodIn_r _ [4, 5, 6] rfl (by decide +kernel)) (goodIn_ca (goodIn_r _ [3] rfl (by decide +kernel)) (bs_in _ _))) rfl rfl rfl (by decide +kernel) ⟨(Nat.le_of_ble_eq_true rfl), (Nat.le_of_ble_eq_true rfl)⟩) ⟨fun a U g mk q => by obtain ⟨q0, q1, qK, qE⟩ := q; exact ⟨q0, q1, va_K.moved (u := U) (U := U.calling g mk a) (Vm.Alike.refl U.vm) qK, EVS.blind g mk a qE⟩, fun U hU hW => ⟨rfl, hU, va_K.moved hW.alike hK, hE.call hS hFc hU hW⟩⟩ rfl rfl hl.1 rfl (lv_room (Nat.le_of_ble_eq_true rfl)) dX12_tear_26 ⟨(Nat.le_of_ble_eq_true rfl), (Nat.le_of_ble_eq_true rfl)⟩) hS (fun q _ h => hFc q h) hFc (fun r20 u t H locs ht hvm hw21 hB _ _ hS => ?_)
    obtain ⟨hT, hF1⟩ := hB
    rw [ht] at hT hF1
    have hF := hF.more hF1 (by decide)
    try dsimp only at hw21
    obtain ⟨h23, hi24, hi25⟩ := hw21
    refine lv_if_ne (tgt := 36) hx hb dX12_tear_29 (by decide) (fun c26 => ?_) (fun c26 => ?_)
    · have t27 : r20.toInt ≠ 0 := ti_ne c26 rfl (by decide)
      have t28 : (0 : Int32).toInt = 0 := by decide
      have t29 : (0 : Int32).toInt ≤ p0.toInt ∧ p0.toInt ≤ x18.toInt := hi24 ((bit_of ⟨by omega, by omega⟩).resolve_left c26)
      refine lv_iconst (v := 0) hx hb dX12_tear_36 (by decide) ?_
      refine lv_iconst (v := 2) hx hb dX12_tear_37 (by decide) ?_
      have hFc := gA_free hG hA hS
      refine va_calli (va_runV (As := [.int 0, .int 2]) (rest := []) ⟨hx, hb, hml, hown, hts⟩ (s_throwsIf l dC dI kA adK adV G H q wZ wN wH wB wC wL wK wU wV PI im PM PT lS lB lE lN o0 0 2 hT hr_o0 (rg_t (a := 0) (by decide) (by first | decide | omega) (by first | decide | omega)) hgz hgn hgh hgb hgc hgi hgu) (cwV 2 hts (goodIn_app (goodIn_r _ [10, 11, 12, 6] rfl (by decide +kernel)) (goodIn_ca (goodIn_r _ [9, 1] rfl (by decide +kernel)) (bs_in _ _))) rfl rfl rfl (by decide +kernel) ⟨(Nat.le_of_ble_eq_true rfl), (Nat.le_of_ble_eq_true rfl)⟩) ⟨fun a U g mk q => by obtain ⟨q0, q1, qK, qE⟩ := q; exact ⟨q0, q1, va_K.moved (u := U) (U := U.calling g mk a) (Vm.Alike.refl U.vm) qK, EVS.blind g mk a qE⟩, gH_rc hK hT hr_o0 shm_0 rfl, fun U hU hW => ⟨rfl, hU, va_K.moved hW.alike hK, hE.call hS hFc hU hW⟩⟩ rfl rfl hl.1 rfl (lv_room (Nat.le_of_ble_eq_true rfl)) dX12_tear_38 ⟨(Nat.le_of_ble_eq_true rfl), (Nat.le_of_ble_eq_true rfl)⟩) hS (fun q _ h => hFc q h) hFc (fun r30 u t H locs ht hvm hw31 hB _ _ hS => ?_)
      obtain ⟨hT, hF1⟩ := hB
      rw [ht] at hT hF1
      have hF := hF.more hF1 (by decide)
      try dsimp only at hw31
      obtain ⟨h33, hd34⟩ := hw31
      obtain rfl : (0 : Int32) = r30 := hd34.symm
      refine lv_if_eq (tgt := 46) hx hb dX12_tear_41 (by decide) (fun c35 => ?_) (fun c35 => absurd c35 (by decide))
      refine lv_aload_n hx hb dX12_tear_46 rfl (lv_at hl 0 rfl) ?_
      refine tw_get hx hb hts bF_X12 hown hK hT hr_o0 shm_0 rfl 7 (by decide) (ht_at hts 13 rfl) (fun _ h9 => h9) dX12_tear_47 (fun v9 m36 h9 => ?_)
      obtain ⟨rfl, hg37⟩ := h9 _ rfl
      refine lv_bipush (v := 96) hx hb dX12_tear_50 (by decide) ?_
      refine lv_iload_n hx hb dX12_tear_52 rfl (lv_at hl 1 rfl) ?_
      refine lv_imul hx hb dX12_tear_53 ?_
      refine lv_topi (fun x38 ex38 => ?_)
      have t39 : x38.toInt = 96 * p0.toInt := ti_mul ex38 (by decide) rfl (by omega) (by omega)
      refine lv_iload_n hx hb dX12_tear_54 rfl (lv_at hl 2 rfl) ?_
      refine lv_iadd hx hb dX12_tear_55 ?_
      refine lv_topi (fun x40 ex40 => ?_)
      have t41 : x40.toInt = x38.toInt + p1.toInt := ti_add ex40 rfl rfl (by omega) (by omega)
      refine lv_dup2_11 hx hb dX12_tear_56 rfl rfl ?_
      refine tw_iald (i := x40) hx hb hK hT hg37 shm_8 rfl (vin_t (a := x40.toInt) rfl (by omega) (by omega)) dX12_tear_57 (fun v9 m42 h9 => ?_)
      obtain ⟨x43, rfl, gx43, kx43⟩ := h9
      refine lv_iload_n hx hb dX12_tear_58 rfl (lv_at hl 3 rfl) ?_
      refine lv_ixor hx hb dX12_tear_59 ?_
      refine lv_topi (fun x44 ex44 => ?_)
      refine tw_iast (i := x40) (x := x44) hx hb hK hT hG hS hg37 shm_8 rfl (vin_t (a := x40.toInt) rfl (by omega) (by omega)) (gi_all _) dX12_tear_60 (fun H locs hT oq m45 oi hS => ?_)
      have hF := hF.ast hg37 skm_8 oq (by decide)
      refine lv_aload_n hx hb dX12_tear_61 rfl (lv_at hl 0 rfl) ?_
      refine tw_get hx hb hts bF_X12 hown hK hT hr_o0 shm_0 rfl 7 (by decide) (ht_at hts 13 rfl) (fun _ h9 => h9) dX12_tear_62 (fun v9 m47 h9 => ?_)
      obtain ⟨rfl, hg48⟩ := h9 _ rfl
      refine lv_bipush (v := 96) hx hb dX12_tear_65 (by decide) ?_
      refine lv_iload_n hx hb dX12_tear_67 rfl (lv_at hl 1 rfl) ?_
      refine lv_imul hx hb dX12_tear_68 ?_
      refine lv_topi (fun x49 ex49 => ?_)
      have t50 : x49.toInt = 96 * p0.toInt := ti_mul ex49 (by decide) rfl (by omega) (by omega)
      refine lv_iload_n hx hb dX12_tear_69 rfl (lv_at hl 2 rfl) ?_
      refine lv_iadd hx hb dX12_tear_70 ?_
      refine lv_topi (fun x51 ex51 => ?_)
      have t52 : x51.toInt = x49.toInt + p1.toInt := ti_add ex51 rfl rfl (by omega) (by omega)
      refine tw_iald (i := x51) hx hb hK hT hg37 shm_8 rfl (vin_t (a := x51.toInt) rfl (by omega) (by omega)) dX12_tear_71 (fun v9 m53 h9 => ?_)
      obtain ⟨x54, rfl, gx54, kx54⟩ := h9
      obtain rfl : x44 = x54 := (el_same m53 m45 (show x51.toInt = x40.toInt from by rw []; try omega)).symm
      exact W.iret (v := x44) hx hb hr (fun t ht hW => ⟨⟨x44, (), rfl, (by exact trivial), by (try dsimp only); rw [ht]; exact ⟨hT, hF⟩⟩, hS.F ht⟩) hS.2.2 dX12_tear_72
    · have t55 : r20.toInt = 0 := ti_eq c26 rfl (by decide)
      have t56 : (0 : Int32).toInt = 0 := by decide
      have t57 : p0.toInt < (0 : Int32).toInt ∨ x18.toInt < p0.toInt := hi25 c26
      refine lv_iconst (v := 1) hx hb dX12_tear_32 (by decide) ?_
      refine lv_goto (tgt := 37) hx hb dX12_tear_33 (by decide) ?_
      refine lv_iconst (v := 2) hx hb dX12_tear_37 (by decide) ?_
      have hFc := gA_free hG hA hS
      refine va_calli (va_runV (As := [.int 1, .int 2]) (rest := []) ⟨hx, hb, hml, hown, hts⟩ (s_throwsIf l dC dI kA adK adV G H q wZ wN wH wB wC wL wK wU wV PI im PM PT lS lB lE lN o0 1 2 hT hr_o0 (rg_t (a := 1) (by decide) (by first | decide | omega) (by first | decide | omega)) hgz hgn hgh hgb hgc hgi hgu) (cwV 2 hts (goodIn_app (goodIn_r _ [10, 11, 12, 6] rfl (by decide +kernel)) (goodIn_ca (goodIn_r _ [9, 1] rfl (by decide +kernel)) (bs_in _ _))) rfl rfl rfl (by decide +kernel) ⟨(Nat.le_of_ble_eq_true rfl), (Nat.le_of_ble_eq_true rfl)⟩) ⟨fun a U g mk q => by obtain ⟨q0, q1, qK, qE⟩ := q; exact ⟨q0, q1, va_K.moved (u := U) (U := U.calling g mk a) (Vm.Alike.refl U.vm) qK, EVS.blind g mk a qE⟩, gH_rc hK hT hr_o0 shm_0 rfl, fun U hU hW => ⟨rfl, hU, va_K.moved hW.alike hK, hE.call hS hFc hU hW⟩⟩ rfl rfl hl.1 rfl (lv_room (Nat.le_of_ble_eq_true rfl)) dX12_tear_38 ⟨(Nat.le_of_ble_eq_true rfl), (Nat.le_of_ble_eq_true rfl)⟩) hS (fun q _ h => hFc q h) hFc (fun r58 u t H locs ht hvm hw59 hB _ _ hS => ?_)
      obtain ⟨hT, hF1⟩ := hB
      rw [ht] at hT hF1
      have hF := hF.more hF1 (by decide)
      try dsimp only at hw59
      obtain ⟨h61, hd62⟩ := hw59
      obtain rfl : (1 : Int32) = r58 := hd62.symm
      refine lv_if_eq (tgt := 46) hx hb dX12_tear_41 (by decide) (fun c63 => absurd c63 (by decide)) (fun c63 => ?_)
      refine lv_iconst (v := 0) hx hb dX12_tear_44 (by decide) ?_
      exact W.iret (v := 0) hx hb hr (fun t ht hW => ⟨⟨0, (), rfl, (by exact trivial), by (try dsimp only); rw [ht]; exact ⟨hT, hF⟩⟩, hS.F ht⟩) hS.2.2 dX12_tear_45
def w_s_writesRow : List Cond := .code yX12_writesRow cX12_writesRow 2 none :: (HAppend.hAppend (α := List Cond) (β := List Cond) (γ := List Cond) [.fieldLink RX12 238 "SeaLandModel" "rows" "I", .fieldLink RX12 25 "SeaLandModel" "rowTold" "[I", .code yX12_level cX12_level 2 (some .int), .code yX12_isLand cX12_isLand 2 (some .boolean), .fieldLink RX12 9 "SeaLandModel" "world" "[I", .methodLink RX12 235 yX12_isLand, .instanceMethod yX12_isLand, .selects RX12 yX12_isLand yX12_isLand, .initialized RX12, .code yX12_hour cX12_hour 1 (some .int), .methodLink RX12 228 yX12_hour, .instanceMethod yX12_hour, .selects RX12 yX12_hour yX12_hour, .code yX12_outside cX12_outside 4 (some .int), .code yX12_in cX12_in 3 (some .boolean), .methodLink RX12 197 yX12_in, .static yX12_in, .methodLink RX12 247 yX12_outside, .instanceMethod yX12_outside, .selects RX12 yX12_outside yX12_outside, .methodLink RX12 285 yX12_level, .instanceMethod yX12_level, .selects RX12 yX12_level yX12_level, .fieldLink RX12 28 "SeaLandModel" "rowTrue" "[I"] bs)
set_option maxHeartbeats 4000000 in
set_option maxRecDepth 100000 in
theorem s_writesRow (l : Launch) (dC : Nat → ClassId) (dI : Nat → Nat → Nat) (kA : Nat → ClassId) (adK adV : Nat → Nat) (G : gT) (H0 : Heap) (q : Nat → Nat) (wZ wN : Nat → Int) (wH wB wC : Int) (wL wK : Nat → Prop) (wU wV : Nat → Nat) (PI : Nat → Int → Prop) (im : Int) (PM PT : Nat → Int → Prop) (lS lB lE : Nat → Nat → Int → Prop) (lN : Nat → Int) (o0 : Nat)  (hT : gH (dC, dI) kA (SHm q (wP wZ wN wH wB wC wL wK wU wV) PI im PM PT lS lB lE lN) G H0) (hr_o0 : G o0 = some 0) (hgz : ∀ i, 0 ≤ wZ i) (hgn : ∀ i, 6500000 ≤ wN i ∧ wN i ≤ 20200000) (hgh : 0 ≤ wH ∧ wH ≤ 40000) (hgb : 0 ≤ wB ∧ wB ≤ 3850000) (hgc : 0 ≤ wC ∧ wC ≤ 30) (hgi : 0 ≤ im ∧ im ≤ 1) (hgu : ∀ a t, G a = some (t + 1) → a = q t) : Met l yX12_writesRow w_s_writesRow ({ frames := 3, cells := 0, slots := 0, locals := 66 }) (va_Pc [.ref o0] (fun U => U.heap = H0 ∧ va_K (dC, dI) vwCl (tyl kA) U ∧ EVS adK adV (gA G H0.size) U U.heap)) (va_Qv (fun (u : Unit) => True) (fun (_ : Unit) (t : State) => gH (dC, dI) kA (SHm q (wP wZ wN wH wB wC wL wK wU wV) PI im PM PT lS lB lE lN) G t.heap ∧ gF (dC, dI) SKm G ([(0, 9), (8, 0), (9, 0)] : List (Nat × Nat)) H0 t.heap) (gA G H0.size)) 0 0 (gA G H0.size) := by
  refine Met.ofW (cc := cX12_writesRow) (maxL := 2) (ret := none) (by decide) rfl ?_
  intro p e s m args below meth c s₁ B hml hv
  obtain ⟨rfl, hH0, hK, hE⟩ := hv
  have hx := B.exec
  have hb := B.bytes
  have hr := B.returns
  have hts := atoms_spec (ws := w_s_writesRow) B.pre
  have hown : s.vm.findClass RX12 = some m.cls := findClass_of_methodNamed B.named
  have hlocks := B.notSynchronized
  subst hH0
  generalize hAe : gA G s.heap.size = A at hE ⊢
  have hA : ∀ q : Nat, s.heap.size ≤ q → A q := fun q h => by rw [← hAe]; exact Or.inr h
  have hG := gA_of hAe
  have hS : va_S A s.heap s.heap [] := va_S.rf
  have hF : gF (dC, dI) SKm G ([(0, 9), (8, 0), (9, 0)] : List (Nat × Nat)) s.heap s.heap := gF.rf
  have hl := lv_entry ([.ref o0]) (n := 2) (Nat.le_of_ble_eq_true rfl)
  rw [lg_entry_eq]
  generalize (lg_sl ([.ref o0]) ++ List.replicate (2 - (lg_sl ([.ref o0])).length) Slot.unset).toArray = ls at hl ⊢
  have hl : lv_has ls 2 [(0, .ref o0)] := hl
  refine lv_aload_n hx hb dX12_writesRow_0 rfl (lv_at hl 0 rfl) ?_
  refine tw_get hx hb hts bF_X12 hown hK hT hr_o0 shm_0 rfl 9 (by decide) (ht_at hts 0 rfl) (fun _ h9 => h9) dX12_writesRow_1 (fun v9 m1 h9 => ?_)
  obtain ⟨x2, rfl, gx2, kx2⟩ := h9 _ rfl
  refine lv_bipush (v := 24) hx hb dX12_writesRow_4 (by decide) ?_
  refine lv_icmp_ne (tgt := 65) hx hb dX12_writesRow_6 (by decide) (fun c3 => ?_) (fun c3 => ?_)
  · have t4 : x2.toInt ≠ 24 := ti_ne c3 rfl (by decide)
    refine lv_iconst (v := 0) hx hb dX12_writesRow_65 (by decide) ?_
    refine lv_istore_n (lv' := [(1, .int 0), (0, .ref o0)]) hx hb dX12_writesRow_66 rfl hl (by decide) rfl (fun ls hl => ?_)
    have jn66 : ∀ (H : Heap) (locs : List Loc), gH (dC, dI) kA (SHm q (wP wZ wN wH wB wC wL wK wU wV) PI im PM PT lS lB lE lN) G H → gF (dC, dI) SKm G ([(0, 9), (8, 0), (9, 0)] : List (Nat × Nat)) s.heap H → va_S A s.heap H locs → el H o0 (dI 15 9) = some (.int x2) → ∀ ls : Array Slot, lv_has ls 2 [(1, .int (nI 96)), (0, .ref o0)] → W p l e (headSpec w_s_writesRow ({ frames := 3, cells := 0, slots := 0, locals := 66 })).room s m #[.ref o0] below meth c H locs 0 0 (MQ below (va_Qv (fun (u : Unit) => True) (fun (_ : Unit) (t : State) => gH (dC, dI) kA (SHm q (wP wZ wN wH wB wC wL wK wU wV) PI im PM PT lS lB lE lN) G t.heap ∧ gF (dC, dI) SKm G ([(0, 9), (8, 0), (9, 0)] : List (Nat × Nat)) s.heap t.heap) A) #[.ref o0] s 0 0 A) (F0 m 117 ls []) := by
      intro  H locs hT hF hS m65 ls hl
      refine lv_aload_n hx hb dX12_writesRow_117 rfl (lv_at hl 1 rfl) ?_
      refine lv_dup hx hb dX12_writesRow_118 rfl ?_
      refine tw_getM (v := .int x2) hx hb hts bF_X12 hown hK hT hr_o0 shm_0 rfl 9 (by decide) (ht_at hts 0 rfl) (fun _ h9 => h9) m65 dX12_writesRow_119 ?_
      refine lv_iconst (v := 1) hx hb dX12_writesRow_122 (by decide) ?_
      refine lv_iadd hx hb dX12_writesRow_123 ?_
      refine lv_topi (fun x67 ex67 => ?_)
      have t68 : x67.toInt = x2.toInt + 1 := ti_add ex67 rfl (by decide) (by omega) (by omega)
      refine tw_put (v := .int x67) (ty := .int) hx hb hts bF_X12 tyX12 tyX12_ok nmX12 hown hK hT hG hS hr_o0 shm_0 rfl 9 (by decide) (ht_at hts 0 rfl) (fun _ h9 => h9) rfl (by decide +kernel) rfl rfl (gl_at rfl (gi_of (show x67.toInt = x67.toInt from rfl) (by omega) (by omega))) dX12_writesRow_124 (fun H locs hT oq m69 oj hS => ?_)
      have hF := hF.put hr_o0 skm_0 oq oj (by decide)
      exact W.vret hx hb hr (fun t ht hW => ⟨⟨(), rfl, (by exact trivial), by (try dsimp only); rw [ht]; exact ⟨hT, hF⟩⟩, hS.F ht⟩) hS.2.2 dX12_writesRow_127
    have key70 : ∀ (n70 i5 : Nat), i5 + n70 = 96 → 0 ≤ i5 → ∀ (H : Heap) (locs : List Loc), gH (dC, dI) kA (SHm q (wP wZ wN wH wB wC wL wK wU wV) PI im PM PT lS lB lE lN) G H → gF (dC, dI) SKm G ([(0, 9), (8, 0), (9, 0)] : List (Nat × Nat)) s.heap H → va_S A s.heap H locs → el H o0 (dI 15 9) = some (.int x2) → ∀ ls : Array Slot, lv_has ls 2 [(1, .int (nI i5)), (0, .ref o0)] → W p l e (headSpec w_s_writesRow ({ frames := 3, cells := 0, slots := 0, locals := 66 })).room s m #[.ref o0] below meth c H locs 0 0 (MQ below (va_Qv (fun (u : Unit) => True) (fun (_ : Unit) (t : State) => gH (dC, dI) kA (SHm q (wP wZ wN wH wB wC wL wK wU wV) PI im PM PT lS lB lE lN) G t.heap ∧ gF (dC, dI) SKm G ([(0, 9), (8, 0), (9, 0)] : List (Nat × Nat)) s.heap t.heap) A) #[.ref o0] s 0 0 A) (F0 m 67 ls []) := by
      intro n70
      induction n70 with
      | zero =>
        intro i5 hn70 hlo71  H locs hT hF hS m6 ls hl
        obtain rfl : 96 = i5 := by omega
        refine lv_iload_n hx hb dX12_writesRow_67 rfl (lv_at hl 0 rfl) ?_
        refine lv_bipush (v := 96) hx hb dX12_writesRow_68 (by decide) ?_
        refine lv_icmp_ge (tgt := 117) hx hb dX12_writesRow_70 (by decide) (fun c72 => ?_) (fun c72 => (by exfalso; have q9 : ((96 : Nat) : Int) < 96 := ti_nle c72 (by decide) (nI_toInt (by omega)); omega))
        have t73 : 96 ≤ ((96 : Nat) : Int) := ti_le c72 (by decide) (nI_toInt (by omega))
        exact jn66 _ _ hT hF hS m6 ls (lv_sub hl [0, 1] rfl)
      | succ n70 ih70 =>
        intro i5 hn70 hlo71  H locs hT hF hS m6 ls hl
        have hlt73 : i5 < 96 := by omega
        refine lv_iload_n hx hb dX12_writesRow_67 rfl (lv_at hl 0 rfl) ?_
        refine lv_bipush (v := 96) hx hb dX12_writesRow_68 (by decide) ?_
        refine lv_icmp_ge (tgt := 117) hx hb dX12_writesRow_70 (by decide) (fun c74 => (by exfalso; have q9 : 96 ≤ ((i5 : Nat) : Int) := ti_le c74 (by decide) (nI_toInt (by omega)); omega)) (fun c74 => ?_)
        have t75 : ((i5 : Nat) : Int) < 96 := ti_nle c74 (by decide) (nI_toInt (by omega))
        refine lv_aload_n hx hb dX12_writesRow_73 rfl (lv_at hl 1 rfl) ?_
        refine tw_get hx hb hts bF_X12 hown hK hT hr_o0 shm_0 rfl 7 (by decide) (ht_at hts 1 rfl) (fun _ h9 => h9) dX12_writesRow_74 (fun v9 m76 h9 => ?_)
        obtain ⟨rfl, hg77⟩ := h9 _ rfl
        refine lv_bipush (v := 96) hx hb dX12_writesRow_77 (by decide) ?_
        refine lv_aload_n hx hb dX12_writesRow_79 rfl (lv_at hl 1 rfl) ?_
        refine tw_getM (v := .int x2) hx hb hts bF_X12 hown hK hT hr_o0 shm_0 rfl 9 (by decide) (ht_at hts 0 rfl) (fun _ h9 => h9) m6 dX12_writesRow_80 ?_
        refine lv_imul hx hb dX12_writesRow_83 ?_
        refine lv_topi (fun x78 ex78 => ?_)
        have t79 : x78.toInt = 96 * x2.toInt := ti_mul ex78 (by decide) rfl (by omega) (by omega)
        refine lv_iload_n hx hb dX12_writesRow_84 rfl (lv_at hl 0 rfl) ?_
        refine lv_iadd hx hb dX12_writesRow_85 ?_
        refine lv_topi (fun x80 ex80 => ?_)
        have t81 : x80.toInt = x78.toInt + ((i5 : Nat) : Int) := ti_add ex80 rfl (nI_toInt (by omega)) (by omega) (by omega)
        refine lv_aload_n hx hb dX12_writesRow_86 rfl (lv_at hl 1 rfl) ?_
        refine lv_iload_n hx hb dX12_writesRow_87 rfl (lv_at hl 0 rfl) ?_
        have hFc := gA_free hG hA hS
        refine va_calli (va_runV (As := [.int (nI i5)]) (rest := [.int x80, .ref (q 7)]) ⟨hx, hb, hml, hown, hts⟩ (s_level l dC dI kA adK adV G H q wZ wN wH wB wC wL wK wU wV PI im PM PT lS lB lE lN o0 (nI i5) hT hr_o0 (rg_t (a := ((i5 : Nat) : Int)) (nI_toInt (by omega)) (by omega) (by omega)) hgz hgn hgh hgb hgc hgi hgu) (cwV 1 hts (goodIn_app (goodIn_r _ [21, 22, 23, 9] rfl (by decide +kernel)) (goodIn_ca (goodIn_r _ [3, 4, 5, 6, 7, 8, 9, 10, 11, 12, 13, 14, 15, 16, 17, 18, 19, 20] rfl (by decide +kernel)) (bs_in _ _))) rfl rfl rfl (by decide +kernel) ⟨(Nat.le_of_ble_eq_true rfl), (Nat.le_of_ble_eq_true rfl)⟩) ⟨fun a U g mk q => by obtain ⟨q0, q1, qK, qE⟩ := q; exact ⟨q0, q1, va_K.moved (u := U) (U := U.calling g mk a) (Vm.Alike.refl U.vm) qK, EVS.blind g mk a qE⟩, gH_rc hK hT hr_o0 shm_0 rfl, fun U hU hW => ⟨rfl, hU, va_K.moved hW.alike hK, hE.call hS hFc hU hW⟩⟩ rfl rfl hl.1 rfl (lv_room (Nat.le_of_ble_eq_true rfl)) dX12_writesRow_88 ⟨(Nat.le_of_ble_eq_true rfl), (Nat.le_of_ble_eq_true rfl)⟩) hS (fun q _ h => hFc q h) hFc (fun r82 u t H locs ht hvm hw83 hB _ _ hS => ?_)
        obtain ⟨hT, hF1⟩ := hB
        rw [ht] at hT hF1
        have m84 := (hF1.fld hr_o0 skm_0 (k := 9) (by decide) (by decide)).trans m6
        have hF := hF.more hF1 (by decide)
        try dsimp only at hw83
        have h85 := hw83
        refine tw_iast (i := x80) (x := r82) hx hb hK hT hG hS hg77 shm_8 rfl (vin_t (a := x80.toInt) rfl (by omega) (by omega)) (gi_all _) dX12_writesRow_91 (fun H locs hT oq m86 oi hS => ?_)
        have hF := hF.ast hg77 skm_8 oq (by decide)
        have m87 := (el_kept (oq _ (gne hr_o0 hg77 (by decide)))).trans m84
        refine lv_aload_n hx hb dX12_writesRow_92 rfl (lv_at hl 1 rfl) ?_
        refine tw_get hx hb hts bF_X12 hown hK hT hr_o0 shm_0 rfl 8 (by decide) (ht_at hts 23 rfl) (fun _ h9 => h9) dX12_writesRow_93 (fun v9 m88 h9 => ?_)
        obtain ⟨rfl, hg89⟩ := h9 _ rfl
        refine lv_bipush (v := 96) hx hb dX12_writesRow_96 (by decide) ?_
        refine lv_aload_n hx hb dX12_writesRow_98 rfl (lv_at hl 1 rfl) ?_
        refine tw_getM (v := .int x2) hx hb hts bF_X12 hown hK hT hr_o0 shm_0 rfl 9 (by decide) (ht_at hts 0 rfl) (fun _ h9 => h9) m87 dX12_writesRow_99 ?_
        refine lv_imul hx hb dX12_writesRow_102 ?_
        refine lv_topi (fun x90 ex90 => ?_)
        have t91 : x90.toInt = 96 * x2.toInt := ti_mul ex90 (by decide) rfl (by omega) (by omega)
        refine lv_iload_n hx hb dX12_writesRow_103 rfl (lv_at hl 0 rfl) ?_
        refine lv_iadd hx hb dX12_writesRow_104 ?_
        refine lv_topi (fun x92 ex92 => ?_)
        have t93 : x92.toInt = x90.toInt + ((i5 : Nat) : Int) := ti_add ex92 rfl (nI_toInt (by omega)) (by omega) (by omega)
        refine lv_aload_n hx hb dX12_writesRow_105 rfl (lv_at hl 1 rfl) ?_
        refine lv_iload_n hx hb dX12_writesRow_106 rfl (lv_at hl 0 rfl) ?_
        have hFc := gA_free hG hA hS
        refine va_calli (va_runV (As := [.int (nI i5)]) (rest := [.int x92, .ref (q 8)]) ⟨hx, hb, hml, hown, hts⟩ (s_level l dC dI kA adK adV G H q wZ wN wH wB wC wL wK wU wV PI im PM PT lS lB lE lN o0 (nI i5) hT hr_o0 (rg_t (a := ((i5 : Nat) : Int)) (nI_toInt (by omega)) (by omega) (by omega)) hgz hgn hgh hgb hgc hgi hgu) (cwV 1 hts (goodIn_app (goodIn_r _ [21, 22, 23, 9] rfl (by decide +kernel)) (goodIn_ca (goodIn_r _ [3, 4, 5, 6, 7, 8, 9, 10, 11, 12, 13, 14, 15, 16, 17, 18, 19, 20] rfl (by decide +kernel)) (bs_in _ _))) rfl rfl rfl (by decide +kernel) ⟨(Nat.le_of_ble_eq_true rfl), (Nat.le_of_ble_eq_true rfl)⟩) ⟨fun a U g mk q => by obtain ⟨q0, q1, qK, qE⟩ := q; exact ⟨q0, q1, va_K.moved (u := U) (U := U.calling g mk a) (Vm.Alike.refl U.vm) qK, EVS.blind g mk a qE⟩, gH_rc hK hT hr_o0 shm_0 rfl, fun U hU hW => ⟨rfl, hU, va_K.moved hW.alike hK, hE.call hS hFc hU hW⟩⟩ rfl rfl hl.1 rfl (lv_room (Nat.le_of_ble_eq_true rfl)) dX12_writesRow_107 ⟨(Nat.le_of_ble_eq_true rfl), (Nat.le_of_ble_eq_true rfl)⟩) hS (fun q _ h => hFc q h) hFc (fun r94 u t H locs ht hvm hw95 hB _ _ hS => ?_)
        obtain ⟨hT, hF1⟩ := hB
        rw [ht] at hT hF1
        have m96 := (hF1.fld hr_o0 skm_0 (k := 9) (by decide) (by decide)).trans m87
        have hF := hF.more hF1 (by decide)
        try dsimp only at hw95
        have h98 := hw95
        refine tw_iast (i := x92) (x := r94) hx hb hK hT hG hS hg89 shm_9 rfl (vin_t (a := x92.toInt) rfl (by omega) (by omega)) (gi_all _) dX12_writesRow_110 (fun H locs hT oq m99 oi hS => ?_)
        have hF := hF.ast hg89 skm_9 oq (by decide)
        have m100 := (el_kept (oq _ (gne hr_o0 hg89 (by decide)))).trans m96
        refine lv_iinc (v := nI (i5 + 1)) (lv' := [(1, .int (nI (i5 + 1))), (0, .ref o0)]) hx hb dX12_writesRow_111 hl (k := 0) rfl (nI_add i5 1) (by decide) rfl (fun ls hl => ?_)
        refine lv_goto (tgt := 67) hx hb dX12_writesRow_114 (by decide) ?_
        exact ih70 (i5 + 1) (by omega) (by omega) _ _ hT hF hS m100 ls (lv_sub hl [0, 1] rfl)
    exact key70 (96 - 0) 0 (by omega) (Nat.le_refl _) _ _ hT hF hS m1 ls (lv_sub hl [0, 1] rfl)
  · have t102 : x2.toInt = 24 := ti_eq c3 rfl (by decide)
    refine lv_bipush (v := 96) hx hb dX12_writesRow_9 (by decide) ?_
    refine lv_istore_n (lv' := [(1, .int 96), (0, .ref o0)]) hx hb dX12_writesRow_11 rfl hl (by decide) rfl (fun ls hl => ?_)
    have jn150 : ∀ (H : Heap) (locs : List Loc), gH (dC, dI) kA (SHm q (wP wZ wN wH wB wC wL wK wU wV) PI im PM PT lS lB lE lN) G H → gF (dC, dI) SKm G ([(0, 9), (8, 0), (9, 0)] : List (Nat × Nat)) s.heap H → va_S A s.heap H locs → el H o0 (dI 15 9) = some (.int x2) → ∀ ls : Array Slot, lv_has ls 2 [(1, .int (nI 2304)), (0, .ref o0)] → W p l e (headSpec w_s_writesRow ({ frames := 3, cells := 0, slots := 0, locals := 66 })).room s m #[.ref o0] below meth c H locs 0 0 (MQ below (va_Qv (fun (u : Unit) => True) (fun (_ : Unit) (t : State) => gH (dC, dI) kA (SHm q (wP wZ wN wH wB wC wL wK wU wV) PI im PM PT lS lB lE lN) G t.heap ∧ gF (dC, dI) SKm G ([(0, 9), (8, 0), (9, 0)] : List (Nat × Nat)) s.heap t.heap) A) #[.ref o0] s 0 0 A) (F0 m 55 ls []) := by
      intro  H locs hT hF hS m149 ls hl
      refine lv_aload_n hx hb dX12_writesRow_55 rfl (lv_at hl 1 rfl) ?_
      refine lv_dup hx hb dX12_writesRow_56 rfl ?_
      refine tw_getM (v := .int x2) hx hb hts bF_X12 hown hK hT hr_o0 shm_0 rfl 9 (by decide) (ht_at hts 0 rfl) (fun _ h9 => h9) m149 dX12_writesRow_57 ?_
      refine lv_iconst (v := 1) hx hb dX12_writesRow_60 (by decide) ?_
      refine lv_isub hx hb dX12_writesRow_61 ?_
      refine lv_topi (fun x151 ex151 => ?_)
      have t152 : x151.toInt = x2.toInt - 1 := ti_sub ex151 rfl (by decide) (by omega) (by omega)
      refine tw_put (v := .int x151) (ty := .int) hx hb hts bF_X12 tyX12 tyX12_ok nmX12 hown hK hT hG hS hr_o0 shm_0 rfl 9 (by decide) (ht_at hts 0 rfl) (fun _ h9 => h9) rfl (by decide +kernel) rfl rfl (gl_at rfl (gi_of (show x151.toInt = x151.toInt from rfl) (by omega) (by omega))) dX12_writesRow_62 (fun H locs hT oq m153 oj hS => ?_)
      have hF := hF.put hr_o0 skm_0 oq oj (by decide)
      refine lv_iconst (v := 0) hx hb dX12_writesRow_65 (by decide) ?_
      refine lv_istore_n (lv' := [(1, .int 0), (0, .ref o0)]) hx hb dX12_writesRow_66 rfl hl (by decide) rfl (fun ls hl => ?_)
      have jn215 : ∀ (H : Heap) (locs : List Loc), gH (dC, dI) kA (SHm q (wP wZ wN wH wB wC wL wK wU wV) PI im PM PT lS lB lE lN) G H → gF (dC, dI) SKm G ([(0, 9), (8, 0), (9, 0)] : List (Nat × Nat)) s.heap H → va_S A s.heap H locs → el H o0 (dI 15 9) = some (.int x151) → ∀ ls : Array Slot, lv_has ls 2 [(1, .int (nI 96)), (0, .ref o0)] → W p l e (headSpec w_s_writesRow ({ frames := 3, cells := 0, slots := 0, locals := 66 })).room s m #[.ref o0] below meth c H locs 0 0 (MQ below (va_Qv (fun (u : Unit) => True) (fun (_ : Unit) (t : State) => gH (dC, dI) kA (SHm q (wP wZ wN wH wB wC wL wK wU wV) PI im PM PT lS lB lE lN) G t.heap ∧ gF (dC, dI) SKm G ([(0, 9), (8, 0), (9, 0)] : List (Nat × Nat)) s.heap t.heap) A) #[.ref o0] s 0 0 A) (F0 m 117 ls []) := by
        intro  H locs hT hF hS m214 ls hl
        refine lv_aload_n hx hb dX12_writesRow_117 rfl (lv_at hl 1 rfl) ?_
        refine lv_dup hx hb dX12_writesRow_118 rfl ?_
        refine tw_getM (v := .int x151) hx hb hts bF_X12 hown hK hT hr_o0 shm_0 rfl 9 (by decide) (ht_at hts 0 rfl) (fun _ h9 => h9) m214 dX12_writesRow_119 ?_
        refine lv_iconst (v := 1) hx hb dX12_writesRow_122 (by decide) ?_
        refine lv_iadd hx hb dX12_writesRow_123 ?_
        refine lv_topi (fun x216 ex216 => ?_)
        have t217 : x216.toInt = x151.toInt + 1 := ti_add ex216 rfl (by decide) (by omega) (by omega)
        refine tw_put (v := .int x216) (ty := .int) hx hb hts bF_X12 tyX12 tyX12_ok nmX12 hown hK hT hG hS hr_o0 shm_0 rfl 9 (by decide) (ht_at hts 0 rfl) (fun _ h9 => h9) rfl (by decide +kernel) rfl rfl (gl_at rfl (gi_of (show x216.toInt = x216.toInt from rfl) (by omega) (by omega))) dX12_writesRow_124 (fun H locs hT oq m218 oj hS => ?_)
        have hF := hF.put hr_o0 skm_0 oq oj (by decide)
        exact W.vret hx hb hr (fun t ht hW => ⟨⟨(), rfl, (by exact trivial), by (try dsimp only); rw [ht]; exact ⟨hT, hF⟩⟩, hS.F ht⟩) hS.2.2 dX12_writesRow_127
      have key219 : ∀ (n219 i154 : Nat), i154 + n219 = 96 → 0 ≤ i154 → ∀ (H : Heap) (locs : List Loc), gH (dC, dI) kA (SHm q (wP wZ wN wH wB wC wL wK wU wV) PI im PM PT lS lB lE lN) G H → gF (dC, dI) SKm G ([(0, 9), (8, 0), (9, 0)] : List (Nat × Nat)) s.heap H → va_S A s.heap H locs → el H o0 (dI 15 9) = some (.int x151) → ∀ ls : Array Slot, lv_has ls 2 [(1, .int (nI i154)), (0, .ref o0)] → W p l e (headSpec w_s_writesRow ({ frames := 3, cells := 0, slots := 0, locals := 66 })).room s m #[.ref o0] below meth c H locs 0 0 (MQ below (va_Qv (fun (u : Unit) => True) (fun (_ : Unit) (t : State) => gH (dC, dI) kA (SHm q (wP wZ wN wH wB wC wL wK wU wV) PI im PM PT lS lB lE lN) G t.heap ∧ gF (dC, dI) SKm G ([(0, 9), (8, 0), (9, 0)] : List (Nat × Nat)) s.heap t.heap) A) #[.ref o0] s 0 0 A) (F0 m 67 ls []) := by
        intro n219
        induction n219 with
        | zero =>
          intro i154 hn219 hlo220  H locs hT hF hS m155 ls hl
          obtain rfl : 96 = i154 := by omega
          refine lv_iload_n hx hb dX12_writesRow_67 rfl (lv_at hl 0 rfl) ?_
          refine lv_bipush (v := 96) hx hb dX12_writesRow_68 (by decide) ?_
          refine lv_icmp_ge (tgt := 117) hx hb dX12_writesRow_70 (by decide) (fun c221 => ?_) (fun c221 => (by exfalso; have q9 : ((96 : Nat) : Int) < 96 := ti_nle c221 (by decide) (nI_toInt (by omega)); omega))
          have t222 : 96 ≤ ((96 : Nat) : Int) := ti_le c221 (by decide) (nI_toInt (by omega))
          exact jn215 _ _ hT hF hS m155 ls (lv_sub hl [0, 1] rfl)
        | succ n219 ih219 =>
          intro i154 hn219 hlo220  H locs hT hF hS m155 ls hl
          have hlt222 : i154 < 96 := by omega
          refine lv_iload_n hx hb dX12_writesRow_67 rfl (lv_at hl 0 rfl) ?_
          refine lv_bipush (v := 96) hx hb dX12_writesRow_68 (by decide) ?_
          refine lv_icmp_ge (tgt := 117) hx hb dX12_writesRow_70 (by decide) (fun c223 => (by exfalso; have q9 : 96 ≤ ((i154 : Nat) : Int) := ti_le c223 (by decide) (nI_toInt (by omega)); omega)) (fun c223 => ?_)
          have t224 : ((i154 : Nat) : Int) < 96 := ti_nle c223 (by decide) (nI_toInt (by omega))
          refine lv_aload_n hx hb dX12_writesRow_73 rfl (lv_at hl 1 rfl) ?_
          refine tw_get hx hb hts bF_X12 hown hK hT hr_o0 shm_0 rfl 7 (by decide) (ht_at hts 1 rfl) (fun _ h9 => h9) dX12_writesRow_74 (fun v9 m225 h9 => ?_)
          obtain ⟨rfl, hg226⟩ := h9 _ rfl
          refine lv_bipush (v := 96) hx hb dX12_writesRow_77 (by decide) ?_
          refine lv_aload_n hx hb dX12_writesRow_79 rfl (lv_at hl 1 rfl) ?_
          refine tw_getM (v := .int x151) hx hb hts bF_X12 hown hK hT hr_o0 shm_0 rfl 9 (by decide) (ht_at hts 0 rfl) (fun _ h9 => h9) m155 dX12_writesRow_80 ?_
          refine lv_imul hx hb dX12_writesRow_83 ?_
          refine lv_topi (fun x227 ex227 => ?_)
          have t228 : x227.toInt = 96 * x151.toInt := ti_mul ex227 (by decide) rfl (by omega) (by omega)
          refine lv_iload_n hx hb dX12_writesRow_84 rfl (lv_at hl 0 rfl) ?_
          refine lv_iadd hx hb dX12_writesRow_85 ?_
          refine lv_topi (fun x229 ex229 => ?_)
          have t230 : x229.toInt = x227.toInt + ((i154 : Nat) : Int) := ti_add ex229 rfl (nI_toInt (by omega)) (by omega) (by omega)
          refine lv_aload_n hx hb dX12_writesRow_86 rfl (lv_at hl 1 rfl) ?_
          refine lv_iload_n hx hb dX12_writesRow_87 rfl (lv_at hl 0 rfl) ?_
          have hFc := gA_free hG hA hS
          refine va_calli (va_runV (As := [.int (nI i154)]) (rest := [.int x229, .ref (q 7)]) ⟨hx, hb, hml, hown, hts⟩ (s_level l dC dI kA adK adV G H q wZ wN wH wB wC wL wK wU wV PI im PM PT lS lB lE lN o0 (nI i154) hT hr_o0 (rg_t (a := ((i154 : Nat) : Int)) (nI_toInt (by omega)) (by omega) (by omega)) hgz hgn hgh hgb hgc hgi hgu) (cwV 1 hts (goodIn_app (goodIn_r _ [21, 22, 23, 9] rfl (by decide +kernel)) (goodIn_ca (goodIn_r _ [3, 4, 5, 6, 7, 8, 9, 10, 11, 12, 13, 14, 15, 16, 17, 18, 19, 20] rfl (by decide +kernel)) (bs_in _ _))) rfl rfl rfl (by decide +kernel) ⟨(Nat.le_of_ble_eq_true rfl), (Nat.le_of_ble_eq_true rfl)⟩) ⟨fun a U g mk q => by obtain ⟨q0, q1, qK, qE⟩ := q; exact ⟨q0, q1, va_K.moved (u := U) (U := U.calling g mk a) (Vm.Alike.refl U.vm) qK, EVS.blind g mk a qE⟩, gH_rc hK hT hr_o0 shm_0 rfl, fun U hU hW => ⟨rfl, hU, va_K.moved hW.alike hK, hE.call hS hFc hU hW⟩⟩ rfl rfl hl.1 rfl (lv_room (Nat.le_of_ble_eq_true rfl)) dX12_writesRow_88 ⟨(Nat.le_of_ble_eq_true rfl), (Nat.le_of_ble_eq_true rfl)⟩) hS (fun q _ h => hFc q h) hFc (fun r231 u t H locs ht hvm hw232 hB _ _ hS => ?_)
          obtain ⟨hT, hF1⟩ := hB
          rw [ht] at hT hF1
          have m233 := (hF1.fld hr_o0 skm_0 (k := 9) (by decide) (by decide)).trans m155
          have hF := hF.more hF1 (by decide)
          try dsimp only at hw232
          have h234 := hw232
          refine tw_iast (i := x229) (x := r231) hx hb hK hT hG hS hg226 shm_8 rfl (vin_t (a := x229.toInt) rfl (by omega) (by omega)) (gi_all _) dX12_writesRow_91 (fun H locs hT oq m235 oi hS => ?_)
          have hF := hF.ast hg226 skm_8 oq (by decide)
          have m236 := (el_kept (oq _ (gne hr_o0 hg226 (by decide)))).trans m233
          refine lv_aload_n hx hb dX12_writesRow_92 rfl (lv_at hl 1 rfl) ?_
          refine tw_get hx hb hts bF_X12 hown hK hT hr_o0 shm_0 rfl 8 (by decide) (ht_at hts 23 rfl) (fun _ h9 => h9) dX12_writesRow_93 (fun v9 m237 h9 => ?_)
          obtain ⟨rfl, hg238⟩ := h9 _ rfl
          refine lv_bipush (v := 96) hx hb dX12_writesRow_96 (by decide) ?_
          refine lv_aload_n hx hb dX12_writesRow_98 rfl (lv_at hl 1 rfl) ?_
          refine tw_getM (v := .int x151) hx hb hts bF_X12 hown hK hT hr_o0 shm_0 rfl 9 (by decide) (ht_at hts 0 rfl) (fun _ h9 => h9) m236 dX12_writesRow_99 ?_
          refine lv_imul hx hb dX12_writesRow_102 ?_
          refine lv_topi (fun x239 ex239 => ?_)
          have t240 : x239.toInt = 96 * x151.toInt := ti_mul ex239 (by decide) rfl (by omega) (by omega)
          refine lv_iload_n hx hb dX12_writesRow_103 rfl (lv_at hl 0 rfl) ?_
          refine lv_iadd hx hb dX12_writesRow_104 ?_
          refine lv_topi (fun x241 ex241 => ?_)
          have t242 : x241.toInt = x239.toInt + ((i154 : Nat) : Int) := ti_add ex241 rfl (nI_toInt (by omega)) (by omega) (by omega)
          refine lv_aload_n hx hb dX12_writesRow_105 rfl (lv_at hl 1 rfl) ?_
          refine lv_iload_n hx hb dX12_writesRow_106 rfl (lv_at hl 0 rfl) ?_
          have hFc := gA_free hG hA hS
          refine va_calli (va_runV (As := [.int (nI i154)]) (rest := [.int x241, .ref (q 8)]) ⟨hx, hb, hml, hown, hts⟩ (s_level l dC dI kA adK adV G H q wZ wN wH wB wC wL wK wU wV PI im PM PT lS lB lE lN o0 (nI i154) hT hr_o0 (rg_t (a := ((i154 : Nat) : Int)) (nI_toInt (by omega)) (by omega) (by omega)) hgz hgn hgh hgb hgc hgi hgu) (cwV 1 hts (goodIn_app (goodIn_r _ [21, 22, 23, 9] rfl (by decide +kernel)) (goodIn_ca (goodIn_r _ [3, 4, 5, 6, 7, 8, 9, 10, 11, 12, 13, 14, 15, 16, 17, 18, 19, 20] rfl (by decide +kernel)) (bs_in _ _))) rfl rfl rfl (by decide +kernel) ⟨(Nat.le_of_ble_eq_true rfl), (Nat.le_of_ble_eq_true rfl)⟩) ⟨fun a U g mk q => by obtain ⟨q0, q1, qK, qE⟩ := q; exact ⟨q0, q1, va_K.moved (u := U) (U := U.calling g mk a) (Vm.Alike.refl U.vm) qK, EVS.blind g mk a qE⟩, gH_rc hK hT hr_o0 shm_0 rfl, fun U hU hW => ⟨rfl, hU, va_K.moved hW.alike hK, hE.call hS hFc hU hW⟩⟩ rfl rfl hl.1 rfl (lv_room (Nat.le_of_ble_eq_true rfl)) dX12_writesRow_107 ⟨(Nat.le_of_ble_eq_true rfl), (Nat.le_of_ble_eq_true rfl)⟩) hS (fun q _ h => hFc q h) hFc (fun r243 u t H locs ht hvm hw244 hB _ _ hS => ?_)
          obtain ⟨hT, hF1⟩ := hB
          rw [ht] at hT hF1
          have m245 := (hF1.fld hr_o0 skm_0 (k := 9) (by decide) (by decide)).trans m236
          have hF := hF.more hF1 (by decide)
          try dsimp only at hw244
          have h247 := hw244
          refine tw_iast (i := x241) (x := r243) hx hb hK hT hG hS hg238 shm_9 rfl (vin_t (a := x241.toInt) rfl (by omega) (by omega)) (gi_all _) dX12_writesRow_110 (fun H locs hT oq m248 oi hS => ?_)
          have hF := hF.ast hg238 skm_9 oq (by decide)
          have m249 := (el_kept (oq _ (gne hr_o0 hg238 (by decide)))).trans m245
          refine lv_iinc (v := nI (i154 + 1)) (lv' := [(1, .int (nI (i154 + 1))), (0, .ref o0)]) hx hb dX12_writesRow_111 hl (k := 0) rfl (nI_add i154 1) (by decide) rfl (fun ls hl => ?_)
          refine lv_goto (tgt := 67) hx hb dX12_writesRow_114 (by decide) ?_
          exact ih219 (i154 + 1) (by omega) (by omega) _ _ hT hF hS m249 ls (lv_sub hl [0, 1] rfl)
      exact key219 (96 - 0) 0 (by omega) (Nat.le_refl _) _ _ hT hF hS m153 ls (lv_sub hl [0, 1] rfl)
    have key251 : ∀ (n251 i103 : Nat), i103 + n251 = 2304 → 96 ≤ i103 → ∀ (H : Heap) (locs : List Loc), gH (dC, dI) kA (SHm q (wP wZ wN wH wB wC wL wK wU wV) PI im PM PT lS lB lE lN) G H → gF (dC, dI) SKm G ([(0, 9), (8, 0), (9, 0)] : List (Nat × Nat)) s.heap H → va_S A s.heap H locs → el H o0 (dI 15 9) = some (.int x2) → ∀ ls : Array Slot, lv_has ls 2 [(1, .int (nI i103)), (0, .ref o0)] → W p l e (headSpec w_s_writesRow ({ frames := 3, cells := 0, slots := 0, locals := 66 })).room s m #[.ref o0] below meth c H locs 0 0 (MQ below (va_Qv (fun (u : Unit) => True) (fun (_ : Unit) (t : State) => gH (dC, dI) kA (SHm q (wP wZ wN wH wB wC wL wK wU wV) PI im PM PT lS lB lE lN) G t.heap ∧ gF (dC, dI) SKm G ([(0, 9), (8, 0), (9, 0)] : List (Nat × Nat)) s.heap t.heap) A) #[.ref o0] s 0 0 A) (F0 m 12 ls []) := by
      intro n251
      induction n251 with
      | zero =>
        intro i103 hn251 hlo252  H locs hT hF hS m104 ls hl
        obtain rfl : 2304 = i103 := by omega
        refine lv_iload_n hx hb dX12_writesRow_12 rfl (lv_at hl 0 rfl) ?_
        refine lv_sipush (v := 2304) hx hb dX12_writesRow_13 (by decide) ?_
        refine lv_icmp_ge (tgt := 55) hx hb dX12_writesRow_16 (by decide) (fun c253 => ?_) (fun c253 => (by exfalso; have q9 : ((2304 : Nat) : Int) < 2304 := ti_nle c253 (by decide) (nI_toInt (by omega)); omega))
        have t254 : 2304 ≤ ((2304 : Nat) : Int) := ti_le c253 (by decide) (nI_toInt (by omega))
        exact jn150 _ _ hT hF hS m104 ls (lv_sub hl [0, 1] rfl)
      | succ n251 ih251 =>
        intro i103 hn251 hlo252  H locs hT hF hS m104 ls hl
        have hlt254 : i103 < 2304 := by omega
        refine lv_iload_n hx hb dX12_writesRow_12 rfl (lv_at hl 0 rfl) ?_
        refine lv_sipush (v := 2304) hx hb dX12_writesRow_13 (by decide) ?_
        refine lv_icmp_ge (tgt := 55) hx hb dX12_writesRow_16 (by decide) (fun c255 => (by exfalso; have q9 : 2304 ≤ ((i103 : Nat) : Int) := ti_le c255 (by decide) (nI_toInt (by omega)); omega)) (fun c255 => ?_)
        have t256 : ((i103 : Nat) : Int) < 2304 := ti_nle c255 (by decide) (nI_toInt (by omega))
        refine lv_aload_n hx hb dX12_writesRow_19 rfl (lv_at hl 1 rfl) ?_
        refine tw_get hx hb hts bF_X12 hown hK hT hr_o0 shm_0 rfl 7 (by decide) (ht_at hts 1 rfl) (fun _ h9 => h9) dX12_writesRow_20 (fun v9 m257 h9 => ?_)
        obtain ⟨rfl, hg258⟩ := h9 _ rfl
        refine lv_iload_n hx hb dX12_writesRow_23 rfl (lv_at hl 0 rfl) ?_
        refine lv_bipush (v := 96) hx hb dX12_writesRow_24 (by decide) ?_
        refine lv_isub hx hb dX12_writesRow_26 ?_
        refine lv_topi (fun x259 ex259 => ?_)
        obtain rfl : nI (i103 - 96) = x259 := (ex259.trans (pk_sub (a := i103) (b := 96) (by omega))).symm
        refine lv_aload_n hx hb dX12_writesRow_27 rfl (lv_at hl 1 rfl) ?_
        refine tw_get hx hb hts bF_X12 hown hK hT hr_o0 shm_0 rfl 7 (by decide) (ht_at hts 1 rfl) (fun _ h9 => h9) dX12_writesRow_28 (fun v9 m260 h9 => ?_)
        obtain ⟨rfl, hg261⟩ := h9 _ rfl
        refine lv_iload_n hx hb dX12_writesRow_31 rfl (lv_at hl 0 rfl) ?_
        refine tw_iald (i := (nI i103)) hx hb hK hT hg258 shm_8 rfl (vp_in_nI (by omega) (by decide)) dX12_writesRow_32 (fun v9 m262 h9 => ?_)
        obtain ⟨x263, rfl, gx263, kx263⟩ := h9
        refine tw_iast (i := (nI (i103 - 96))) (x := x263) hx hb hK hT hG hS hg258 shm_8 rfl (vp_in_nI (by omega) (by decide)) (gi_all _) dX12_writesRow_33 (fun H locs hT oq m264 oi hS => ?_)
        have hF := hF.ast hg258 skm_8 oq (by decide)
        have m265 := (el_kept (oq _ (gne hr_o0 hg258 (by decide)))).trans m104
        refine lv_aload_n hx hb dX12_writesRow_34 rfl (lv_at hl 1 rfl) ?_
        refine tw_get hx hb hts bF_X12 hown hK hT hr_o0 shm_0 rfl 8 (by decide) (ht_at hts 23 rfl) (fun _ h9 => h9) dX12_writesRow_35 (fun v9 m266 h9 => ?_)
        obtain ⟨rfl, hg267⟩ := h9 _ rfl
        refine lv_iload_n hx hb dX12_writesRow_38 rfl (lv_at hl 0 rfl) ?_
        refine lv_bipush (v := 96) hx hb dX12_writesRow_39 (by decide) ?_
        refine lv_isub hx hb dX12_writesRow_41 ?_
        refine lv_topi (fun x268 ex268 => ?_)
        obtain rfl : nI (i103 - 96) = x268 := (ex268.trans (pk_sub (a := i103) (b := 96) (by omega))).symm
        refine lv_aload_n hx hb dX12_writesRow_42 rfl (lv_at hl 1 rfl) ?_
        refine tw_get hx hb hts bF_X12 hown hK hT hr_o0 shm_0 rfl 8 (by decide) (ht_at hts 23 rfl) (fun _ h9 => h9) dX12_writesRow_43 (fun v9 m269 h9 => ?_)
        obtain ⟨rfl, hg270⟩ := h9 _ rfl
        refine lv_iload_n hx hb dX12_writesRow_46 rfl (lv_at hl 0 rfl) ?_
        refine tw_iald (i := (nI i103)) hx hb hK hT hg267 shm_9 rfl (vp_in_nI (by omega) (by decide)) dX12_writesRow_47 (fun v9 m271 h9 => ?_)
        obtain ⟨x272, rfl, gx272, kx272⟩ := h9
        refine tw_iast (i := (nI (i103 - 96))) (x := x272) hx hb hK hT hG hS hg267 shm_9 rfl (vp_in_nI (by omega) (by decide)) (gi_all _) dX12_writesRow_48 (fun H locs hT oq m273 oi hS => ?_)
        have hF := hF.ast hg267 skm_9 oq (by decide)
        have m274 := (el_kept (oq _ (gne hr_o0 hg267 (by decide)))).trans m265
        refine lv_iinc (v := nI (i103 + 1)) (lv' := [(1, .int (nI (i103 + 1))), (0, .ref o0)]) hx hb dX12_writesRow_49 hl (k := 0) rfl (nI_add i103 1) (by decide) rfl (fun ls hl => ?_)
        refine lv_goto (tgt := 12) hx hb dX12_writesRow_52 (by decide) ?_
        exact ih251 (i103 + 1) (by omega) (by omega) _ _ hT hF hS m274 ls (lv_sub hl [0, 1] rfl)
    exact key251 (2304 - 96) 96 (by omega) (Nat.le_refl _) _ _ hT hF hS m1 ls (lv_sub hl [0, 1] rfl)
