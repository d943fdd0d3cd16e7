def w_s_coal : List Cond := .code yX12_coal cX12_coal 3 (some .int) :: (HAppend.hAppend (α := List Cond) (β := List Cond) (γ := List Cond) [.fieldLink RX12 194 "SeaLandModel" "thrown" "I", .code yX12_noWork cX12_noWork 2 (some .boolean), .fieldLink RX12 9 "SeaLandModel" "world" "[I", .code yX12_in cX12_in 3 (some .boolean), .methodLink RX12 197 yX12_in, .static yX12_in, .initialized RX12, .methodLink RX12 269 yX12_noWork, .instanceMethod yX12_noWork, .selects RX12 yX12_noWork yX12_noWork, .code yX12_throwsIf cX12_throwsIf 3 (some .boolean), .methodLink RX12 224 yX12_throwsIf, .instanceMethod yX12_throwsIf, .selects RX12 yX12_throwsIf yX12_throwsIf, .code yX12_of cX12_of 3 (some .int), .code yX12_at cX12_at 2 (some .int), .methodLink RX12 214 yX12_at, .static yX12_at, .methodLink RX12 217 yX12_of, .instanceMethod yX12_of, .selects RX12 yX12_of yX12_of, .fieldLink RX12 238 "SeaLandModel" "rows" "I", .constant RX12 241 100000] bs)
set_option maxHeartbeats 4000000 in
set_option maxRecDepth 100000 in
theorem s_coal (l : Launch) (dC : Nat → ClassId) (dI : Nat → Nat → Nat) (kA : Nat → ClassId) (adK adV : Nat → Nat) (G : gT) (H0 : Heap) (q : Nat → Nat) (wZ wN : Nat → Int) (wH wB wC : Int) (wL wK : Nat → Prop) (wU wV : Nat → Nat) (PI : Nat → Int → Prop) (im : Int) (PM PT : Nat → Int → Prop) (lS lB lE : Nat → Nat → Int → Prop) (lN : Nat → Int) (o0 : Nat) (p0 : Int32) (p1 : Int32)  (hT : gH (dC, dI) kA (SHm q (wP wZ wN wH wB wC wL wK wU wV) PI im PM PT lS lB lE lN) G H0) (hr_o0 : G o0 = some 0) (hgz : ∀ i, 0 ≤ wZ i) (hgn : ∀ i, 6500000 ≤ wN i ∧ wN i ≤ 20200000) (hgh : 0 ≤ wH ∧ wH ≤ 40000) (hgb : 0 ≤ wB ∧ wB ≤ 3850000) (hgc : 0 ≤ wC ∧ wC ≤ 30) (hgi : 0 ≤ im ∧ im ≤ 1) (hgu : ∀ a t, G a = some (t + 1) → a = q t) : Met l yX12_coal w_s_coal ({ frames := 2, cells := 0, slots := 0, locals := 43 }) (va_Pc [.ref o0, .int p0, .int p1] (fun U => U.heap = H0 ∧ va_K (dC, dI) vwCl (tyl kA) U ∧ EVS adK adV (gA G H0.size) U U.heap)) (va_Qi (fun (r : Int32) (u : Unit) => True) (fun (_ : Unit) (t : State) => gH (dC, dI) kA (SHm q (wP wZ wN wH wB wC wL wK wU wV) PI im PM PT lS lB lE lN) G t.heap ∧ gF (dC, dI) SKm G ([(0, 0), (0, 9), (2, 0)] : List (Nat × Nat)) H0 t.heap) (gA G H0.size)) 0 0 (gA G H0.size) := by
  refine Met.ofW (cc := cX12_coal) (maxL := 3) (ret := (some .int)) (by decide) rfl ?_
  intro p e s m args below meth c s₁ B hml hv
  obtain ⟨rfl, hH0, hK, hE⟩ := hv
  have hx := B.exec
  have hb := B.bytes
  have hr := B.returns
  have hts := atoms_spec (ws := w_s_coal) B.pre
  have hown : s.vm.findClass RX12 = some m.cls := findClass_of_methodNamed B.named
  have hlocks := B.notSynchronized
  subst hH0
  generalize hAe : gA G s.heap.size = A at hE ⊢
  have hA : ∀ q : Nat, s.heap.size ≤ q → A q := fun q h => by rw [← hAe]; exact Or.inr h
  have hG := gA_of hAe
  have hS : va_S A s.heap s.heap [] := va_S.rf
  have hF : gF (dC, dI) SKm G ([(0, 0), (0, 9), (2, 0)] : List (Nat × Nat)) s.heap s.heap := gF.rf
  have hl := lv_entry ([.ref o0, .int p0, .int p1]) (n := 3) (Nat.le_of_ble_eq_true rfl)
  rw [lg_entry_eq]
  generalize (lg_sl ([.ref o0, .int p0, .int p1]) ++ List.replicate (3 - (lg_sl ([.ref o0, .int p0, .int p1])).length) Slot.unset).toArray = ls at hl ⊢
  have hl : lv_has ls 3 [(0, .ref o0), (1, .int p0), (2, .int p1)] := hl
  refine lv_aload_n hx hb dX12_coal_0 rfl (lv_at hl 0 rfl) ?_
  refine lv_iconst (v := 0) hx hb dX12_coal_1 (by decide) ?_
  refine tw_put (v := .int 0) (ty := .int) hx hb hts bF_X12 tyX12 tyX12_ok nmX12 hown hK hT hG hS hr_o0 shm_0 rfl 0 (by decide) (ht_at hts 0 rfl) (fun _ h9 => h9) rfl (by decide +kernel) rfl rfl (gl_at rfl (gi_all _)) dX12_coal_2 (fun H locs hT oq m1 oj hS => ?_)
  have hF := hF.put hr_o0 skm_0 oq oj (by decide)
  refine lv_aload_n hx hb dX12_coal_5 rfl (lv_at hl 0 rfl) ?_
  refine lv_aload_n hx hb dX12_coal_6 rfl (lv_at hl 0 rfl) ?_
  refine lv_iload_n hx hb dX12_coal_7 rfl (lv_at hl 1 rfl) ?_
  have hFc := gA_free hG hA hS
  refine va_calli (va_runV (As := [.int p0]) (rest := [.ref o0]) ⟨hx, hb, hml, hown, hts⟩ (s_noWork l dC dI kA adK adV G H q wZ wN wH wB wC wL wK wU wV PI im PM PT lS lB lE lN o0 p0 hT hr_o0 hgz hgn hgh hgb hgc hgi hgu) (cwV 1 hts (goodIn_app (goodIn_r _ [8, 9, 10, 7] rfl (by decide +kernel)) (goodIn_ca (goodIn_r _ [2, 3, 4, 5, 6, 7] rfl (by decide +kernel)) (bs_in _ _))) rfl rfl rfl (by decide +kernel) ⟨(Nat.le_of_ble_eq_true rfl), (Nat.le_of_ble_eq_true rfl)⟩) ⟨fun a U g mk q => by obtain ⟨q0, q1, qK, qE⟩ := q; exact ⟨q0, q1, va_K.moved (u := U) (U := U.calling g mk a) (Vm.Alike.refl U.vm) qK, EVS.blind g mk a qE⟩, gH_rc hK hT hr_o0 shm_0 rfl, fun U hU hW => ⟨rfl, hU, va_K.moved hW.alike hK, hE.call hS hFc hU hW⟩⟩ rfl rfl hl.1 rfl (lv_room (Nat.le_of_ble_eq_true rfl)) dX12_coal_8 ⟨(Nat.le_of_ble_eq_true rfl), (Nat.le_of_ble_eq_true rfl)⟩) hS (fun q _ h => hFc q h) hFc (fun r2 u t H locs ht hvm hw3 hB _ _ hS => ?_)
  obtain ⟨hT, hF1⟩ := hB
  rw [ht] at hT hF1
  have hF := hF.more hF1 (by decide)
  try dsimp only at hw3
  obtain ⟨h5, hi6⟩ := hw3
  refine lv_iconst (v := 1) hx hb dX12_coal_11 (by decide) ?_
  have hFc := gA_free hG hA hS
  refine va_calli (va_runV (As := [.int r2, .int 1]) (rest := []) ⟨hx, hb, hml, hown, hts⟩ (s_throwsIf l dC dI kA adK adV G H q wZ wN wH wB wC wL wK wU wV PI im PM PT lS lB lE lN o0 r2 1 hT hr_o0 (by have q8 := ti_all r2; omega) hgz hgn hgh hgb hgc hgi hgu) (cwV 2 hts (goodIn_app (goodIn_r _ [12, 13, 14, 7] rfl (by decide +kernel)) (goodIn_ca (goodIn_r _ [11, 1] rfl (by decide +kernel)) (bs_in _ _))) rfl rfl rfl (by decide +kernel) ⟨(Nat.le_of_ble_eq_true rfl), (Nat.le_of_ble_eq_true rfl)⟩) ⟨fun a U g mk q => by obtain ⟨q0, q1, qK, qE⟩ := q; exact ⟨q0, q1, va_K.moved (u := U) (U := U.calling g mk a) (Vm.Alike.refl U.vm) qK, EVS.blind g mk a qE⟩, gH_rc hK hT hr_o0 shm_0 rfl, fun U hU hW => ⟨rfl, hU, va_K.moved hW.alike hK, hE.call hS hFc hU hW⟩⟩ rfl rfl hl.1 rfl (lv_room (Nat.le_of_ble_eq_true rfl)) dX12_coal_12 ⟨(Nat.le_of_ble_eq_true rfl), (Nat.le_of_ble_eq_true rfl)⟩) hS (fun q _ h => hFc q h) hFc (fun r7 u t H locs ht hvm hw8 hB _ _ hS => ?_)
  obtain ⟨hT, hF1⟩ := hB
  rw [ht] at hT hF1
  have hF := hF.more hF1 (by decide)
  try dsimp only at hw8
  obtain ⟨h10, hd11⟩ := hw8
  obtain rfl : r2 = r7 := hd11.symm
  refine lv_if_ne (tgt := 89) hx hb dX12_coal_15 (by decide) (fun c12 => ?_) (fun c12 => ?_)
  · have t13 : r2.toInt ≠ 0 := ti_ne c12 rfl (by decide)
    refine lv_iconst (v := 0) hx hb dX12_coal_89 (by decide) ?_
    exact W.iret (v := 0) hx hb hr (fun t ht hW => ⟨⟨0, (), rfl, (by exact trivial), by (try dsimp only); rw [ht]; exact ⟨hT, hF⟩⟩, hS.F ht⟩) hS.2.2 dX12_coal_90
  · have t14 : r2.toInt = 0 := ti_eq c12 rfl (by decide)
    have t15 : 0 ≤ p0.toInt ∧ p0.toInt ≤ 29 ∧ p0.toInt < wC := hi6 c12
    refine lv_aload_n hx hb dX12_coal_18 rfl (lv_at hl 0 rfl) ?_
    refine lv_iload_n hx hb dX12_coal_19 rfl (lv_at hl 2 rfl) ?_
    refine lv_iconst (v := 0) hx hb dX12_coal_20 (by decide) ?_
    refine lv_sipush (v := 10000) hx hb dX12_coal_21 (by decide) ?_
    have hFc := gA_free hG hA hS
    refine va_calli (va_runS (As := [.int p1, .int 0, .int 10000]) (rest := [.ref o0]) ⟨hx, hb, hml, hown, hts⟩ (s_in l dC dI kA adK adV G H q wZ wN wH wB wC wL wK wU wV PI im PM PT lS lB lE lN p1 0 10000 hT hgz hgn hgh hgb hgc hgi hgu) (va_cwS 3 hts (goodIn_app (goodIn_r _ [5, 6, 7] rfl (by decide +kernel)) (goodIn_ca (goodIn_r _ [4] rfl (by decide +kernel)) (bs_in _ _))) rfl rfl rfl (by decide +kernel) ⟨(Nat.le_of_ble_eq_true rfl), (Nat.le_of_ble_eq_true rfl)⟩) ⟨fun a U g mk q => by obtain ⟨q0, q1, qK, qE⟩ := q; exact ⟨q0, q1, va_K.moved (u := U) (U := U.calling g mk a) (Vm.Alike.refl U.vm) qK, EVS.blind g mk a qE⟩, fun U hU hW => ⟨rfl, hU, va_K.moved hW.alike hK, hE.call hS hFc hU hW⟩⟩ rfl rfl hl.1 rfl (lv_room (Nat.le_of_ble_eq_true rfl)) dX12_coal_24 ⟨(Nat.le_of_ble_eq_true rfl), (Nat.le_of_ble_eq_true rfl)⟩) hS (fun q _ h => hFc q h) hFc (fun r16 u t H locs ht hvm hw17 hB _ _ hS => ?_)
    obtain ⟨hT, hF1⟩ := hB
    rw [ht] at hT hF1
    have hF := hF.more hF1 (by decide)
    try dsimp only at hw17
    obtain ⟨h18, hi19, hi20⟩ := hw17
    refine lv_if_eq (tgt := 54) hx hb dX12_coal_27 (by decide) (fun c21 => ?_) (fun c21 => ?_)
    · have t22 : r16.toInt = 0 := ti_eq c21 rfl (by decide)
      have t23 : (0 : Int32).toInt = 0 := by decide
      have t24 : (10000 : Int32).toInt = 10000 := by decide
      have t25 : p1.toInt < (0 : Int32).toInt ∨ (10000 : Int32).toInt < p1.toInt := hi20 c21
      refine lv_iconst (v := 1) hx hb dX12_coal_54 (by decide) ?_
      refine lv_goto (tgt := 59) hx hb dX12_coal_55 (by decide) ?_
      refine lv_iconst (v := 2) hx hb dX12_coal_59 (by decide) ?_
      have hFc := gA_free hG hA hS
      refine va_calli (va_runV (As := [.int 1, .int 2]) (rest := []) ⟨hx, hb, hml, hown, hts⟩ (s_throwsIf l dC dI kA adK adV G H q wZ wN wH wB wC wL wK wU wV PI im PM PT lS lB lE lN o0 1 2 hT hr_o0 (rg_t (a := 1) (by decide) (by first | decide | omega) (by first | decide | omega)) hgz hgn hgh hgb hgc hgi hgu) (cwV 2 hts (goodIn_app (goodIn_r _ [12, 13, 14, 7] rfl (by decide +kernel)) (goodIn_ca (goodIn_r _ [11, 1] rfl (by decide +kernel)) (bs_in _ _))) rfl rfl rfl (by decide +kernel) ⟨(Nat.le_of_ble_eq_true rfl), (Nat.le_of_ble_eq_true rfl)⟩) ⟨fun a U g mk q => by obtain ⟨q0, q1, qK, qE⟩ := q; exact ⟨q0, q1, va_K.moved (u := U) (U := U.calling g mk a) (Vm.Alike.refl U.vm) qK, EVS.blind g mk a qE⟩, gH_rc hK hT hr_o0 shm_0 rfl, fun U hU hW => ⟨rfl, hU, va_K.moved hW.alike hK, hE.call hS hFc hU hW⟩⟩ rfl rfl hl.1 rfl (lv_room (Nat.le_of_ble_eq_true rfl)) dX12_coal_60 ⟨(Nat.le_of_ble_eq_true rfl), (Nat.le_of_ble_eq_true rfl)⟩) hS (fun q _ h => hFc q h) hFc (fun r26 u t H locs ht hvm hw27 hB _ _ hS => ?_)
      obtain ⟨hT, hF1⟩ := hB
      rw [ht] at hT hF1
      have hF := hF.more hF1 (by decide)
      try dsimp only at hw27
      obtain ⟨h28, hd29⟩ := hw27
      obtain rfl : (1 : Int32) = r26 := hd29.symm
      refine lv_if_ne (tgt := 89) hx hb dX12_coal_63 (by decide) (fun c30 => ?_) (fun c30 => absurd c30 (by decide))
      refine lv_iconst (v := 0) hx hb dX12_coal_89 (by decide) ?_
      exact W.iret (v := 0) hx hb hr (fun t ht hW => ⟨⟨0, (), rfl, (by exact trivial), by (try dsimp only); rw [ht]; exact ⟨hT, hF⟩⟩, hS.F ht⟩) hS.2.2 dX12_coal_90
    · have t31 : r16.toInt ≠ 0 := ti_ne c21 rfl (by decide)
      have t32 : (0 : Int32).toInt = 0 := by decide
      have t33 : (10000 : Int32).toInt = 10000 := by decide
      have t34 : (0 : Int32).toInt ≤ p1.toInt ∧ p1.toInt ≤ (10000 : Int32).toInt := hi19 ((bit_of ⟨by omega, by omega⟩).resolve_left c21)
      refine lv_aload_n hx hb dX12_coal_30 rfl (lv_at hl 0 rfl) ?_
      refine lv_iload_n hx hb dX12_coal_31 rfl (lv_at hl 1 rfl) ?_
      refine lv_iconst (v := 0) hx hb dX12_coal_32 (by decide) ?_
      have hFc := gA_free hG hA hS
      refine va_calli (va_runV (As := [.int p0, .int 0]) (rest := [.ref o0]) ⟨hx, hb, hml, hown, hts⟩ (s_of0 l dC dI kA adK adV G H q wZ wN wH wB wC wL wK wU wV PI im PM PT lS lB lE lN o0 p0 hT hr_o0 (by have q8 := ti_all p0; omega) hgz hgn hgh hgb hgc hgi hgu) (cwV 2 hts (goodIn_app (goodIn_r _ [19, 20, 21, 7] rfl (by decide +kernel)) (goodIn_ca (goodIn_r _ [15, 3, 16, 17, 18, 7] rfl (by decide +kernel)) (bs_in _ _))) rfl rfl rfl (by decide +kernel) ⟨(Nat.le_of_ble_eq_true rfl), (Nat.le_of_ble_eq_true rfl)⟩) ⟨fun a U g mk q => by obtain ⟨q0, q1, qK, qE⟩ := q; exact ⟨q0, q1, va_K.moved (u := U) (U := U.calling g mk a) (Vm.Alike.refl U.vm) qK, EVS.blind g mk a qE⟩, gH_rc hK hT hr_o0 shm_0 rfl, fun U hU hW => ⟨rfl, hU, va_K.moved hW.alike hK, hE.call hS hFc hU hW⟩⟩ rfl rfl hl.1 rfl (lv_room (Nat.le_of_ble_eq_true rfl)) dX12_coal_33 ⟨(Nat.le_of_ble_eq_true rfl), (Nat.le_of_ble_eq_true rfl)⟩) hS (fun q _ h => hFc q h) hFc (fun r35 u t H locs ht hvm hw36 hB _ _ hS => ?_)
      obtain ⟨hT, hF1⟩ := hB
      rw [ht] at hT hF1
      have hF := hF.more hF1 (by decide)
      try dsimp only at hw36
      have ⟨ix37, hix37, m38⟩ := hw36
      have hg39 : G (q 1) = some 2 := gx_of hT hr_o0 shm_0 (k := 1) (by decide) rfl
      have m40 := (el_kept (hF1.arr hg39 skm_2 (by decide))).trans m38
      refine lv_iconst (v := 3) hx hb dX12_coal_36 (by decide) ?_
      refine lv_icmp_ne (tgt := 58) hx hb dX12_coal_37 (by decide) (fun c41 => ?_) (fun c41 => ?_)
      · have t42 : r35.toInt ≠ 3 := ti_ne c41 rfl (by decide)
        refine lv_iconst (v := 0) hx hb dX12_coal_58 (by decide) ?_
        refine lv_iconst (v := 2) hx hb dX12_coal_59 (by decide) ?_
        have hFc := gA_free hG hA hS
        refine va_calli (va_runV (As := [.int 0, .int 2]) (rest := []) ⟨hx, hb, hml, hown, hts⟩ (s_throwsIf l dC dI kA adK adV G H q wZ wN wH wB wC wL wK wU wV PI im PM PT lS lB lE lN o0 0 2 hT hr_o0 (rg_t (a := 0) (by decide) (by first | decide | omega) (by first | decide | omega)) hgz hgn hgh hgb hgc hgi hgu) (cwV 2 hts (goodIn_app (goodIn_r _ [12, 13, 14, 7] rfl (by decide +kernel)) (goodIn_ca (goodIn_r _ [11, 1] rfl (by decide +kernel)) (bs_in _ _))) rfl rfl rfl (by decide +kernel) ⟨(Nat.le_of_ble_eq_true rfl), (Nat.le_of_ble_eq_true rfl)⟩) ⟨fun a U g mk q => by obtain ⟨q0, q1, qK, qE⟩ := q; exact ⟨q0, q1, va_K.moved (u := U) (U := U.calling g mk a) (Vm.Alike.refl U.vm) qK, EVS.blind g mk a qE⟩, gH_rc hK hT hr_o0 shm_0 rfl, fun U hU hW => ⟨rfl, hU, va_K.moved hW.alike hK, hE.call hS hFc hU hW⟩⟩ rfl rfl hl.1 rfl (lv_room (Nat.le_of_ble_eq_true rfl)) dX12_coal_60 ⟨(Nat.le_of_ble_eq_true rfl), (Nat.le_of_ble_eq_true rfl)⟩) hS (fun q _ h => hFc q h) hFc (fun r43 u t H locs ht hvm hw44 hB _ _ hS => ?_)
        obtain ⟨hT, hF1⟩ := hB
        rw [ht] at hT hF1
        have m45 := (el_kept (hF1.arr hg39 skm_2 (by decide))).trans m40
        have hF := hF.more hF1 (by decide)
        try dsimp only at hw44
        obtain ⟨h46, hd47⟩ := hw44
        obtain rfl : (0 : Int32) = r43 := hd47.symm
        refine lv_if_ne (tgt := 89) hx hb dX12_coal_63 (by decide) (fun c48 => absurd c48 (by decide)) (fun c48 => ?_)
        refine lv_aload_n hx hb dX12_coal_66 rfl (lv_at hl 0 rfl) ?_
        refine lv_aload_n hx hb dX12_coal_67 rfl (lv_at hl 0 rfl) ?_
        refine lv_iload_n hx hb dX12_coal_68 rfl (lv_at hl 1 rfl) ?_
        refine lv_iconst (v := 0) hx hb dX12_coal_69 (by decide) ?_
        have hFc := gA_free hG hA hS
        refine va_calli (va_runV (As := [.int p0, .int 0]) (rest := [.ref o0]) ⟨hx, hb, hml, hown, hts⟩ (s_of0 l dC dI kA adK adV G H q wZ wN wH wB wC wL wK wU wV PI im PM PT lS lB lE lN o0 p0 hT hr_o0 (by have q8 := ti_all p0; omega) hgz hgn hgh hgb hgc hgi hgu) (cwV 2 hts (goodIn_app (goodIn_r _ [19, 20, 21, 7] rfl (by decide +kernel)) (goodIn_ca (goodIn_r _ [15, 3, 16, 17, 18, 7] rfl (by decide +kernel)) (bs_in _ _))) rfl rfl rfl (by decide +kernel) ⟨(Nat.le_of_ble_eq_true rfl), (Nat.le_of_ble_eq_true rfl)⟩) ⟨fun a U g mk q => by obtain ⟨q0, q1, qK, qE⟩ := q; exact ⟨q0, q1, va_K.moved (u := U) (U := U.calling g mk a) (Vm.Alike.refl U.vm) qK, EVS.blind g mk a qE⟩, gH_rc hK hT hr_o0 shm_0 rfl, fun U hU hW => ⟨rfl, hU, va_K.moved hW.alike hK, hE.call hS hFc hU hW⟩⟩ rfl rfl hl.1 rfl (lv_room (Nat.le_of_ble_eq_true rfl)) dX12_coal_70 ⟨(Nat.le_of_ble_eq_true rfl), (Nat.le_of_ble_eq_true rfl)⟩) hS (fun q _ h => hFc q h) hFc (fun r49 u t H locs ht hvm hw50 hB _ _ hS => ?_)
        obtain ⟨hT, hF1⟩ := hB
        rw [ht] at hT hF1
        have m51 := (el_kept (hF1.arr hg39 skm_2 (by decide))).trans m45
        have hF := hF.more hF1 (by decide)
        try dsimp only at hw50
        have ⟨ix52, hix52, m53⟩ := hw50
        have m54 := (el_kept (hF1.arr hg39 skm_2 (by decide))).trans m53
        obtain rfl : r35 = r49 := (el_same m54 m51 (by have q8 := (show ix37.toInt = ix37.toInt from rfl); omega)).symm
        refine lv_iconst (v := 3) hx hb dX12_coal_73 (by decide) ?_
        refine lv_icmp_eq (tgt := 81) hx hb dX12_coal_74 (by decide) (fun c55 => ?_) (fun c55 => ?_)
        · have t56 : r35.toInt = 3 := ti_eq c55 rfl (by decide)
          refine lv_iconst (v := 0) hx hb dX12_coal_81 (by decide) ?_
          refine lv_iconst (v := 3) hx hb dX12_coal_82 (by decide) ?_
          have hFc := gA_free hG hA hS
          refine va_calli (va_runV (As := [.int 0, .int 3]) (rest := []) ⟨hx, hb, hml, hown, hts⟩ (s_throwsIf l dC dI kA adK adV G H q wZ wN wH wB wC wL wK wU wV PI im PM PT lS lB lE lN o0 0 3 hT hr_o0 (rg_t (a := 0) (by decide) (by first | decide | omega) (by first | decide | omega)) hgz hgn hgh hgb hgc hgi hgu) (cwV 2 hts (goodIn_app (goodIn_r _ [12, 13, 14, 7] rfl (by decide +kernel)) (goodIn_ca (goodIn_r _ [11, 1] rfl (by decide +kernel)) (bs_in _ _))) rfl rfl rfl (by decide +kernel) ⟨(Nat.le_of_ble_eq_true rfl), (Nat.le_of_ble_eq_true rfl)⟩) ⟨fun a U g mk q => by obtain ⟨q0, q1, qK, qE⟩ := q; exact ⟨q0, q1, va_K.moved (u := U) (U := U.calling g mk a) (Vm.Alike.refl U.vm) qK, EVS.blind g mk a qE⟩, gH_rc hK hT hr_o0 shm_0 rfl, fun U hU hW => ⟨rfl, hU, va_K.moved hW.alike hK, hE.call hS hFc hU hW⟩⟩ rfl rfl hl.1 rfl (lv_room (Nat.le_of_ble_eq_true rfl)) dX12_coal_83 ⟨(Nat.le_of_ble_eq_true rfl), (Nat.le_of_ble_eq_true rfl)⟩) hS (fun q _ h => hFc q h) hFc (fun r57 u t H locs ht hvm hw58 hB _ _ hS => ?_)
          obtain ⟨hT, hF1⟩ := hB
          rw [ht] at hT hF1
          have hF := hF.more hF1 (by decide)
          try dsimp only at hw58
          obtain ⟨h60, hd61⟩ := hw58
          obtain rfl : (0 : Int32) = r57 := hd61.symm
          refine lv_if_eq (tgt := 91) hx hb dX12_coal_86 (by decide) (fun c62 => ?_) (fun c62 => absurd c62 (by decide))
          refine lv_aload_n hx hb dX12_coal_91 rfl (lv_at hl 0 rfl) ?_
          refine tw_get hx hb hts bF_X12 hown hK hT hr_o0 shm_0 rfl 1 (by decide) (ht_at hts 2 rfl) (fun _ h9 => h9) dX12_coal_92 (fun v9 m63 h9 => ?_)
          obtain ⟨rfl, hg64⟩ := h9 _ rfl
          refine lv_iload_n hx hb dX12_coal_95 rfl (lv_at hl 1 rfl) ?_
          refine lv_bipush (v := 18) hx hb dX12_coal_96 (by decide) ?_
          have hFc := gA_free hG hA hS
          refine va_calli (va_runS (As := [.int p0, .int 18]) (rest := [.ref (q 1)]) ⟨hx, hb, hml, hown, hts⟩ (s_at l dC dI kA adK adV G H q wZ wN wH wB wC wL wK wU wV PI im PM PT lS lB lE lN p0 18 hT (by have q8 := ti_all p0; omega) (rg_t (a := 18) (by decide) (by first | decide | omega) (by first | decide | omega)) hgz hgn hgh hgb hgc hgi hgu) (va_cwS 2 hts (goodIn_app (goodIn_r _ [17, 18, 7] rfl (by decide +kernel)) (goodIn_ca (goodIn_r _ [16] rfl (by decide +kernel)) (bs_in _ _))) rfl rfl rfl (by decide +kernel) ⟨(Nat.le_of_ble_eq_true rfl), (Nat.le_of_ble_eq_true rfl)⟩) ⟨fun a U g mk q => by obtain ⟨q0, q1, qK, qE⟩ := q; exact ⟨q0, q1, va_K.moved (u := U) (U := U.calling g mk a) (Vm.Alike.refl U.vm) qK, EVS.blind g mk a qE⟩, fun U hU hW => ⟨rfl, hU, va_K.moved hW.alike hK, hE.call hS hFc hU hW⟩⟩ rfl rfl hl.1 rfl (lv_room (Nat.le_of_ble_eq_true rfl)) dX12_coal_98 ⟨(Nat.le_of_ble_eq_true rfl), (Nat.le_of_ble_eq_true rfl)⟩) hS (fun q _ h => hFc q h) hFc (fun r65 u t H locs ht hvm hw66 hB _ _ hS => ?_)
          obtain ⟨hT, hF1⟩ := hB
          rw [ht] at hT hF1
          have hF := hF.more hF1 (by decide)
          try dsimp only at hw66
          obtain ⟨h68, hf69⟩ := hw66
          have t70 : (18 : Int32).toInt = 18 := by decide
          refine lv_dup2_11 hx hb dX12_coal_101 rfl rfl ?_
          refine tw_iald (i := r65) hx hb hK hT hg39 shm_2 rfl (vin_t (a := r65.toInt) rfl (by omega) (by omega)) dX12_coal_102 (fun v9 m71 h9 => ?_)
          obtain ⟨x72, rfl, gx72, kx72⟩ := (gp_at h9 (w_fre (by have q9 := tn_of (show r65.toInt = r65.toInt from rfl) (show (0 : Int) ≤ r65.toInt from by omega); omega)))
          refine lv_iload_n hx hb dX12_coal_103 rfl (lv_at hl 2 rfl) ?_
          refine lv_iadd hx hb dX12_coal_104 ?_
          refine lv_topi (fun x73 ex73 => ?_)
          refine tw_iast (i := r65) (x := x73) hx hb hK hT hG hS hg39 shm_2 rfl (vin_t (a := r65.toInt) rfl (by omega) (by omega)) (gp_of (gi_all _) (w_fre (by have q9 := tn_of (show r65.toInt = r65.toInt from rfl) (show (0 : Int) ≤ r65.toInt from by omega); omega)) (wX_o (by have q9 := tn_of (show r65.toInt = r65.toInt from rfl) (show (0 : Int) ≤ r65.toInt from by omega); omega) (by omega))) dX12_coal_105 (fun H locs hT oq m74 oi hS => ?_)
          have hF := hF.ast hg39 skm_2 oq (by decide)
          refine lv_aload_n hx hb dX12_coal_106 rfl (lv_at hl 0 rfl) ?_
          refine lv_iconst (v := 0) hx hb dX12_coal_107 (by decide) ?_
          refine tw_put (v := .int 0) (ty := .int) hx hb hts bF_X12 tyX12 tyX12_ok nmX12 hown hK hT hG hS hr_o0 shm_0 rfl 9 (by decide) (ht_at hts 21 rfl) (fun _ h9 => h9) rfl (by decide +kernel) rfl rfl (gl_at rfl (gi_of (show (0 : Int32).toInt = 0 from (by decide)) (by first | decide | omega) (by first | decide | omega))) dX12_coal_108 (fun H locs hT oq m76 oj hS => ?_)
          have hF := hF.put hr_o0 skm_0 oq oj (by decide)
          have m78 := (el_kept (oq _ (gne hg39 hr_o0 (by decide)))).trans m74
          refine lv_aload_n hx hb dX12_coal_111 rfl (lv_at hl 0 rfl) ?_
          refine lv_iload_n hx hb dX12_coal_112 rfl (lv_at hl 1 rfl) ?_
          refine lv_bipush (v := 18) hx hb dX12_coal_113 (by decide) ?_
          have hFc := gA_free hG hA hS
          refine va_calli (va_runV (As := [.int p0, .int 18]) (rest := []) ⟨hx, hb, hml, hown, hts⟩ (s_of18 l dC dI kA adK adV G H q wZ wN wH wB wC wL wK wU wV PI im PM PT lS lB lE lN o0 p0 hT hr_o0 (by have q8 := ti_all p0; omega) hgz hgn hgh hgb hgc hgi hgu) (cwV 2 hts (goodIn_app (goodIn_r _ [19, 20, 21, 7] rfl (by decide +kernel)) (goodIn_ca (goodIn_r _ [15, 3, 16, 17, 18, 7] rfl (by decide +kernel)) (bs_in _ _))) rfl rfl rfl (by decide +kernel) ⟨(Nat.le_of_ble_eq_true rfl), (Nat.le_of_ble_eq_true rfl)⟩) ⟨fun a U g mk q => by obtain ⟨q0, q1, qK, qE⟩ := q; exact ⟨q0, q1, va_K.moved (u := U) (U := U.calling g mk a) (Vm.Alike.refl U.vm) qK, EVS.blind g mk a qE⟩, gH_rc hK hT hr_o0 shm_0 rfl, fun U hU hW => ⟨rfl, hU, va_K.moved hW.alike hK, hE.call hS hFc hU hW⟩⟩ rfl rfl hl.1 rfl (lv_room (Nat.le_of_ble_eq_true rfl)) dX12_coal_115 ⟨(Nat.le_of_ble_eq_true rfl), (Nat.le_of_ble_eq_true rfl)⟩) hS (fun q _ h => hFc q h) hFc (fun r79 u t H locs ht hvm hw80 hB _ _ hS => ?_)
          obtain ⟨hT, hF1⟩ := hB
          rw [ht] at hT hF1
          have m82 := (el_kept (hF1.arr hg39 skm_2 (by decide))).trans m78
          have hF := hF.more hF1 (by decide)
          try dsimp only at hw80
          have ⟨ix84, hix84, m85⟩ := hw80
          have m86 := (el_kept (hF1.arr hg39 skm_2 (by decide))).trans m85
          obtain rfl : x73 = r79 := (el_same m86 m82 (by have q8 := (show r65.toInt = r65.toInt from rfl); omega)).symm
          exact W.iret (v := x73) hx hb hr (fun t ht hW => ⟨⟨x73, (), rfl, (by exact trivial), by (try dsimp only); rw [ht]; exact ⟨hT, hF⟩⟩, hS.F ht⟩) hS.2.2 dX12_coal_118
        · have t87 : r35.toInt ≠ 3 := ti_ne c55 rfl (by decide)
          refine lv_iconst (v := 1) hx hb dX12_coal_77 (by decide) ?_
          refine lv_goto (tgt := 82) hx hb dX12_coal_78 (by decide) ?_
          refine lv_iconst (v := 3) hx hb dX12_coal_82 (by decide) ?_
          have hFc := gA_free hG hA hS
          refine va_calli (va_runV (As := [.int 1, .int 3]) (rest := []) ⟨hx, hb, hml, hown, hts⟩ (s_throwsIf l dC dI kA adK adV G H q wZ wN wH wB wC wL wK wU wV PI im PM PT lS lB lE lN o0 1 3 hT hr_o0 (rg_t (a := 1) (by decide) (by first | decide | omega) (by first | decide | omega)) hgz hgn hgh hgb hgc hgi hgu) (cwV 2 hts (goodIn_app (goodIn_r _ [12, 13, 14, 7] rfl (by decide +kernel)) (goodIn_ca (goodIn_r _ [11, 1] rfl (by decide +kernel)) (bs_in _ _))) rfl rfl rfl (by decide +kernel) ⟨(Nat.le_of_ble_eq_true rfl), (Nat.le_of_ble_eq_true rfl)⟩) ⟨fun a U g mk q => by obtain ⟨q0, q1, qK, qE⟩ := q; exact ⟨q0, q1, va_K.moved (u := U) (U := U.calling g mk a) (Vm.Alike.refl U.vm) qK, EVS.blind g mk a qE⟩, gH_rc hK hT hr_o0 shm_0 rfl, fun U hU hW => ⟨rfl, hU, va_K.moved hW.alike hK, hE.call hS hFc hU hW⟩⟩ rfl rfl hl.1 rfl (lv_room (Nat.le_of_ble_eq_true rfl)) dX12_coal_83 ⟨(Nat.le_of_ble_eq_true rfl), (Nat.le_of_ble_eq_true rfl)⟩) hS (fun q _ h => hFc q h) hFc (fun r88 u t H locs ht hvm hw89 hB _ _ hS => ?_)
          obtain ⟨hT, hF1⟩ := hB
          rw [ht] at hT hF1
          have hF := hF.more hF1 (by decide)
          try dsimp only at hw89
          obtain ⟨h91, hd92⟩ := hw89
          obtain rfl : (1 : Int32) = r88 := hd92.symm
          refine lv_if_eq (tgt := 91) hx hb dX12_coal_86 (by decide) (fun c93 => absurd c93 (by decide)) (fun c93 => ?_)
          refine lv_iconst (v := 0) hx hb dX12_coal_89 (by decide) ?_
          exact W.iret (v := 0) hx hb hr (fun t ht hW => ⟨⟨0, (), rfl, (by exact trivial), by (try dsimp only); rw [ht]; exact ⟨hT, hF⟩⟩, hS.F ht⟩) hS.2.2 dX12_coal_90
      · have t94 : r35.toInt = 3 := ti_eq c41 rfl (by decide)
        refine lv_aload_n hx hb dX12_coal_40 rfl (lv_at hl 0 rfl) ?_
        refine lv_iload_n hx hb dX12_coal_41 rfl (lv_at hl 1 rfl) ?_
        refine lv_bipush (v := 18) hx hb dX12_coal_42 (by decide) ?_
        have hFc := gA_free hG hA hS
        refine va_calli (va_runV (As := [.int p0, .int 18]) (rest := [.ref o0]) ⟨hx, hb, hml, hown, hts⟩ (s_of18 l dC dI kA adK adV G H q wZ wN wH wB wC wL wK wU wV PI im PM PT lS lB lE lN o0 p0 hT hr_o0 (by have q8 := ti_all p0; omega) hgz hgn hgh hgb hgc hgi hgu) (cwV 2 hts (goodIn_app (goodIn_r _ [19, 20, 21, 7] rfl (by decide +kernel)) (goodIn_ca (goodIn_r _ [15, 3, 16, 17, 18, 7] rfl (by decide +kernel)) (bs_in _ _))) rfl rfl rfl (by decide +kernel) ⟨(Nat.le_of_ble_eq_true rfl), (Nat.le_of_ble_eq_true rfl)⟩) ⟨fun a U g mk q => by obtain ⟨q0, q1, qK, qE⟩ := q; exact ⟨q0, q1, va_K.moved (u := U) (U := U.calling g mk a) (Vm.Alike.refl U.vm) qK, EVS.blind g mk a qE⟩, gH_rc hK hT hr_o0 shm_0 rfl, fun U hU hW => ⟨rfl, hU, va_K.moved hW.alike hK, hE.call hS hFc hU hW⟩⟩ rfl rfl hl.1 rfl (lv_room (Nat.le_of_ble_eq_true rfl)) dX12_coal_44 ⟨(Nat.le_of_ble_eq_true rfl), (Nat.le_of_ble_eq_true rfl)⟩) hS (fun q _ h => hFc q h) hFc (fun r95 u t H locs ht hvm hw96 hB _ _ hS => ?_)
        obtain ⟨hT, hF1⟩ := hB
        rw [ht] at hT hF1
        have m97 := (el_kept (hF1.arr hg39 skm_2 (by decide))).trans m40
        have hF := hF.more hF1 (by decide)
        try dsimp only at hw96
        have ⟨ix98, hix98, m99⟩ := hw96
        have m100 := (el_kept (hF1.arr hg39 skm_2 (by decide))).trans m99
        refine lv_iload_n hx hb dX12_coal_47 rfl (lv_at hl 2 rfl) ?_
        refine lv_iadd hx hb dX12_coal_48 ?_
        refine lv_topi (fun x101 ex101 => ?_)
        refine lv_ldc (v := 100000) hx hb hown (ht_at hts 22 rfl) dX12_coal_49 ?_
        refine lv_icmp_le (tgt := 58) hx hb dX12_coal_51 (by decide) (fun c102 => ?_) (fun c102 => ?_)
        · have t103 : x101.toInt ≤ 100000 := ti_le c102 rfl (by decide)
          refine lv_iconst (v := 0) hx hb dX12_coal_58 (by decide) ?_
          refine lv_iconst (v := 2) hx hb dX12_coal_59 (by decide) ?_
          have hFc := gA_free hG hA hS
          refine va_calli (va_runV (As := [.int 0, .int 2]) (rest := []) ⟨hx, hb, hml, hown, hts⟩ (s_throwsIf l dC dI kA adK adV G H q wZ wN wH wB wC wL wK wU wV PI im PM PT lS lB lE lN o0 0 2 hT hr_o0 (rg_t (a := 0) (by decide) (by first | decide | omega) (by first | decide | omega)) hgz hgn hgh hgb hgc hgi hgu) (cwV 2 hts (goodIn_app (goodIn_r _ [12, 13, 14, 7] rfl (by decide +kernel)) (goodIn_ca (goodIn_r _ [11, 1] rfl (by decide +kernel)) (bs_in _ _))) rfl rfl rfl (by decide +kernel) ⟨(Nat.le_of_ble_eq_true rfl), (Nat.le_of_ble_eq_true rfl)⟩) ⟨fun a U g mk q => by obtain ⟨q0, q1, qK, qE⟩ := q; exact ⟨q0, q1, va_K.moved (u := U) (U := U.calling g mk a) (Vm.Alike.refl U.vm) qK, EVS.blind g mk a qE⟩, gH_rc hK hT hr_o0 shm_0 rfl, fun U hU hW => ⟨rfl, hU, va_K.moved hW.alike hK, hE.call hS hFc hU hW⟩⟩ rfl rfl hl.1 rfl (lv_room (Nat.le_of_ble_eq_true rfl)) dX12_coal_60 ⟨(Nat.le_of_ble_eq_true rfl), (Nat.le_of_ble_eq_true rfl)⟩) hS (fun q _ h => hFc q h) hFc (fun r104 u t H locs ht hvm hw105 hB _ _ hS => ?_)
          obtain ⟨hT, hF1⟩ := hB
          rw [ht] at hT hF1
          have m106 := (el_kept (hF1.arr hg39 skm_2 (by decide))).trans m97
          have m107 := (el_kept (hF1.arr hg39 skm_2 (by decide))).trans m100
          have hF := hF.more hF1 (by decide)
          try dsimp only at hw105
          obtain ⟨h108, hd109⟩ := hw105
          obtain rfl : (0 : Int32) = r104 := hd109.symm
          refine lv_if_ne (tgt := 89) hx hb dX12_coal_63 (by decide) (fun c110 => absurd c110 (by decide)) (fun c110 => ?_)
          refine lv_aload_n hx hb dX12_coal_66 rfl (lv_at hl 0 rfl) ?_
          refine lv_aload_n hx hb dX12_coal_67 rfl (lv_at hl 0 rfl) ?_
          refine lv_iload_n hx hb dX12_coal_68 rfl (lv_at hl 1 rfl) ?_
          refine lv_iconst (v := 0) hx hb dX12_coal_69 (by decide) ?_
          have hFc := gA_free hG hA hS
          refine va_calli (va_runV (As := [.int p0, .int 0]) (rest := [.ref o0]) ⟨hx, hb, hml, hown, hts⟩ (s_of0 l dC dI kA adK adV G H q wZ wN wH wB wC wL wK wU wV PI im PM PT lS lB lE lN o0 p0 hT hr_o0 (by have q8 := ti_all p0; omega) hgz hgn hgh hgb hgc hgi hgu) (cwV 2 hts (goodIn_app (goodIn_r _ [19, 20, 21, 7] rfl (by decide +kernel)) (goodIn_ca (goodIn_r _ [15, 3, 16, 17, 18, 7] rfl (by decide +kernel)) (bs_in _ _))) rfl rfl rfl (by decide +kernel) ⟨(Nat.le_of_ble_eq_true rfl), (Nat.le_of_ble_eq_true rfl)⟩) ⟨fun a U g mk q => by obtain ⟨q0, q1, qK, qE⟩ := q; exact ⟨q0, q1, va_K.moved (u := U) (U := U.calling g mk a) (Vm.Alike.refl U.vm) qK, EVS.blind g mk a qE⟩, gH_rc hK hT hr_o0 shm_0 rfl, fun U hU hW => ⟨rfl, hU, va_K.moved hW.alike hK, hE.call hS hFc hU hW⟩⟩ rfl rfl hl.1 rfl (lv_room (Nat.le_of_ble_eq_true rfl)) dX12_coal_70 ⟨(Nat.le_of_ble_eq_true rfl), (Nat.le_of_ble_eq_true rfl)⟩) hS (fun q _ h => hFc q h) hFc (fun r111 u t H locs ht hvm hw112 hB _ _ hS => ?_)
          obtain ⟨hT, hF1⟩ := hB
          rw [ht] at hT hF1
          have m113 := (el_kept (hF1.arr hg39 skm_2 (by decide))).trans m106
          have m114 := (el_kept (hF1.arr hg39 skm_2 (by decide))).trans m107
          have hF := hF.more hF1 (by decide)
          try dsimp only at hw112
          have ⟨ix115, hix115, m116⟩ := hw112
          have m117 := (el_kept (hF1.arr hg39 skm_2 (by decide))).trans m116
          obtain rfl : r35 = r111 := (el_same m117 m113 (by have q8 := (show ix37.toInt = ix37.toInt from rfl); omega)).symm
          refine lv_iconst (v := 3) hx hb dX12_coal_73 (by decide) ?_
          refine lv_icmp_eq (tgt := 81) hx hb dX12_coal_74 (by decide) (fun c118 => ?_) (fun c118 => (by exfalso; have q9 : r35.toInt ≠ 3 := ti_ne c118 rfl (by decide); omega))
          have t119 : r35.toInt = 3 := ti_eq c118 rfl (by decide)
          refine lv_iconst (v := 0) hx hb dX12_coal_81 (by decide) ?_
          refine lv_iconst (v := 3) hx hb dX12_coal_82 (by decide) ?_
          have hFc := gA_free hG hA hS
          refine va_calli (va_runV (As := [.int 0, .int 3]) (rest := []) ⟨hx, hb, hml, hown, hts⟩ (s_throwsIf l dC dI kA adK adV G H q wZ wN wH wB wC wL wK wU wV PI im PM PT lS lB lE lN o0 0 3 hT hr_o0 (rg_t (a := 0) (by decide) (by first | decide | omega) (by first | decide | omega)) hgz hgn hgh hgb hgc hgi hgu) (cwV 2 hts (goodIn_app (goodIn_r _ [12, 13, 14, 7] rfl (by decide +kernel)) (goodIn_ca (goodIn_r _ [11, 1] rfl (by decide +kernel)) (bs_in _ _))) rfl rfl rfl (by decide +kernel) ⟨(Nat.le_of_ble_eq_true rfl), (Nat.le_of_ble_eq_true rfl)⟩) ⟨fun a U g mk q => by obtain ⟨q0, q1, qK, qE⟩ := q; exact ⟨q0, q1, va_K.moved (u := U) (U := U.calling g mk a) (Vm.Alike.refl U.vm) qK, EVS.blind g mk a qE⟩, gH_rc hK hT hr_o0 shm_0 rfl, fun U hU hW => ⟨rfl, hU, va_K.moved hW.alike hK, hE.call hS hFc hU hW⟩⟩ rfl rfl hl.1 rfl (lv_room (Nat.le_of_ble_eq_true rfl)) dX12_coal_83 ⟨(Nat.le_of_ble_eq_true rfl), (Nat.le_of_ble_eq_true rfl)⟩) hS (fun q _ h => hFc q h) hFc (fun r120 u t H locs ht hvm hw121 hB _ _ hS => ?_)
          obtain ⟨hT, hF1⟩ := hB
          rw [ht] at hT hF1
          have m123 := (el_kept (hF1.arr hg39 skm_2 (by decide))).trans m114
          have hF := hF.more hF1 (by decide)
          try dsimp only at hw121
          obtain ⟨h124, hd125⟩ := hw121
          obtain rfl : (0 : Int32) = r120 := hd125.symm
          refine lv_if_eq (tgt := 91) hx hb dX12_coal_86 (by decide) (fun c126 => ?_) (fun c126 => absurd c126 (by decide))
          refine lv_aload_n hx hb dX12_coal_91 rfl (lv_at hl 0 rfl) ?_
          refine tw_get hx hb hts bF_X12 hown hK hT hr_o0 shm_0 rfl 1 (by decide) (ht_at hts 2 rfl) (fun _ h9 => h9) dX12_coal_92 (fun v9 m127 h9 => ?_)
          obtain ⟨rfl, hg128⟩ := h9 _ rfl
          refine lv_iload_n hx hb dX12_coal_95 rfl (lv_at hl 1 rfl) ?_
          refine lv_bipush (v := 18) hx hb dX12_coal_96 (by decide) ?_
          have hFc := gA_free hG hA hS
          refine va_calli (va_runS (As := [.int p0, .int 18]) (rest := [.ref (q 1)]) ⟨hx, hb, hml, hown, hts⟩ (s_at l dC dI kA adK adV G H q wZ wN wH wB wC wL wK wU wV PI im PM PT lS lB lE lN p0 18 hT (by have q8 := ti_all p0; omega) (rg_t (a := 18) (by decide) (by first | decide | omega) (by first | decide | omega)) hgz hgn hgh hgb hgc hgi hgu) (va_cwS 2 hts (goodIn_app (goodIn_r _ [17, 18, 7] rfl (by decide +kernel)) (goodIn_ca (goodIn_r _ [16] rfl (by decide +kernel)) (bs_in _ _))) rfl rfl rfl (by decide +kernel) ⟨(Nat.le_of_ble_eq_true rfl), (Nat.le_of_ble_eq_true rfl)⟩) ⟨fun a U g mk q => by obtain ⟨q0, q1, qK, qE⟩ := q; exact ⟨q0, q1, va_K.moved (u := U) (U := U.calling g mk a) (Vm.Alike.refl U.vm) qK, EVS.blind g mk a qE⟩, fun U hU hW => ⟨rfl, hU, va_K.moved hW.alike hK, hE.call hS hFc hU hW⟩⟩ rfl rfl hl.1 rfl (lv_room (Nat.le_of_ble_eq_true rfl)) dX12_coal_98 ⟨(Nat.le_of_ble_eq_true rfl), (Nat.le_of_ble_eq_true rfl)⟩) hS (fun q _ h => hFc q h) hFc (fun r129 u t H locs ht hvm hw130 hB _ _ hS => ?_)
          obtain ⟨hT, hF1⟩ := hB
          rw [ht] at hT hF1
          have m132 := (el_kept (hF1.arr hg39 skm_2 (by decide))).trans m123
          have hF := hF.more hF1 (by decide)
          try dsimp only at hw130
          obtain ⟨h133, hf134⟩ := hw130
          have t135 : (18 : Int32).toInt = 18 := by decide
          refine lv_dup2_11 hx hb dX12_coal_101 rfl rfl ?_
          refine tw_iald (i := r129) hx hb hK hT hg39 shm_2 rfl (vin_t (a := r129.toInt) rfl (by omega) (by omega)) dX12_coal_102 (fun v9 m136 h9 => ?_)
          obtain ⟨x137, rfl, gx137, kx137⟩ := (gp_at h9 (w_fre (by have q9 := tn_of (show r129.toInt = r129.toInt from rfl) (show (0 : Int) ≤ r129.toInt from by omega); omega)))
          obtain rfl : r95 = x137 := (el_same m136 m132 (show r129.toInt = ix98.toInt from by rw []; try omega)).symm
          refine lv_iload_n hx hb dX12_coal_103 rfl (lv_at hl 2 rfl) ?_
          refine lv_iadd hx hb dX12_coal_104 ?_
          refine lv_topi (fun x138 ex138 => ?_)
          refine tw_iast (i := r129) (x := x138) hx hb hK hT hG hS hg39 shm_2 rfl (vin_t (a := r129.toInt) rfl (by omega) (by omega)) (gp_of (gi_all _) (w_fre (by have q9 := tn_of (show r129.toInt = r129.toInt from rfl) (show (0 : Int) ≤ r129.toInt from by omega); omega)) (wX_o (by have q9 := tn_of (show r129.toInt = r129.toInt from rfl) (show (0 : Int) ≤ r129.toInt from by omega); omega) (by omega))) dX12_coal_105 (fun H locs hT oq m139 oi hS => ?_)
          have hF := hF.ast hg39 skm_2 oq (by decide)
          refine lv_aload_n hx hb dX12_coal_106 rfl (lv_at hl 0 rfl) ?_
          refine lv_iconst (v := 0) hx hb dX12_coal_107 (by decide) ?_
          refine tw_put (v := .int 0) (ty := .int) hx hb hts bF_X12 tyX12 tyX12_ok nmX12 hown hK hT hG hS hr_o0 shm_0 rfl 9 (by decide) (ht_at hts 21 rfl) (fun _ h9 => h9) rfl (by decide +kernel) rfl rfl (gl_at rfl (gi_of (show (0 : Int32).toInt = 0 from (by decide)) (by first | decide | omega) (by first | decide | omega))) dX12_coal_108 (fun H locs hT oq m141 oj hS => ?_)
          have hF := hF.put hr_o0 skm_0 oq oj (by decide)
          have m143 := (el_kept (oq _ (gne hg39 hr_o0 (by decide)))).trans m139
          refine lv_aload_n hx hb dX12_coal_111 rfl (lv_at hl 0 rfl) ?_
          refine lv_iload_n hx hb dX12_coal_112 rfl (lv_at hl 1 rfl) ?_
          refine lv_bipush (v := 18) hx hb dX12_coal_113 (by decide) ?_
          have hFc := gA_free hG hA hS
          refine va_calli (va_runV (As := [.int p0, .int 18]) (rest := []) ⟨hx, hb, hml, hown, hts⟩ (s_of18 l dC dI kA adK adV G H q wZ wN wH wB wC wL wK wU wV PI im PM PT lS lB lE lN o0 p0 hT hr_o0 (by have q8 := ti_all p0; omega) hgz hgn hgh hgb hgc hgi hgu) (cwV 2 hts (goodIn_app (goodIn_r _ [19, 20, 21, 7] rfl (by decide +kernel)) (goodIn_ca (goodIn_r _ [15, 3, 16, 17, 18, 7] rfl (by decide +kernel)) (bs_in _ _))) rfl rfl rfl (by decide +kernel) ⟨(Nat.le_of_ble_eq_true rfl), (Nat.le_of_ble_eq_true rfl)⟩) ⟨fun a U g mk q => by obtain ⟨q0, q1, qK, qE⟩ := q; exact ⟨q0, q1, va_K.moved (u := U) (U := U.calling g mk a) (Vm.Alike.refl U.vm) qK, EVS.blind g mk a qE⟩, gH_rc hK hT hr_o0 shm_0 rfl, fun U hU hW => ⟨rfl, hU, va_K.moved hW.alike hK, hE.call hS hFc hU hW⟩⟩ rfl rfl hl.1 rfl (lv_room (Nat.le_of_ble_eq_true rfl)) dX12_coal_115 ⟨(Nat.le_of_ble_eq_true rfl), (Nat.le_of_ble_eq_true rfl)⟩) hS (fun q _ h => hFc q h) hFc (fun r144 u t H locs ht hvm hw145 hB _ _ hS => ?_)
          obtain ⟨hT, hF1⟩ := hB
          rw [ht] at hT hF1
          have m147 := (el_kept (hF1.arr hg39 skm_2 (by decide))).trans m143
          have hF := hF.more hF1 (by decide)
          try dsimp only at hw145
          have ⟨ix149, hix149, m150⟩ := hw145
          have m151 := (el_kept (hF1.arr hg39 skm_2 (by decide))).trans m150
          obtain rfl : x138 = r144 := (el_same m151 m147 (by have q8 := (show r129.toInt = r129.toInt from rfl); omega)).symm
          exact W.iret (v := x138) hx hb hr (fun t ht hW => ⟨⟨x138, (), rfl, (by exact trivial), by (try dsimp only); rw [ht]; exact ⟨hT, hF⟩⟩, hS.F ht⟩) hS.2.2 dX12_coal_118
        · have t152 : 100000 < x101.toInt := ti_nle c102 rfl (by decide)
          refine lv_iconst (v := 1) hx hb dX12_coal_54 (by decide) ?_
          refine lv_goto (tgt := 59) hx hb dX12_coal_55 (by decide) ?_
          refine lv_iconst (v := 2) hx hb dX12_coal_59 (by decide) ?_
          have hFc := gA_free hG hA hS
          refine va_calli (va_runV (As := [.int 1, .int 2]) (rest := []) ⟨hx, hb, hml, hown, hts⟩ (s_throwsIf l dC dI kA adK adV G H q wZ wN wH wB wC wL wK wU wV PI im PM PT lS lB lE lN o0 1 2 hT hr_o0 (rg_t (a := 1) (by decide) (by first | decide | omega) (by first | decide | omega)) hgz hgn hgh hgb hgc hgi hgu) (cwV 2 hts (goodIn_app (goodIn_r _ [12, 13, 14, 7] rfl (by decide +kernel)) (goodIn_ca (goodIn_r _ [11, 1] rfl (by decide +kernel)) (bs_in _ _))) rfl rfl rfl (by decide +kernel) ⟨(Nat.le_of_ble_eq_true rfl), (Nat.le_of_ble_eq_true rfl)⟩) ⟨fun a U g mk q => by obtain ⟨q0, q1, qK, qE⟩ := q; exact ⟨q0, q1, va_K.moved (u := U) (U := U.calling g mk a) (Vm.Alike.refl U.vm) qK, EVS.blind g mk a qE⟩, gH_rc hK hT hr_o0 shm_0 rfl, fun U hU hW => ⟨rfl, hU, va_K.moved hW.alike hK, hE.call hS hFc hU hW⟩⟩ rfl rfl hl.1 rfl (lv_room (Nat.le_of_ble_eq_true rfl)) dX12_coal_60 ⟨(Nat.le_of_ble_eq_true rfl), (Nat.le_of_ble_eq_true rfl)⟩) hS (fun q _ h => hFc q h) hFc (fun r153 u t H locs ht hvm hw154 hB _ _ hS => ?_)
          obtain ⟨hT, hF1⟩ := hB
          rw [ht] at hT hF1
          have hF := hF.more hF1 (by decide)
          try dsimp only at hw154
          obtain ⟨h157, hd158⟩ := hw154
          obtain rfl : (1 : Int32) = r153 := hd158.symm
          refine lv_if_ne (tgt := 89) hx hb dX12_coal_63 (by decide) (fun c159 => ?_) (fun c159 => absurd c159 (by decide))
          refine lv_iconst (v := 0) hx hb dX12_coal_89 (by decide) ?_
          exact W.iret (v := 0) hx hb hr (fun t ht hW => ⟨⟨0, (), rfl, (by exact trivial), by (try dsimp only); rw [ht]; exact ⟨hT, hF⟩⟩, hS.F ht⟩) hS.2.2 dX12_coal_90
def w_s_work : List Cond := .code yX12_work cX12_work 4 (some .int) :: (HAppend.hAppend (α := List Cond) (β := List Cond) (γ := List Cond) [.fieldLink RX12 194 "SeaLandModel" "thrown" "I", .code yX12_noWork cX12_noWork 2 (some .boolean), .fieldLink RX12 9 "SeaLandModel" "world" "[I", .code yX12_in cX12_in 3 (some .boolean), .methodLink RX12 197 yX12_in, .static yX12_in, .initialized RX12, .methodLink RX12 269 yX12_noWork, .instanceMethod yX12_noWork, .selects RX12 yX12_noWork yX12_noWork, .code yX12_throwsIf cX12_throwsIf 3 (some .boolean), .methodLink RX12 224 yX12_throwsIf, .instanceMethod yX12_throwsIf, .selects RX12 yX12_throwsIf yX12_throwsIf, .code yX12_of cX12_of 3 (some .int), .code yX12_at cX12_at 2 (some .int), .methodLink RX12 214 yX12_at, .static yX12_at, .methodLink RX12 217 yX12_of, .instanceMethod yX12_of, .selects RX12 yX12_of yX12_of, .code yX12_crest cX12_crest 4 (some .int), .methodLink RX12 282 yX12_crest, .instanceMethod yX12_crest, .selects RX12 yX12_crest yX12_crest, .code yX12_isDike cX12_isDike 2 (some .boolean), .methodLink RX12 272 yX12_isDike, .instanceMethod yX12_isDike, .selects RX12 yX12_isDike yX12_isDike] bs)
set_option maxHeartbeats 4000000 in
set_option maxRecDepth 100000 in
theorem s_work (l : Launch) (dC : Nat → ClassId) (dI : Nat → Nat → Nat) (kA : Nat → ClassId) (adK adV : Nat → Nat) (G : gT) (H0 : Heap) (q : Nat → Nat) (wZ wN : Nat → Int) (wH wB wC : Int) (wL wK : Nat → Prop) (wU wV : Nat → Nat) (PI : Nat → Int → Prop) (im : Int) (PM PT : Nat → Int → Prop) (lS lB lE : Nat → Nat → Int → Prop) (lN : Nat → Int) (o0 : Nat) (p0 : Int32) (p1 : Int32)  (hT : gH (dC, dI) kA (SHm q (wP wZ wN wH wB wC wL wK wU wV) PI im PM PT lS lB lE lN) G H0) (hr_o0 : G o0 = some 0) (hgz : ∀ i, 0 ≤ wZ i) (hgn : ∀ i, 6500000 ≤ wN i ∧ wN i ≤ 20200000) (hgh : 0 ≤ wH ∧ wH ≤ 40000) (hgb : 0 ≤ wB ∧ wB ≤ 3850000) (hgc : 0 ≤ wC ∧ wC ≤ 30) (hgi : 0 ≤ im ∧ im ≤ 1) (hgu : ∀ a t, G a = some (t + 1) → a = q t) : Met l yX12_work w_s_work ({ frames := 3, cells := 0, slots := 0, locals := 66 }) (va_Pc [.ref o0, .int p0, .int p1] (fun U => U.heap = H0 ∧ va_K (dC, dI) vwCl (tyl kA) U ∧ EVS adK adV (gA G H0.size) U U.heap)) (va_Qi (fun (r : Int32) (u : Unit) => True) (fun (_ : Unit) (t : State) => gH (dC, dI) kA (SHm q (wP wZ wN wH wB wC wL wK wU wV) PI im PM PT lS lB lE lN) G t.heap ∧ gF (dC, dI) SKm G ([(0, 0)] : List (Nat × Nat)) H0 t.heap) (gA G H0.size)) 0 0 (gA G H0.size) := by
  refine Met.ofW (cc := cX12_work) (maxL := 4) (ret := (some .int)) (by decide) rfl ?_
  intro p e s m args below meth c s₁ B hml hv
  obtain ⟨rfl, hH0, hK, hE⟩ := hv
  have hx := B.exec
  have hb := B.bytes
  have hr := B.returns
  have hts := atoms_spec (ws := w_s_work) B.pre
  have hown : s.vm.findClass RX12 = some m.cls := findClass_of_methodNamed B.named
  have hlocks := B.notSynchronized
  subst hH0
  generalize hAe : gA G s.heap.size = A at hE ⊢
  have hA : ∀ q : Nat, s.heap.size ≤ q → A q := fun q h => by rw [← hAe]; exact Or.inr h
  have hG := gA_of hAe
  have hS : va_S A s.heap s.heap [] := va_S.rf
  have hF : gF (dC, dI) SKm G ([(0, 0)] : List (Nat × Nat)) s.heap s.heap := gF.rf
  have hl := lv_entry ([.ref o0, .int p0, .int p1]) (n := 4) (Nat.le_of_ble_eq_true rfl)
  rw [lg_entry_eq]
  generalize (lg_sl ([.ref o0, .int p0, .int p1]) ++ List.replicate (4 - (lg_sl ([.ref o0, .int p0, .int p1])).length) Slot.unset).toArray = ls at hl ⊢
  have hl : lv_has ls 4 [(0, .ref o0), (1, .int p0), (2, .int p1)] := hl
  refine lv_aload_n hx hb dX12_work_0 rfl (lv_at hl 0 rfl) ?_
  refine lv_iconst (v := 0) hx hb dX12_work_1 (by decide) ?_
  refine tw_put (v := .int 0) (ty := .int) hx hb hts bF_X12 tyX12 tyX12_ok nmX12 hown hK hT hG hS hr_o0 shm_0 rfl 0 (by decide) (ht_at hts 0 rfl) (fun _ h9 => h9) rfl (by decide +kernel) rfl rfl (gl_at rfl (gi_all _)) dX12_work_2 (fun H locs hT oq m1 oj hS => ?_)
  have hF := hF.put hr_o0 skm_0 oq oj (by decide)
  refine lv_aload_n hx hb dX12_work_5 rfl (lv_at hl 0 rfl) ?_
  refine lv_aload_n hx hb dX12_work_6 rfl (lv_at hl 0 rfl) ?_
  refine lv_iload_n hx hb dX12_work_7 rfl (lv_at hl 1 rfl) ?_
  have hFc := gA_free hG hA hS
  refine va_calli (va_runV (As := [.int p0]) (rest := [.ref o0]) ⟨hx, hb, hml, hown, hts⟩ (s_noWork l dC dI kA adK adV G H q wZ wN wH wB wC wL wK wU wV PI im PM PT lS lB lE lN o0 p0 hT hr_o0 hgz hgn hgh hgb hgc hgi hgu) (cwV 1 hts (goodIn_app (goodIn_r _ [8, 9, 10, 7] rfl (by decide +kernel)) (goodIn_ca (goodIn_r _ [2, 3, 4, 5, 6, 7] rfl (by decide +kernel)) (bs_in _ _))) rfl rfl rfl (by decide +kernel) ⟨(Nat.le_of_ble_eq_true rfl), (Nat.le_of_ble_eq_true rfl)⟩) ⟨fun a U g mk q => by obtain ⟨q0, q1, qK, qE⟩ := q; exact ⟨q0, q1, va_K.moved (u := U) (U := U.calling g mk a) (Vm.Alike.refl U.vm) qK, EVS.blind g mk a qE⟩, gH_rc hK hT hr_o0 shm_0 rfl, fun U hU hW => ⟨rfl, hU, va_K.moved hW.alike hK, hE.call hS hFc hU hW⟩⟩ rfl rfl hl.1 rfl (lv_room (Nat.le_of_ble_eq_true rfl)) dX12_work_8 ⟨(Nat.le_of_ble_eq_true rfl), (Nat.le_of_ble_eq_true rfl)⟩) hS (fun q _ h => hFc q h) hFc (fun r2 u t H locs ht hvm hw3 hB _ _ hS => ?_)
  obtain ⟨hT, hF1⟩ := hB
  rw [ht] at hT hF1
  have hF := hF.more hF1 (by decide)
  try dsimp only at hw3
  obtain ⟨h5, hi6⟩ := hw3
  refine lv_iconst (v := 1) hx hb dX12_work_11 (by decide) ?_
  have hFc := gA_free hG hA hS
  refine va_calli (va_runV (As := [.int r2, .int 1]) (rest := []) ⟨hx, hb, hml, hown, hts⟩ (s_throwsIf l dC dI kA adK adV G H q wZ wN wH wB wC wL wK wU wV PI im PM PT lS lB lE lN o0 r2 1 hT hr_o0 (by have q8 := ti_all r2; omega) hgz hgn hgh hgb hgc hgi hgu) (cwV 2 hts (goodIn_app (goodIn_r _ [12, 13, 14, 7] rfl (by decide +kernel)) (goodIn_ca (goodIn_r _ [11, 1] rfl (by decide +kernel)) (bs_in _ _))) rfl rfl rfl (by decide +kernel) ⟨(Nat.le_of_ble_eq_true rfl), (Nat.le_of_ble_eq_true rfl)⟩) ⟨fun a U g mk q => by obtain ⟨q0, q1, qK, qE⟩ := q; exact ⟨q0, q1, va_K.moved (u := U) (U := U.calling g mk a) (Vm.Alike.refl U.vm) qK, EVS.blind g mk a qE⟩, gH_rc hK hT hr_o0 shm_0 rfl, fun U hU hW => ⟨rfl, hU, va_K.moved hW.alike hK, hE.call hS hFc hU hW⟩⟩ rfl rfl hl.1 rfl (lv_room (Nat.le_of_ble_eq_true rfl)) dX12_work_12 ⟨(Nat.le_of_ble_eq_true rfl), (Nat.le_of_ble_eq_true rfl)⟩) hS (fun q _ h => hFc q h) hFc (fun r7 u t H locs ht hvm hw8 hB _ _ hS => ?_)
  obtain ⟨hT, hF1⟩ := hB
  rw [ht] at hT hF1
  have hF := hF.more hF1 (by decide)
  try dsimp only at hw8
  obtain ⟨h10, hd11⟩ := hw8
  obtain rfl : r2 = r7 := hd11.symm
  refine lv_if_eq (tgt := 20) hx hb dX12_work_15 (by decide) (fun c12 => ?_) (fun c12 => ?_)
  · have t13 : r2.toInt = 0 := ti_eq c12 rfl (by decide)
    have t14 : 0 ≤ p0.toInt ∧ p0.toInt ≤ 29 ∧ p0.toInt < wC := hi6 c12
    refine lv_aload_n hx hb dX12_work_20 rfl (lv_at hl 0 rfl) ?_
    refine lv_iload_n hx hb dX12_work_21 rfl (lv_at hl 1 rfl) ?_
    refine lv_iconst (v := 0) hx hb dX12_work_22 (by decide) ?_
    have hFc := gA_free hG hA hS
    refine va_calli (va_runV (As := [.int p0, .int 0]) (rest := []) ⟨hx, hb, hml, hown, hts⟩ (s_of0 l dC dI kA adK adV G H q wZ wN wH wB wC wL wK wU wV PI im PM PT lS lB lE lN o0 p0 hT hr_o0 (by have q8 := ti_all p0; omega) hgz hgn hgh hgb hgc hgi hgu) (cwV 2 hts (goodIn_app (goodIn_r _ [19, 20, 21, 7] rfl (by decide +kernel)) (goodIn_ca (goodIn_r _ [15, 3, 16, 17, 18, 7] rfl (by decide +kernel)) (bs_in _ _))) rfl rfl rfl (by decide +kernel) ⟨(Nat.le_of_ble_eq_true rfl), (Nat.le_of_ble_eq_true rfl)⟩) ⟨fun a U g mk q => by obtain ⟨q0, q1, qK, qE⟩ := q; exact ⟨q0, q1, va_K.moved (u := U) (U := U.calling g mk a) (Vm.Alike.refl U.vm) qK, EVS.blind g mk a qE⟩, gH_rc hK hT hr_o0 shm_0 rfl, fun U hU hW => ⟨rfl, hU, va_K.moved hW.alike hK, hE.call hS hFc hU hW⟩⟩ rfl rfl hl.1 rfl (lv_room (Nat.le_of_ble_eq_true rfl)) dX12_work_23 ⟨(Nat.le_of_ble_eq_true rfl), (Nat.le_of_ble_eq_true rfl)⟩) hS (fun q _ h => hFc q h) hFc (fun r15 u t H locs ht hvm hw16 hB _ _ hS => ?_)
    obtain ⟨hT, hF1⟩ := hB
    rw [ht] at hT hF1
    have hF := hF.more hF1 (by decide)
    try dsimp only at hw16
    have ⟨ix17, hix17, m18⟩ := hw16
    have hg19 : G (q 1) = some 2 := gx_of hT hr_o0 shm_0 (k := 1) (by decide) rfl
    refine lv_istore_n (lv' := [(3, .int r15), (0, .ref o0), (1, .int p0), (2, .int p1)]) hx hb dX12_work_26 rfl hl (by decide) rfl (fun ls hl => ?_)
    refine lv_iload_n hx hb dX12_work_27 rfl (lv_at hl 3 rfl) ?_
    by_cases hs21 : p1 = 0
    · subst hs21
      refine lv_tableIn (x := 0) (off := 48) (tgt := 76) hx hb dX12_work_28 (by decide) (by decide) (by decide) (by decide) ?_
      refine lv_iload_n hx hb dX12_work_76 rfl (lv_at hl 0 rfl) ?_
      exact W.iret (v := r15) hx hb hr (fun t ht hW => ⟨⟨r15, (), rfl, (by exact trivial), by (try dsimp only); rw [ht]; exact ⟨hT, hF⟩⟩, hS.F ht⟩) hS.2.2 dX12_work_77
    by_cases hs22 : p1 = 1
    · subst hs22
      refine lv_tableIn (x := 1) (off := 50) (tgt := 78) hx hb dX12_work_28 (by decide) (by decide) (by decide) (by decide) ?_
      refine lv_aload_n hx hb dX12_work_78 rfl (lv_at hl 1 rfl) ?_
      refine lv_iload_n hx hb dX12_work_79 rfl (lv_at hl 2 rfl) ?_
      refine lv_iconst (v := 1) hx hb dX12_work_80 (by decide) ?_
      have hFc := gA_free hG hA hS
      refine va_calli (va_runV (As := [.int p0, .int 1]) (rest := []) ⟨hx, hb, hml, hown, hts⟩ (s_of1 l dC dI kA adK adV G H q wZ wN wH wB wC wL wK wU wV PI im PM PT lS lB lE lN o0 p0 hT hr_o0 (by have q8 := ti_all p0; omega) hgz hgn hgh hgb hgc hgi hgu) (cwV 2 hts (goodIn_app (goodIn_r _ [19, 20, 21, 7] rfl (by decide +kernel)) (goodIn_ca (goodIn_r _ [15, 3, 16, 17, 18, 7] rfl (by decide +kernel)) (bs_in _ _))) rfl rfl rfl (by decide +kernel) ⟨(Nat.le_of_ble_eq_true rfl), (Nat.le_of_ble_eq_true rfl)⟩) ⟨fun a U g mk q => by obtain ⟨q0, q1, qK, qE⟩ := q; exact ⟨q0, q1, va_K.moved (u := U) (U := U.calling g mk a) (Vm.Alike.refl U.vm) qK, EVS.blind g mk a qE⟩, gH_rc hK hT hr_o0 shm_0 rfl, fun U hU hW => ⟨rfl, hU, va_K.moved hW.alike hK, hE.call hS hFc hU hW⟩⟩ rfl rfl hl.1 rfl (lv_room (Nat.le_of_ble_eq_true rfl)) dX12_work_81 ⟨(Nat.le_of_ble_eq_true rfl), (Nat.le_of_ble_eq_true rfl)⟩) hS (fun q _ h => hFc q h) hFc (fun r23 u t H locs ht hvm hw24 hB _ _ hS => ?_)
      obtain ⟨hT, hF1⟩ := hB
      rw [ht] at hT hF1
      have hF := hF.more hF1 (by decide)
      try dsimp only at hw24
      obtain ⟨h26, ⟨ix27, hix27, m28⟩⟩ := hw24
      exact W.iret (v := r23) hx hb hr (fun t ht hW => ⟨⟨r23, (), rfl, (by exact trivial), by (try dsimp only); rw [ht]; exact ⟨hT, hF⟩⟩, hS.F ht⟩) hS.2.2 dX12_work_84
    by_cases hs30 : p1 = 2
    · subst hs30
      refine lv_tableIn (x := 2) (off := 57) (tgt := 85) hx hb dX12_work_28 (by decide) (by decide) (by decide) (by decide) ?_
      refine lv_iload_n hx hb dX12_work_85 rfl (lv_at hl 0 rfl) ?_
      refine lv_if_ne (tgt := 93) hx hb dX12_work_86 (by decide) (fun c31 => ?_) (fun c31 => ?_)
      · have t32 : r15.toInt ≠ 0 := ti_ne c31 rfl (by decide)
        refine lv_iconst (v := 0) hx hb dX12_work_93 (by decide) ?_
        exact W.iret (v := 0) hx hb hr (fun t ht hW => ⟨⟨0, (), rfl, (by exact trivial), by (try dsimp only); rw [ht]; exact ⟨hT, hF⟩⟩, hS.F ht⟩) hS.2.2 dX12_work_94
      · have t33 : r15.toInt = 0 := ti_eq c31 rfl (by decide)
        refine lv_iconst (v := 1) hx hb dX12_work_89 (by decide) ?_
        refine lv_goto (tgt := 94) hx hb dX12_work_90 (by decide) ?_
        exact W.iret (v := 1) hx hb hr (fun t ht hW => ⟨⟨1, (), rfl, (by exact trivial), by (try dsimp only); rw [ht]; exact ⟨hT, hF⟩⟩, hS.F ht⟩) hS.2.2 dX12_work_94
    by_cases hs34 : p1 = 3
    · subst hs34
      refine lv_tableIn (x := 3) (off := 67) (tgt := 95) hx hb dX12_work_28 (by decide) (by decide) (by decide) (by decide) ?_
      refine lv_aload_n hx hb dX12_work_95 rfl (lv_at hl 1 rfl) ?_
      refine lv_iload_n hx hb dX12_work_96 rfl (lv_at hl 2 rfl) ?_
      refine lv_bipush (v := 20) hx hb dX12_work_97 (by decide) ?_
      have hFc := gA_free hG hA hS
      refine va_calli (va_runV (As := [.int p0, .int 20]) (rest := []) ⟨hx, hb, hml, hown, hts⟩ (s_of20 l dC dI kA adK adV G H q wZ wN wH wB wC wL wK wU wV PI im PM PT lS lB lE lN o0 p0 hT hr_o0 (by have q8 := ti_all p0; omega) hgz hgn hgh hgb hgc hgi hgu) (cwV 2 hts (goodIn_app (goodIn_r _ [19, 20, 21, 7] rfl (by decide +kernel)) (goodIn_ca (goodIn_r _ [15, 3, 16, 17, 18, 7] rfl (by decide +kernel)) (bs_in _ _))) rfl rfl rfl (by decide +kernel) ⟨(Nat.le_of_ble_eq_true rfl), (Nat.le_of_ble_eq_true rfl)⟩) ⟨fun a U g mk q => by obtain ⟨q0, q1, qK, qE⟩ := q; exact ⟨q0, q1, va_K.moved (u := U) (U := U.calling g mk a) (Vm.Alike.refl U.vm) qK, EVS.blind g mk a qE⟩, gH_rc hK hT hr_o0 shm_0 rfl, fun U hU hW => ⟨rfl, hU, va_K.moved hW.alike hK, hE.call hS hFc hU hW⟩⟩ rfl rfl hl.1 rfl (lv_room (Nat.le_of_ble_eq_true rfl)) dX12_work_99 ⟨(Nat.le_of_ble_eq_true rfl), (Nat.le_of_ble_eq_true rfl)⟩) hS (fun q _ h => hFc q h) hFc (fun r35 u t H locs ht hvm hw36 hB _ _ hS => ?_)
      obtain ⟨hT, hF1⟩ := hB
      rw [ht] at hT hF1
      have hF := hF.more hF1 (by decide)
      try dsimp only at hw36
      have ⟨ix38, hix38, m39⟩ := hw36
      exact W.iret (v := r35) hx hb hr (fun t ht hW => ⟨⟨r35, (), rfl, (by exact trivial), by (try dsimp only); rw [ht]; exact ⟨hT, hF⟩⟩, hS.F ht⟩) hS.2.2 dX12_work_102
    by_cases hs41 : p1 = 4
    · subst hs41
      refine lv_tableIn (x := 4) (off := 75) (tgt := 103) hx hb dX12_work_28 (by decide) (by decide) (by decide) (by decide) ?_
      refine lv_aload_n hx hb dX12_work_103 rfl (lv_at hl 1 rfl) ?_
      refine lv_iload_n hx hb dX12_work_104 rfl (lv_at hl 2 rfl) ?_
      refine lv_bipush (v := 21) hx hb dX12_work_105 (by decide) ?_
      have hFc := gA_free hG hA hS
      refine va_calli (va_runV (As := [.int p0, .int 21]) (rest := []) ⟨hx, hb, hml, hown, hts⟩ (s_of21 l dC dI kA adK adV G H q wZ wN wH wB wC wL wK wU wV PI im PM PT lS lB lE lN o0 p0 hT hr_o0 (by have q8 := ti_all p0; omega) hgz hgn hgh hgb hgc hgi hgu) (cwV 2 hts (goodIn_app (goodIn_r _ [19, 20, 21, 7] rfl (by decide +kernel)) (goodIn_ca (goodIn_r _ [15, 3, 16, 17, 18, 7] rfl (by decide +kernel)) (bs_in _ _))) rfl rfl rfl (by decide +kernel) ⟨(Nat.le_of_ble_eq_true rfl), (Nat.le_of_ble_eq_true rfl)⟩) ⟨fun a U g mk q => by obtain ⟨q0, q1, qK, qE⟩ := q; exact ⟨q0, q1, va_K.moved (u := U) (U := U.calling g mk a) (Vm.Alike.refl U.vm) qK, EVS.blind g mk a qE⟩, gH_rc hK hT hr_o0 shm_0 rfl, fun U hU hW => ⟨rfl, hU, va_K.moved hW.alike hK, hE.call hS hFc hU hW⟩⟩ rfl rfl hl.1 rfl (lv_room (Nat.le_of_ble_eq_true rfl)) dX12_work_107 ⟨(Nat.le_of_ble_eq_true rfl), (Nat.le_of_ble_eq_true rfl)⟩) hS (fun q _ h => hFc q h) hFc (fun r42 u t H locs ht hvm hw43 hB _ _ hS => ?_)
      obtain ⟨hT, hF1⟩ := hB
      rw [ht] at hT hF1
      have hF := hF.more hF1 (by decide)
      try dsimp only at hw43
      have ⟨ix45, hix45, m46⟩ := hw43
      exact W.iret (v := r42) hx hb hr (fun t ht hW => ⟨⟨r42, (), rfl, (by exact trivial), by (try dsimp only); rw [ht]; exact ⟨hT, hF⟩⟩, hS.F ht⟩) hS.2.2 dX12_work_110
    by_cases hs48 : p1 = 5
    · subst hs48
      refine lv_tableIn (x := 5) (off := 83) (tgt := 111) hx hb dX12_work_28 (by decide) (by decide) (by decide) (by decide) ?_
      refine lv_iload_n hx hb dX12_work_111 rfl (lv_at hl 0 rfl) ?_
      refine lv_if_ne (tgt := 123) hx hb dX12_work_112 (by decide) (fun c49 => ?_) (fun c49 => ?_)
      · have t50 : r15.toInt ≠ 0 := ti_ne c49 rfl (by decide)
        refine lv_aload_n hx hb dX12_work_123 rfl (lv_at hl 1 rfl) ?_
        refine lv_iload_n hx hb dX12_work_124 rfl (lv_at hl 2 rfl) ?_
        refine lv_bipush (v := 17) hx hb dX12_work_125 (by decide) ?_
        have hFc := gA_free hG hA hS
        refine va_calli (va_runV (As := [.int p0, .int 17]) (rest := []) ⟨hx, hb, hml, hown, hts⟩ (s_of17 l dC dI kA adK adV G H q wZ wN wH wB wC wL wK wU wV PI im PM PT lS lB lE lN o0 p0 hT hr_o0 (by have q8 := ti_all p0; omega) hgz hgn hgh hgb hgc hgi hgu) (cwV 2 hts (goodIn_app (goodIn_r _ [19, 20, 21, 7] rfl (by decide +kernel)) (goodIn_ca (goodIn_r _ [15, 3, 16, 17, 18, 7] rfl (by decide +kernel)) (bs_in _ _))) rfl rfl rfl (by decide +kernel) ⟨(Nat.le_of_ble_eq_true rfl), (Nat.le_of_ble_eq_true rfl)⟩) ⟨fun a U g mk q => by obtain ⟨q0, q1, qK, qE⟩ := q; exact ⟨q0, q1, va_K.moved (u := U) (U := U.calling g mk a) (Vm.Alike.refl U.vm) qK, EVS.blind g mk a qE⟩, gH_rc hK hT hr_o0 shm_0 rfl, fun U hU hW => ⟨rfl, hU, va_K.moved hW.alike hK, hE.call hS hFc hU hW⟩⟩ rfl rfl hl.1 rfl (lv_room (Nat.le_of_ble_eq_true rfl)) dX12_work_127 ⟨(Nat.le_of_ble_eq_true rfl), (Nat.le_of_ble_eq_true rfl)⟩) hS (fun q _ h => hFc q h) hFc (fun r51 u t H locs ht hvm hw52 hB _ _ hS => ?_)
        obtain ⟨hT, hF1⟩ := hB
        rw [ht] at hT hF1
        have hF := hF.more hF1 (by decide)
        try dsimp only at hw52
        obtain ⟨h54, ⟨ix55, hix55, m56⟩⟩ := hw52
        exact W.iret (v := r51) hx hb hr (fun t ht hW => ⟨⟨r51, (), rfl, (by exact trivial), by (try dsimp only); rw [ht]; exact ⟨hT, hF⟩⟩, hS.F ht⟩) hS.2.2 dX12_work_130
      · have t58 : r15.toInt = 0 := ti_eq c49 rfl (by decide)
        refine lv_aload_n hx hb dX12_work_115 rfl (lv_at hl 1 rfl) ?_
        refine lv_iload_n hx hb dX12_work_116 rfl (lv_at hl 2 rfl) ?_
        have hFc := gA_free hG hA hS
        refine va_calli (va_runV (As := [.int p0]) (rest := []) ⟨hx, hb, hml, hown, hts⟩ (s_crest l dC dI kA adK adV G H q wZ wN wH wB wC wL wK wU wV PI im PM PT lS lB lE lN o0 p0 hT hr_o0 (by have q8 := ti_all p0; omega) hgz hgn hgh hgb hgc hgi hgu) (cwV 1 hts (goodIn_app (goodIn_r _ [23, 24, 25, 7] rfl (by decide +kernel)) (goodIn_ca (goodIn_r _ [22, 3, 15, 16, 17, 18, 7, 19, 20, 21] rfl (by decide +kernel)) (bs_in _ _))) rfl rfl rfl (by decide +kernel) ⟨(Nat.le_of_ble_eq_true rfl), (Nat.le_of_ble_eq_true rfl)⟩) ⟨fun a U g mk q => by obtain ⟨q0, q1, qK, qE⟩ := q; exact ⟨q0, q1, va_K.moved (u := U) (U := U.calling g mk a) (Vm.Alike.refl U.vm) qK, EVS.blind g mk a qE⟩, gH_rc hK hT hr_o0 shm_0 rfl, fun U hU hW => ⟨rfl, hU, va_K.moved hW.alike hK, hE.call hS hFc hU hW⟩⟩ rfl rfl hl.1 rfl (lv_room (Nat.le_of_ble_eq_true rfl)) dX12_work_117 ⟨(Nat.le_of_ble_eq_true rfl), (Nat.le_of_ble_eq_true rfl)⟩) hS (fun q _ h => hFc q h) hFc (fun r59 u t H locs ht hvm hw60 hB _ _ hS => ?_)
        obtain ⟨hT, hF1⟩ := hB
        rw [ht] at hT hF1
        have hF := hF.more hF1 (by decide)
        try dsimp only at hw60
        refine lv_goto (tgt := 130) hx hb dX12_work_120 (by decide) ?_
        exact W.iret (v := r59) hx hb hr (fun t ht hW => ⟨⟨r59, (), rfl, (by exact trivial), by (try dsimp only); rw [ht]; exact ⟨hT, hF⟩⟩, hS.F ht⟩) hS.2.2 dX12_work_130
    by_cases hs62 : p1 = 6
    · subst hs62
      refine lv_tableIn (x := 6) (off := 103) (tgt := 131) hx hb dX12_work_28 (by decide) (by decide) (by decide) (by decide) ?_
      refine lv_aload_n hx hb dX12_work_131 rfl (lv_at hl 1 rfl) ?_
      refine lv_iload_n hx hb dX12_work_132 rfl (lv_at hl 2 rfl) ?_
      have hFc := gA_free hG hA hS
      refine va_calli (va_runV (As := [.int p0]) (rest := []) ⟨hx, hb, hml, hown, hts⟩ (s_isDike l dC dI kA adK adV G H q wZ wN wH wB wC wL wK wU wV PI im PM PT lS lB lE lN o0 p0 hT hr_o0 (by have q8 := ti_all p0; omega) hgz hgn hgh hgb hgc hgi hgu) (cwV 1 hts (goodIn_app (goodIn_r _ [27, 28, 29, 7] rfl (by decide +kernel)) (goodIn_ca (goodIn_r _ [26, 15, 3, 16, 17, 18, 7, 19, 20, 21] rfl (by decide +kernel)) (bs_in _ _))) rfl rfl rfl (by decide +kernel) ⟨(Nat.le_of_ble_eq_true rfl), (Nat.le_of_ble_eq_true rfl)⟩) ⟨fun a U g mk q => by obtain ⟨q0, q1, qK, qE⟩ := q; exact ⟨q0, q1, va_K.moved (u := U) (U := U.calling g mk a) (Vm.Alike.refl U.vm) qK, EVS.blind g mk a qE⟩, gH_rc hK hT hr_o0 shm_0 rfl, fun U hU hW => ⟨rfl, hU, va_K.moved hW.alike hK, hE.call hS hFc hU hW⟩⟩ rfl rfl hl.1 rfl (lv_room (Nat.le_of_ble_eq_true rfl)) dX12_work_133 ⟨(Nat.le_of_ble_eq_true rfl), (Nat.le_of_ble_eq_true rfl)⟩) hS (fun q _ h => hFc q h) hFc (fun r63 u t H locs ht hvm hw64 hB _ _ hS => ?_)
      obtain ⟨hT, hF1⟩ := hB
      rw [ht] at hT hF1
      have hF := hF.more hF1 (by decide)
      try dsimp only at hw64
      obtain ⟨h66, hi67⟩ := hw64
      refine lv_if_eq (tgt := 148) hx hb dX12_work_136 (by decide) (fun c68 => ?_) (fun c68 => ?_)
      · have t69 : r63.toInt = 0 := ti_eq c68 rfl (by decide)
        refine lv_aload_n hx hb dX12_work_148 rfl (lv_at hl 1 rfl) ?_
        refine lv_iload_n hx hb dX12_work_149 rfl (lv_at hl 2 rfl) ?_
        refine lv_bipush (v := 18) hx hb dX12_work_150 (by decide) ?_
        have hFc := gA_free hG hA hS
        refine va_calli (va_runV (As := [.int p0, .int 18]) (rest := []) ⟨hx, hb, hml, hown, hts⟩ (s_of18 l dC dI kA adK adV G H q wZ wN wH wB wC wL wK wU wV PI im PM PT lS lB lE lN o0 p0 hT hr_o0 (by have q8 := ti_all p0; omega) hgz hgn hgh hgb hgc hgi hgu) (cwV 2 hts (goodIn_app (goodIn_r _ [19, 20, 21, 7] rfl (by decide +kernel)) (goodIn_ca (goodIn_r _ [15, 3, 16, 17, 18, 7] rfl (by decide +kernel)) (bs_in _ _))) rfl rfl rfl (by decide +kernel) ⟨(Nat.le_of_ble_eq_true rfl), (Nat.le_of_ble_eq_true rfl)⟩) ⟨fun a U g mk q => by obtain ⟨q0, q1, qK, qE⟩ := q; exact ⟨q0, q1, va_K.moved (u := U) (U := U.calling g mk a) (Vm.Alike.refl U.vm) qK, EVS.blind g mk a qE⟩, gH_rc hK hT hr_o0 shm_0 rfl, fun U hU hW => ⟨rfl, hU, va_K.moved hW.alike hK, hE.call hS hFc hU hW⟩⟩ rfl rfl hl.1 rfl (lv_room (Nat.le_of_ble_eq_true rfl)) dX12_work_152 ⟨(Nat.le_of_ble_eq_true rfl), (Nat.le_of_ble_eq_true rfl)⟩) hS (fun q _ h => hFc q h) hFc (fun r70 u t H locs ht hvm hw71 hB _ _ hS => ?_)
        obtain ⟨hT, hF1⟩ := hB
        rw [ht] at hT hF1
        have hF := hF.more hF1 (by decide)
        try dsimp only at hw71
        have ⟨ix73, hix73, m74⟩ := hw71
        exact W.iret (v := r70) hx hb hr (fun t ht hW => ⟨⟨r70, (), rfl, (by exact trivial), by (try dsimp only); rw [ht]; exact ⟨hT, hF⟩⟩, hS.F ht⟩) hS.2.2 dX12_work_155
      · have t76 : r63.toInt ≠ 0 := ti_ne c68 rfl (by decide)
        have t77 : p0.toInt < wC → wK p0.toNatClampNeg := hi67 ((bit_of ⟨by omega, by omega⟩).resolve_left c68)
        refine lv_aload_n hx hb dX12_work_139 rfl (lv_at hl 1 rfl) ?_
        refine lv_iload_n hx hb dX12_work_140 rfl (lv_at hl 2 rfl) ?_
        refine lv_iconst (v := 4) hx hb dX12_work_141 (by decide) ?_
        have hFc := gA_free hG hA hS
        refine va_calli (va_runV (As := [.int p0, .int 4]) (rest := []) ⟨hx, hb, hml, hown, hts⟩ (s_of4 l dC dI kA adK adV G H q wZ wN wH wB wC wL wK wU wV PI im PM PT lS lB lE lN o0 p0 hT hr_o0 (by have q8 := ti_all p0; omega) hgz hgn hgh hgb hgc hgi hgu) (cwV 2 hts (goodIn_app (goodIn_r _ [19, 20, 21, 7] rfl (by decide +kernel)) (goodIn_ca (goodIn_r _ [15, 3, 16, 17, 18, 7] rfl (by decide +kernel)) (bs_in _ _))) rfl rfl rfl (by decide +kernel) ⟨(Nat.le_of_ble_eq_true rfl), (Nat.le_of_ble_eq_true rfl)⟩) ⟨fun a U g mk q => by obtain ⟨q0, q1, qK, qE⟩ := q; exact ⟨q0, q1, va_K.moved (u := U) (U := U.calling g mk a) (Vm.Alike.refl U.vm) qK, EVS.blind g mk a qE⟩, gH_rc hK hT hr_o0 shm_0 rfl, fun U hU hW => ⟨rfl, hU, va_K.moved hW.alike hK, hE.call hS hFc hU hW⟩⟩ rfl rfl hl.1 rfl (lv_room (Nat.le_of_ble_eq_true rfl)) dX12_work_142 ⟨(Nat.le_of_ble_eq_true rfl), (Nat.le_of_ble_eq_true rfl)⟩) hS (fun q _ h => hFc q h) hFc (fun r78 u t H locs ht hvm hw79 hB _ _ hS => ?_)
        obtain ⟨hT, hF1⟩ := hB
        rw [ht] at hT hF1
        have hF := hF.more hF1 (by decide)
        try dsimp only at hw79
        obtain ⟨h81, ⟨ix82, hix82, m83⟩⟩ := hw79
        refine lv_goto (tgt := 155) hx hb dX12_work_145 (by decide) ?_
        exact W.iret (v := r78) hx hb hr (fun t ht hW => ⟨⟨r78, (), rfl, (by exact trivial), by (try dsimp only); rw [ht]; exact ⟨hT, hF⟩⟩, hS.F ht⟩) hS.2.2 dX12_work_155
    by_cases hs85 : p1 = 7
    · subst hs85
      refine lv_tableIn (x := 7) (off := 128) (tgt := 156) hx hb dX12_work_28 (by decide) (by decide) (by decide) (by decide) ?_
      refine lv_aload_n hx hb dX12_work_156 rfl (lv_at hl 1 rfl) ?_
      refine lv_iload_n hx hb dX12_work_157 rfl (lv_at hl 2 rfl) ?_
      refine lv_bipush (v := 19) hx hb dX12_work_158 (by decide) ?_
      have hFc := gA_free hG hA hS
      refine va_calli (va_runV (As := [.int p0, .int 19]) (rest := []) ⟨hx, hb, hml, hown, hts⟩ (s_of19 l dC dI kA adK adV G H q wZ wN wH wB wC wL wK wU wV PI im PM PT lS lB lE lN o0 p0 hT hr_o0 (by have q8 := ti_all p0; omega) hgz hgn hgh hgb hgc hgi hgu) (cwV 2 hts (goodIn_app (goodIn_r _ [19, 20, 21, 7] rfl (by decide +kernel)) (goodIn_ca (goodIn_r _ [15, 3, 16, 17, 18, 7] rfl (by decide +kernel)) (bs_in _ _))) rfl rfl rfl (by decide +kernel) ⟨(Nat.le_of_ble_eq_true rfl), (Nat.le_of_ble_eq_true rfl)⟩) ⟨fun a U g mk q => by obtain ⟨q0, q1, qK, qE⟩ := q; exact ⟨q0, q1, va_K.moved (u := U) (U := U.calling g mk a) (Vm.Alike.refl U.vm) qK, EVS.blind g mk a qE⟩, gH_rc hK hT hr_o0 shm_0 rfl, fun U hU hW => ⟨rfl, hU, va_K.moved hW.alike hK, hE.call hS hFc hU hW⟩⟩ rfl rfl hl.1 rfl (lv_room (Nat.le_of_ble_eq_true rfl)) dX12_work_160 ⟨(Nat.le_of_ble_eq_true rfl), (Nat.le_of_ble_eq_true rfl)⟩) hS (fun q _ h => hFc q h) hFc (fun r86 u t H locs ht hvm hw87 hB _ _ hS => ?_)
      obtain ⟨hT, hF1⟩ := hB
      rw [ht] at hT hF1
      have hF := hF.more hF1 (by decide)
      try dsimp only at hw87
      have ⟨ix89, hix89, m90⟩ := hw87
      exact W.iret (v := r86) hx hb hr (fun t ht hW => ⟨⟨r86, (), rfl, (by exact trivial), by (try dsimp only); rw [ht]; exact ⟨hT, hF⟩⟩, hS.F ht⟩) hS.2.2 dX12_work_163
    have ho92 : p1.toInt < 0 ∨ 7 < p1.toInt := by
      by_cases hz9 : p1.toInt < 0
      · exact Or.inl hz9
      have u9 : (0 : Int) ≤ p1.toInt := Int.not_lt.mp hz9
      have u9 := ll_nx (k1 := 1) u9 hs21 (by decide) (by decide)
      have u9 := ll_nx (k1 := 2) u9 hs22 (by decide) (by decide)
      have u9 := ll_nx (k1 := 3) u9 hs30 (by decide) (by decide)
      have u9 := ll_nx (k1 := 4) u9 hs34 (by decide) (by decide)
      have u9 := ll_nx (k1 := 5) u9 hs41 (by decide) (by decide)
      have u9 := ll_nx (k1 := 6) u9 hs48 (by decide) (by decide)
      have u9 := ll_nx (k1 := 7) u9 hs62 (by decide) (by decide)
      have u9 := ll_nx (k1 := 8) u9 hs85 (by decide) (by decide)
      exact Or.inr (Int.lt_of_lt_of_le (by decide) u9)
    refine lv_tableOut (tgt := 164) hx hb dX12_work_28 ho92 (by decide) ?_
    refine lv_aload_n hx hb dX12_work_164 rfl (lv_at hl 1 rfl) ?_
    refine lv_iconst (v := 2) hx hb dX12_work_165 (by decide) ?_
    refine tw_put (v := .int 2) (ty := .int) hx hb hts bF_X12 tyX12 tyX12_ok nmX12 hown hK hT hG hS hr_o0 shm_0 rfl 0 (by decide) (ht_at hts 0 rfl) (fun _ h9 => h9) rfl (by decide +kernel) rfl rfl (gl_at rfl (gi_all _)) dX12_work_166 (fun H locs hT oq m93 oj hS => ?_)
    have hF := hF.put hr_o0 skm_0 oq oj (by decide)
    refine lv_iconst (v := 0) hx hb dX12_work_169 (by decide) ?_
    exact W.iret (v := 0) hx hb hr (fun t ht hW => ⟨⟨0, (), rfl, (by exact trivial), by (try dsimp only); rw [ht]; exact ⟨hT, hF⟩⟩, hS.F ht⟩) hS.2.2 dX12_work_170
  · have t95 : r2.toInt ≠ 0 := ti_ne c12 rfl (by decide)
    refine lv_iconst (v := 0) hx hb dX12_work_18 (by decide) ?_
    exact W.iret (v := 0) hx hb hr (fun t ht hW => ⟨⟨0, (), rfl, (by exact trivial), by (try dsimp only); rw [ht]; exact ⟨hT, hF⟩⟩, hS.F ht⟩) hS.2.2 dX12_work_19
def w_s_row : List Cond := .code yX12_row cX12_row 3 (some .int) :: (HAppend.hAppend (α := List Cond) (β := List Cond) (γ := List Cond) [.fieldLink RX12 194 "SeaLandModel" "thrown" "I", .code yX12_noSquare cX12_noSquare 1 (some .boolean), .code yX12_in cX12_in 3 (some .boolean), .methodLink RX12 197 yX12_in, .static yX12_in, .initialized RX12, .methodLink RX12 220 yX12_noSquare, .static yX12_noSquare, .code yX12_throwsIf cX12_throwsIf 3 (some .boolean), .methodLink RX12 224 yX12_throwsIf, .instanceMethod yX12_throwsIf, .selects RX12 yX12_throwsIf yX12_throwsIf, .fieldLink RX12 238 "SeaLandModel" "rows" "I", .fieldLink RX12 25 "SeaLandModel" "rowTold" "[I"] bs)
set_option maxHeartbeats 4000000 in
set_option maxRecDepth 100000 in
theorem s_row (l : Launch) (dC : Nat → ClassId) (dI : Nat → Nat → Nat) (kA : Nat → ClassId) (adK adV : Nat → Nat) (G : gT) (H0 : Heap) (q : Nat → Nat) (wZ wN : Nat → Int) (wH wB wC : Int) (wL wK : Nat → Prop) (wU wV : Nat → Nat) (PI : Nat → Int → Prop) (im : Int) (PM PT : Nat → Int → Prop) (lS lB lE : Nat → Nat → Int → Prop) (lN : Nat → Int) (o0 : Nat) (p0 : Int32) (p1 : Int32)  (hT : gH (dC, dI) kA (SHm q (wP wZ wN wH wB wC wL wK wU wV) PI im PM PT lS lB lE lN) G H0) (hr_o0 : G o0 = some 0) (hgz : ∀ i, 0 ≤ wZ i) (hgn : ∀ i, 6500000 ≤ wN i ∧ wN i ≤ 20200000) (hgh : 0 ≤ wH ∧ wH ≤ 40000) (hgb : 0 ≤ wB ∧ wB ≤ 3850000) (hgc : 0 ≤ wC ∧ wC ≤ 30) (hgi : 0 ≤ im ∧ im ≤ 1) (hgu : ∀ a t, G a = some (t + 1) → a = q t) : Met l yX12_row w_s_row ({ frames := 2, cells := 0, slots := 0, locals := 42 }) (va_Pc [.ref o0, .int p0, .int p1] (fun U => U.heap = H0 ∧ va_K (dC, dI) vwCl (tyl kA) U ∧ EVS adK adV (gA G H0.size) U U.heap)) (va_Qi (fun (r : Int32) (u : Unit) => True) (fun (_ : Unit) (t : State) => gH (dC, dI) kA (SHm q (wP wZ wN wH wB wC wL wK wU wV) PI im PM PT lS lB lE lN) G t.heap ∧ gF (dC, dI) SKm G ([(0, 0)] : List (Nat × Nat)) H0 t.heap) (gA G H0.size)) 0 0 (gA G H0.size) := by
  refine Met.ofW (cc := cX12_row) (maxL := 3) (ret := (some .int)) (by decide) rfl ?_
  intro p e s m args below meth c s₁ B hml hv
  obtain ⟨rfl, hH0, hK, hE⟩ := hv
  have hx := B.exec
  have hb := B.bytes
  have hr := B.returns
  have hts := atoms_spec (ws := w_s_row) B.pre
  have hown : s.vm.findClass RX12 = some m.cls := findClass_of_methodNamed B.named
  have hlocks := B.notSynchronized
  subst hH0
  generalize hAe : gA G s.heap.size = A at hE ⊢
  have hA : ∀ q : Nat, s.heap.size ≤ q → A q := fun q h => by rw [← hAe]; exact Or.inr h
  have hG := gA_of hAe
  have hS : va_S A s.heap s.heap [] := va_S.rf
  have hF : gF (dC, dI) SKm G ([(0, 0)] : List (Nat × Nat)) s.heap s.heap := gF.rf
  have hl := lv_entry ([.ref o0, .int p0, .int p1]) (n := 3) (Nat.le_of_ble_eq_true rfl)
  rw [lg_entry_eq]
  generalize (lg_sl ([.ref o0, .int p0, .int p1]) ++ List.replicate (3 - (lg_sl ([.ref o0, .int p0, .int p1])).length) Slot.unset).toArray = ls at hl ⊢
  have hl : lv_has ls 3 [(0, .ref o0), (1, .int p0), (2, .int p1)] := hl
  refine lv_aload_n hx hb dX12_row_0 rfl (lv_at hl 0 rfl) ?_
  refine lv_iconst (v := 0) hx hb dX12_row_1 (by decide) ?_
  refine tw_put (v := .int 0) (ty := .int) hx hb hts bF_X12 tyX12 tyX12_ok nmX12 hown hK hT hG hS hr_o0 shm_0 rfl 0 (by decide) (ht_at hts 0 rfl) (fun _ h9 => h9) rfl (by decide +kernel) rfl rfl (gl_at rfl (gi_all _)) dX12_row_2 (fun H locs hT oq m1 oj hS => ?_)
  have hF := hF.put hr_o0 skm_0 oq oj (by decide)
  refine lv_aload_n hx hb dX12_row_5 rfl (lv_at hl 0 rfl) ?_
  refine lv_iload_n hx hb dX12_row_6 rfl (lv_at hl 2 rfl) ?_
  have hFc := gA_free hG hA hS
  refine va_calli (va_runS (As := [.int p1]) (rest := [.ref o0]) ⟨hx, hb, hml, hown, hts⟩ (s_noSquare l dC dI kA adK adV G H q wZ wN wH wB wC wL wK wU wV PI im PM PT lS lB lE lN p1 hT hgz hgn hgh hgb hgc hgi hgu) (va_cwS 1 hts (goodIn_app (goodIn_r _ [7, 8, 6] rfl (by decide +kernel)) (goodIn_ca (goodIn_r _ [2, 3, 4, 5, 6] rfl (by decide +kernel)) (bs_in _ _))) rfl rfl rfl (by decide +kernel) ⟨(Nat.le_of_ble_eq_true rfl), (Nat.le_of_ble_eq_true rfl)⟩) ⟨fun a U g mk q => by obtain ⟨q0, q1, qK, qE⟩ := q; exact ⟨q0, q1, va_K.moved (u := U) (U := U.calling g mk a) (Vm.Alike.refl U.vm) qK, EVS.blind g mk a qE⟩, fun U hU hW => ⟨rfl, hU, va_K.moved hW.alike hK, hE.call hS hFc hU hW⟩⟩ rfl rfl hl.1 rfl (lv_room (Nat.le_of_ble_eq_true rfl)) dX12_row_7 ⟨(Nat.le_of_ble_eq_true rfl), (Nat.le_of_ble_eq_true rfl)⟩) hS (fun q _ h => hFc q h) hFc (fun r2 u t H locs ht hvm hw3 hB _ _ hS => ?_)
  obtain ⟨hT, hF1⟩ := hB
  rw [ht] at hT hF1
  have hF := hF.more hF1 (by decide)
  try dsimp only at hw3
  obtain ⟨h5, hi6⟩ := hw3
  refine lv_iconst (v := 1) hx hb dX12_row_10 (by decide) ?_
  have hFc := gA_free hG hA hS
  refine va_calli (va_runV (As := [.int r2, .int 1]) (rest := []) ⟨hx, hb, hml, hown, hts⟩ (s_throwsIf l dC dI kA adK adV G H q wZ wN wH wB wC wL wK wU wV PI im PM PT lS lB lE lN o0 r2 1 hT hr_o0 (by have q8 := ti_all r2; omega) hgz hgn hgh hgb hgc hgi hgu) (cwV 2 hts (goodIn_app (goodIn_r _ [10, 11, 12, 6] rfl (by decide +kernel)) (goodIn_ca (goodIn_r _ [9, 1] rfl (by decide +kernel)) (bs_in _ _))) rfl rfl rfl (by decide +kernel) ⟨(Nat.le_of_ble_eq_true rfl), (Nat.le_of_ble_eq_true rfl)⟩) ⟨fun a U g mk q => by obtain ⟨q0, q1, qK, qE⟩ := q; exact ⟨q0, q1, va_K.moved (u := U) (U := U.calling g mk a) (Vm.Alike.refl U.vm) qK, EVS.blind g mk a qE⟩, gH_rc hK hT hr_o0 shm_0 rfl, fun U hU hW => ⟨rfl, hU, va_K.moved hW.alike hK, hE.call hS hFc hU hW⟩⟩ rfl rfl hl.1 rfl (lv_room (Nat.le_of_ble_eq_true rfl)) dX12_row_11 ⟨(Nat.le_of_ble_eq_true rfl), (Nat.le_of_ble_eq_true rfl)⟩) hS (fun q _ h => hFc q h) hFc (fun r7 u t H locs ht hvm hw8 hB _ _ hS => ?_)
  obtain ⟨hT, hF1⟩ := hB
  rw [ht] at hT hF1
  have hF := hF.more hF1 (by decide)
  try dsimp only at hw8
  obtain ⟨h10, hd11⟩ := hw8
  obtain rfl : r2 = r7 := hd11.symm
  refine lv_if_ne (tgt := 44) hx hb dX12_row_14 (by decide) (fun c12 => ?_) (fun c12 => ?_)
  · have t13 : r2.toInt ≠ 0 := ti_ne c12 rfl (by decide)
    refine lv_iconst (v := 0) hx hb dX12_row_44 (by decide) ?_
    refine lv_goto (tgt := 59) hx hb dX12_row_45 (by decide) ?_
    exact W.iret (v := 0) hx hb hr (fun t ht hW => ⟨⟨0, (), rfl, (by exact trivial), by (try dsimp only); rw [ht]; exact ⟨hT, hF⟩⟩, hS.F ht⟩) hS.2.2 dX12_row_59
  · have t14 : r2.toInt = 0 := ti_eq c12 rfl (by decide)
    have t15 : 0 ≤ p1.toInt ∧ p1.toInt ≤ 95 := hi6 c12
    refine lv_aload_n hx hb dX12_row_17 rfl (lv_at hl 0 rfl) ?_
    refine lv_iload_n hx hb dX12_row_18 rfl (lv_at hl 1 rfl) ?_
    refine lv_iconst (v := 0) hx hb dX12_row_19 (by decide) ?_
    refine lv_aload_n hx hb dX12_row_20 rfl (lv_at hl 0 rfl) ?_
    refine tw_get hx hb hts bF_X12 hown hK hT hr_o0 shm_0 rfl 9 (by decide) (ht_at hts 12 rfl) (fun _ h9 => h9) dX12_row_21 (fun v9 m16 h9 => ?_)
    obtain ⟨x17, rfl, gx17, kx17⟩ := h9 _ rfl
    refine lv_iconst (v := 1) hx hb dX12_row_24 (by decide) ?_
    refine lv_isub hx hb dX12_row_25 ?_
    refine lv_topi (fun x18 ex18 => ?_)
    have t19 : x18.toInt = x17.toInt - 1 := ti_sub ex18 rfl (by decide) (by omega) (by omega)
    have hFc := gA_free hG hA hS
    refine va_calli (va_runS (As := [.int p0, .int 0, .int x18]) (rest := [.ref o0]) ⟨hx, hb, hml, hown, hts⟩ (s_in l dC dI kA adK adV G H q wZ wN wH wB wC wL wK wU wV PI im PM PT lS lB lE lN p0 0 x18 hT hgz hgn hgh hgb hgc hgi hgu) (va_cwS 3 hts (goodIn_app (goodIn_r _ [4, 5, 6] rfl (by decide +kernel)) (goodIn_ca (goodIn_r _ [3] rfl (by decide +kernel)) (bs_in _ _))) rfl rfl rfl (by decide +kernel) ⟨(Nat.le_of_ble_eq_true rfl), (Nat.le_of_ble_eq_true rfl)⟩) ⟨fun a U g mk q => by obtain ⟨q0, q1, qK, qE⟩ := q; exact ⟨q0, q1, va_K.moved (u := U) (U := U.calling g mk a) (Vm.Alike.refl U.vm) qK, EVS.blind g mk a qE⟩, fun U hU hW => ⟨rfl, hU, va_K.moved hW.alike hK, hE.call hS hFc hU hW⟩⟩ rfl rfl hl.1 rfl (lv_room (Nat.le_of_ble_eq_true rfl)) dX12_row_26 ⟨(Nat.le_of_ble_eq_true rfl), (Nat.le_of_ble_eq_true rfl)⟩) hS (fun q _ h => hFc q h) hFc (fun r20 u t H locs ht hvm hw21 hB _ _ hS => ?_)
    obtain ⟨hT, hF1⟩ := hB
    rw [ht] at hT hF1
    have hF := hF.more hF1 (by decide)
    try dsimp only at hw21
    obtain ⟨h23, hi24, hi25⟩ := hw21
    refine lv_if_ne (tgt := 36) hx hb dX12_row_29 (by decide) (fun c26 => ?_) (fun c26 => ?_)
    · have t27 : r20.toInt ≠ 0 := ti_ne c26 rfl (by decide)
      have t28 : (0 : Int32).toInt = 0 := by decide
      have t29 : (0 : Int32).toInt ≤ p0.toInt ∧ p0.toInt ≤ x18.toInt := hi24 ((bit_of ⟨by omega, by omega⟩).resolve_left c26)
      refine lv_iconst (v := 0) hx hb dX12_row_36 (by decide) ?_
      refine lv_iconst (v := 2) hx hb dX12_row_37 (by decide) ?_
      have hFc := gA_free hG hA hS
      refine va_calli (va_runV (As := [.int 0, .int 2]) (rest := []) ⟨hx, hb, hml, hown, hts⟩ (s_throwsIf l dC dI kA adK adV G H q wZ wN wH wB wC wL wK wU wV PI im PM PT lS lB lE lN o0 0 2 hT hr_o0 (rg_t (a := 0) (by decide) (by first | decide | omega) (by first | decide | omega)) hgz hgn hgh hgb hgc hgi hgu) (cwV 2 hts (goodIn_app (goodIn_r _ [10, 11, 12, 6] rfl (by decide +kernel)) (goodIn_ca (goodIn_r _ [9, 1] rfl (by decide +kernel)) (bs_in _ _))) rfl rfl rfl (by decide +kernel) ⟨(Nat.le_of_ble_eq_true rfl), (Nat.le_of_ble_eq_true rfl)⟩) ⟨fun a U g mk q => by obtain ⟨q0, q1, qK, qE⟩ := q; exact ⟨q0, q1, va_K.moved (u := U) (U := U.calling g mk a) (Vm.Alike.refl U.vm) qK, EVS.blind g mk a qE⟩, gH_rc hK hT hr_o0 shm_0 rfl, fun U hU hW => ⟨rfl, hU, va_K.moved hW.alike hK, hE.call hS hFc hU hW⟩⟩ rfl rfl hl.1 rfl (lv_room (Nat.le_of_ble_eq_true rfl)) dX12_row_38 ⟨(Nat.le_of_ble_eq_true rfl), (Nat.le_of_ble_eq_true rfl)⟩) hS (fun q _ h => hFc q h) hFc (fun r30 u t H locs ht hvm hw31 hB _ _ hS => ?_)
      obtain ⟨hT, hF1⟩ := hB
      rw [ht] at hT hF1
      have hF := hF.more hF1 (by decide)
      try dsimp only at hw31
      obtain ⟨h33, hd34⟩ := hw31
      obtain rfl : (0 : Int32) = r30 := hd34.symm
      refine lv_if_eq (tgt := 48) hx hb dX12_row_41 (by decide) (fun c35 => ?_) (fun c35 => absurd c35 (by decide))
      refine lv_aload_n hx hb dX12_row_48 rfl (lv_at hl 0 rfl) ?_
      refine tw_get hx hb hts bF_X12 hown hK hT hr_o0 shm_0 rfl 7 (by decide) (ht_at hts 13 rfl) (fun _ h9 => h9) dX12_row_49 (fun v9 m36 h9 => ?_)
      obtain ⟨rfl, hg37⟩ := h9 _ rfl
      refine lv_bipush (v := 96) hx hb dX12_row_52 (by decide) ?_
      refine lv_iload_n hx hb dX12_row_54 rfl (lv_at hl 1 rfl) ?_
      refine lv_imul hx hb dX12_row_55 ?_
      refine lv_topi (fun x38 ex38 => ?_)
      have t39 : x38.toInt = 96 * p0.toInt := ti_mul ex38 (by decide) rfl (by omega) (by omega)
      refine lv_iload_n hx hb dX12_row_56 rfl (lv_at hl 2 rfl) ?_
      refine lv_iadd hx hb dX12_row_57 ?_
      refine lv_topi (fun x40 ex40 => ?_)
      have t41 : x40.toInt = x38.toInt + p1.toInt := ti_add ex40 rfl rfl (by omega) (by omega)
      refine tw_iald (i := x40) hx hb hK hT hg37 shm_8 rfl (vin_t (a := x40.toInt) rfl (by omega) (by omega)) dX12_row_58 (fun v9 m42 h9 => ?_)
      obtain ⟨x43, rfl, gx43, kx43⟩ := h9
      exact W.iret (v := x43) hx hb hr (fun t ht hW => ⟨⟨x43, (), rfl, (by exact trivial), by (try dsimp only); rw [ht]; exact ⟨hT, hF⟩⟩, hS.F ht⟩) hS.2.2 dX12_row_59
    · have t44 : r20.toInt = 0 := ti_eq c26 rfl (by decide)
      have t45 : (0 : Int32).toInt = 0 := by decide
      have t46 : p0.toInt < (0 : Int32).toInt ∨ x18.toInt < p0.toInt := hi25 c26
      refine lv_iconst (v := 1) hx hb dX12_row_32 (by decide) ?_
      refine lv_goto (tgt := 37) hx hb dX12_row_33 (by decide) ?_
      refine lv_iconst (v := 2) hx hb dX12_row_37 (by decide) ?_
      have hFc := gA_free hG hA hS
      refine va_calli (va_runV (As := [.int 1, .int 2]) (rest := []) ⟨hx, hb, hml, hown, hts⟩ (s_throwsIf l dC dI kA adK adV G H q wZ wN wH wB wC wL wK wU wV PI im PM PT lS lB lE lN o0 1 2 hT hr_o0 (rg_t (a := 1) (by decide) (by first | decide | omega) (by first | decide | omega)) hgz hgn hgh hgb hgc hgi hgu) (cwV 2 hts (goodIn_app (goodIn_r _ [10, 11, 12, 6] rfl (by decide +kernel)) (goodIn_ca (goodIn_r _ [9, 1] rfl (by decide +kernel)) (bs_in _ _))) rfl rfl rfl (by decide +kernel) ⟨(Nat.le_of_ble_eq_true rfl), (Nat.le_of_ble_eq_true rfl)⟩) ⟨fun a U g mk q => by obtain ⟨q0, q1, qK, qE⟩ := q; exact ⟨q0, q1, va_K.moved (u := U) (U := U.calling g mk a) (Vm.Alike.refl U.vm) qK, EVS.blind g mk a qE⟩, gH_rc hK hT hr_o0 shm_0 rfl, fun U hU hW => ⟨rfl, hU, va_K.moved hW.alike hK, hE.call hS hFc hU hW⟩⟩ rfl rfl hl.1 rfl (lv_room (Nat.le_of_ble_eq_true rfl)) dX12_row_38 ⟨(Nat.le_of_ble_eq_true rfl), (Nat.le_of_ble_eq_true rfl)⟩) hS (fun q _ h => hFc q h) hFc (fun r47 u t H locs ht hvm hw48 hB _ _ hS => ?_)
      obtain ⟨hT, hF1⟩ := hB
      rw [ht] at hT hF1
      have hF := hF.more hF1 (by decide)
      try dsimp only at hw48
      obtain ⟨h50, hd51⟩ := hw48
      obtain rfl : (1 : Int32) = r47 := hd51.symm
      refine lv_if_eq (tgt := 48) hx hb dX12_row_41 (by decide) (fun c52 => absurd c52 (by decide)) (fun c52 => ?_)
      refine lv_iconst (v := 0) hx hb dX12_row_44 (by decide) ?_
      refine lv_goto (tgt := 59) hx hb dX12_row_45 (by decide) ?_
      exact W.iret (v := 0) hx hb hr (fun t ht hW => ⟨⟨0, (), rfl, (by exact trivial), by (try dsimp only); rw [ht]; exact ⟨hT, hF⟩⟩, hS.F ht⟩) hS.2.2 dX12_row_59
def w_s_tear : List Cond := .code yX12_tear cX12_tear 4 (some .int) :: (HAppend.hAppend (α := List Cond) (β := List Cond) (γ := List Cond) [.fieldLink RX12 194 "SeaLandModel" "thrown" "I", .code yX12_noSquare cX12_noSquare 1 (some .boolean), .code yX12_in cX12_in 3 (some .boolean), .methodLink RX12 197 yX12_in, .static yX12_in, .initialized RX12, .methodLink RX12 220 yX12_noSquare, .static yX12_noSquare, .code yX12_throwsIf cX12_throwsIf 3 (some .boolean), .methodLink RX12 224 yX12_throwsIf, .instanceMethod yX12_throwsIf, .selects RX12 yX12_throwsIf yX12_throwsIf, .fieldLink RX12 238 "SeaLandModel" "rows" "I", .fieldLink RX12 25 "SeaLandModel" "rowTold" "[I"] bs)
set_option maxHeartbeats 4000000 in
set_option maxRecDepth 100000 in
theorem s_tear (l : Launch) (dC : Nat → ClassId) (dI : Nat → Nat → Nat) (kA : Nat → ClassId) (adK adV : Nat → Nat) (G : gT) (H0 : Heap) (q : Nat → Nat) (wZ wN : Nat → Int) (wH wB wC : Int) (wL wK : Nat → Prop) (wU wV : Nat → Nat) (PI : Nat → Int → Prop) (im : Int) (PM PT : Nat → Int → Prop) (lS lB lE : Nat → Nat → Int → Prop) (lN : Nat → Int) (o0 : Nat) (p0 : Int32) (p1 : Int32) (p2 : Int32)  (hT : gH (dC, dI) kA (SHm q (wP wZ wN wH wB wC wL wK wU wV) PI im PM PT lS lB lE lN) G H0) (hr_o0 : G o0 = some 0) (hgz : ∀ i, 0 ≤ wZ i) (hgn : ∀ i, 6500000 ≤ wN i ∧ wN i ≤ 20200000) (hgh : 0 ≤ wH ∧ wH ≤ 40000) (hgb : 0 ≤ wB ∧ wB ≤ 3850000) (hgc : 0 ≤ wC ∧ wC ≤ 30) (hgi : 0 ≤ im ∧ im ≤ 1) (hgu : ∀ a t, G a = some (t + 1) → a = q t) : Met l yX12_tear w_s_tear ({ frames := 2, cells := 0, slots := 0, locals := 42 }) (va_Pc [.ref o0, .int p0, .int p1, .int p2] (fun U => U.heap = H0 ∧ va_K (dC, dI) vwCl (tyl kA) U ∧ EVS adK adV (gA G H0.size) U U.heap)) (va_Qi (fun (r : Int32) (u : Unit) => True) (fun (_ : Unit) (t : State) => gH (dC, dI) kA (SHm q (wP wZ wN wH wB wC wL wK wU wV) PI im PM PT lS lB lE lN) G t.heap ∧ gF (dC, dI) SKm G ([(0, 0), (8, 0)] : List (Nat × Nat)) H0 t.heap) (gA G H0.size)) 0 0 (gA G H0.size) := by
  refine Met.ofW (cc := cX12_tear) (maxL := 4) (ret := (some .int)) (by decide) rfl ?_
  intro p e s m args below meth c s₁ B hml hv
  obtain ⟨rfl, hH0, hK, hE⟩ := hv
  have hx := B.exec
  have hb := B.bytes
  have hr := B.returns
  have hts := atoms_spec (ws := w_s_tear) B.pre
  have hown : s.vm.findClass RX12 = some m.cls := findClass_of_methodNamed B.named
  have hlocks := B.notSynchronized
  subst hH0
  generalize hAe : gA G s.heap.size = A at hE ⊢
  have hA : ∀ q : Nat, s.heap.size ≤ q → A q := fun q h => by rw [← hAe]; exact Or.inr h
  have hG := gA_of hAe
  have hS : va_S A s.heap s.heap [] := va_S.rf
  have hF : gF (dC, dI) SKm G ([(0, 0), (8, 0)] : List (Nat × Nat)) s.heap s.heap := gF.rf
  have hl := lv_entry ([.ref o0, .int p0, .int p1, .int p2]) (n := 4) (Nat.le_of_ble_eq_true rfl)
  rw [lg_entry_eq]
  generalize (lg_sl ([.ref o0, .int p0, .int p1, .int p2]) ++ List.replicate (4 - (lg_sl ([.ref o0, .int p0, .int p1, .int p2])).length) Slot.unset).toArray = ls at hl ⊢
  have hl : lv_has ls 4 [(0, .ref o0), (1, .int p0), (2, .int p1), (3, .int p2)] := hl
  refine lv_aload_n hx hb dX12_tear_0 rfl (lv_at hl 0 rfl) ?_
  refine lv_iconst (v := 0) hx hb dX12_tear_1 (by decide) ?_
  refine tw_put (v := .int 0) (ty := .int) hx hb hts bF_X12 tyX12 tyX12_ok nmX12 hown hK hT hG hS hr_o0 shm_0 rfl 0 (by decide) (ht_at hts 0 rfl) (fun _ h9 => h9) rfl (by decide +kernel) rfl rfl (gl_at rfl (gi_all _)) dX12_tear_2 (fun H locs hT oq m1 oj hS => ?_)
  have hF := hF.put hr_o0 skm_0 oq oj (by decide)
  refine lv_aload_n hx hb dX12_tear_5 rfl (lv_at hl 0 rfl) ?_
  refine lv_iload_n hx hb dX12_tear_6 rfl (lv_at hl 2 rfl) ?_
  have hFc := gA_free hG hA hS
  refine va_calli (va_runS (As := [.int p1]) (rest := [.ref o0]) ⟨hx, hb, hml, hown, hts⟩ (s_noSquare l dC dI kA adK adV G H q wZ wN wH wB wC wL wK wU wV PI im PM PT lS lB lE lN p1 hT hgz hgn hgh hgb hgc hgi hgu) (va_cwS 1 hts (goodIn_app (goodIn_r _ [7, 8, 6] rfl (by decide +kernel)) (goodIn_ca (goodIn_r _ [2, 3, 4, 5, 6] rfl (by decide +kernel)) (bs_in _ _))) rfl rfl rfl (by decide +kernel) ⟨(Nat.le_of_ble_eq_true rfl), (Nat.le_of_ble_eq_true rfl)⟩) ⟨fun a U g mk q => by obtain ⟨q0, q1, qK, qE⟩ := q; exact ⟨q0, q1, va_K.moved (u := U) (U := U.calling g mk a) (Vm.Alike.refl U.vm) qK, EVS.blind g mk a qE⟩, fun U hU hW => ⟨rfl, hU, va_K.moved hW.alike hK, hE.call hS hFc hU hW⟩⟩ rfl rfl hl.1 rfl (lv_room (Nat.le_of_ble_eq_true rfl)) dX12_tear_7 ⟨(Nat.le_of_ble_eq_true rfl), (Nat.le_of_ble_eq_true rfl)⟩) hS (fun q _ h => hFc q h) hFc (fun r2 u t H locs ht hvm hw3 hB _ _ hS => ?_)
  obtain ⟨hT, hF1⟩ := hB
  rw [ht] at hT hF1
  have hF := hF.more hF1 (by decide)
  try dsimp only at hw3
  obtain ⟨h5, hi6⟩ := hw3
  refine lv_iconst (v := 1) hx hb dX12_tear_10 (by decide) ?_
  have hFc := gA_free hG hA hS
  refine va_calli (va_runV (As := [.int r2, .int 1]) (rest := []) ⟨hx, hb, hml, hown, hts⟩ (s_throwsIf l dC dI kA adK adV G H q wZ wN wH wB wC wL wK wU wV PI im PM PT lS lB lE lN o0 r2 1 hT hr_o0 (by have q8 := ti_all r2; omega) hgz hgn hgh hgb hgc hgi hgu) (cwV 2 hts (goodIn_app (goodIn_r _ [10, 11, 12, 6] rfl (by decide +kernel)) (goodIn_ca (goodIn_r _ [9, 1] rfl (by decide +kernel)) (bs_in _ _))) rfl rfl rfl (by decide +kernel) ⟨(Nat.le_of_ble_eq_true rfl), (Nat.le_of_ble_eq_true rfl)⟩) ⟨fun a U g mk q => by obtain ⟨q0, q1, qK, qE⟩ := q; exact ⟨q0, q1, va_K.moved (u := U) (U := U.calling g mk a) (Vm.Alike.refl U.vm) qK, EVS.blind g mk a qE⟩, gH_rc hK hT hr_o0 shm_0 rfl, fun U hU hW => ⟨rfl, hU, va_K.moved hW.alike hK, hE.call hS hFc hU hW⟩⟩ rfl rfl hl.1 rfl (lv_room (Nat.le_of_ble_eq_true rfl)) dX12_tear_11 ⟨(Nat.le_of_ble_eq_true rfl), (Nat.le_of_ble_eq_true rfl)⟩) hS (fun q _ h => hFc q h) hFc (fun r7 u t H locs ht hvm hw8 hB _ _ hS => ?_)
  obtain ⟨hT, hF1⟩ := hB
  rw [ht] at hT hF1
  have hF := hF.more hF1 (by decide)
  try dsimp only at hw8
  obtain ⟨h10, hd11⟩ := hw8
  obtain rfl : r2 = r7 := hd11.symm
  refine lv_if_ne (tgt := 44) hx hb dX12_tear_14 (by decide) (fun c12 => ?_) (fun c12 => ?_)
  · have t13 : r2.toInt ≠ 0 := ti_ne c12 rfl (by decide)
    refine lv_iconst (v := 0) hx hb dX12_tear_44 (by decide) ?_
    exact W.iret (v := 0) hx hb hr (fun t ht hW => ⟨⟨0, (), rfl, (by exact trivial), by (try dsimp only); rw [ht]; exact ⟨hT, hF⟩⟩, hS.F ht⟩) hS.2.2 dX12_tear_45
  · have t14 : r2.toInt = 0 := ti_eq c12 rfl (by decide)
    have t15 : 0 ≤ p1.toInt ∧ p1.toInt ≤ 95 := hi6 c12
    refine lv_aload_n hx hb dX12_tear_17 rfl (lv_at hl 0 rfl) ?_
    refine lv_iload_n hx hb dX12_tear_18 rfl (lv_at hl 1 rfl) ?_
    refine lv_iconst (v := 0) hx hb dX12_tear_19 (by decide) ?_
    refine lv_aload_n hx hb dX12_tear_20 rfl (lv_at hl 0 rfl) ?_
    refine tw_get hx hb hts bF_X12 hown hK hT hr_o0 shm_0 rfl 9 (by decide) (ht_at hts 12 rfl) (fun _ h9 => h9) dX12_tear_21 (fun v9 m16 h9 => ?_)
    obtain ⟨x17, rfl, gx17, kx17⟩ := h9 _ rfl
    refine lv_iconst (v := 1) hx hb dX12_tear_24 (by decide) ?_
    refine lv_isub hx hb dX12_tear_25 ?_
    refine lv_topi (fun x18 ex18 => ?_)
    have t19 : x18.toInt = x17.toInt - 1 := ti_sub ex18 rfl (by decide) (by omega) (by omega)
    have hFc := gA_free hG hA hS
    refine va_calli (va_runS (As := [.int p0, .int 0, .int x18]) (rest := [.ref o0]) ⟨hx, hb, hml, hown, hts⟩ (s_in l dC dI kA adK adV G H q wZ wN wH wB wC wL wK wU wV PI im PM PT lS lB lE lN p0 0 x18 hT hgz hgn hgh hgb hgc hgi hgu) (va_cwS 3 hts (goodIn_app (goodIn_r _ [4, 5, 6] rfl (by decide +kernel)) (goodIn_ca (goodIn_r _ [3] rfl (by decide +kernel)) (bs_in _ _))) rfl rfl rfl (by decide +kernel) ⟨(Nat.le_of_ble_eq_true rfl), (Nat.le_of_ble_eq_true rfl)⟩) ⟨fun a U g mk q => by obtain ⟨q0, q1, qK, qE⟩ := q; exact ⟨q0, q1, va_K.moved (u := U) (U := U.calling g mk a) (Vm.Alike.refl U.vm) qK, EVS.blind g mk a qE⟩, fun U hU hW => ⟨rfl, hU, va_K.moved hW.alike hK, hE.call hS hFc hU hW⟩⟩ rfl rfl hl.1 rfl (lv_room (Nat.le_of_ble_eq_true rfl)) dX12_tear_26 ⟨(Nat.le_of_ble_eq_true rfl), (Nat.le_of_ble_eq_true rfl)⟩) hS (fun q _ h => hFc q h) hFc (fun r20 u t H locs ht hvm hw21 hB _ _ hS => ?_)
    obtain ⟨hT, hF1⟩ := hB
    rw [ht] at hT hF1
    have hF := hF.more hF1 (by decide)
    try dsimp only at hw21
    obtain ⟨h23, hi24, hi25⟩ := hw21
    refine lv_if_ne (tgt := 36) hx hb dX12_tear_29 (by decide) (fun c26 => ?_) (fun c26 => ?_)
    · have t27 : r20.toInt ≠ 0 := ti_ne c26 rfl (by decide)
      have t28 : (0 : Int32).toInt = 0 := by decide
      have t29 : (0 : Int32).toInt ≤ p0.toInt ∧ p0.toInt ≤ x18.toInt := hi24 ((bit_of ⟨by omega, by omega⟩).resolve_left c26)
      refine lv_iconst (v := 0) hx hb dX12_tear_36 (by decide) ?_
      refine lv_iconst (v := 2) hx hb dX12_tear_37 (by decide) ?_
      have hFc := gA_free hG hA hS
      refine va_calli (va_runV (As := [.int 0, .int 2]) (rest := []) ⟨hx, hb, hml, hown, hts⟩ (s_throwsIf l dC dI kA adK adV G H q wZ wN wH wB wC wL wK wU wV PI im PM PT lS lB lE lN o0 0 2 hT hr_o0 (rg_t (a := 0) (by decide) (by first | decide | omega) (by first | decide | omega)) hgz hgn hgh hgb hgc hgi hgu) (cwV 2 hts (goodIn_app (goodIn_r _ [10, 11, 12, 6] rfl (by decide +kernel)) (goodIn_ca (goodIn_r _ [9, 1] rfl (by decide +kernel)) (bs_in _ _))) rfl rfl rfl (by decide +kernel) ⟨(Nat.le_of_ble_eq_true rfl), (Nat.le_of_ble_eq_true rfl)⟩) ⟨fun a U g mk q => by obtain ⟨q0, q1, qK, qE⟩ := q; exact ⟨q0, q1, va_K.moved (u := U) (U := U.calling g mk a) (Vm.Alike.refl U.vm) qK, EVS.blind g mk a qE⟩, gH_rc hK hT hr_o0 shm_0 rfl, fun U hU hW => ⟨rfl, hU, va_K.moved hW.alike hK, hE.call hS hFc hU hW⟩⟩ rfl rfl hl.1 rfl (lv_room (Nat.le_of_ble_eq_true rfl)) dX12_tear_38 ⟨(Nat.le_of_ble_eq_true rfl), (Nat.le_of_ble_eq_true rfl)⟩) hS (fun q _ h => hFc q h) hFc (fun r30 u t H locs ht hvm hw31 hB _ _ hS => ?_)
      obtain ⟨hT, hF1⟩ := hB
      rw [ht] at hT hF1
      have hF := hF.more hF1 (by decide)
      try dsimp only at hw31
      obtain ⟨h33, hd34⟩ := hw31
      obtain rfl : (0 : Int32) = r30 := hd34.symm
      refine lv_if_eq (tgt := 46) hx hb dX12_tear_41 (by decide) (fun c35 => ?_) (fun c35 => absurd c35 (by decide))
      refine lv_aload_n hx hb dX12_tear_46 rfl (lv_at hl 0 rfl) ?_
      refine tw_get hx hb hts bF_X12 hown hK hT hr_o0 shm_0 rfl 7 (by decide) (ht_at hts 13 rfl) (fun _ h9 => h9) dX12_tear_47 (fun v9 m36 h9 => ?_)
      obtain ⟨rfl, hg37⟩ := h9 _ rfl
      refine lv_bipush (v := 96) hx hb dX12_tear_50 (by decide) ?_
      refine lv_iload_n hx hb dX12_tear_52 rfl (lv_at hl 1 rfl) ?_
      refine lv_imul hx hb dX12_tear_53 ?_
      refine lv_topi (fun x38 ex38 => ?_)
      have t39 : x38.toInt = 96 * p0.toInt := ti_mul ex38 (by decide) rfl (by omega) (by omega)
      refine lv_iload_n hx hb dX12_tear_54 rfl (lv_at hl 2 rfl) ?_
      refine lv_iadd hx hb dX12_tear_55 ?_
      refine lv_topi (fun x40 ex40 => ?_)
      have t41 : x40.toInt = x38.toInt + p1.toInt := ti_add ex40 rfl rfl (by omega) (by omega)
      refine lv_dup2_11 hx hb dX12_tear_56 rfl rfl ?_
      refine tw_iald (i := x40) hx hb hK hT hg37 shm_8 rfl (vin_t (a := x40.toInt) rfl (by omega) (by omega)) dX12_tear_57 (fun v9 m42 h9 => ?_)
      obtain ⟨x43, rfl, gx43, kx43⟩ := h9
      refine lv_iload_n hx hb dX12_tear_58 rfl (lv_at hl 3 rfl) ?_
      refine lv_ixor hx hb dX12_tear_59 ?_
      refine lv_topi (fun x44 ex44 => ?_)
      refine tw_iast (i := x40) (x := x44) hx hb hK hT hG hS hg37 shm_8 rfl (vin_t (a := x40.toInt) rfl (by omega) (by omega)) (gi_all _) dX12_tear_60 (fun H locs hT oq m45 oi hS => ?_)
      have hF := hF.ast hg37 skm_8 oq (by decide)
      refine lv_aload_n hx hb dX12_tear_61 rfl (lv_at hl 0 rfl) ?_
      refine tw_get hx hb hts bF_X12 hown hK hT hr_o0 shm_0 rfl 7 (by decide) (ht_at hts 13 rfl) (fun _ h9 => h9) dX12_tear_62 (fun v9 m47 h9 => ?_)
      obtain ⟨rfl, hg48⟩ := h9 _ rfl
      refine lv_bipush (v := 96) hx hb dX12_tear_65 (by decide) ?_
      refine lv_iload_n hx hb dX12_tear_67 rfl (lv_at hl 1 rfl) ?_
      refine lv_imul hx hb dX12_tear_68 ?_
      refine lv_topi (fun x49 ex49 => ?_)
      have t50 : x49.toInt = 96 * p0.toInt := ti_mul ex49 (by decide) rfl (by omega) (by omega)
      refine lv_iload_n hx hb dX12_tear_69 rfl (lv_at hl 2 rfl) ?_
      refine lv_iadd hx hb dX12_tear_70 ?_
      refine lv_topi (fun x51 ex51 => ?_)
      have t52 : x51.toInt = x49.toInt + p1.toInt := ti_add ex51 rfl rfl (by omega) (by omega)
      refine tw_iald (i := x51) hx hb hK hT hg37 shm_8 rfl (vin_t (a := x51.toInt) rfl (by omega) (by omega)) dX12_tear_71 (fun v9 m53 h9 => ?_)
      obtain ⟨x54, rfl, gx54, kx54⟩ := h9
      obtain rfl : x44 = x54 := (el_same m53 m45 (show x51.toInt = x40.toInt from by rw []; try omega)).symm
      exact W.iret (v := x44) hx hb hr (fun t ht hW => ⟨⟨x44, (), rfl, (by exact trivial), by (try dsimp only); rw [ht]; exact ⟨hT, hF⟩⟩, hS.F ht⟩) hS.2.2 dX12_tear_72
    · have t55 : r20.toInt = 0 := ti_eq c26 rfl (by decide)
      have t56 : (0 : Int32).toInt = 0 := by decide
      have t57 : p0.toInt < (0 : Int32).toInt ∨ x18.toInt < p0.toInt := hi25 c26
      refine lv_iconst (v := 1) hx hb dX12_tear_32 (by decide) ?_
      refine lv_goto (tgt := 37) hx hb dX12_tear_33 (by decide) ?_
      refine lv_iconst (v := 2) hx hb dX12_tear_37 (by decide) ?_
      have hFc := gA_free hG hA hS
      refine va_calli (va_runV (As := [.int 1, .int 2]) (rest := []) ⟨hx, hb, hml, hown, hts⟩ (s_throwsIf l dC dI kA adK adV G H q wZ wN wH wB wC wL wK wU wV PI im PM PT lS lB lE lN o0 1 2 hT hr_o0 (rg_t (a := 1) (by decide) (by first | decide | omega) (by first | decide | omega)) hgz hgn hgh hgb hgc hgi hgu) (cwV 2 hts (goodIn_app (goodIn_r _ [10, 11, 12, 6] rfl (by decide +kernel)) (goodIn_ca (goodIn_r _ [9, 1] rfl (by decide +kernel)) (bs_in _ _))) rfl rfl rfl (by decide +kernel) ⟨(Nat.le_of_ble_eq_true rfl), (Nat.le_of_ble_eq_true rfl)⟩) ⟨fun a U g mk q => by obtain ⟨q0, q1, qK, qE⟩ := q; exact ⟨q0, q1, va_K.moved (u := U) (U := U.calling g mk a) (Vm.Alike.refl U.vm) qK, EVS.blind g mk a qE⟩, gH_rc hK hT hr_o0 shm_0 rfl, fun U hU hW => ⟨rfl, hU, va_K.moved hW.alike hK, hE.call hS hFc hU hW⟩⟩ rfl rfl hl.1 rfl (lv_room (Nat.le_of_ble_eq_true rfl)) dX12_tear_38 ⟨(Nat.le_of_ble_eq_true rfl), (Nat.le_of_ble_eq_true rfl)⟩) hS (fun q _ h => hFc q h) hFc (fun r58 u t H locs ht hvm hw59 hB _ _ hS => ?_)
      obtain ⟨hT, hF1⟩ := hB
      rw [ht] at hT hF1
      have hF := hF.more hF1 (by decide)
      try dsimp only at hw59
      obtain ⟨h61, hd62⟩ := hw59
      obtain rfl : (1 : Int32) = r58 := hd62.symm
      refine lv_if_eq (tgt := 46) hx hb dX12_tear_41 (by decide) (fun c63 => absurd c63 (by decide)) (fun c63 => ?_)
      refine lv_iconst (v := 0) hx hb dX12_tear_44 (by decide) ?_
      exact W.iret (v := 0) hx hb hr (fun t ht hW => ⟨⟨0, (), rfl, (by exact trivial), by (try dsimp only); rw [ht]; exact ⟨hT, hF⟩⟩, hS.F ht⟩) hS.2.2 dX12_tear_45
def w_s_contract : List Cond := .code yX12_contract cX12_contract 5 (some .int) :: (HAppend.hAppend (α := List Cond) (β := List Cond) (γ := List Cond) [.fieldLink RX12 194 "SeaLandModel" "thrown" "I", .code yX12_noWork cX12_noWork 2 (some .boolean), .fieldLink RX12 9 "SeaLandModel" "world" "[I", .code yX12_in cX12_in 3 (some .boolean), .methodLink RX12 197 yX12_in, .static yX12_in, .initialized RX12, .methodLink RX12 269 yX12_noWork, .instanceMethod yX12_noWork, .selects RX12 yX12_noWork yX12_noWork, .code yX12_throwsIf cX12_throwsIf 3 (some .boolean), .methodLink RX12 224 yX12_throwsIf, .instanceMethod yX12_throwsIf, .selects RX12 yX12_throwsIf yX12_throwsIf, .code yX12_isDike cX12_isDike 2 (some .boolean), .code yX12_of cX12_of 3 (some .int), .code yX12_at cX12_at 2 (some .int), .methodLink RX12 214 yX12_at, .static yX12_at, .methodLink RX12 217 yX12_of, .instanceMethod yX12_of, .selects RX12 yX12_of yX12_of, .methodLink RX12 272 yX12_isDike, .instanceMethod yX12_isDike, .selects RX12 yX12_isDike yX12_isDike, .fieldLink RX12 533 "SeaLandModel" "contracts" "I", .fieldLink RX12 137 "SeaLandModel" "kWork" "[I", .fieldLink RX12 140 "SeaLandModel" "kClay" "[I", .fieldLink RX12 143 "SeaLandModel" "kPrice" "[I", .fieldLink RX12 146 "SeaLandModel" "kBound" "[I", .fieldLink RX12 152 "SeaLandModel" "kHigh" "[I", .constant RX12 538 1000000000] bs)
set_option maxHeartbeats 4000000 in
set_option maxRecDepth 100000 in
theorem s_contract (l : Launch) (dC : Nat → ClassId) (dI : Nat → Nat → Nat) (kA : Nat → ClassId) (adK adV : Nat → Nat) (G : gT) (H0 : Heap) (q : Nat → Nat) (wZ wN : Nat → Int) (wH wB wC : Int) (wL wK : Nat → Prop) (wU wV : Nat → Nat) (PI : Nat → Int → Prop) (im : Int) (PM PT : Nat → Int → Prop) (lS lB lE : Nat → Nat → Int → Prop) (lN : Nat → Int) (o0 : Nat) (p0 : Int32) (p1 : Int32) (p2 : Int32) (p3 : Int32)  (hT : gH (dC, dI) kA (SHm q (wP wZ wN wH wB wC wL wK wU wV) PI im PM PT lS lB lE lN) G H0) (hr_o0 : G o0 = some 0) (hgz : ∀ i, 0 ≤ wZ i) (hgn : ∀ i, 6500000 ≤ wN i ∧ wN i ≤ 20200000) (hgh : 0 ≤ wH ∧ wH ≤ 40000) (hgb : 0 ≤ wB ∧ wB ≤ 3850000) (hgc : 0 ≤ wC ∧ wC ≤ 30) (hgi : 0 ≤ im ∧ im ≤ 1) (hgu : ∀ a t, G a = some (t + 1) → a = q t) : Met l yX12_contract w_s_contract ({ frames := 3, cells := 0, slots := 0, locals := 64 }) (va_Pc [.ref o0, .int p0, .int p1, .int p2, .int p3] (fun U => U.heap = H0 ∧ va_K (dC, dI) vwCl (tyl kA) U ∧ EVS adK adV (gA G H0.size) U U.heap)) (va_Qi (fun (r : Int32) (u : Unit) => (-1 ≤ r.toInt ∧ r.toInt ≤ 39)) (fun (_ : Unit) (t : State) => gH (dC, dI) kA (SHm q (wP wZ wN wH wB wC wL wK wU wV) PI im PM PT lS lB lE lN) G t.heap ∧ gF (dC, dI) SKm G ([(0, 0), (0, 64), (57, 0), (58, 0), (59, 0), (60, 0), (62, 0)] : List (Nat × Nat)) H0 t.heap) (gA G H0.size)) 0 0 (gA G H0.size) := by
  refine Met.ofW (cc := cX12_contract) (maxL := 5) (ret := (some .int)) (by decide) rfl ?_
  intro p e s m args below meth c s₁ B hml hv
  obtain ⟨rfl, hH0, hK, hE⟩ := hv
  have hx := B.exec
  have hb := B.bytes
  have hr := B.returns
  have hts := atoms_spec (ws := w_s_contract) B.pre
  have hown : s.vm.findClass RX12 = some m.cls := findClass_of_methodNamed B.named
  have hlocks := B.notSynchronized
  subst hH0
  generalize hAe : gA G s.heap.size = A at hE ⊢
  have hA : ∀ q : Nat, s.heap.size ≤ q → A q := fun q h => by rw [← hAe]; exact Or.inr h
  have hG := gA_of hAe
  have hS : va_S A s.heap s.heap [] := va_S.rf
  have hF : gF (dC, dI) SKm G ([(0, 0), (0, 64), (57, 0), (58, 0), (59, 0), (60, 0), (62, 0)] : List (Nat × Nat)) s.heap s.heap := gF.rf
  have hl := lv_entry ([.ref o0, .int p0, .int p1, .int p2, .int p3]) (n := 5) (Nat.le_of_ble_eq_true rfl)
  rw [lg_entry_eq]
  generalize (lg_sl ([.ref o0, .int p0, .int p1, .int p2, .int p3]) ++ List.replicate (5 - (lg_sl ([.ref o0, .int p0, .int p1, .int p2, .int p3])).length) Slot.unset).toArray = ls at hl ⊢
  have hl : lv_has ls 5 [(0, .ref o0), (1, .int p0), (2, .int p1), (3, .int p2), (4, .int p3)] := hl
  refine lv_aload_n hx hb dX12_contract_0 rfl (lv_at hl 0 rfl) ?_
  refine lv_iconst (v := 0) hx hb dX12_contract_1 (by decide) ?_
  refine tw_put (v := .int 0) (ty := .int) hx hb hts bF_X12 tyX12 tyX12_ok nmX12 hown hK hT hG hS hr_o0 shm_0 rfl 0 (by decide) (ht_at hts 0 rfl) (fun _ h9 => h9) rfl (by decide +kernel) rfl rfl (gl_at rfl (gi_all _)) dX12_contract_2 (fun H locs hT oq m1 oj hS => ?_)
  have hF := hF.put hr_o0 skm_0 oq oj (by decide)
  refine lv_aload_n hx hb dX12_contract_5 rfl (lv_at hl 0 rfl) ?_
  refine lv_aload_n hx hb dX12_contract_6 rfl (lv_at hl 0 rfl) ?_
  refine lv_iload_n hx hb dX12_contract_7 rfl (lv_at hl 1 rfl) ?_
  have hFc := gA_free hG hA hS
  refine va_calli (va_runV (As := [.int p0]) (rest := [.ref o0]) ⟨hx, hb, hml, hown, hts⟩ (s_noWork l dC dI kA adK adV G H q wZ wN wH wB wC wL wK wU wV PI im PM PT lS lB lE lN o0 p0 hT hr_o0 hgz hgn hgh hgb hgc hgi hgu) (cwV 1 hts (goodIn_app (goodIn_r _ [8, 9, 10, 7] rfl (by decide +kernel)) (goodIn_ca (goodIn_r _ [2, 3, 4, 5, 6, 7] rfl (by decide +kernel)) (bs_in _ _))) rfl rfl rfl (by decide +kernel) ⟨(Nat.le_of_ble_eq_true rfl), (Nat.le_of_ble_eq_true rfl)⟩) ⟨fun a U g mk q => by obtain ⟨q0, q1, qK, qE⟩ := q; exact ⟨q0, q1, va_K.moved (u := U) (U := U.calling g mk a) (Vm.Alike.refl U.vm) qK, EVS.blind g mk a qE⟩, gH_rc hK hT hr_o0 shm_0 rfl, fun U hU hW => ⟨rfl, hU, va_K.moved hW.alike hK, hE.call hS hFc hU hW⟩⟩ rfl rfl hl.1 rfl (lv_room (Nat.le_of_ble_eq_true rfl)) dX12_contract_8 ⟨(Nat.le_of_ble_eq_true rfl), (Nat.le_of_ble_eq_true rfl)⟩) hS (fun q _ h => hFc q h) hFc (fun r2 u t H locs ht hvm hw3 hB _ _ hS => ?_)
  obtain ⟨hT, hF1⟩ := hB
  rw [ht] at hT hF1
  have hF := hF.more hF1 (by decide)
  try dsimp only at hw3
  obtain ⟨h5, hi6⟩ := hw3
  refine lv_iconst (v := 1) hx hb dX12_contract_11 (by decide) ?_
  have hFc := gA_free hG hA hS
  refine va_calli (va_runV (As := [.int r2, .int 1]) (rest := []) ⟨hx, hb, hml, hown, hts⟩ (s_throwsIf l dC dI kA adK adV G H q wZ wN wH wB wC wL wK wU wV PI im PM PT lS lB lE lN o0 r2 1 hT hr_o0 (by have q8 := ti_all r2; omega) hgz hgn hgh hgb hgc hgi hgu) (cwV 2 hts (goodIn_app (goodIn_r _ [12, 13, 14, 7] rfl (by decide +kernel)) (goodIn_ca (goodIn_r _ [11, 1] rfl (by decide +kernel)) (bs_in _ _))) rfl rfl rfl (by decide +kernel) ⟨(Nat.le_of_ble_eq_true rfl), (Nat.le_of_ble_eq_true rfl)⟩) ⟨fun a U g mk q => by obtain ⟨q0, q1, qK, qE⟩ := q; exact ⟨q0, q1, va_K.moved (u := U) (U := U.calling g mk a) (Vm.Alike.refl U.vm) qK, EVS.blind g mk a qE⟩, gH_rc hK hT hr_o0 shm_0 rfl, fun U hU hW => ⟨rfl, hU, va_K.moved hW.alike hK, hE.call hS hFc hU hW⟩⟩ rfl rfl hl.1 rfl (lv_room (Nat.le_of_ble_eq_true rfl)) dX12_contract_12 ⟨(Nat.le_of_ble_eq_true rfl), (Nat.le_of_ble_eq_true rfl)⟩) hS (fun q _ h => hFc q h) hFc (fun r7 u t H locs ht hvm hw8 hB _ _ hS => ?_)
  obtain ⟨hT, hF1⟩ := hB
  rw [ht] at hT hF1
  have hF := hF.more hF1 (by decide)
  try dsimp only at hw8
  obtain ⟨h10, hd11⟩ := hw8
  obtain rfl : r2 = r7 := hd11.symm
  refine lv_if_ne (tgt := 85) hx hb dX12_contract_15 (by decide) (fun c12 => ?_) (fun c12 => ?_)
  · have t13 : r2.toInt ≠ 0 := ti_ne c12 rfl (by decide)
    refine lv_iconst (v := 0) hx hb dX12_contract_85 (by decide) ?_
    exact W.iret (v := 0) hx hb hr (fun t ht hW => ⟨⟨0, (), rfl, (by exact (rg_t (a := 0) (by decide) (by first | decide | omega) (by first | decide | omega))), by (try dsimp only); rw [ht]; exact ⟨hT, hF⟩⟩, hS.F ht⟩) hS.2.2 dX12_contract_86
  · have t14 : r2.toInt = 0 := ti_eq c12 rfl (by decide)
    have t15 : 0 ≤ p0.toInt ∧ p0.toInt ≤ 29 ∧ p0.toInt < wC := hi6 c12
    refine lv_aload_n hx hb dX12_contract_18 rfl (lv_at hl 0 rfl) ?_
    refine lv_iload_n hx hb dX12_contract_19 rfl (lv_at hl 2 rfl) ?_
    refine lv_iconst (v := 0) hx hb dX12_contract_20 (by decide) ?_
    refine lv_bipush (v := 9) hx hb dX12_contract_21 (by decide) ?_
    have hFc := gA_free hG hA hS
    refine va_calli (va_runS (As := [.int p1, .int 0, .int 9]) (rest := [.ref o0]) ⟨hx, hb, hml, hown, hts⟩ (s_in l dC dI kA adK adV G H q wZ wN wH wB wC wL wK wU wV PI im PM PT lS lB lE lN p1 0 9 hT hgz hgn hgh hgb hgc hgi hgu) (va_cwS 3 hts (goodIn_app (goodIn_r _ [5, 6, 7] rfl (by decide +kernel)) (goodIn_ca (goodIn_r _ [4] rfl (by decide +kernel)) (bs_in _ _))) rfl rfl rfl (by decide +kernel) ⟨(Nat.le_of_ble_eq_true rfl), (Nat.le_of_ble_eq_true rfl)⟩) ⟨fun a U g mk q => by obtain ⟨q0, q1, qK, qE⟩ := q; exact ⟨q0, q1, va_K.moved (u := U) (U := U.calling g mk a) (Vm.Alike.refl U.vm) qK, EVS.blind g mk a qE⟩, fun U hU hW => ⟨rfl, hU, va_K.moved hW.alike hK, hE.call hS hFc hU hW⟩⟩ rfl rfl hl.1 rfl (lv_room (Nat.le_of_ble_eq_true rfl)) dX12_contract_23 ⟨(Nat.le_of_ble_eq_true rfl), (Nat.le_of_ble_eq_true rfl)⟩) hS (fun q _ h => hFc q h) hFc (fun r16 u t H locs ht hvm hw17 hB _ _ hS => ?_)
    obtain ⟨hT, hF1⟩ := hB
    rw [ht] at hT hF1
    have hF := hF.more hF1 (by decide)
    try dsimp only at hw17
    obtain ⟨h18, hi19, hi20⟩ := hw17
    refine lv_if_eq (tgt := 52) hx hb dX12_contract_26 (by decide) (fun c21 => ?_) (fun c21 => ?_)
    · have t22 : r16.toInt = 0 := ti_eq c21 rfl (by decide)
      have t23 : (0 : Int32).toInt = 0 := by decide
      have t24 : (9 : Int32).toInt = 9 := by decide
      have t25 : p1.toInt < (0 : Int32).toInt ∨ (9 : Int32).toInt < p1.toInt := hi20 c21
      refine lv_iconst (v := 1) hx hb dX12_contract_52 (by decide) ?_
      refine lv_goto (tgt := 57) hx hb dX12_contract_53 (by decide) ?_
      refine lv_iconst (v := 2) hx hb dX12_contract_57 (by decide) ?_
      have hFc := gA_free hG hA hS
      refine va_calli (va_runV (As := [.int 1, .int 2]) (rest := []) ⟨hx, hb, hml, hown, hts⟩ (s_throwsIf l dC dI kA adK adV G H q wZ wN wH wB wC wL wK wU wV PI im PM PT lS lB lE lN o0 1 2 hT hr_o0 (rg_t (a := 1) (by decide) (by first | decide | omega) (by first | decide | omega)) hgz hgn hgh hgb hgc hgi hgu) (cwV 2 hts (goodIn_app (goodIn_r _ [12, 13, 14, 7] rfl (by decide +kernel)) (goodIn_ca (goodIn_r _ [11, 1] rfl (by decide +kernel)) (bs_in _ _))) rfl rfl rfl (by decide +kernel) ⟨(Nat.le_of_ble_eq_true rfl), (Nat.le_of_ble_eq_true rfl)⟩) ⟨fun a U g mk q => by obtain ⟨q0, q1, qK, qE⟩ := q; exact ⟨q0, q1, va_K.moved (u := U) (U := U.calling g mk a) (Vm.Alike.refl U.vm) qK, EVS.blind g mk a qE⟩, gH_rc hK hT hr_o0 shm_0 rfl, fun U hU hW => ⟨rfl, hU, va_K.moved hW.alike hK, hE.call hS hFc hU hW⟩⟩ rfl rfl hl.1 rfl (lv_room (Nat.le_of_ble_eq_true rfl)) dX12_contract_58 ⟨(Nat.le_of_ble_eq_true rfl), (Nat.le_of_ble_eq_true rfl)⟩) hS (fun q _ h => hFc q h) hFc (fun r26 u t H locs ht hvm hw27 hB _ _ hS => ?_)
      obtain ⟨hT, hF1⟩ := hB
      rw [ht] at hT hF1
      have hF := hF.more hF1 (by decide)
      try dsimp only at hw27
      obtain ⟨h28, hd29⟩ := hw27
      obtain rfl : (1 : Int32) = r26 := hd29.symm
      refine lv_if_ne (tgt := 85) hx hb dX12_contract_61 (by decide) (fun c30 => ?_) (fun c30 => absurd c30 (by decide))
      refine lv_iconst (v := 0) hx hb dX12_contract_85 (by decide) ?_
      exact W.iret (v := 0) hx hb hr (fun t ht hW => ⟨⟨0, (), rfl, (by exact (rg_t (a := 0) (by decide) (by first | decide | omega) (by first | decide | omega))), by (try dsimp only); rw [ht]; exact ⟨hT, hF⟩⟩, hS.F ht⟩) hS.2.2 dX12_contract_86
    · have t31 : r16.toInt ≠ 0 := ti_ne c21 rfl (by decide)
      have t32 : (0 : Int32).toInt = 0 := by decide
      have t33 : (9 : Int32).toInt = 9 := by decide
      have t34 : (0 : Int32).toInt ≤ p1.toInt ∧ p1.toInt ≤ (9 : Int32).toInt := hi19 ((bit_of ⟨by omega, by omega⟩).resolve_left c21)
      refine lv_iload_n hx hb dX12_contract_29 rfl (lv_at hl 3 rfl) ?_
      refine lv_iconst (v := 1) hx hb dX12_contract_30 (by decide) ?_
      refine lv_sipush (v := 1000) hx hb dX12_contract_31 (by decide) ?_
      have hFc := gA_free hG hA hS
      refine va_calli (va_runS (As := [.int p2, .int 1, .int 1000]) (rest := [.ref o0]) ⟨hx, hb, hml, hown, hts⟩ (s_in l dC dI kA adK adV G H q wZ wN wH wB wC wL wK wU wV PI im PM PT lS lB lE lN p2 1 1000 hT hgz hgn hgh hgb hgc hgi hgu) (va_cwS 3 hts (goodIn_app (goodIn_r _ [5, 6, 7] rfl (by decide +kernel)) (goodIn_ca (goodIn_r _ [4] rfl (by decide +kernel)) (bs_in _ _))) rfl rfl rfl (by decide +kernel) ⟨(Nat.le_of_ble_eq_true rfl), (Nat.le_of_ble_eq_true rfl)⟩) ⟨fun a U g mk q => by obtain ⟨q0, q1, qK, qE⟩ := q; exact ⟨q0, q1, va_K.moved (u := U) (U := U.calling g mk a) (Vm.Alike.refl U.vm) qK, EVS.blind g mk a qE⟩, fun U hU hW => ⟨rfl, hU, va_K.moved hW.alike hK, hE.call hS hFc hU hW⟩⟩ rfl rfl hl.1 rfl (lv_room (Nat.le_of_ble_eq_true rfl)) dX12_contract_34 ⟨(Nat.le_of_ble_eq_true rfl), (Nat.le_of_ble_eq_true rfl)⟩) hS (fun q _ h => hFc q h) hFc (fun r35 u t H locs ht hvm hw36 hB _ _ hS => ?_)
      obtain ⟨hT, hF1⟩ := hB
      rw [ht] at hT hF1
      have hF := hF.more hF1 (by decide)
      try dsimp only at hw36
      obtain ⟨h37, hi38, hi39⟩ := hw36
      refine lv_if_eq (tgt := 52) hx hb dX12_contract_37 (by decide) (fun c40 => ?_) (fun c40 => ?_)
      · have t41 : r35.toInt = 0 := ti_eq c40 rfl (by decide)
        have t42 : (1 : Int32).toInt = 1 := by decide
        have t43 : (1000 : Int32).toInt = 1000 := by decide
        have t44 : p2.toInt < (1 : Int32).toInt ∨ (1000 : Int32).toInt < p2.toInt := hi39 c40
        refine lv_iconst (v := 1) hx hb dX12_contract_52 (by decide) ?_
        refine lv_goto (tgt := 57) hx hb dX12_contract_53 (by decide) ?_
        refine lv_iconst (v := 2) hx hb dX12_contract_57 (by decide) ?_
        have hFc := gA_free hG hA hS
        refine va_calli (va_runV (As := [.int 1, .int 2]) (rest := []) ⟨hx, hb, hml, hown, hts⟩ (s_throwsIf l dC dI kA adK adV G H q wZ wN wH wB wC wL wK wU wV PI im PM PT lS lB lE lN o0 1 2 hT hr_o0 (rg_t (a := 1) (by decide) (by first | decide | omega) (by first | decide | omega)) hgz hgn hgh hgb hgc hgi hgu) (cwV 2 hts (goodIn_app (goodIn_r _ [12, 13, 14, 7] rfl (by decide +kernel)) (goodIn_ca (goodIn_r _ [11, 1] rfl (by decide +kernel)) (bs_in _ _))) rfl rfl rfl (by decide +kernel) ⟨(Nat.le_of_ble_eq_true rfl), (Nat.le_of_ble_eq_true rfl)⟩) ⟨fun a U g mk q => by obtain ⟨q0, q1, qK, qE⟩ := q; exact ⟨q0, q1, va_K.moved (u := U) (U := U.calling g mk a) (Vm.Alike.refl U.vm) qK, EVS.blind g mk a qE⟩, gH_rc hK hT hr_o0 shm_0 rfl, fun U hU hW => ⟨rfl, hU, va_K.moved hW.alike hK, hE.call hS hFc hU hW⟩⟩ rfl rfl hl.1 rfl (lv_room (Nat.le_of_ble_eq_true rfl)) dX12_contract_58 ⟨(Nat.le_of_ble_eq_true rfl), (Nat.le_of_ble_eq_true rfl)⟩) hS (fun q _ h => hFc q h) hFc (fun r45 u t H locs ht hvm hw46 hB _ _ hS => ?_)
        obtain ⟨hT, hF1⟩ := hB
        rw [ht] at hT hF1
        have hF := hF.more hF1 (by decide)
        try dsimp only at hw46
        obtain ⟨h47, hd48⟩ := hw46
        obtain rfl : (1 : Int32) = r45 := hd48.symm
        refine lv_if_ne (tgt := 85) hx hb dX12_contract_61 (by decide) (fun c49 => ?_) (fun c49 => absurd c49 (by decide))
        refine lv_iconst (v := 0) hx hb dX12_contract_85 (by decide) ?_
        exact W.iret (v := 0) hx hb hr (fun t ht hW => ⟨⟨0, (), rfl, (by exact (rg_t (a := 0) (by decide) (by first | decide | omega) (by first | decide | omega))), by (try dsimp only); rw [ht]; exact ⟨hT, hF⟩⟩, hS.F ht⟩) hS.2.2 dX12_contract_86
      · have t50 : r35.toInt ≠ 0 := ti_ne c40 rfl (by decide)
        have t51 : (1 : Int32).toInt = 1 := by decide
        have t52 : (1000 : Int32).toInt = 1000 := by decide
        have t53 : (1 : Int32).toInt ≤ p2.toInt ∧ p2.toInt ≤ (1000 : Int32).toInt := hi38 ((bit_of ⟨by omega, by omega⟩).resolve_left c40)
        refine lv_iload hx hb dX12_contract_40 (lv_at hl 4 rfl) ?_
        refine lv_iconst (v := 0) hx hb dX12_contract_42 (by decide) ?_
        refine lv_sipush (v := 200) hx hb dX12_contract_43 (by decide) ?_
        have hFc := gA_free hG hA hS
        refine va_calli (va_runS (As := [.int p3, .int 0, .int 200]) (rest := [.ref o0]) ⟨hx, hb, hml, hown, hts⟩ (s_in l dC dI kA adK adV G H q wZ wN wH wB wC wL wK wU wV PI im PM PT lS lB lE lN p3 0 200 hT hgz hgn hgh hgb hgc hgi hgu) (va_cwS 3 hts (goodIn_app (goodIn_r _ [5, 6, 7] rfl (by decide +kernel)) (goodIn_ca (goodIn_r _ [4] rfl (by decide +kernel)) (bs_in _ _))) rfl rfl rfl (by decide +kernel) ⟨(Nat.le_of_ble_eq_true rfl), (Nat.le_of_ble_eq_true rfl)⟩) ⟨fun a U g mk q => by obtain ⟨q0, q1, qK, qE⟩ := q; exact ⟨q0, q1, va_K.moved (u := U) (U := U.calling g mk a) (Vm.Alike.refl U.vm) qK, EVS.blind g mk a qE⟩, fun U hU hW => ⟨rfl, hU, va_K.moved hW.alike hK, hE.call hS hFc hU hW⟩⟩ rfl rfl hl.1 rfl (lv_room (Nat.le_of_ble_eq_true rfl)) dX12_contract_46 ⟨(Nat.le_of_ble_eq_true rfl), (Nat.le_of_ble_eq_true rfl)⟩) hS (fun q _ h => hFc q h) hFc (fun r54 u t H locs ht hvm hw55 hB _ _ hS => ?_)
        obtain ⟨hT, hF1⟩ := hB
        rw [ht] at hT hF1
        have hF := hF.more hF1 (by decide)
        try dsimp only at hw55
        obtain ⟨h56, hi57, hi58⟩ := hw55
        refine lv_if_ne (tgt := 56) hx hb dX12_contract_49 (by decide) (fun c59 => ?_) (fun c59 => ?_)
        · have t60 : r54.toInt ≠ 0 := ti_ne c59 rfl (by decide)
          have t61 : (0 : Int32).toInt = 0 := by decide
          have t62 : (200 : Int32).toInt = 200 := by decide
          have t63 : (0 : Int32).toInt ≤ p3.toInt ∧ p3.toInt ≤ (200 : Int32).toInt := hi57 ((bit_of ⟨by omega, by omega⟩).resolve_left c59)
          refine lv_iconst (v := 0) hx hb dX12_contract_56 (by decide) ?_
          refine lv_iconst (v := 2) hx hb dX12_contract_57 (by decide) ?_
          have hFc := gA_free hG hA hS
          refine va_calli (va_runV (As := [.int 0, .int 2]) (rest := []) ⟨hx, hb, hml, hown, hts⟩ (s_throwsIf l dC dI kA adK adV G H q wZ wN wH wB wC wL wK wU wV PI im PM PT lS lB lE lN o0 0 2 hT hr_o0 (rg_t (a := 0) (by decide) (by first | decide | omega) (by first | decide | omega)) hgz hgn hgh hgb hgc hgi hgu) (cwV 2 hts (goodIn_app (goodIn_r _ [12, 13, 14, 7] rfl (by decide +kernel)) (goodIn_ca (goodIn_r _ [11, 1] rfl (by decide +kernel)) (bs_in _ _))) rfl rfl rfl (by decide +kernel) ⟨(Nat.le_of_ble_eq_true rfl), (Nat.le_of_ble_eq_true rfl)⟩) ⟨fun a U g mk q => by obtain ⟨q0, q1, qK, qE⟩ := q; exact ⟨q0, q1, va_K.moved (u := U) (U := U.calling g mk a) (Vm.Alike.refl U.vm) qK, EVS.blind g mk a qE⟩, gH_rc hK hT hr_o0 shm_0 rfl, fun U hU hW => ⟨rfl, hU, va_K.moved hW.alike hK, hE.call hS hFc hU hW⟩⟩ rfl rfl hl.1 rfl (lv_room (Nat.le_of_ble_eq_true rfl)) dX12_contract_58 ⟨(Nat.le_of_ble_eq_true rfl), (Nat.le_of_ble_eq_true rfl)⟩) hS (fun q _ h => hFc q h) hFc (fun r64 u t H locs ht hvm hw65 hB _ _ hS => ?_)
          obtain ⟨hT, hF1⟩ := hB
          rw [ht] at hT hF1
          have hF := hF.more hF1 (by decide)
          try dsimp only at hw65
          obtain ⟨h66, hd67⟩ := hw65
          obtain rfl : (0 : Int32) = r64 := hd67.symm
          refine lv_if_ne (tgt := 85) hx hb dX12_contract_61 (by decide) (fun c68 => absurd c68 (by decide)) (fun c68 => ?_)
          refine lv_aload_n hx hb dX12_contract_64 rfl (lv_at hl 0 rfl) ?_
          refine lv_aload_n hx hb dX12_contract_65 rfl (lv_at hl 0 rfl) ?_
          refine lv_iload_n hx hb dX12_contract_66 rfl (lv_at hl 1 rfl) ?_
          have hFc := gA_free hG hA hS
          refine va_calli (va_runV (As := [.int p0]) (rest := [.ref o0]) ⟨hx, hb, hml, hown, hts⟩ (s_isDike l dC dI kA adK adV G H q wZ wN wH wB wC wL wK wU wV PI im PM PT lS lB lE lN o0 p0 hT hr_o0 (by have q8 := ti_all p0; omega) hgz hgn hgh hgb hgc hgi hgu) (cwV 1 hts (goodIn_app (goodIn_r _ [23, 24, 25, 7] rfl (by decide +kernel)) (goodIn_ca (goodIn_r _ [15, 16, 3, 17, 18, 19, 7, 20, 21, 22] rfl (by decide +kernel)) (bs_in _ _))) rfl rfl rfl (by decide +kernel) ⟨(Nat.le_of_ble_eq_true rfl), (Nat.le_of_ble_eq_true rfl)⟩) ⟨fun a U g mk q => by obtain ⟨q0, q1, qK, qE⟩ := q; exact ⟨q0, q1, va_K.moved (u := U) (U := U.calling g mk a) (Vm.Alike.refl U.vm) qK, EVS.blind g mk a qE⟩, gH_rc hK hT hr_o0 shm_0 rfl, fun U hU hW => ⟨rfl, hU, va_K.moved hW.alike hK, hE.call hS hFc hU hW⟩⟩ rfl rfl hl.1 rfl (lv_room (Nat.le_of_ble_eq_true rfl)) dX12_contract_67 ⟨(Nat.le_of_ble_eq_true rfl), (Nat.le_of_ble_eq_true rfl)⟩) hS (fun q _ h => hFc q h) hFc (fun r69 u t H locs ht hvm hw70 hB _ _ hS => ?_)
          obtain ⟨hT, hF1⟩ := hB
          rw [ht] at hT hF1
          have hF := hF.more hF1 (by decide)
          try dsimp only at hw70
          obtain ⟨h71, hi72⟩ := hw70
          refine lv_if_ne (tgt := 77) hx hb dX12_contract_70 (by decide) (fun c73 => ?_) (fun c73 => ?_)
          · have t74 : r69.toInt ≠ 0 := ti_ne c73 rfl (by decide)
            have t75 : p0.toInt < wC → wK p0.toNatClampNeg := hi72 ((bit_of ⟨by omega, by omega⟩).resolve_left c73)
            refine lv_iconst (v := 0) hx hb dX12_contract_77 (by decide) ?_
            refine lv_iconst (v := 3) hx hb dX12_contract_78 (by decide) ?_
            have hFc := gA_free hG hA hS
            refine va_calli (va_runV (As := [.int 0, .int 3]) (rest := []) ⟨hx, hb, hml, hown, hts⟩ (s_throwsIf l dC dI kA adK adV G H q wZ wN wH wB wC wL wK wU wV PI im PM PT lS lB lE lN o0 0 3 hT hr_o0 (rg_t (a := 0) (by decide) (by first | decide | omega) (by first | decide | omega)) hgz hgn hgh hgb hgc hgi hgu) (cwV 2 hts (goodIn_app (goodIn_r _ [12, 13, 14, 7] rfl (by decide +kernel)) (goodIn_ca (goodIn_r _ [11, 1] rfl (by decide +kernel)) (bs_in _ _))) rfl rfl rfl (by decide +kernel) ⟨(Nat.le_of_ble_eq_true rfl), (Nat.le_of_ble_eq_true rfl)⟩) ⟨fun a U g mk q => by obtain ⟨q0, q1, qK, qE⟩ := q; exact ⟨q0, q1, va_K.moved (u := U) (U := U.calling g mk a) (Vm.Alike.refl U.vm) qK, EVS.blind g mk a qE⟩, gH_rc hK hT hr_o0 shm_0 rfl, fun U hU hW => ⟨rfl, hU, va_K.moved hW.alike hK, hE.call hS hFc hU hW⟩⟩ rfl rfl hl.1 rfl (lv_room (Nat.le_of_ble_eq_true rfl)) dX12_contract_79 ⟨(Nat.le_of_ble_eq_true rfl), (Nat.le_of_ble_eq_true rfl)⟩) hS (fun q _ h => hFc q h) hFc (fun r76 u t H locs ht hvm hw77 hB _ _ hS => ?_)
            obtain ⟨hT, hF1⟩ := hB
            rw [ht] at hT hF1
            have hF := hF.more hF1 (by decide)
            try dsimp only at hw77
            obtain ⟨h78, hd79⟩ := hw77
            obtain rfl : (0 : Int32) = r76 := hd79.symm
            refine lv_if_eq (tgt := 87) hx hb dX12_contract_82 (by decide) (fun c80 => ?_) (fun c80 => absurd c80 (by decide))
            refine lv_aload_n hx hb dX12_contract_87 rfl (lv_at hl 0 rfl) ?_
            refine tw_get hx hb hts bF_X12 hown hK hT hr_o0 shm_0 rfl 64 (by decide) (ht_at hts 25 rfl) (fun _ h9 => h9) dX12_contract_88 (fun v9 m81 h9 => ?_)
            obtain ⟨x82, rfl, gx82, kx82⟩ := h9 _ rfl
            refine lv_bipush (v := 40) hx hb dX12_contract_91 (by decide) ?_
            refine lv_icmp_ne (tgt := 98) hx hb dX12_contract_93 (by decide) (fun c83 => ?_) (fun c83 => ?_)
            · have t84 : x82.toInt ≠ 40 := ti_ne c83 rfl (by decide)
              refine lv_aload_n hx hb dX12_contract_98 rfl (lv_at hl 0 rfl) ?_
              refine tw_get hx hb hts bF_X12 hown hK hT hr_o0 shm_0 rfl 56 (by decide) (ht_at hts 26 rfl) (fun _ h9 => h9) dX12_contract_99 (fun v9 m85 h9 => ?_)
              obtain ⟨rfl, hg86⟩ := h9 _ rfl
              refine lv_aload_n hx hb dX12_contract_102 rfl (lv_at hl 0 rfl) ?_
              refine tw_getM (v := .int x82) hx hb hts bF_X12 hown hK hT hr_o0 shm_0 rfl 64 (by decide) (ht_at hts 25 rfl) (fun _ h9 => h9) m81 dX12_contract_103 ?_
              refine lv_iload_n hx hb dX12_contract_106 rfl (lv_at hl 1 rfl) ?_
              refine tw_iast (i := x82) (x := p0) hx hb hK hT hG hS hg86 shm_57 rfl (vin_t (a := x82.toInt) rfl (by omega) (by omega)) (gi_all _) dX12_contract_107 (fun H locs hT oq m87 oi hS => ?_)
              have hF := hF.ast hg86 skm_57 oq (by decide)
              have m88 := (el_kept (oq _ (gne hr_o0 hg86 (by decide)))).trans m81
              refine lv_aload_n hx hb dX12_contract_108 rfl (lv_at hl 0 rfl) ?_
              refine tw_get hx hb hts bF_X12 hown hK hT hr_o0 shm_0 rfl 57 (by decide) (ht_at hts 27 rfl) (fun _ h9 => h9) dX12_contract_109 (fun v9 m89 h9 => ?_)
              obtain ⟨rfl, hg90⟩ := h9 _ rfl
              refine lv_aload_n hx hb dX12_contract_112 rfl (lv_at hl 0 rfl) ?_
              refine tw_getM (v := .int x82) hx hb hts bF_X12 hown hK hT hr_o0 shm_0 rfl 64 (by decide) (ht_at hts 25 rfl) (fun _ h9 => h9) m88 dX12_contract_113 ?_
              refine lv_iload_n hx hb dX12_contract_116 rfl (lv_at hl 2 rfl) ?_
              refine tw_iast (i := x82) (x := p1) hx hb hK hT hG hS hg90 shm_58 rfl (vin_t (a := x82.toInt) rfl (by omega) (by omega)) (gi_of (show p1.toInt = p1.toInt from rfl) (by omega) (by omega)) dX12_contract_117 (fun H locs hT oq m91 oi hS => ?_)
              have hF := hF.ast hg90 skm_58 oq (by decide)
              have m92 := (el_kept (oq _ (gne hr_o0 hg90 (by decide)))).trans m88
              refine lv_aload_n hx hb dX12_contract_118 rfl (lv_at hl 0 rfl) ?_
              refine tw_get hx hb hts bF_X12 hown hK hT hr_o0 shm_0 rfl 58 (by decide) (ht_at hts 28 rfl) (fun _ h9 => h9) dX12_contract_119 (fun v9 m94 h9 => ?_)
              obtain ⟨rfl, hg95⟩ := h9 _ rfl
              refine lv_aload_n hx hb dX12_contract_122 rfl (lv_at hl 0 rfl) ?_
              refine tw_getM (v := .int x82) hx hb hts bF_X12 hown hK hT hr_o0 shm_0 rfl 64 (by decide) (ht_at hts 25 rfl) (fun _ h9 => h9) m92 dX12_contract_123 ?_
              refine lv_iload_n hx hb dX12_contract_126 rfl (lv_at hl 3 rfl) ?_
              refine tw_iast (i := x82) (x := p2) hx hb hK hT hG hS hg95 shm_59 rfl (vin_t (a := x82.toInt) rfl (by omega) (by omega)) (gi_all _) dX12_contract_127 (fun H locs hT oq m96 oi hS => ?_)
              have hF := hF.ast hg95 skm_59 oq (by decide)
              have m97 := (el_kept (oq _ (gne hr_o0 hg95 (by decide)))).trans m92
              refine lv_aload_n hx hb dX12_contract_128 rfl (lv_at hl 0 rfl) ?_
              refine tw_get hx hb hts bF_X12 hown hK hT hr_o0 shm_0 rfl 59 (by decide) (ht_at hts 29 rfl) (fun _ h9 => h9) dX12_contract_129 (fun v9 m100 h9 => ?_)
              obtain ⟨rfl, hg101⟩ := h9 _ rfl
              refine lv_aload_n hx hb dX12_contract_132 rfl (lv_at hl 0 rfl) ?_
              refine tw_getM (v := .int x82) hx hb hts bF_X12 hown hK hT hr_o0 shm_0 rfl 64 (by decide) (ht_at hts 25 rfl) (fun _ h9 => h9) m97 dX12_contract_133 ?_
              refine lv_iload hx hb dX12_contract_136 (lv_at hl 4 rfl) ?_
              refine tw_iast (i := x82) (x := p3) hx hb hK hT hG hS hg101 shm_60 rfl (vin_t (a := x82.toInt) rfl (by omega) (by omega)) (gi_all _) dX12_contract_138 (fun H locs hT oq m102 oi hS => ?_)
              have hF := hF.ast hg101 skm_60 oq (by decide)
              have m103 := (el_kept (oq _ (gne hr_o0 hg101 (by decide)))).trans m97
              refine lv_aload_n hx hb dX12_contract_139 rfl (lv_at hl 0 rfl) ?_
              refine tw_get hx hb hts bF_X12 hown hK hT hr_o0 shm_0 rfl 61 (by decide) (ht_at hts 30 rfl) (fun _ h9 => h9) dX12_contract_140 (fun v9 m107 h9 => ?_)
              obtain ⟨rfl, hg108⟩ := h9 _ rfl
              refine lv_aload_n hx hb dX12_contract_143 rfl (lv_at hl 0 rfl) ?_
              refine tw_getM (v := .int x82) hx hb hts bF_X12 hown hK hT hr_o0 shm_0 rfl 64 (by decide) (ht_at hts 25 rfl) (fun _ h9 => h9) m103 dX12_contract_144 ?_
              refine lv_ldcw (v := 1000000000) hx hb hown (ht_at hts 31 rfl) dX12_contract_147 ?_
              refine tw_iast (i := x82) (x := 1000000000) hx hb hK hT hG hS hg108 shm_62 rfl (vin_t (a := x82.toInt) rfl (by omega) (by omega)) (gi_all _) dX12_contract_150 (fun H locs hT oq m109 oi hS => ?_)
              have hF := hF.ast hg108 skm_62 oq (by decide)
              have m110 := (el_kept (oq _ (gne hr_o0 hg108 (by decide)))).trans m103
              refine lv_aload_n hx hb dX12_contract_151 rfl (lv_at hl 0 rfl) ?_
              refine lv_dup hx hb dX12_contract_152 rfl ?_
              refine tw_getM (v := .int x82) hx hb hts bF_X12 hown hK hT hr_o0 shm_0 rfl 64 (by decide) (ht_at hts 25 rfl) (fun _ h9 => h9) m110 dX12_contract_153 ?_
              refine lv_iconst (v := 1) hx hb dX12_contract_156 (by decide) ?_
              refine lv_iadd hx hb dX12_contract_157 ?_
              refine lv_topi (fun x115 ex115 => ?_)
              have t116 : x115.toInt = x82.toInt + 1 := ti_add ex115 rfl (by decide) (by omega) (by omega)
              refine tw_put (v := .int x115) (ty := .int) hx hb hts bF_X12 tyX12 tyX12_ok nmX12 hown hK hT hG hS hr_o0 shm_0 rfl 64 (by decide) (ht_at hts 25 rfl) (fun _ h9 => h9) rfl (by decide +kernel) rfl rfl (gl_at rfl (gi_of (show x115.toInt = x115.toInt from rfl) (by omega) (by omega))) dX12_contract_158 (fun H locs hT oq m117 oj hS => ?_)
              have hF := hF.put hr_o0 skm_0 oq oj (by decide)
              refine lv_aload_n hx hb dX12_contract_161 rfl (lv_at hl 0 rfl) ?_
              refine tw_getM (v := .int x115) hx hb hts bF_X12 hown hK hT hr_o0 shm_0 rfl 64 (by decide) (ht_at hts 25 rfl) (fun _ h9 => h9) m117 dX12_contract_162 ?_
              refine lv_iconst (v := 1) hx hb dX12_contract_165 (by decide) ?_
              refine lv_isub hx hb dX12_contract_166 ?_
              refine lv_topi (fun x123 ex123 => ?_)
              have t124 : x123.toInt = x115.toInt - 1 := ti_sub ex123 rfl (by decide) (by omega) (by omega)
              exact W.iret (v := x123) hx hb hr (fun t ht hW => ⟨⟨x123, (), rfl, (by exact (by have q8 := ti_all x123; omega)), by (try dsimp only); rw [ht]; exact ⟨hT, hF⟩⟩, hS.F ht⟩) hS.2.2 dX12_contract_167
            · have t125 : x82.toInt = 40 := ti_eq c83 rfl (by decide)
              refine lv_iconst (v := (-1)) hx hb dX12_contract_96 (by decide) ?_
              exact W.iret (v := (-1)) hx hb hr (fun t ht hW => ⟨⟨(-1), (), rfl, (by exact (rg_t (a := (-1)) (by decide) (by first | decide | omega) (by first | decide | omega))), by (try dsimp only); rw [ht]; exact ⟨hT, hF⟩⟩, hS.F ht⟩) hS.2.2 dX12_contract_97
          · have t126 : r69.toInt = 0 := ti_eq c73 rfl (by decide)
            refine lv_iconst (v := 1) hx hb dX12_contract_73 (by decide) ?_
            refine lv_goto (tgt := 78) hx hb dX12_contract_74 (by decide) ?_
            refine lv_iconst (v := 3) hx hb dX12_contract_78 (by decide) ?_
            have hFc := gA_free hG hA hS
            refine va_calli (va_runV (As := [.int 1, .int 3]) (rest := []) ⟨hx, hb, hml, hown, hts⟩ (s_throwsIf l dC dI kA adK adV G H q wZ wN wH wB wC wL wK wU wV PI im PM PT lS lB lE lN o0 1 3 hT hr_o0 (rg_t (a := 1) (by decide) (by first | decide | omega) (by first | decide | omega)) hgz hgn hgh hgb hgc hgi hgu) (cwV 2 hts (goodIn_app (goodIn_r _ [12, 13, 14, 7] rfl (by decide +kernel)) (goodIn_ca (goodIn_r _ [11, 1] rfl (by decide +kernel)) (bs_in _ _))) rfl rfl rfl (by decide +kernel) ⟨(Nat.le_of_ble_eq_true rfl), (Nat.le_of_ble_eq_true rfl)⟩) ⟨fun a U g mk q => by obtain ⟨q0, q1, qK, qE⟩ := q; exact ⟨q0, q1, va_K.moved (u := U) (U := U.calling g mk a) (Vm.Alike.refl U.vm) qK, EVS.blind g mk a qE⟩, gH_rc hK hT hr_o0 shm_0 rfl, fun U hU hW => ⟨rfl, hU, va_K.moved hW.alike hK, hE.call hS hFc hU hW⟩⟩ rfl rfl hl.1 rfl (lv_room (Nat.le_of_ble_eq_true rfl)) dX12_contract_79 ⟨(Nat.le_of_ble_eq_true rfl), (Nat.le_of_ble_eq_true rfl)⟩) hS (fun q _ h => hFc q h) hFc (fun r127 u t H locs ht hvm hw128 hB _ _ hS => ?_)
            obtain ⟨hT, hF1⟩ := hB
            rw [ht] at hT hF1
            have hF := hF.more hF1 (by decide)
            try dsimp only at hw128
            obtain ⟨h129, hd130⟩ := hw128
            obtain rfl : (1 : Int32) = r127 := hd130.symm
            refine lv_if_eq (tgt := 87) hx hb dX12_contract_82 (by decide) (fun c131 => absurd c131 (by decide)) (fun c131 => ?_)
            refine lv_iconst (v := 0) hx hb dX12_contract_85 (by decide) ?_
            exact W.iret (v := 0) hx hb hr (fun t ht hW => ⟨⟨0, (), rfl, (by exact (rg_t (a := 0) (by decide) (by first | decide | omega) (by first | decide | omega))), by (try dsimp only); rw [ht]; exact ⟨hT, hF⟩⟩, hS.F ht⟩) hS.2.2 dX12_contract_86
        · have t132 : r54.toInt = 0 := ti_eq c59 rfl (by decide)
          have t133 : (0 : Int32).toInt = 0 := by decide
          have t134 : (200 : Int32).toInt = 200 := by decide
          have t135 : p3.toInt < (0 : Int32).toInt ∨ (200 : Int32).toInt < p3.toInt := hi58 c59
          refine lv_iconst (v := 1) hx hb dX12_contract_52 (by decide) ?_
          refine lv_goto (tgt := 57) hx hb dX12_contract_53 (by decide) ?_
          refine lv_iconst (v := 2) hx hb dX12_contract_57 (by decide) ?_
          have hFc := gA_free hG hA hS
          refine va_calli (va_runV (As := [.int 1, .int 2]) (rest := []) ⟨hx, hb, hml, hown, hts⟩ (s_throwsIf l dC dI kA adK adV G H q wZ wN wH wB wC wL wK wU wV PI im PM PT lS lB lE lN o0 1 2 hT hr_o0 (rg_t (a := 1) (by decide) (by first | decide | omega) (by first | decide | omega)) hgz hgn hgh hgb hgc hgi hgu) (cwV 2 hts (goodIn_app (goodIn_r _ [12, 13, 14, 7] rfl (by decide +kernel)) (goodIn_ca (goodIn_r _ [11, 1] rfl (by decide +kernel)) (bs_in _ _))) rfl rfl rfl (by decide +kernel) ⟨(Nat.le_of_ble_eq_true rfl), (Nat.le_of_ble_eq_true rfl)⟩) ⟨fun a U g mk q => by obtain ⟨q0, q1, qK, qE⟩ := q; exact ⟨q0, q1, va_K.moved (u := U) (U := U.calling g mk a) (Vm.Alike.refl U.vm) qK, EVS.blind g mk a qE⟩, gH_rc hK hT hr_o0 shm_0 rfl, fun U hU hW => ⟨rfl, hU, va_K.moved hW.alike hK, hE.call hS hFc hU hW⟩⟩ rfl rfl hl.1 rfl (lv_room (Nat.le_of_ble_eq_true rfl)) dX12_contract_58 ⟨(Nat.le_of_ble_eq_true rfl), (Nat.le_of_ble_eq_true rfl)⟩) hS (fun q _ h => hFc q h) hFc (fun r136 u t H locs ht hvm hw137 hB _ _ hS => ?_)
          obtain ⟨hT, hF1⟩ := hB
          rw [ht] at hT hF1
          have hF := hF.more hF1 (by decide)
          try dsimp only at hw137
          obtain ⟨h138, hd139⟩ := hw137
          obtain rfl : (1 : Int32) = r136 := hd139.symm
          refine lv_if_ne (tgt := 85) hx hb dX12_contract_61 (by decide) (fun c140 => ?_) (fun c140 => absurd c140 (by decide))
          refine lv_iconst (v := 0) hx hb dX12_contract_85 (by decide) ?_
          exact W.iret (v := 0) hx hb hr (fun t ht hW => ⟨⟨0, (), rfl, (by exact (rg_t (a := 0) (by decide) (by first | decide | omega) (by first | decide | omega))), by (try dsimp only); rw [ht]; exact ⟨hT, hF⟩⟩, hS.F ht⟩) hS.2.2 dX12_contract_86
