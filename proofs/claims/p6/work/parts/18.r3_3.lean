def w_s_work : List Cond := .code yX12_work cX12_work 4 (some .int) :: ([.fieldLink RX12 194 "SeaLandModel" "thrown" "I", .code yX12_noWork cX12_noWork 2 (some .boolean), .fieldLink RX12 9 "SeaLandModel" "world" "[I", .code yX12_in cX12_in 3 (some .boolean), .methodLink RX12 197 yX12_in, .static yX12_in, .initialized RX12, .methodLink RX12 269 yX12_noWork, .instanceMethod yX12_noWork, .selects RX12 yX12_noWork yX12_noWork, .code yX12_throwsIf cX12_throwsIf 3 (some .boolean), .methodLink RX12 224 yX12_throwsIf, .instanceMethod yX12_throwsIf, .selects RX12 yX12_throwsIf yX12_throwsIf, .code yX12_of cX12_of 3 (some .int), .code yX12_at cX12_at 2 (some .int), .methodLink RX12 214 yX12_at, .static yX12_at, .methodLink RX12 217 yX12_of, .instanceMethod yX12_of, .selects RX12 yX12_of yX12_of, .code yX12_crest cX12_crest 4 (some .int), .methodLink RX12 282 yX12_crest, .instanceMethod yX12_crest, .selects RX12 yX12_crest yX12_crest, .code yX12_isDike cX12_isDike 2 (some .boolean), .methodLink RX12 272 yX12_isDike, .instanceMethod yX12_isDike, .selects RX12 yX12_isDike yX12_isDike] ++ bs)
set_option maxHeartbeats 4000000 in
set_option maxRecDepth 100000 in
theorem s_work (l : Launch) (dC : Nat → ClassId) (dI : Nat → Nat → Nat) (kA : Nat → ClassId) (G : gT) (H0 : Heap) (q : Nat → Nat) (wN wH wB wC : Int) (wL wK : Nat → Prop) (PI : Nat → Int → Prop) (o0 : Nat) (p0 : Int32) (p1 : Int32) (hT : gH (dC, dI) kA (SHm q (wP wN wH wB wC wC wL wK) PI) G H0) (hr_o0 : G o0 = some 0) (hgn : 6500000 ≤ wN ∧ wN ≤ 400000000) (hgh : 0 ≤ wH ∧ wH ≤ 40000) (hgb : 0 ≤ wB ∧ wB ≤ 3850000) (hgc : 0 ≤ wC ∧ wC ≤ 30) : Met l yX12_work w_s_work ({ frames := 3, cells := 0, slots := 0, locals := 66 }) (va_Pc [.ref o0, .int p0, .int p1] (fun U => U.heap = H0 ∧ va_K (dC, dI) vwCl (tyl kA) U ∧ EV (gA G H0.size) U U.heap)) (va_Qi (fun (r : Int32) (u : Unit) => True) (fun (_ : Unit) (t : State) => gH (dC, dI) kA (SHm q (wP wN wH wB wC wC wL wK) PI) G t.heap ∧ gF (dC, dI) SKm G ([(0, 0)] : List (Nat × Nat)) H0 t.heap) (gA G H0.size)) 0 0 (gA G H0.size) := by
  refine Met.ofW (cc := cX12_work) (maxL := 4) (ret := (some .int)) (by decide) rfl ?_
  intro p e s m args below meth c s₁ B hml hv
  obtain ⟨rfl, hH0, hK, hE⟩ := hv
  have hx := B.exec
  have hb := B.bytes
  have hr := B.returns
  have hts := atoms_spec (ws := w_s_work) B.pre
  have hown : s.vm.findClass RX12 = some m.cls := findClass_of_methodNamed B.named
  have hlocks := B.notSynchronized
  subst hH0
  generalize hAe : gA G s.heap.size = A at hE ⊢
  have hA : ∀ q : Nat, s.heap.size ≤ q → A q := fun q h => by rw [← hAe]; exact Or.inr h
  have hG := gA_of hAe
  have hS : va_S A s.heap s.heap [] := va_S.rf
  have hF : gF (dC, dI) SKm G ([(0, 0)] : List (Nat × Nat)) s.heap s.heap := gF.rf
  have hl := lv_entry ([.ref o0, .int p0, .int p1]) (n := 4) (Nat.le_of_ble_eq_true rfl)
  rw [lg_entry_eq]
  generalize (lg_sl ([.ref o0, .int p0, .int p1]) ++ List.replicate (4 - (lg_sl ([.ref o0, .int p0, .int p1])).length) Slot.unset).toArray = ls at hl ⊢
  have hl : lv_has ls 4 [(0, .ref o0), (1, .int p0), (2, .int p1)] := hl
  refine lv_aload_n hx hb dX12_work_0 rfl (lv_at hl 0 rfl) ?_
  refine lv_iconst (v := 0) hx hb dX12_work_1 (by decide) ?_
  refine tw_put (v := .int 0) (ty := .int) hx hb hts bF_X12 tyX12 tyX12_ok nmX12 hown hK hT hG hS hr_o0 shm_0 rfl 0 (by decide) (ht_at hts 0 rfl) (fun _ h9 => h9) rfl (by decide +kernel) rfl rfl (gl_at rfl (gi_all _)) dX12_work_2 (fun H locs hT oq m1 oj hS => ?_)
  have hF := hF.put hr_o0 skm_0 oq oj (by decide)
  refine lv_aload_n hx hb dX12_work_5 rfl (lv_at hl 0 rfl) ?_
  refine lv_aload_n hx hb dX12_work_6 rfl (lv_at hl 0 rfl) ?_
  refine lv_iload_n hx hb dX12_work_7 rfl (lv_at hl 1 rfl) ?_
  have hFc := gA_free hG hA hS
  refine va_calli (va_runV (As := [.int p0]) (rest := [.ref o0]) ⟨hx, hb, hml, hown, hts⟩ (s_noWork l dC dI kA G H q wN wH wB wC wL wK PI o0 p0 hT hr_o0 (by omega) (by omega) (by omega) (by omega)) (cwV 1 hts (goodIn_app (goodIn_r _ [8, 9, 10, 7] (by decide +kernel) (by decide +kernel)) (goodIn_ca (goodIn_r _ [2, 3, 4, 5, 6, 7] (by decide +kernel) (by decide +kernel)) (bs_in _ _))) rfl rfl rfl (by decide +kernel) ⟨(Nat.le_of_ble_eq_true rfl), (Nat.le_of_ble_eq_true rfl)⟩) ⟨fun a U g mk q => by obtain ⟨q0, q1, qK, qE⟩ := q; exact ⟨q0, q1, va_K.moved (u := U) (U := U.calling g mk a) (Vm.Alike.refl U.vm) qK, EV.blind g mk a qE⟩, gH_recv hK hT hr_o0 shm_0 rfl, fun U hU hW => ⟨rfl, hU, va_K.moved hW.alike hK, hE.call hS hFc hU hW⟩⟩ rfl rfl hl.1 rfl (lv_room (Nat.le_of_ble_eq_true rfl)) dX12_work_8 ⟨(Nat.le_of_ble_eq_true rfl), (Nat.le_of_ble_eq_true rfl)⟩) hS (fun q _ h => hFc q h) hFc (fun r2 u t H locs ht hvm hw3 hB _ _ hS => ?_)
  obtain ⟨hT, hF1⟩ := hB
  rw [ht] at hT hF1
  have m4 := (hF1.fld hr_o0 skm_0 (k := 0) (by decide) (by decide)).trans m1
  have hF := hF.more hF1 (by decide)
  try dsimp only at hw3
  obtain ⟨h5, hi6⟩ := hw3
  refine lv_iconst (v := 1) hx hb dX12_work_11 (by decide) ?_
  have hFc := gA_free hG hA hS
  refine va_calli (va_runV (As := [.int r2, .int 1]) (rest := []) ⟨hx, hb, hml, hown, hts⟩ (s_throwsIf l dC dI kA G H q wN wH wB wC wL wK PI o0 r2 1 hT hr_o0 (rg_t (a := r2.toInt) rfl (by have q8 := ti_all r2; omega) (by have q8 := ti_all r2; omega)) (by omega) (by omega) (by omega) (by omega)) (cwV 2 hts (goodIn_app (goodIn_r _ [12, 13, 14, 7] (by decide +kernel) (by decide +kernel)) (goodIn_ca (goodIn_r _ [11, 1] (by decide +kernel) (by decide +kernel)) (bs_in _ _))) rfl rfl rfl (by decide +kernel) ⟨(Nat.le_of_ble_eq_true rfl), (Nat.le_of_ble_eq_true rfl)⟩) ⟨fun a U g mk q => by obtain ⟨q0, q1, qK, qE⟩ := q; exact ⟨q0, q1, va_K.moved (u := U) (U := U.calling g mk a) (Vm.Alike.refl U.vm) qK, EV.blind g mk a qE⟩, gH_recv hK hT hr_o0 shm_0 rfl, fun U hU hW => ⟨rfl, hU, va_K.moved hW.alike hK, hE.call hS hFc hU hW⟩⟩ rfl rfl hl.1 rfl (lv_room (Nat.le_of_ble_eq_true rfl)) dX12_work_12 ⟨(Nat.le_of_ble_eq_true rfl), (Nat.le_of_ble_eq_true rfl)⟩) hS (fun q _ h => hFc q h) hFc (fun r7 u t H locs ht hvm hw8 hB _ _ hS => ?_)
  obtain ⟨hT, hF1⟩ := hB
  rw [ht] at hT hF1
  have hF := hF.more hF1 (by decide)
  try dsimp only at hw8
  obtain ⟨h10, hd11⟩ := hw8
  obtain rfl : r2 = r7 := hd11.symm
  refine lv_if_eq (tgt := 20) hx hb dX12_work_15 (by decide) (fun c12 => ?_) (fun c12 => ?_)
  · have t13 : r2.toInt = 0 := ti_eq c12 rfl (by decide)
    have t14 : 0 ≤ p0.toInt ∧ p0.toInt ≤ 29 ∧ p0.toInt < wC := hi6 c12
    refine lv_aload_n hx hb dX12_work_20 rfl (lv_at hl 0 rfl) ?_
    refine lv_iload_n hx hb dX12_work_21 rfl (lv_at hl 1 rfl) ?_
    refine lv_iconst (v := 0) hx hb dX12_work_22 (by decide) ?_
    have hFc := gA_free hG hA hS
    refine va_calli (va_runV (As := [.int p0, .int 0]) (rest := []) ⟨hx, hb, hml, hown, hts⟩ (s_of0 l dC dI kA G H q wN wH wB wC wL wK PI o0 p0 hT hr_o0 (rg_t (a := p0.toInt) rfl (by have q8 := ti_all p0; omega) (by have q8 := ti_all p0; omega)) (by omega) (by omega) (by omega) (by omega)) (cwV 2 hts (goodIn_app (goodIn_r _ [19, 20, 21, 7] (by decide +kernel) (by decide +kernel)) (goodIn_ca (goodIn_r _ [15, 3, 16, 17, 18, 7] (by decide +kernel) (by decide +kernel)) (bs_in _ _))) rfl rfl rfl (by decide +kernel) ⟨(Nat.le_of_ble_eq_true rfl), (Nat.le_of_ble_eq_true rfl)⟩) ⟨fun a U g mk q => by obtain ⟨q0, q1, qK, qE⟩ := q; exact ⟨q0, q1, va_K.moved (u := U) (U := U.calling g mk a) (Vm.Alike.refl U.vm) qK, EV.blind g mk a qE⟩, gH_recv hK hT hr_o0 shm_0 rfl, fun U hU hW => ⟨rfl, hU, va_K.moved hW.alike hK, hE.call hS hFc hU hW⟩⟩ rfl rfl hl.1 rfl (lv_room (Nat.le_of_ble_eq_true rfl)) dX12_work_23 ⟨(Nat.le_of_ble_eq_true rfl), (Nat.le_of_ble_eq_true rfl)⟩) hS (fun q _ h => hFc q h) hFc (fun r15 u t H locs ht hvm hw16 hB _ _ hS => ?_)
    obtain ⟨hT, hF1⟩ := hB
    rw [ht] at hT hF1
    have hF := hF.more hF1 (by decide)
    try dsimp only at hw16
    have ⟨ix17, hix17, m18⟩ := hw16
    have hg19 : G (q 1) = some 2 := gx_of hT hr_o0 shm_0 (k := 1) (by decide) rfl
    have m20 := (el_kept (hF1.arr hg19 skm_2 (by decide))).trans m18
    refine lv_istore_n (lv' := [(3, .int r15), (0, .ref o0), (1, .int p0), (2, .int p1)]) hx hb dX12_work_26 rfl hl (by decide) rfl (fun ls hl => ?_)
    refine lv_iload_n hx hb dX12_work_27 rfl (lv_at hl 3 rfl) ?_
    by_cases hs21 : p1 = 0
    · subst hs21
      refine lv_tableIn (x := 0) (off := 48) (tgt := 76) hx hb dX12_work_28 (by decide) (by decide) (by decide) (by decide) ?_
      refine lv_iload_n hx hb dX12_work_76 rfl (lv_at hl 0 rfl) ?_
      exact W.iret (v := r15) hx hb hr (fun t ht hW => ⟨⟨r15, (), rfl, (by exact trivial), by (try dsimp only); rw [ht]; exact ⟨hT, hF⟩⟩, hS.F ht⟩) hS.2.2 dX12_work_77
    by_cases hs22 : p1 = 1
    · subst hs22
      refine lv_tableIn (x := 1) (off := 50) (tgt := 78) hx hb dX12_work_28 (by decide) (by decide) (by decide) (by decide) ?_
      refine lv_aload_n hx hb dX12_work_78 rfl (lv_at hl 1 rfl) ?_
      refine lv_iload_n hx hb dX12_work_79 rfl (lv_at hl 2 rfl) ?_
      refine lv_iconst (v := 1) hx hb dX12_work_80 (by decide) ?_
      have hFc := gA_free hG hA hS
      refine va_calli (va_runV (As := [.int p0, .int 1]) (rest := []) ⟨hx, hb, hml, hown, hts⟩ (s_of1 l dC dI kA G H q wN wH wB wC wL wK PI o0 p0 hT hr_o0 (rg_t (a := p0.toInt) rfl (by have q8 := ti_all p0; omega) (by have q8 := ti_all p0; omega)) (by omega) (by omega) (by omega) (by omega)) (cwV 2 hts (goodIn_app (goodIn_r _ [19, 20, 21, 7] (by decide +kernel) (by decide +kernel)) (goodIn_ca (goodIn_r _ [15, 3, 16, 17, 18, 7] (by decide +kernel) (by decide +kernel)) (bs_in _ _))) rfl rfl rfl (by decide +kernel) ⟨(Nat.le_of_ble_eq_true rfl), (Nat.le_of_ble_eq_true rfl)⟩) ⟨fun a U g mk q => by obtain ⟨q0, q1, qK, qE⟩ := q; exact ⟨q0, q1, va_K.moved (u := U) (U := U.calling g mk a) (Vm.Alike.refl U.vm) qK, EV.blind g mk a qE⟩, gH_recv hK hT hr_o0 shm_0 rfl, fun U hU hW => ⟨rfl, hU, va_K.moved hW.alike hK, hE.call hS hFc hU hW⟩⟩ rfl rfl hl.1 rfl (lv_room (Nat.le_of_ble_eq_true rfl)) dX12_work_81 ⟨(Nat.le_of_ble_eq_true rfl), (Nat.le_of_ble_eq_true rfl)⟩) hS (fun q _ h => hFc q h) hFc (fun r23 u t H locs ht hvm hw24 hB _ _ hS => ?_)
      obtain ⟨hT, hF1⟩ := hB
      rw [ht] at hT hF1
      have m25 := (el_kept (hF1.arr hg19 skm_2 (by decide))).trans m20
      have hF := hF.more hF1 (by decide)
      try dsimp only at hw24
      obtain ⟨h26, ⟨ix27, hix27, m28⟩⟩ := hw24
      have m29 := (el_kept (hF1.arr hg19 skm_2 (by decide))).trans m28
      exact W.iret (v := r23) hx hb hr (fun t ht hW => ⟨⟨r23, (), rfl, (by exact trivial), by (try dsimp only); rw [ht]; exact ⟨hT, hF⟩⟩, hS.F ht⟩) hS.2.2 dX12_work_84
    by_cases hs30 : p1 = 2
    · subst hs30
      refine lv_tableIn (x := 2) (off := 57) (tgt := 85) hx hb dX12_work_28 (by decide) (by decide) (by decide) (by decide) ?_
      refine lv_iload_n hx hb dX12_work_85 rfl (lv_at hl 0 rfl) ?_
      refine lv_if_ne (tgt := 93) hx hb dX12_work_86 (by decide) (fun c31 => ?_) (fun c31 => ?_)
      · have t32 : r15.toInt ≠ 0 := ti_ne c31 rfl (by decide)
        refine lv_iconst (v := 0) hx hb dX12_work_93 (by decide) ?_
        exact W.iret (v := 0) hx hb hr (fun t ht hW => ⟨⟨0, (), rfl, (by exact trivial), by (try dsimp only); rw [ht]; exact ⟨hT, hF⟩⟩, hS.F ht⟩) hS.2.2 dX12_work_94
      · have t33 : r15.toInt = 0 := ti_eq c31 rfl (by decide)
        refine lv_iconst (v := 1) hx hb dX12_work_89 (by decide) ?_
        refine lv_goto (tgt := 94) hx hb dX12_work_90 (by decide) ?_
        exact W.iret (v := 1) hx hb hr (fun t ht hW => ⟨⟨1, (), rfl, (by exact trivial), by (try dsimp only); rw [ht]; exact ⟨hT, hF⟩⟩, hS.F ht⟩) hS.2.2 dX12_work_94
    by_cases hs34 : p1 = 3
    · subst hs34
      refine lv_tableIn (x := 3) (off := 67) (tgt := 95) hx hb dX12_work_28 (by decide) (by decide) (by decide) (by decide) ?_
      refine lv_aload_n hx hb dX12_work_95 rfl (lv_at hl 1 rfl) ?_
      refine lv_iload_n hx hb dX12_work_96 rfl (lv_at hl 2 rfl) ?_
      refine lv_bipush (v := 20) hx hb dX12_work_97 (by decide) ?_
      have hFc := gA_free hG hA hS
      refine va_calli (va_runV (As := [.int p0, .int 20]) (rest := []) ⟨hx, hb, hml, hown, hts⟩ (s_of20 l dC dI kA G H q wN wH wB wC wL wK PI o0 p0 hT hr_o0 (rg_t (a := p0.toInt) rfl (by have q8 := ti_all p0; omega) (by have q8 := ti_all p0; omega)) (by omega) (by omega) (by omega) (by omega)) (cwV 2 hts (goodIn_app (goodIn_r _ [19, 20, 21, 7] (by decide +kernel) (by decide +kernel)) (goodIn_ca (goodIn_r _ [15, 3, 16, 17, 18, 7] (by decide +kernel) (by decide +kernel)) (bs_in _ _))) rfl rfl rfl (by decide +kernel) ⟨(Nat.le_of_ble_eq_true rfl), (Nat.le_of_ble_eq_true rfl)⟩) ⟨fun a U g mk q => by obtain ⟨q0, q1, qK, qE⟩ := q; exact ⟨q0, q1, va_K.moved (u := U) (U := U.calling g mk a) (Vm.Alike.refl U.vm) qK, EV.blind g mk a qE⟩, gH_recv hK hT hr_o0 shm_0 rfl, fun U hU hW => ⟨rfl, hU, va_K.moved hW.alike hK, hE.call hS hFc hU hW⟩⟩ rfl rfl hl.1 rfl (lv_room (Nat.le_of_ble_eq_true rfl)) dX12_work_99 ⟨(Nat.le_of_ble_eq_true rfl), (Nat.le_of_ble_eq_true rfl)⟩) hS (fun q _ h => hFc q h) hFc (fun r35 u t H locs ht hvm hw36 hB _ _ hS => ?_)
      obtain ⟨hT, hF1⟩ := hB
      rw [ht] at hT hF1
      have m37 := (el_kept (hF1.arr hg19 skm_2 (by decide))).trans m20
      have hF := hF.more hF1 (by decide)
      try dsimp only at hw36
      have ⟨ix38, hix38, m39⟩ := hw36
      have m40 := (el_kept (hF1.arr hg19 skm_2 (by decide))).trans m39
      exact W.iret (v := r35) hx hb hr (fun t ht hW => ⟨⟨r35, (), rfl, (by exact trivial), by (try dsimp only); rw [ht]; exact ⟨hT, hF⟩⟩, hS.F ht⟩) hS.2.2 dX12_work_102
    by_cases hs41 : p1 = 4
    · subst hs41
      refine lv_tableIn (x := 4) (off := 75) (tgt := 103) hx hb dX12_work_28 (by decide) (by decide) (by decide) (by decide) ?_
      refine lv_aload_n hx hb dX12_work_103 rfl (lv_at hl 1 rfl) ?_
      refine lv_iload_n hx hb dX12_work_104 rfl (lv_at hl 2 rfl) ?_
      refine lv_bipush (v := 21) hx hb dX12_work_105 (by decide) ?_
      have hFc := gA_free hG hA hS
      refine va_calli (va_runV (As := [.int p0, .int 21]) (rest := []) ⟨hx, hb, hml, hown, hts⟩ (s_of21 l dC dI kA G H q wN wH wB wC wL wK PI o0 p0 hT hr_o0 (rg_t (a := p0.toInt) rfl (by have q8 := ti_all p0; omega) (by have q8 := ti_all p0; omega)) (by omega) (by omega) (by omega) (by omega)) (cwV 2 hts (goodIn_app (goodIn_r _ [19, 20, 21, 7] (by decide +kernel) (by decide +kernel)) (goodIn_ca (goodIn_r _ [15, 3, 16, 17, 18, 7] (by decide +kernel) (by decide +kernel)) (bs_in _ _))) rfl rfl rfl (by decide +kernel) ⟨(Nat.le_of_ble_eq_true rfl), (Nat.le_of_ble_eq_true rfl)⟩) ⟨fun a U g mk q => by obtain ⟨q0, q1, qK, qE⟩ := q; exact ⟨q0, q1, va_K.moved (u := U) (U := U.calling g mk a) (Vm.Alike.refl U.vm) qK, EV.blind g mk a qE⟩, gH_recv hK hT hr_o0 shm_0 rfl, fun U hU hW => ⟨rfl, hU, va_K.moved hW.alike hK, hE.call hS hFc hU hW⟩⟩ rfl rfl hl.1 rfl (lv_room (Nat.le_of_ble_eq_true rfl)) dX12_work_107 ⟨(Nat.le_of_ble_eq_true rfl), (Nat.le_of_ble_eq_true rfl)⟩) hS (fun q _ h => hFc q h) hFc (fun r42 u t H locs ht hvm hw43 hB _ _ hS => ?_)
      obtain ⟨hT, hF1⟩ := hB
      rw [ht] at hT hF1
      have m44 := (el_kept (hF1.arr hg19 skm_2 (by decide))).trans m20
      have hF := hF.more hF1 (by decide)
      try dsimp only at hw43
      have ⟨ix45, hix45, m46⟩ := hw43
      have m47 := (el_kept (hF1.arr hg19 skm_2 (by decide))).trans m46
      exact W.iret (v := r42) hx hb hr (fun t ht hW => ⟨⟨r42, (), rfl, (by exact trivial), by (try dsimp only); rw [ht]; exact ⟨hT, hF⟩⟩, hS.F ht⟩) hS.2.2 dX12_work_110
    by_cases hs48 : p1 = 5
    · subst hs48
      refine lv_tableIn (x := 5) (off := 83) (tgt := 111) hx hb dX12_work_28 (by decide) (by decide) (by decide) (by decide) ?_
      refine lv_iload_n hx hb dX12_work_111 rfl (lv_at hl 0 rfl) ?_
      refine lv_if_ne (tgt := 123) hx hb dX12_work_112 (by decide) (fun c49 => ?_) (fun c49 => ?_)
      · have t50 : r15.toInt ≠ 0 := ti_ne c49 rfl (by decide)
        refine lv_aload_n hx hb dX12_work_123 rfl (lv_at hl 1 rfl) ?_
        refine lv_iload_n hx hb dX12_work_124 rfl (lv_at hl 2 rfl) ?_
        refine lv_bipush (v := 17) hx hb dX12_work_125 (by decide) ?_
        have hFc := gA_free hG hA hS
        refine va_calli (va_runV (As := [.int p0, .int 17]) (rest := []) ⟨hx, hb, hml, hown, hts⟩ (s_of17 l dC dI kA G H q wN wH wB wC wL wK PI o0 p0 hT hr_o0 (rg_t (a := p0.toInt) rfl (by have q8 := ti_all p0; omega) (by have q8 := ti_all p0; omega)) (by omega) (by omega) (by omega) (by omega)) (cwV 2 hts (goodIn_app (goodIn_r _ [19, 20, 21, 7] (by decide +kernel) (by decide +kernel)) (goodIn_ca (goodIn_r _ [15, 3, 16, 17, 18, 7] (by decide +kernel) (by decide +kernel)) (bs_in _ _))) rfl rfl rfl (by decide +kernel) ⟨(Nat.le_of_ble_eq_true rfl), (Nat.le_of_ble_eq_true rfl)⟩) ⟨fun a U g mk q => by obtain ⟨q0, q1, qK, qE⟩ := q; exact ⟨q0, q1, va_K.moved (u := U) (U := U.calling g mk a) (Vm.Alike.refl U.vm) qK, EV.blind g mk a qE⟩, gH_recv hK hT hr_o0 shm_0 rfl, fun U hU hW => ⟨rfl, hU, va_K.moved hW.alike hK, hE.call hS hFc hU hW⟩⟩ rfl rfl hl.1 rfl (lv_room (Nat.le_of_ble_eq_true rfl)) dX12_work_127 ⟨(Nat.le_of_ble_eq_true rfl), (Nat.le_of_ble_eq_true rfl)⟩) hS (fun q _ h => hFc q h) hFc (fun r51 u t H locs ht hvm hw52 hB _ _ hS => ?_)
        obtain ⟨hT, hF1⟩ := hB
        rw [ht] at hT hF1
        have m53 := (el_kept (hF1.arr hg19 skm_2 (by decide))).trans m20
        have hF := hF.more hF1 (by decide)
        try dsimp only at hw52
        obtain ⟨h54, ⟨ix55, hix55, m56⟩⟩ := hw52
        have m57 := (el_kept (hF1.arr hg19 skm_2 (by decide))).trans m56
        exact W.iret (v := r51) hx hb hr (fun t ht hW => ⟨⟨r51, (), rfl, (by exact trivial), by (try dsimp only); rw [ht]; exact ⟨hT, hF⟩⟩, hS.F ht⟩) hS.2.2 dX12_work_130
      · have t58 : r15.toInt = 0 := ti_eq c49 rfl (by decide)
        refine lv_aload_n hx hb dX12_work_115 rfl (lv_at hl 1 rfl) ?_
        refine lv_iload_n hx hb dX12_work_116 rfl (lv_at hl 2 rfl) ?_
        have hFc := gA_free hG hA hS
        refine va_calli (va_runV (As := [.int p0]) (rest := []) ⟨hx, hb, hml, hown, hts⟩ (s_crest l dC dI kA G H q wN wH wB wC wL wK PI o0 p0 hT hr_o0 (rg_t (a := p0.toInt) rfl (by have q8 := ti_all p0; omega) (by have q8 := ti_all p0; omega)) (by omega) (by omega) (by omega) (by omega)) (cwV 1 hts (goodIn_app (goodIn_r _ [23, 24, 25, 7] (by decide +kernel) (by decide +kernel)) (goodIn_ca (goodIn_r _ [22, 3, 15, 16, 17, 18, 7, 19, 20, 21] (by decide +kernel) (by decide +kernel)) (bs_in _ _))) rfl rfl rfl (by decide +kernel) ⟨(Nat.le_of_ble_eq_true rfl), (Nat.le_of_ble_eq_true rfl)⟩) ⟨fun a U g mk q => by obtain ⟨q0, q1, qK, qE⟩ := q; exact ⟨q0, q1, va_K.moved (u := U) (U := U.calling g mk a) (Vm.Alike.refl U.vm) qK, EV.blind g mk a qE⟩, gH_recv hK hT hr_o0 shm_0 rfl, fun U hU hW => ⟨rfl, hU, va_K.moved hW.alike hK, hE.call hS hFc hU hW⟩⟩ rfl rfl hl.1 rfl (lv_room (Nat.le_of_ble_eq_true rfl)) dX12_work_117 ⟨(Nat.le_of_ble_eq_true rfl), (Nat.le_of_ble_eq_true rfl)⟩) hS (fun q _ h => hFc q h) hFc (fun r59 u t H locs ht hvm hw60 hB _ _ hS => ?_)
        obtain ⟨hT, hF1⟩ := hB
        rw [ht] at hT hF1
        have m61 := (el_kept (hF1.arr hg19 skm_2 (by decide))).trans m20
        have hF := hF.more hF1 (by decide)
        try dsimp only at hw60
        refine lv_goto (tgt := 130) hx hb dX12_work_120 (by decide) ?_
        exact W.iret (v := r59) hx hb hr (fun t ht hW => ⟨⟨r59, (), rfl, (by exact trivial), by (try dsimp only); rw [ht]; exact ⟨hT, hF⟩⟩, hS.F ht⟩) hS.2.2 dX12_work_130
    by_cases hs62 : p1 = 6
    · subst hs62
      refine lv_tableIn (x := 6) (off := 103) (tgt := 131) hx hb dX12_work_28 (by decide) (by decide) (by decide) (by decide) ?_
      refine lv_aload_n hx hb dX12_work_131 rfl (lv_at hl 1 rfl) ?_
      refine lv_iload_n hx hb dX12_work_132 rfl (lv_at hl 2 rfl) ?_
      have hFc := gA_free hG hA hS
      refine va_calli (va_runV (As := [.int p0]) (rest := []) ⟨hx, hb, hml, hown, hts⟩ (s_isDike l dC dI kA G H q wN wH wB wC wL wK PI o0 p0 hT hr_o0 (rg_t (a := p0.toInt) rfl (by have q8 := ti_all p0; omega) (by have q8 := ti_all p0; omega)) (by omega) (by omega) (by omega) (by omega)) (cwV 1 hts (goodIn_app (goodIn_r _ [27, 28, 29, 7] (by decide +kernel) (by decide +kernel)) (goodIn_ca (goodIn_r _ [26, 15, 3, 16, 17, 18, 7, 19, 20, 21] (by decide +kernel) (by decide +kernel)) (bs_in _ _))) rfl rfl rfl (by decide +kernel) ⟨(Nat.le_of_ble_eq_true rfl), (Nat.le_of_ble_eq_true rfl)⟩) ⟨fun a U g mk q => by obtain ⟨q0, q1, qK, qE⟩ := q; exact ⟨q0, q1, va_K.moved (u := U) (U := U.calling g mk a) (Vm.Alike.refl U.vm) qK, EV.blind g mk a qE⟩, gH_recv hK hT hr_o0 shm_0 rfl, fun U hU hW => ⟨rfl, hU, va_K.moved hW.alike hK, hE.call hS hFc hU hW⟩⟩ rfl rfl hl.1 rfl (lv_room (Nat.le_of_ble_eq_true rfl)) dX12_work_133 ⟨(Nat.le_of_ble_eq_true rfl), (Nat.le_of_ble_eq_true rfl)⟩) hS (fun q _ h => hFc q h) hFc (fun r63 u t H locs ht hvm hw64 hB _ _ hS => ?_)
      obtain ⟨hT, hF1⟩ := hB
      rw [ht] at hT hF1
      have m65 := (el_kept (hF1.arr hg19 skm_2 (by decide))).trans m20
      have hF := hF.more hF1 (by decide)
      try dsimp only at hw64
      have h66 := hw64
      refine lv_if_eq (tgt := 148) hx hb dX12_work_136 (by decide) (fun c67 => ?_) (fun c67 => ?_)
      · have t68 : r63.toInt = 0 := ti_eq c67 rfl (by decide)
        refine lv_aload_n hx hb dX12_work_148 rfl (lv_at hl 1 rfl) ?_
        refine lv_iload_n hx hb dX12_work_149 rfl (lv_at hl 2 rfl) ?_
        refine lv_bipush (v := 18) hx hb dX12_work_150 (by decide) ?_
        have hFc := gA_free hG hA hS
        refine va_calli (va_runV (As := [.int p0, .int 18]) (rest := []) ⟨hx, hb, hml, hown, hts⟩ (s_of18 l dC dI kA G H q wN wH wB wC wL wK PI o0 p0 hT hr_o0 (rg_t (a := p0.toInt) rfl (by have q8 := ti_all p0; omega) (by have q8 := ti_all p0; omega)) (by omega) (by omega) (by omega) (by omega)) (cwV 2 hts (goodIn_app (goodIn_r _ [19, 20, 21, 7] (by decide +kernel) (by decide +kernel)) (goodIn_ca (goodIn_r _ [15, 3, 16, 17, 18, 7] (by decide +kernel) (by decide +kernel)) (bs_in _ _))) rfl rfl rfl (by decide +kernel) ⟨(Nat.le_of_ble_eq_true rfl), (Nat.le_of_ble_eq_true rfl)⟩) ⟨fun a U g mk q => by obtain ⟨q0, q1, qK, qE⟩ := q; exact ⟨q0, q1, va_K.moved (u := U) (U := U.calling g mk a) (Vm.Alike.refl U.vm) qK, EV.blind g mk a qE⟩, gH_recv hK hT hr_o0 shm_0 rfl, fun U hU hW => ⟨rfl, hU, va_K.moved hW.alike hK, hE.call hS hFc hU hW⟩⟩ rfl rfl hl.1 rfl (lv_room (Nat.le_of_ble_eq_true rfl)) dX12_work_152 ⟨(Nat.le_of_ble_eq_true rfl), (Nat.le_of_ble_eq_true rfl)⟩) hS (fun q _ h => hFc q h) hFc (fun r69 u t H locs ht hvm hw70 hB _ _ hS => ?_)
        obtain ⟨hT, hF1⟩ := hB
        rw [ht] at hT hF1
        have m71 := (el_kept (hF1.arr hg19 skm_2 (by decide))).trans m65
        have hF := hF.more hF1 (by decide)
        try dsimp only at hw70
        have ⟨ix72, hix72, m73⟩ := hw70
        have m74 := (el_kept (hF1.arr hg19 skm_2 (by decide))).trans m73
        exact W.iret (v := r69) hx hb hr (fun t ht hW => ⟨⟨r69, (), rfl, (by exact trivial), by (try dsimp only); rw [ht]; exact ⟨hT, hF⟩⟩, hS.F ht⟩) hS.2.2 dX12_work_155
      · have t75 : r63.toInt ≠ 0 := ti_ne c67 rfl (by decide)
        refine lv_aload_n hx hb dX12_work_139 rfl (lv_at hl 1 rfl) ?_
        refine lv_iload_n hx hb dX12_work_140 rfl (lv_at hl 2 rfl) ?_
        refine lv_iconst (v := 4) hx hb dX12_work_141 (by decide) ?_
        have hFc := gA_free hG hA hS
        refine va_calli (va_runV (As := [.int p0, .int 4]) (rest := []) ⟨hx, hb, hml, hown, hts⟩ (s_of4 l dC dI kA G H q wN wH wB wC wL wK PI o0 p0 hT hr_o0 (rg_t (a := p0.toInt) rfl (by have q8 := ti_all p0; omega) (by have q8 := ti_all p0; omega)) (by omega) (by omega) (by omega) (by omega)) (cwV 2 hts (goodIn_app (goodIn_r _ [19, 20, 21, 7] (by decide +kernel) (by decide +kernel)) (goodIn_ca (goodIn_r _ [15, 3, 16, 17, 18, 7] (by decide +kernel) (by decide +kernel)) (bs_in _ _))) rfl rfl rfl (by decide +kernel) ⟨(Nat.le_of_ble_eq_true rfl), (Nat.le_of_ble_eq_true rfl)⟩) ⟨fun a U g mk q => by obtain ⟨q0, q1, qK, qE⟩ := q; exact ⟨q0, q1, va_K.moved (u := U) (U := U.calling g mk a) (Vm.Alike.refl U.vm) qK, EV.blind g mk a qE⟩, gH_recv hK hT hr_o0 shm_0 rfl, fun U hU hW => ⟨rfl, hU, va_K.moved hW.alike hK, hE.call hS hFc hU hW⟩⟩ rfl rfl hl.1 rfl (lv_room (Nat.le_of_ble_eq_true rfl)) dX12_work_142 ⟨(Nat.le_of_ble_eq_true rfl), (Nat.le_of_ble_eq_true rfl)⟩) hS (fun q _ h => hFc q h) hFc (fun r76 u t H locs ht hvm hw77 hB _ _ hS => ?_)
        obtain ⟨hT, hF1⟩ := hB
        rw [ht] at hT hF1
        have m78 := (el_kept (hF1.arr hg19 skm_2 (by decide))).trans m65
        have hF := hF.more hF1 (by decide)
        try dsimp only at hw77
        obtain ⟨h79, ⟨ix80, hix80, m81⟩⟩ := hw77
        have m82 := (el_kept (hF1.arr hg19 skm_2 (by decide))).trans m81
        refine lv_goto (tgt := 155) hx hb dX12_work_145 (by decide) ?_
        exact W.iret (v := r76) hx hb hr (fun t ht hW => ⟨⟨r76, (), rfl, (by exact trivial), by (try dsimp only); rw [ht]; exact ⟨hT, hF⟩⟩, hS.F ht⟩) hS.2.2 dX12_work_155
    by_cases hs83 : p1 = 7
    · subst hs83
      refine lv_tableIn (x := 7) (off := 128) (tgt := 156) hx hb dX12_work_28 (by decide) (by decide) (by decide) (by decide) ?_
      refine lv_aload_n hx hb dX12_work_156 rfl (lv_at hl 1 rfl) ?_
      refine lv_iload_n hx hb dX12_work_157 rfl (lv_at hl 2 rfl) ?_
      refine lv_bipush (v := 19) hx hb dX12_work_158 (by decide) ?_
      have hFc := gA_free hG hA hS
      refine va_calli (va_runV (As := [.int p0, .int 19]) (rest := []) ⟨hx, hb, hml, hown, hts⟩ (s_of19 l dC dI kA G H q wN wH wB wC wL wK PI o0 p0 hT hr_o0 (rg_t (a := p0.toInt) rfl (by have q8 := ti_all p0; omega) (by have q8 := ti_all p0; omega)) (by omega) (by omega) (by omega) (by omega)) (cwV 2 hts (goodIn_app (goodIn_r _ [19, 20, 21, 7] (by decide +kernel) (by decide +kernel)) (goodIn_ca (goodIn_r _ [15, 3, 16, 17, 18, 7] (by decide +kernel) (by decide +kernel)) (bs_in _ _))) rfl rfl rfl (by decide +kernel) ⟨(Nat.le_of_ble_eq_true rfl), (Nat.le_of_ble_eq_true rfl)⟩) ⟨fun a U g mk q => by obtain ⟨q0, q1, qK, qE⟩ := q; exact ⟨q0, q1, va_K.moved (u := U) (U := U.calling g mk a) (Vm.Alike.refl U.vm) qK, EV.blind g mk a qE⟩, gH_recv hK hT hr_o0 shm_0 rfl, fun U hU hW => ⟨rfl, hU, va_K.moved hW.alike hK, hE.call hS hFc hU hW⟩⟩ rfl rfl hl.1 rfl (lv_room (Nat.le_of_ble_eq_true rfl)) dX12_work_160 ⟨(Nat.le_of_ble_eq_true rfl), (Nat.le_of_ble_eq_true rfl)⟩) hS (fun q _ h => hFc q h) hFc (fun r84 u t H locs ht hvm hw85 hB _ _ hS => ?_)
      obtain ⟨hT, hF1⟩ := hB
      rw [ht] at hT hF1
      have m86 := (el_kept (hF1.arr hg19 skm_2 (by decide))).trans m20
      have hF := hF.more hF1 (by decide)
      try dsimp only at hw85
      have ⟨ix87, hix87, m88⟩ := hw85
      have m89 := (el_kept (hF1.arr hg19 skm_2 (by decide))).trans m88
      exact W.iret (v := r84) hx hb hr (fun t ht hW => ⟨⟨r84, (), rfl, (by exact trivial), by (try dsimp only); rw [ht]; exact ⟨hT, hF⟩⟩, hS.F ht⟩) hS.2.2 dX12_work_163
    have ho90 : p1.toInt < 0 ∨ 7 < p1.toInt := by
      have ehs21 : p1.toInt ≠ 0 := fun e => hs21 (Int32.toInt_inj.mp (e.trans (by decide)))
      have ehs22 : p1.toInt ≠ 1 := fun e => hs22 (Int32.toInt_inj.mp (e.trans (by decide)))
      have ehs30 : p1.toInt ≠ 2 := fun e => hs30 (Int32.toInt_inj.mp (e.trans (by decide)))
      have ehs34 : p1.toInt ≠ 3 := fun e => hs34 (Int32.toInt_inj.mp (e.trans (by decide)))
      have ehs41 : p1.toInt ≠ 4 := fun e => hs41 (Int32.toInt_inj.mp (e.trans (by decide)))
      have ehs48 : p1.toInt ≠ 5 := fun e => hs48 (Int32.toInt_inj.mp (e.trans (by decide)))
      have ehs62 : p1.toInt ≠ 6 := fun e => hs62 (Int32.toInt_inj.mp (e.trans (by decide)))
      have ehs83 : p1.toInt ≠ 7 := fun e => hs83 (Int32.toInt_inj.mp (e.trans (by decide)))
      omega
    refine lv_tableOut (tgt := 164) hx hb dX12_work_28 ho90 (by decide) ?_
    refine lv_aload_n hx hb dX12_work_164 rfl (lv_at hl 1 rfl) ?_
    refine lv_iconst (v := 2) hx hb dX12_work_165 (by decide) ?_
    refine tw_put (v := .int 2) (ty := .int) hx hb hts bF_X12 tyX12 tyX12_ok nmX12 hown hK hT hG hS hr_o0 shm_0 rfl 0 (by decide) (ht_at hts 0 rfl) (fun _ h9 => h9) rfl (by decide +kernel) rfl rfl (gl_at rfl (gi_all _)) dX12_work_166 (fun H locs hT oq m91 oj hS => ?_)
    have hF := hF.put hr_o0 skm_0 oq oj (by decide)
    have m92 := (el_kept (oq _ (gne hg19 hr_o0 (by decide)))).trans m20
    refine lv_iconst (v := 0) hx hb dX12_work_169 (by decide) ?_
    exact W.iret (v := 0) hx hb hr (fun t ht hW => ⟨⟨0, (), rfl, (by exact trivial), by (try dsimp only); rw [ht]; exact ⟨hT, hF⟩⟩, hS.F ht⟩) hS.2.2 dX12_work_170
  · have t93 : r2.toInt ≠ 0 := ti_ne c12 rfl (by decide)
    refine lv_iconst (v := 0) hx hb dX12_work_18 (by decide) ?_
    exact W.iret (v := 0) hx hb hr (fun t ht hW => ⟨⟨0, (), rfl, (by exact trivial), by (try dsimp only); rw [ht]; exact ⟨hT, hF⟩⟩, hS.F ht⟩) hS.2.2 dX12_work_19
def w_s_sow : List Cond := .code yX12_sow cX12_sow 4 (some .boolean) :: ([.fieldLink RX12 194 "SeaLandModel" "thrown" "I", .code yX12_noFarm cX12_noFarm 2 (some .boolean), .fieldLink RX12 498 "SeaLandModel" "farms" "I", .code yX12_in cX12_in 3 (some .boolean), .methodLink RX12 197 yX12_in, .static yX12_in, .initialized RX12, .methodLink RX12 502 yX12_noFarm, .instanceMethod yX12_noFarm, .selects RX12 yX12_noFarm yX12_noFarm, .code yX12_throwsIf cX12_throwsIf 3 (some .boolean), .methodLink RX12 224 yX12_throwsIf, .instanceMethod yX12_throwsIf, .selects RX12 yX12_throwsIf yX12_throwsIf, .fieldLink RX12 119 "SeaLandModel" "crop" "[I"] ++ bs)
set_option maxHeartbeats 4000000 in
set_option maxRecDepth 100000 in
theorem s_sow (l : Launch) (dC : Nat → ClassId) (dI : Nat → Nat → Nat) (kA : Nat → ClassId) (G : gT) (H0 : Heap) (q : Nat → Nat) (wN wH wB wC : Int) (wL wK : Nat → Prop) (PI : Nat → Int → Prop) (o0 : Nat) (p0 : Int32) (p1 : Int32) (hT : gH (dC, dI) kA (SHm q (wP wN wH wB wC wC wL wK) PI) G H0) (hr_o0 : G o0 = some 0) (hgn : 6500000 ≤ wN ∧ wN ≤ 400000000) (hgh : 0 ≤ wH ∧ wH ≤ 40000) (hgb : 0 ≤ wB ∧ wB ≤ 3850000) (hgc : 0 ≤ wC ∧ wC ≤ 30) : Met l yX12_sow w_s_sow ({ frames := 2, cells := 0, slots := 0, locals := 43 }) (va_Pc [.ref o0, .int p0, .int p1] (fun U => U.heap = H0 ∧ va_K (dC, dI) vwCl (tyl kA) U ∧ EV (gA G H0.size) U U.heap)) (va_Qi (fun (r : Int32) (u : Unit) => (0 ≤ r.toInt ∧ r.toInt ≤ 1)) (fun (_ : Unit) (t : State) => gH (dC, dI) kA (SHm q (wP wN wH wB wC wC wL wK) PI) G t.heap ∧ gF (dC, dI) SKm G ([(0, 0), (46, 0)] : List (Nat × Nat)) H0 t.heap) (gA G H0.size)) 0 0 (gA G H0.size) := by
  refine Met.ofW (cc := cX12_sow) (maxL := 4) (ret := (some .boolean)) (by decide) rfl ?_
  intro p e s m args below meth c s₁ B hml hv
  obtain ⟨rfl, hH0, hK, hE⟩ := hv
  have hx := B.exec
  have hb := B.bytes
  have hr := B.returns
  have hts := atoms_spec (ws := w_s_sow) B.pre
  have hown : s.vm.findClass RX12 = some m.cls := findClass_of_methodNamed B.named
  have hlocks := B.notSynchronized
  subst hH0
  generalize hAe : gA G s.heap.size = A at hE ⊢
  have hA : ∀ q : Nat, s.heap.size ≤ q → A q := fun q h => by rw [← hAe]; exact Or.inr h
  have hG := gA_of hAe
  have hS : va_S A s.heap s.heap [] := va_S.rf
  have hF : gF (dC, dI) SKm G ([(0, 0), (46, 0)] : List (Nat × Nat)) s.heap s.heap := gF.rf
  have hl := lv_entry ([.ref o0, .int p0, .int p1]) (n := 4) (Nat.le_of_ble_eq_true rfl)
  rw [lg_entry_eq]
  generalize (lg_sl ([.ref o0, .int p0, .int p1]) ++ List.replicate (4 - (lg_sl ([.ref o0, .int p0, .int p1])).length) Slot.unset).toArray = ls at hl ⊢
  have hl : lv_has ls 4 [(0, .ref o0), (1, .int p0), (2, .int p1)] := hl
  refine lv_aload_n hx hb dX12_sow_0 rfl (lv_at hl 0 rfl) ?_
  refine lv_iconst (v := 0) hx hb dX12_sow_1 (by decide) ?_
  refine tw_put (v := .int 0) (ty := .int) hx hb hts bF_X12 tyX12 tyX12_ok nmX12 hown hK hT hG hS hr_o0 shm_0 rfl 0 (by decide) (ht_at hts 0 rfl) (fun _ h9 => h9) rfl (by decide +kernel) rfl rfl (gl_at rfl (gi_all _)) dX12_sow_2 (fun H locs hT oq m1 oj hS => ?_)
  have hF := hF.put hr_o0 skm_0 oq oj (by decide)
  refine lv_aload_n hx hb dX12_sow_5 rfl (lv_at hl 0 rfl) ?_
  refine lv_aload_n hx hb dX12_sow_6 rfl (lv_at hl 0 rfl) ?_
  refine lv_iload_n hx hb dX12_sow_7 rfl (lv_at hl 1 rfl) ?_
  have hFc := gA_free hG hA hS
  refine va_calli (va_runV (As := [.int p0]) (rest := [.ref o0]) ⟨hx, hb, hml, hown, hts⟩ (s_noFarm l dC dI kA G H q wN wH wB wC wL wK PI o0 p0 hT hr_o0 (by omega) (by omega) (by omega) (by omega)) (cwV 1 hts (goodIn_app (goodIn_r _ [8, 9, 10, 7] (by decide +kernel) (by decide +kernel)) (goodIn_ca (goodIn_r _ [2, 3, 4, 5, 6, 7] (by decide +kernel) (by decide +kernel)) (bs_in _ _))) rfl rfl rfl (by decide +kernel) ⟨(Nat.le_of_ble_eq_true rfl), (Nat.le_of_ble_eq_true rfl)⟩) ⟨fun a U g mk q => by obtain ⟨q0, q1, qK, qE⟩ := q; exact ⟨q0, q1, va_K.moved (u := U) (U := U.calling g mk a) (Vm.Alike.refl U.vm) qK, EV.blind g mk a qE⟩, gH_recv hK hT hr_o0 shm_0 rfl, fun U hU hW => ⟨rfl, hU, va_K.moved hW.alike hK, hE.call hS hFc hU hW⟩⟩ rfl rfl hl.1 rfl (lv_room (Nat.le_of_ble_eq_true rfl)) dX12_sow_8 ⟨(Nat.le_of_ble_eq_true rfl), (Nat.le_of_ble_eq_true rfl)⟩) hS (fun q _ h => hFc q h) hFc (fun r2 u t H locs ht hvm hw3 hB _ _ hS => ?_)
  obtain ⟨hT, hF1⟩ := hB
  rw [ht] at hT hF1
  have m4 := (hF1.fld hr_o0 skm_0 (k := 0) (by decide) (by decide)).trans m1
  have hF := hF.more hF1 (by decide)
  try dsimp only at hw3
  obtain ⟨h5, hi6⟩ := hw3
  refine lv_iconst (v := 1) hx hb dX12_sow_11 (by decide) ?_
  have hFc := gA_free hG hA hS
  refine va_calli (va_runV (As := [.int r2, .int 1]) (rest := []) ⟨hx, hb, hml, hown, hts⟩ (s_throwsIf l dC dI kA G H q wN wH wB wC wL wK PI o0 r2 1 hT hr_o0 (rg_t (a := r2.toInt) rfl (by have q8 := ti_all r2; omega) (by have q8 := ti_all r2; omega)) (by omega) (by omega) (by omega) (by omega)) (cwV 2 hts (goodIn_app (goodIn_r _ [12, 13, 14, 7] (by decide +kernel) (by decide +kernel)) (goodIn_ca (goodIn_r _ [11, 1] (by decide +kernel) (by decide +kernel)) (bs_in _ _))) rfl rfl rfl (by decide +kernel) ⟨(Nat.le_of_ble_eq_true rfl), (Nat.le_of_ble_eq_true rfl)⟩) ⟨fun a U g mk q => by obtain ⟨q0, q1, qK, qE⟩ := q; exact ⟨q0, q1, va_K.moved (u := U) (U := U.calling g mk a) (Vm.Alike.refl U.vm) qK, EV.blind g mk a qE⟩, gH_recv hK hT hr_o0 shm_0 rfl, fun U hU hW => ⟨rfl, hU, va_K.moved hW.alike hK, hE.call hS hFc hU hW⟩⟩ rfl rfl hl.1 rfl (lv_room (Nat.le_of_ble_eq_true rfl)) dX12_sow_12 ⟨(Nat.le_of_ble_eq_true rfl), (Nat.le_of_ble_eq_true rfl)⟩) hS (fun q _ h => hFc q h) hFc (fun r7 u t H locs ht hvm hw8 hB _ _ hS => ?_)
  obtain ⟨hT, hF1⟩ := hB
  rw [ht] at hT hF1
  have hF := hF.more hF1 (by decide)
  try dsimp only at hw8
  obtain ⟨h10, hd11⟩ := hw8
  obtain rfl : r2 = r7 := hd11.symm
  refine lv_if_ne (tgt := 40) hx hb dX12_sow_15 (by decide) (fun c12 => ?_) (fun c12 => ?_)
  · have t13 : r2.toInt ≠ 0 := ti_ne c12 rfl (by decide)
    refine lv_iconst (v := 0) hx hb dX12_sow_40 (by decide) ?_
    exact W.zret (v := 0) hx hb hr (by decide) (fun t ht hW => ⟨⟨0, (), rfl, (by exact (rg_t (a := 0) (by decide) (by omega) (by omega))), by (try dsimp only); rw [ht]; exact ⟨hT, hF⟩⟩, hS.F ht⟩) hS.2.2 dX12_sow_41
  · have t14 : r2.toInt = 0 := ti_eq c12 rfl (by decide)
    have t15 : 0 ≤ p0.toInt ∧ p0.toInt ≤ 29 := hi6 c12
    refine lv_aload_n hx hb dX12_sow_18 rfl (lv_at hl 0 rfl) ?_
    refine lv_iload_n hx hb dX12_sow_19 rfl (lv_at hl 2 rfl) ?_
    refine lv_iconst (v := 0) hx hb dX12_sow_20 (by decide) ?_
    refine lv_iconst (v := 3) hx hb dX12_sow_21 (by decide) ?_
    have hFc := gA_free hG hA hS
    refine va_calli (va_runS (As := [.int p1, .int 0, .int 3]) (rest := [.ref o0]) ⟨hx, hb, hml, hown, hts⟩ (s_in l dC dI kA G H q wN wH wB wC wL wK PI p1 0 3 hT (by omega) (by omega) (by omega) (by omega)) (va_cwS 3 hts (goodIn_app (goodIn_r _ [5, 6, 7] (by decide +kernel) (by decide +kernel)) (goodIn_ca (goodIn_r _ [4] (by decide +kernel) (by decide +kernel)) (bs_in _ _))) rfl rfl rfl (by decide +kernel) ⟨(Nat.le_of_ble_eq_true rfl), (Nat.le_of_ble_eq_true rfl)⟩) ⟨fun a U g mk q => by obtain ⟨q0, q1, qK, qE⟩ := q; exact ⟨q0, q1, va_K.moved (u := U) (U := U.calling g mk a) (Vm.Alike.refl U.vm) qK, EV.blind g mk a qE⟩, fun U hU hW => ⟨rfl, hU, va_K.moved hW.alike hK, hE.call hS hFc hU hW⟩⟩ rfl rfl hl.1 rfl (lv_room (Nat.le_of_ble_eq_true rfl)) dX12_sow_22 ⟨(Nat.le_of_ble_eq_true rfl), (Nat.le_of_ble_eq_true rfl)⟩) hS (fun q _ h => hFc q h) hFc (fun r16 u t H locs ht hvm hw17 hB _ _ hS => ?_)
    obtain ⟨hT, hF1⟩ := hB
    rw [ht] at hT hF1
    have hF := hF.more hF1 (by decide)
    try dsimp only at hw17
    obtain ⟨h18, hi19, hi20⟩ := hw17
    refine lv_if_ne (tgt := 32) hx hb dX12_sow_25 (by decide) (fun c21 => ?_) (fun c21 => ?_)
    · have t22 : r16.toInt ≠ 0 := ti_ne c21 rfl (by decide)
      have t23 : (0 : Int32).toInt = 0 := by decide
      have t24 : (3 : Int32).toInt = 3 := by decide
      have t25 : (0 : Int32).toInt ≤ p1.toInt ∧ p1.toInt ≤ (3 : Int32).toInt := hi19 ((bit_of ⟨by omega, by omega⟩).resolve_left c21)
      refine lv_iconst (v := 0) hx hb dX12_sow_32 (by decide) ?_
      refine lv_iconst (v := 2) hx hb dX12_sow_33 (by decide) ?_
      have hFc := gA_free hG hA hS
      refine va_calli (va_runV (As := [.int 0, .int 2]) (rest := []) ⟨hx, hb, hml, hown, hts⟩ (s_throwsIf l dC dI kA G H q wN wH wB wC wL wK PI o0 0 2 hT hr_o0 (rg_t (a := 0) (by decide) (by omega) (by omega)) (by omega) (by omega) (by omega) (by omega)) (cwV 2 hts (goodIn_app (goodIn_r _ [12, 13, 14, 7] (by decide +kernel) (by decide +kernel)) (goodIn_ca (goodIn_r _ [11, 1] (by decide +kernel) (by decide +kernel)) (bs_in _ _))) rfl rfl rfl (by decide +kernel) ⟨(Nat.le_of_ble_eq_true rfl), (Nat.le_of_ble_eq_true rfl)⟩) ⟨fun a U g mk q => by obtain ⟨q0, q1, qK, qE⟩ := q; exact ⟨q0, q1, va_K.moved (u := U) (U := U.calling g mk a) (Vm.Alike.refl U.vm) qK, EV.blind g mk a qE⟩, gH_recv hK hT hr_o0 shm_0 rfl, fun U hU hW => ⟨rfl, hU, va_K.moved hW.alike hK, hE.call hS hFc hU hW⟩⟩ rfl rfl hl.1 rfl (lv_room (Nat.le_of_ble_eq_true rfl)) dX12_sow_34 ⟨(Nat.le_of_ble_eq_true rfl), (Nat.le_of_ble_eq_true rfl)⟩) hS (fun q _ h => hFc q h) hFc (fun r26 u t H locs ht hvm hw27 hB _ _ hS => ?_)
      obtain ⟨hT, hF1⟩ := hB
      rw [ht] at hT hF1
      have hF := hF.more hF1 (by decide)
      try dsimp only at hw27
      obtain ⟨h28, hd29⟩ := hw27
      obtain rfl : (0 : Int32) = r26 := hd29.symm
      refine lv_if_eq (tgt := 42) hx hb dX12_sow_37 (by decide) (fun c30 => ?_) (fun c30 => absurd c30 (by decide))
      refine lv_aload_n hx hb dX12_sow_42 rfl (lv_at hl 0 rfl) ?_
      refine tw_get hx hb hts bF_X12 hown hK hT hr_o0 shm_0 rfl 45 (by decide) (ht_at hts 14 rfl) (fun _ h9 => h9) dX12_sow_43 (fun v9 m31 h9 => ?_)
      obtain ⟨rfl, hg32⟩ := h9 _ rfl
      refine lv_iload_n hx hb dX12_sow_46 rfl (lv_at hl 1 rfl) ?_
      refine tw_iald (i := p0) hx hb hK hT hg32 shm_46 rfl (vin_t (a := p0.toInt) rfl (by omega) (by omega)) dX12_sow_47 (fun v9 m33 h9 => ?_)
      obtain ⟨x34, rfl, gx34, kx34⟩ := h9
      refine lv_iload_n hx hb dX12_sow_48 rfl (lv_at hl 2 rfl) ?_
      refine lv_icmp_eq (tgt := 56) hx hb dX12_sow_49 (by decide) (fun c35 => ?_) (fun c35 => ?_)
      · have t36 : x34.toInt = p1.toInt := ti_eq c35 rfl rfl
        refine lv_iconst (v := 0) hx hb dX12_sow_56 (by decide) ?_
        refine lv_istore_n (lv' := [(3, .int 0), (0, .ref o0), (1, .int p0), (2, .int p1)]) hx hb dX12_sow_57 rfl hl (by decide) rfl (fun ls hl => ?_)
        refine lv_aload_n hx hb dX12_sow_58 rfl (lv_at hl 1 rfl) ?_
        refine tw_get hx hb hts bF_X12 hown hK hT hr_o0 shm_0 rfl 45 (by decide) (ht_at hts 14 rfl) (fun _ h9 => h9) dX12_sow_59 (fun v9 m37 h9 => ?_)
        obtain ⟨rfl, hg38⟩ := h9 _ rfl
        refine lv_iload_n hx hb dX12_sow_62 rfl (lv_at hl 2 rfl) ?_
        refine lv_iload_n hx hb dX12_sow_63 rfl (lv_at hl 3 rfl) ?_
        refine tw_iast (i := p0) (x := p1) hx hb hK hT hG hS hg32 shm_46 rfl (vin_t (a := p0.toInt) rfl (by omega) (by omega)) (gi_all _) dX12_sow_64 (fun H locs hT oq m39 oi hS => ?_)
        have hF := hF.ast hg32 skm_46 oq (by decide)
        refine lv_iload_n hx hb dX12_sow_65 rfl (lv_at hl 0 rfl) ?_
        exact W.zret (v := 0) hx hb hr (by decide) (fun t ht hW => ⟨⟨0, (), rfl, (by exact (rg_t (a := 0) (by decide) (by omega) (by omega))), by (try dsimp only); rw [ht]; exact ⟨hT, hF⟩⟩, hS.F ht⟩) hS.2.2 dX12_sow_66
      · have t40 : x34.toInt ≠ p1.toInt := ti_ne c35 rfl rfl
        refine lv_iconst (v := 1) hx hb dX12_sow_52 (by decide) ?_
        refine lv_goto (tgt := 57) hx hb dX12_sow_53 (by decide) ?_
        refine lv_istore_n (lv' := [(3, .int 1), (0, .ref o0), (1, .int p0), (2, .int p1)]) hx hb dX12_sow_57 rfl hl (by decide) rfl (fun ls hl => ?_)
        refine lv_aload_n hx hb dX12_sow_58 rfl (lv_at hl 1 rfl) ?_
        refine tw_get hx hb hts bF_X12 hown hK hT hr_o0 shm_0 rfl 45 (by decide) (ht_at hts 14 rfl) (fun _ h9 => h9) dX12_sow_59 (fun v9 m41 h9 => ?_)
        obtain ⟨rfl, hg42⟩ := h9 _ rfl
        refine lv_iload_n hx hb dX12_sow_62 rfl (lv_at hl 2 rfl) ?_
        refine lv_iload_n hx hb dX12_sow_63 rfl (lv_at hl 3 rfl) ?_
        refine tw_iast (i := p0) (x := p1) hx hb hK hT hG hS hg32 shm_46 rfl (vin_t (a := p0.toInt) rfl (by omega) (by omega)) (gi_all _) dX12_sow_64 (fun H locs hT oq m43 oi hS => ?_)
        have hF := hF.ast hg32 skm_46 oq (by decide)
        refine lv_iload_n hx hb dX12_sow_65 rfl (lv_at hl 0 rfl) ?_
        exact W.zret (v := 1) hx hb hr (by decide) (fun t ht hW => ⟨⟨1, (), rfl, (by exact (rg_t (a := 1) (by decide) (by omega) (by omega))), by (try dsimp only); rw [ht]; exact ⟨hT, hF⟩⟩, hS.F ht⟩) hS.2.2 dX12_sow_66
    · have t44 : r16.toInt = 0 := ti_eq c21 rfl (by decide)
      have t45 : (0 : Int32).toInt = 0 := by decide
      have t46 : (3 : Int32).toInt = 3 := by decide
      have t47 : p1.toInt < (0 : Int32).toInt ∨ (3 : Int32).toInt < p1.toInt := hi20 c21
      refine lv_iconst (v := 1) hx hb dX12_sow_28 (by decide) ?_
      refine lv_goto (tgt := 33) hx hb dX12_sow_29 (by decide) ?_
      refine lv_iconst (v := 2) hx hb dX12_sow_33 (by decide) ?_
      have hFc := gA_free hG hA hS
      refine va_calli (va_runV (As := [.int 1, .int 2]) (rest := []) ⟨hx, hb, hml, hown, hts⟩ (s_throwsIf l dC dI kA G H q wN wH wB wC wL wK PI o0 1 2 hT hr_o0 (rg_t (a := 1) (by decide) (by omega) (by omega)) (by omega) (by omega) (by omega) (by omega)) (cwV 2 hts (goodIn_app (goodIn_r _ [12, 13, 14, 7] (by decide +kernel) (by decide +kernel)) (goodIn_ca (goodIn_r _ [11, 1] (by decide +kernel) (by decide +kernel)) (bs_in _ _))) rfl rfl rfl (by decide +kernel) ⟨(Nat.le_of_ble_eq_true rfl), (Nat.le_of_ble_eq_true rfl)⟩) ⟨fun a U g mk q => by obtain ⟨q0, q1, qK, qE⟩ := q; exact ⟨q0, q1, va_K.moved (u := U) (U := U.calling g mk a) (Vm.Alike.refl U.vm) qK, EV.blind g mk a qE⟩, gH_recv hK hT hr_o0 shm_0 rfl, fun U hU hW => ⟨rfl, hU, va_K.moved hW.alike hK, hE.call hS hFc hU hW⟩⟩ rfl rfl hl.1 rfl (lv_room (Nat.le_of_ble_eq_true rfl)) dX12_sow_34 ⟨(Nat.le_of_ble_eq_true rfl), (Nat.le_of_ble_eq_true rfl)⟩) hS (fun q _ h => hFc q h) hFc (fun r48 u t H locs ht hvm hw49 hB _ _ hS => ?_)
      obtain ⟨hT, hF1⟩ := hB
      rw [ht] at hT hF1
      have hF := hF.more hF1 (by decide)
      try dsimp only at hw49
      obtain ⟨h50, hd51⟩ := hw49
      obtain rfl : (1 : Int32) = r48 := hd51.symm
      refine lv_if_eq (tgt := 42) hx hb dX12_sow_37 (by decide) (fun c52 => absurd c52 (by decide)) (fun c52 => ?_)
      refine lv_iconst (v := 0) hx hb dX12_sow_40 (by decide) ?_
      exact W.zret (v := 0) hx hb hr (by decide) (fun t ht hW => ⟨⟨0, (), rfl, (by exact (rg_t (a := 0) (by decide) (by omega) (by omega))), by (try dsimp only); rw [ht]; exact ⟨hT, hF⟩⟩, hS.F ht⟩) hS.2.2 dX12_sow_41
def w_s_measure : List Cond := .code yX12_measure cX12_measure 3 (some .boolean) :: ([.fieldLink RX12 194 "SeaLandModel" "thrown" "I", .code yX12_noContract cX12_noContract 2 (some .boolean), .fieldLink RX12 533 "SeaLandModel" "contracts" "I", .code yX12_in cX12_in 3 (some .boolean), .methodLink RX12 197 yX12_in, .static yX12_in, .initialized RX12, .methodLink RX12 539 yX12_noContract, .instanceMethod yX12_noContract, .selects RX12 yX12_noContract yX12_noContract, .code yX12_throwsIf cX12_throwsIf 3 (some .boolean), .methodLink RX12 224 yX12_throwsIf, .instanceMethod yX12_throwsIf, .selects RX12 yX12_throwsIf yX12_throwsIf, .fieldLink RX12 158 "SeaLandModel" "isPaid" "[Z", .fieldLink RX12 155 "SeaLandModel" "isMeasured" "[Z", .fieldLink RX12 149 "SeaLandModel" "kLow" "[I", .fieldLink RX12 146 "SeaLandModel" "kBound" "[I", .methodLink RX12 211 Lib.Math.max.name, .static Lib.Math.max.name, .initialized "java/lang/Math", .code Lib.Math.max.name Lib.Math.max.code 2 (some .int), .fieldLink RX12 152 "SeaLandModel" "kHigh" "[I", .methodLink RX12 207 Lib.Math.min.name, .static Lib.Math.min.name, .code Lib.Math.min.name Lib.Math.min.code 2 (some .int), .code yX12_hasSpan cX12_hasSpan 2 (some .boolean), .methodLink RX12 542 yX12_hasSpan, .instanceMethod yX12_hasSpan, .selects RX12 yX12_hasSpan yX12_hasSpan] ++ bs)
set_option maxHeartbeats 4000000 in
set_option maxRecDepth 100000 in
theorem s_measure (l : Launch) (dC : Nat → ClassId) (dI : Nat → Nat → Nat) (kA : Nat → ClassId) (G : gT) (H0 : Heap) (q : Nat → Nat) (wN wH wB wC : Int) (wL wK : Nat → Prop) (PI : Nat → Int → Prop) (o0 : Nat) (p0 : Int32) (p1 : Int32) (hT : gH (dC, dI) kA (SHm q (wP wN wH wB wC wC wL wK) PI) G H0) (hr_o0 : G o0 = some 0) (hgn : 6500000 ≤ wN ∧ wN ≤ 400000000) (hgh : 0 ≤ wH ∧ wH ≤ 40000) (hgb : 0 ≤ wB ∧ wB ≤ 3850000) (hgc : 0 ≤ wC ∧ wC ≤ 30) : Met l yX12_measure w_s_measure ({ frames := 2, cells := 0, slots := 0, locals := 43 }) (va_Pc [.ref o0, .int p0, .int p1] (fun U => U.heap = H0 ∧ va_K (dC, dI) vwCl (tyl kA) U ∧ EV (gA G H0.size) U U.heap)) (va_Qi (fun (r : Int32) (u : Unit) => (0 ≤ r.toInt ∧ r.toInt ≤ 1)) (fun (_ : Unit) (t : State) => gH (dC, dI) kA (SHm q (wP wN wH wB wC wC wL wK) PI) G t.heap ∧ gF (dC, dI) SKm G ([(0, 0), (61, 0), (62, 0), (63, 0)] : List (Nat × Nat)) H0 t.heap) (gA G H0.size)) 0 0 (gA G H0.size) := by
  refine Met.ofW (cc := cX12_measure) (maxL := 3) (ret := (some .boolean)) (by decide) rfl ?_
  intro p e s m args below meth c s₁ B hml hv
  obtain ⟨rfl, hH0, hK, hE⟩ := hv
  have hx := B.exec
  have hb := B.bytes
  have hr := B.returns
  have hts := atoms_spec (ws := w_s_measure) B.pre
  have hown : s.vm.findClass RX12 = some m.cls := findClass_of_methodNamed B.named
  have hlocks := B.notSynchronized
  subst hH0
  generalize hAe : gA G s.heap.size = A at hE ⊢
  have hA : ∀ q : Nat, s.heap.size ≤ q → A q := fun q h => by rw [← hAe]; exact Or.inr h
  have hG := gA_of hAe
  have hS : va_S A s.heap s.heap [] := va_S.rf
  have hF : gF (dC, dI) SKm G ([(0, 0), (61, 0), (62, 0), (63, 0)] : List (Nat × Nat)) s.heap s.heap := gF.rf
  have hl := lv_entry ([.ref o0, .int p0, .int p1]) (n := 3) (Nat.le_of_ble_eq_true rfl)
  rw [lg_entry_eq]
  generalize (lg_sl ([.ref o0, .int p0, .int p1]) ++ List.replicate (3 - (lg_sl ([.ref o0, .int p0, .int p1])).length) Slot.unset).toArray = ls at hl ⊢
  have hl : lv_has ls 3 [(0, .ref o0), (1, .int p0), (2, .int p1)] := hl
  refine lv_aload_n hx hb dX12_measure_0 rfl (lv_at hl 0 rfl) ?_
  refine lv_iconst (v := 0) hx hb dX12_measure_1 (by decide) ?_
  refine tw_put (v := .int 0) (ty := .int) hx hb hts bF_X12 tyX12 tyX12_ok nmX12 hown hK hT hG hS hr_o0 shm_0 rfl 0 (by decide) (ht_at hts 0 rfl) (fun _ h9 => h9) rfl (by decide +kernel) rfl rfl (gl_at rfl (gi_all _)) dX12_measure_2 (fun H locs hT oq m1 oj hS => ?_)
  have hF := hF.put hr_o0 skm_0 oq oj (by decide)
  refine lv_aload_n hx hb dX12_measure_5 rfl (lv_at hl 0 rfl) ?_
  refine lv_aload_n hx hb dX12_measure_6 rfl (lv_at hl 0 rfl) ?_
  refine lv_iload_n hx hb dX12_measure_7 rfl (lv_at hl 1 rfl) ?_
  have hFc := gA_free hG hA hS
  refine va_calli (va_runV (As := [.int p0]) (rest := [.ref o0]) ⟨hx, hb, hml, hown, hts⟩ (s_noContract l dC dI kA G H q wN wH wB wC wL wK PI o0 p0 hT hr_o0 (by omega) (by omega) (by omega) (by omega)) (cwV 1 hts (goodIn_app (goodIn_r _ [8, 9, 10, 7] (by decide +kernel) (by decide +kernel)) (goodIn_ca (goodIn_r _ [2, 3, 4, 5, 6, 7] (by decide +kernel) (by decide +kernel)) (bs_in _ _))) rfl rfl rfl (by decide +kernel) ⟨(Nat.le_of_ble_eq_true rfl), (Nat.le_of_ble_eq_true rfl)⟩) ⟨fun a U g mk q => by obtain ⟨q0, q1, qK, qE⟩ := q; exact ⟨q0, q1, va_K.moved (u := U) (U := U.calling g mk a) (Vm.Alike.refl U.vm) qK, EV.blind g mk a qE⟩, gH_recv hK hT hr_o0 shm_0 rfl, fun U hU hW => ⟨rfl, hU, va_K.moved hW.alike hK, hE.call hS hFc hU hW⟩⟩ rfl rfl hl.1 rfl (lv_room (Nat.le_of_ble_eq_true rfl)) dX12_measure_8 ⟨(Nat.le_of_ble_eq_true rfl), (Nat.le_of_ble_eq_true rfl)⟩) hS (fun q _ h => hFc q h) hFc (fun r2 u t H locs ht hvm hw3 hB _ _ hS => ?_)
  obtain ⟨hT, hF1⟩ := hB
  rw [ht] at hT hF1
  have m4 := (hF1.fld hr_o0 skm_0 (k := 0) (by decide) (by decide)).trans m1
  have hF := hF.more hF1 (by decide)
  try dsimp only at hw3
  obtain ⟨h5, hi6⟩ := hw3
  refine lv_iconst (v := 1) hx hb dX12_measure_11 (by decide) ?_
  have hFc := gA_free hG hA hS
  refine va_calli (va_runV (As := [.int r2, .int 1]) (rest := []) ⟨hx, hb, hml, hown, hts⟩ (s_throwsIf l dC dI kA G H q wN wH wB wC wL wK PI o0 r2 1 hT hr_o0 (rg_t (a := r2.toInt) rfl (by have q8 := ti_all r2; omega) (by have q8 := ti_all r2; omega)) (by omega) (by omega) (by omega) (by omega)) (cwV 2 hts (goodIn_app (goodIn_r _ [12, 13, 14, 7] (by decide +kernel) (by decide +kernel)) (goodIn_ca (goodIn_r _ [11, 1] (by decide +kernel) (by decide +kernel)) (bs_in _ _))) rfl rfl rfl (by decide +kernel) ⟨(Nat.le_of_ble_eq_true rfl), (Nat.le_of_ble_eq_true rfl)⟩) ⟨fun a U g mk q => by obtain ⟨q0, q1, qK, qE⟩ := q; exact ⟨q0, q1, va_K.moved (u := U) (U := U.calling g mk a) (Vm.Alike.refl U.vm) qK, EV.blind g mk a qE⟩, gH_recv hK hT hr_o0 shm_0 rfl, fun U hU hW => ⟨rfl, hU, va_K.moved hW.alike hK, hE.call hS hFc hU hW⟩⟩ rfl rfl hl.1 rfl (lv_room (Nat.le_of_ble_eq_true rfl)) dX12_measure_12 ⟨(Nat.le_of_ble_eq_true rfl), (Nat.le_of_ble_eq_true rfl)⟩) hS (fun q _ h => hFc q h) hFc (fun r7 u t H locs ht hvm hw8 hB _ _ hS => ?_)
  obtain ⟨hT, hF1⟩ := hB
  rw [ht] at hT hF1
  have hF := hF.more hF1 (by decide)
  try dsimp only at hw8
  obtain ⟨h10, hd11⟩ := hw8
  obtain rfl : r2 = r7 := hd11.symm
  refine lv_if_ne (tgt := 56) hx hb dX12_measure_15 (by decide) (fun c12 => ?_) (fun c12 => ?_)
  · have t13 : r2.toInt ≠ 0 := ti_ne c12 rfl (by decide)
    refine lv_iconst (v := 0) hx hb dX12_measure_56 (by decide) ?_
    exact W.zret (v := 0) hx hb hr (by decide) (fun t ht hW => ⟨⟨0, (), rfl, (by exact (rg_t (a := 0) (by decide) (by omega) (by omega))), by (try dsimp only); rw [ht]; exact ⟨hT, hF⟩⟩, hS.F ht⟩) hS.2.2 dX12_measure_57
  · have t14 : r2.toInt = 0 := ti_eq c12 rfl (by decide)
    have t15 : 0 ≤ p0.toInt ∧ p0.toInt ≤ 39 := hi6 c12
    refine lv_aload_n hx hb dX12_measure_18 rfl (lv_at hl 0 rfl) ?_
    refine lv_iload_n hx hb dX12_measure_19 rfl (lv_at hl 2 rfl) ?_
    refine lv_iconst (v := 0) hx hb dX12_measure_20 (by decide) ?_
    refine lv_sipush (v := 2000) hx hb dX12_measure_21 (by decide) ?_
    have hFc := gA_free hG hA hS
    refine va_calli (va_runS (As := [.int p1, .int 0, .int 2000]) (rest := [.ref o0]) ⟨hx, hb, hml, hown, hts⟩ (s_in l dC dI kA G H q wN wH wB wC wL wK PI p1 0 2000 hT (by omega) (by omega) (by omega) (by omega)) (va_cwS 3 hts (goodIn_app (goodIn_r _ [5, 6, 7] (by decide +kernel) (by decide +kernel)) (goodIn_ca (goodIn_r _ [4] (by decide +kernel) (by decide +kernel)) (bs_in _ _))) rfl rfl rfl (by decide +kernel) ⟨(Nat.le_of_ble_eq_true rfl), (Nat.le_of_ble_eq_true rfl)⟩) ⟨fun a U g mk q => by obtain ⟨q0, q1, qK, qE⟩ := q; exact ⟨q0, q1, va_K.moved (u := U) (U := U.calling g mk a) (Vm.Alike.refl U.vm) qK, EV.blind g mk a qE⟩, fun U hU hW => ⟨rfl, hU, va_K.moved hW.alike hK, hE.call hS hFc hU hW⟩⟩ rfl rfl hl.1 rfl (lv_room (Nat.le_of_ble_eq_true rfl)) dX12_measure_24 ⟨(Nat.le_of_ble_eq_true rfl), (Nat.le_of_ble_eq_true rfl)⟩) hS (fun q _ h => hFc q h) hFc (fun r16 u t H locs ht hvm hw17 hB _ _ hS => ?_)
    obtain ⟨hT, hF1⟩ := hB
    rw [ht] at hT hF1
    have hF := hF.more hF1 (by decide)
    try dsimp only at hw17
    obtain ⟨h18, hi19, hi20⟩ := hw17
    refine lv_if_ne (tgt := 34) hx hb dX12_measure_27 (by decide) (fun c21 => ?_) (fun c21 => ?_)
    · have t22 : r16.toInt ≠ 0 := ti_ne c21 rfl (by decide)
      have t23 : (0 : Int32).toInt = 0 := by decide
      have t24 : (2000 : Int32).toInt = 2000 := by decide
      have t25 : (0 : Int32).toInt ≤ p1.toInt ∧ p1.toInt ≤ (2000 : Int32).toInt := hi19 ((bit_of ⟨by omega, by omega⟩).resolve_left c21)
      refine lv_iconst (v := 0) hx hb dX12_measure_34 (by decide) ?_
      refine lv_iconst (v := 2) hx hb dX12_measure_35 (by decide) ?_
      have hFc := gA_free hG hA hS
      refine va_calli (va_runV (As := [.int 0, .int 2]) (rest := []) ⟨hx, hb, hml, hown, hts⟩ (s_throwsIf l dC dI kA G H q wN wH wB wC wL wK PI o0 0 2 hT hr_o0 (rg_t (a := 0) (by decide) (by omega) (by omega)) (by omega) (by omega) (by omega) (by omega)) (cwV 2 hts (goodIn_app (goodIn_r _ [12, 13, 14, 7] (by decide +kernel) (by decide +kernel)) (goodIn_ca (goodIn_r _ [11, 1] (by decide +kernel) (by decide +kernel)) (bs_in _ _))) rfl rfl rfl (by decide +kernel) ⟨(Nat.le_of_ble_eq_true rfl), (Nat.le_of_ble_eq_true rfl)⟩) ⟨fun a U g mk q => by obtain ⟨q0, q1, qK, qE⟩ := q; exact ⟨q0, q1, va_K.moved (u := U) (U := U.calling g mk a) (Vm.Alike.refl U.vm) qK, EV.blind g mk a qE⟩, gH_recv hK hT hr_o0 shm_0 rfl, fun U hU hW => ⟨rfl, hU, va_K.moved hW.alike hK, hE.call hS hFc hU hW⟩⟩ rfl rfl hl.1 rfl (lv_room (Nat.le_of_ble_eq_true rfl)) dX12_measure_36 ⟨(Nat.le_of_ble_eq_true rfl), (Nat.le_of_ble_eq_true rfl)⟩) hS (fun q _ h => hFc q h) hFc (fun r26 u t H locs ht hvm hw27 hB _ _ hS => ?_)
      obtain ⟨hT, hF1⟩ := hB
      rw [ht] at hT hF1
      have hF := hF.more hF1 (by decide)
      try dsimp only at hw27
      obtain ⟨h28, hd29⟩ := hw27
      obtain rfl : (0 : Int32) = r26 := hd29.symm
      refine lv_if_ne (tgt := 56) hx hb dX12_measure_39 (by decide) (fun c30 => absurd c30 (by decide)) (fun c30 => ?_)
      refine lv_aload_n hx hb dX12_measure_42 rfl (lv_at hl 0 rfl) ?_
      refine lv_aload_n hx hb dX12_measure_43 rfl (lv_at hl 0 rfl) ?_
      refine tw_get hx hb hts bF_X12 hown hK hT hr_o0 shm_0 rfl 63 (by decide) (ht_at hts 14 rfl) (fun _ h9 => h9) dX12_measure_44 (fun v9 m31 h9 => ?_)
      obtain ⟨rfl, hg32⟩ := h9 _ rfl
      refine lv_iload_n hx hb dX12_measure_47 rfl (lv_at hl 1 rfl) ?_
      refine tw_zald (i := p0) hx hb hK hT hg32 shm_64 rfl (vin_t (a := p0.toInt) rfl (by omega) (by omega)) dX12_measure_48 (fun v9 m33 h9 => ?_)
      obtain ⟨x34, rfl, gx34, kx34⟩ := h9
      refine lv_iconst (v := 3) hx hb dX12_measure_49 (by decide) ?_
      have hFc := gA_free hG hA hS
      refine va_calli (va_runV (As := [.int x34, .int 3]) (rest := []) ⟨hx, hb, hml, hown, hts⟩ (s_throwsIf l dC dI kA G H q wN wH wB wC wL wK PI o0 x34 3 hT hr_o0 (rg_t (a := x34.toInt) rfl (by have q8 := ti_all x34; omega) (by have q8 := ti_all x34; omega)) (by omega) (by omega) (by omega) (by omega)) (cwV 2 hts (goodIn_app (goodIn_r _ [12, 13, 14, 7] (by decide +kernel) (by decide +kernel)) (goodIn_ca (goodIn_r _ [11, 1] (by decide +kernel) (by decide +kernel)) (bs_in _ _))) rfl rfl rfl (by decide +kernel) ⟨(Nat.le_of_ble_eq_true rfl), (Nat.le_of_ble_eq_true rfl)⟩) ⟨fun a U g mk q => by obtain ⟨q0, q1, qK, qE⟩ := q; exact ⟨q0, q1, va_K.moved (u := U) (U := U.calling g mk a) (Vm.Alike.refl U.vm) qK, EV.blind g mk a qE⟩, gH_recv hK hT hr_o0 shm_0 rfl, fun U hU hW => ⟨rfl, hU, va_K.moved hW.alike hK, hE.call hS hFc hU hW⟩⟩ rfl rfl hl.1 rfl (lv_room (Nat.le_of_ble_eq_true rfl)) dX12_measure_50 ⟨(Nat.le_of_ble_eq_true rfl), (Nat.le_of_ble_eq_true rfl)⟩) hS (fun q _ h => hFc q h) hFc (fun r35 u t H locs ht hvm hw36 hB _ _ hS => ?_)
      obtain ⟨hT, hF1⟩ := hB
      rw [ht] at hT hF1
      have m37 := (el_kept (hF1.arr hg32 skm_64 (by decide))).trans m33
      have hF := hF.more hF1 (by decide)
      try dsimp only at hw36
      obtain ⟨h38, hd39⟩ := hw36
      obtain rfl : x34 = r35 := hd39.symm
      refine lv_if_eq (tgt := 58) hx hb dX12_measure_53 (by decide) (fun c40 => ?_) (fun c40 => ?_)
      · have t41 : x34.toInt = 0 := ti_eq c40 rfl (by decide)
        refine lv_aload_n hx hb dX12_measure_58 rfl (lv_at hl 0 rfl) ?_
        refine tw_get hx hb hts bF_X12 hown hK hT hr_o0 shm_0 rfl 62 (by decide) (ht_at hts 15 rfl) (fun _ h9 => h9) dX12_measure_59 (fun v9 m42 h9 => ?_)
        obtain ⟨rfl, hg43⟩ := h9 _ rfl
        refine lv_iload_n hx hb dX12_measure_62 rfl (lv_at hl 1 rfl) ?_
        refine lv_iconst (v := 1) hx hb dX12_measure_63 (by decide) ?_
        refine tw_zast (i := p0) (x := 1) hx hb hK hT hG hS hg43 shm_63 rfl (vin_t (a := p0.toInt) rfl (by omega) (by omega)) (gi_z (rg_t (a := 1) (by decide) (by omega) (by omega)) (by decide) (by decide)) dX12_measure_64 (fun H locs hT oq m44 oi hS => ?_)
        have hF := hF.ast hg43 skm_63 oq (by decide)
        have m45 := (el_kept (oq _ (gne hg32 hg43 (by decide)))).trans m37
        refine lv_aload_n hx hb dX12_measure_65 rfl (lv_at hl 0 rfl) ?_
        refine tw_get hx hb hts bF_X12 hown hK hT hr_o0 shm_0 rfl 60 (by decide) (ht_at hts 16 rfl) (fun _ h9 => h9) dX12_measure_66 (fun v9 m46 h9 => ?_)
        obtain ⟨rfl, hg47⟩ := h9 _ rfl
        refine lv_iload_n hx hb dX12_measure_69 rfl (lv_at hl 1 rfl) ?_
        refine lv_aload_n hx hb dX12_measure_70 rfl (lv_at hl 0 rfl) ?_
        refine tw_get hx hb hts bF_X12 hown hK hT hr_o0 shm_0 rfl 60 (by decide) (ht_at hts 16 rfl) (fun _ h9 => h9) dX12_measure_71 (fun v9 m48 h9 => ?_)
        obtain ⟨rfl, hg49⟩ := h9 _ rfl
        refine lv_iload_n hx hb dX12_measure_74 rfl (lv_at hl 1 rfl) ?_
        refine tw_iald (i := p0) hx hb hK hT hg47 shm_61 rfl (vin_t (a := p0.toInt) rfl (by omega) (by omega)) dX12_measure_75 (fun v9 m50 h9 => ?_)
        obtain ⟨x51, rfl, gx51, kx51⟩ := h9
        refine lv_iload_n hx hb dX12_measure_76 rfl (lv_at hl 2 rfl) ?_
        refine lv_aload_n hx hb dX12_measure_77 rfl (lv_at hl 0 rfl) ?_
        refine tw_get hx hb hts bF_X12 hown hK hT hr_o0 shm_0 rfl 59 (by decide) (ht_at hts 17 rfl) (fun _ h9 => h9) dX12_measure_78 (fun v9 m52 h9 => ?_)
        obtain ⟨rfl, hg53⟩ := h9 _ rfl
        refine lv_iload_n hx hb dX12_measure_81 rfl (lv_at hl 1 rfl) ?_
        refine tw_iald (i := p0) hx hb hK hT hg53 shm_60 rfl (vin_t (a := p0.toInt) rfl (by omega) (by omega)) dX12_measure_82 (fun v9 m54 h9 => ?_)
        obtain ⟨x55, rfl, gx55, kx55⟩ := h9
        refine lv_isub hx hb dX12_measure_83 ?_
        refine lv_topi (fun x56 ex56 => ?_)
        refine va_mmax hx hb (hml.trans hl.1.symm) hown (ht_at hts 18 rfl) (ht_at hts 19 rfl) (ht_at hts 20 rfl) (ht_at hts 21 rfl) (Nat.le_of_ble_eq_true rfl) (Nat.le_of_ble_eq_true rfl) (Nat.le_of_ble_eq_true rfl) (Nat.le_of_ble_eq_true rfl) dX12_measure_84 ?_
        refine lv_topi (fun x57 ex57 => ?_)
        have t58 : x51.toInt ≤ x57.toInt ∧ x56.toInt ≤ x57.toInt ∧ (x57.toInt = x51.toInt ∨ x57.toInt = x56.toInt) := mx_f ex57 rfl rfl
        refine tw_iast (i := p0) (x := x57) hx hb hK hT hG hS hg47 shm_61 rfl (vin_t (a := p0.toInt) rfl (by omega) (by omega)) (gi_all _) dX12_measure_87 (fun H locs hT oq m59 oi hS => ?_)
        have hF := hF.ast hg47 skm_61 oq (by decide)
        have m60 := (el_kept (oq _ (gne hg32 hg47 (by decide)))).trans m45
        have m61 := (el_kept (oq _ (gne hg53 hg47 (by decide)))).trans m54
        refine lv_aload_n hx hb dX12_measure_88 rfl (lv_at hl 0 rfl) ?_
        refine tw_get hx hb hts bF_X12 hown hK hT hr_o0 shm_0 rfl 61 (by decide) (ht_at hts 22 rfl) (fun _ h9 => h9) dX12_measure_89 (fun v9 m62 h9 => ?_)
        obtain ⟨rfl, hg63⟩ := h9 _ rfl
        refine lv_iload_n hx hb dX12_measure_92 rfl (lv_at hl 1 rfl) ?_
        refine lv_aload_n hx hb dX12_measure_93 rfl (lv_at hl 0 rfl) ?_
        refine tw_get hx hb hts bF_X12 hown hK hT hr_o0 shm_0 rfl 61 (by decide) (ht_at hts 22 rfl) (fun _ h9 => h9) dX12_measure_94 (fun v9 m64 h9 => ?_)
        obtain ⟨rfl, hg65⟩ := h9 _ rfl
        refine lv_iload_n hx hb dX12_measure_97 rfl (lv_at hl 1 rfl) ?_
        refine tw_iald (i := p0) hx hb hK hT hg63 shm_62 rfl (vin_t (a := p0.toInt) rfl (by omega) (by omega)) dX12_measure_98 (fun v9 m66 h9 => ?_)
        obtain ⟨x67, rfl, gx67, kx67⟩ := h9
        refine lv_iload_n hx hb dX12_measure_99 rfl (lv_at hl 2 rfl) ?_
        refine lv_aload_n hx hb dX12_measure_100 rfl (lv_at hl 0 rfl) ?_
        refine tw_get hx hb hts bF_X12 hown hK hT hr_o0 shm_0 rfl 59 (by decide) (ht_at hts 17 rfl) (fun _ h9 => h9) dX12_measure_101 (fun v9 m68 h9 => ?_)
        obtain ⟨rfl, hg69⟩ := h9 _ rfl
        refine lv_iload_n hx hb dX12_measure_104 rfl (lv_at hl 1 rfl) ?_
        refine tw_iald (i := p0) hx hb hK hT hg53 shm_60 rfl (vin_t (a := p0.toInt) rfl (by omega) (by omega)) dX12_measure_105 (fun v9 m70 h9 => ?_)
        obtain ⟨x71, rfl, gx71, kx71⟩ := h9
        obtain rfl : x55 = x71 := (el_same m70 m61 rfl).symm
        refine lv_iadd hx hb dX12_measure_106 ?_
        refine lv_topi (fun x72 ex72 => ?_)
        refine va_mmin hx hb (hml.trans hl.1.symm) hown (ht_at hts 23 rfl) (ht_at hts 24 rfl) (ht_at hts 20 rfl) (ht_at hts 25 rfl) (Nat.le_of_ble_eq_true rfl) (Nat.le_of_ble_eq_true rfl) (Nat.le_of_ble_eq_true rfl) (Nat.le_of_ble_eq_true rfl) dX12_measure_107 ?_
        refine lv_topi (fun x73 ex73 => ?_)
        have t74 : x73.toInt ≤ x67.toInt ∧ x73.toInt ≤ x72.toInt ∧ (x73.toInt = x67.toInt ∨ x73.toInt = x72.toInt) := mn_f ex73 rfl rfl
        refine tw_iast (i := p0) (x := x73) hx hb hK hT hG hS hg63 shm_62 rfl (vin_t (a := p0.toInt) rfl (by omega) (by omega)) (gi_all _) dX12_measure_110 (fun H locs hT oq m75 oi hS => ?_)
        have hF := hF.ast hg63 skm_62 oq (by decide)
        have m76 := (el_kept (oq _ (gne hg32 hg63 (by decide)))).trans m60
        have m77 := (el_kept (oq _ (gne hg53 hg63 (by decide)))).trans m61
        have m78 := (el_kept (oq _ (gne hg47 hg63 (by decide)))).trans m59
        refine lv_aload_n hx hb dX12_measure_111 rfl (lv_at hl 0 rfl) ?_
        refine lv_iload_n hx hb dX12_measure_112 rfl (lv_at hl 1 rfl) ?_
        have hFc := gA_free hG hA hS
        refine va_calli (va_runV (As := [.int p0]) (rest := []) ⟨hx, hb, hml, hown, hts⟩ (s_hasSpan l dC dI kA G H q wN wH wB wC wL wK PI o0 p0 hT hr_o0 (rg_t (a := p0.toInt) rfl (by have q8 := ti_all p0; omega) (by have q8 := ti_all p0; omega)) (by omega) (by omega) (by omega) (by omega)) (cwV 1 hts (goodIn_app (goodIn_r _ [28, 29, 30, 7] (by decide +kernel) (by decide +kernel)) (goodIn_ca (goodIn_r _ [27, 16, 17, 23] (by decide +kernel) (by decide +kernel)) (bs_in _ _))) rfl rfl rfl (by decide +kernel) ⟨(Nat.le_of_ble_eq_true rfl), (Nat.le_of_ble_eq_true rfl)⟩) ⟨fun a U g mk q => by obtain ⟨q0, q1, qK, qE⟩ := q; exact ⟨q0, q1, va_K.moved (u := U) (U := U.calling g mk a) (Vm.Alike.refl U.vm) qK, EV.blind g mk a qE⟩, gH_recv hK hT hr_o0 shm_0 rfl, fun U hU hW => ⟨rfl, hU, va_K.moved hW.alike hK, hE.call hS hFc hU hW⟩⟩ rfl rfl hl.1 rfl (lv_room (Nat.le_of_ble_eq_true rfl)) dX12_measure_113 ⟨(Nat.le_of_ble_eq_true rfl), (Nat.le_of_ble_eq_true rfl)⟩) hS (fun q _ h => hFc q h) hFc (fun r79 u t H locs ht hvm hw80 hB _ _ hS => ?_)
        obtain ⟨hT, hF1⟩ := hB
        rw [ht] at hT hF1
        have m81 := (el_kept (hF1.arr hg32 skm_64 (by decide))).trans m76
        have m82 := (el_kept (hF1.arr hg53 skm_60 (by decide))).trans m77
        have m83 := (el_kept (hF1.arr hg47 skm_61 (by decide))).trans m78
        have m84 := (el_kept (hF1.arr hg63 skm_62 (by decide))).trans m75
        have hF := hF.more hF1 (by decide)
        try dsimp only at hw80
        have h85 := hw80
        exact W.zret (v := r79) hx hb hr (nar_b (rg_t (a := r79.toInt) rfl (by have q8 := ti_all r79; omega) (by have q8 := ti_all r79; omega))) (fun t ht hW => ⟨⟨r79, (), rfl, (by exact (rg_t (a := r79.toInt) rfl (by have q8 := ti_all r79; omega) (by have q8 := ti_all r79; omega))), by (try dsimp only); rw [ht]; exact ⟨hT, hF⟩⟩, hS.F ht⟩) hS.2.2 dX12_measure_116
      · have t86 : x34.toInt ≠ 0 := ti_ne c40 rfl (by decide)
        refine lv_iconst (v := 0) hx hb dX12_measure_56 (by decide) ?_
        exact W.zret (v := 0) hx hb hr (by decide) (fun t ht hW => ⟨⟨0, (), rfl, (by exact (rg_t (a := 0) (by decide) (by omega) (by omega))), by (try dsimp only); rw [ht]; exact ⟨hT, hF⟩⟩, hS.F ht⟩) hS.2.2 dX12_measure_57
    · have t87 : r16.toInt = 0 := ti_eq c21 rfl (by decide)
      have t88 : (0 : Int32).toInt = 0 := by decide
      have t89 : (2000 : Int32).toInt = 2000 := by decide
      have t90 : p1.toInt < (0 : Int32).toInt ∨ (2000 : Int32).toInt < p1.toInt := hi20 c21
      refine lv_iconst (v := 1) hx hb dX12_measure_30 (by decide) ?_
      refine lv_goto (tgt := 35) hx hb dX12_measure_31 (by decide) ?_
      refine lv_iconst (v := 2) hx hb dX12_measure_35 (by decide) ?_
      have hFc := gA_free hG hA hS
      refine va_calli (va_runV (As := [.int 1, .int 2]) (rest := []) ⟨hx, hb, hml, hown, hts⟩ (s_throwsIf l dC dI kA G H q wN wH wB wC wL wK PI o0 1 2 hT hr_o0 (rg_t (a := 1) (by decide) (by omega) (by omega)) (by omega) (by omega) (by omega) (by omega)) (cwV 2 hts (goodIn_app (goodIn_r _ [12, 13, 14, 7] (by decide +kernel) (by decide +kernel)) (goodIn_ca (goodIn_r _ [11, 1] (by decide +kernel) (by decide +kernel)) (bs_in _ _))) rfl rfl rfl (by decide +kernel) ⟨(Nat.le_of_ble_eq_true rfl), (Nat.le_of_ble_eq_true rfl)⟩) ⟨fun a U g mk q => by obtain ⟨q0, q1, qK, qE⟩ := q; exact ⟨q0, q1, va_K.moved (u := U) (U := U.calling g mk a) (Vm.Alike.refl U.vm) qK, EV.blind g mk a qE⟩, gH_recv hK hT hr_o0 shm_0 rfl, fun U hU hW => ⟨rfl, hU, va_K.moved hW.alike hK, hE.call hS hFc hU hW⟩⟩ rfl rfl hl.1 rfl (lv_room (Nat.le_of_ble_eq_true rfl)) dX12_measure_36 ⟨(Nat.le_of_ble_eq_true rfl), (Nat.le_of_ble_eq_true rfl)⟩) hS (fun q _ h => hFc q h) hFc (fun r91 u t H locs ht hvm hw92 hB _ _ hS => ?_)
      obtain ⟨hT, hF1⟩ := hB
      rw [ht] at hT hF1
      have hF := hF.more hF1 (by decide)
      try dsimp only at hw92
      obtain ⟨h93, hd94⟩ := hw92
      obtain rfl : (1 : Int32) = r91 := hd94.symm
      refine lv_if_ne (tgt := 56) hx hb dX12_measure_39 (by decide) (fun c95 => ?_) (fun c95 => absurd c95 (by decide))
      refine lv_iconst (v := 0) hx hb dX12_measure_56 (by decide) ?_
      exact W.zret (v := 0) hx hb hr (by decide) (fun t ht hW => ⟨⟨0, (), rfl, (by exact (rg_t (a := 0) (by decide) (by omega) (by omega))), by (try dsimp only); rw [ht]; exact ⟨hT, hF⟩⟩, hS.F ht⟩) hS.2.2 dX12_measure_57
def w_s_soonest : List Cond := .code yX12_soonest cX12_soonest 9 (some .int) :: ([.fieldLink RX12 194 "SeaLandModel" "thrown" "I", .code yX12_noWork cX12_noWork 2 (some .boolean), .fieldLink RX12 9 "SeaLandModel" "world" "[I", .code yX12_in cX12_in 3 (some .boolean), .methodLink RX12 197 yX12_in, .static yX12_in, .initialized RX12, .methodLink RX12 269 yX12_noWork, .instanceMethod yX12_noWork, .selects RX12 yX12_noWork yX12_noWork, .code yX12_throwsIf cX12_throwsIf 3 (some .boolean), .methodLink RX12 224 yX12_throwsIf, .instanceMethod yX12_throwsIf, .selects RX12 yX12_throwsIf yX12_throwsIf, .code yX12_of cX12_of 3 (some .int), .code yX12_at cX12_at 2 (some .int), .methodLink RX12 214 yX12_at, .static yX12_at, .methodLink RX12 217 yX12_of, .instanceMethod yX12_of, .selects RX12 yX12_of yX12_of, .constant RX12 538 1000000000, .methodLink RX12 207 Lib.Math.min.name, .static Lib.Math.min.name, .initialized "java/lang/Math", .code Lib.Math.min.name Lib.Math.min.code 2 (some .int), .code yX12_hour cX12_hour 1 (some .int), .methodLink RX12 228 yX12_hour, .instanceMethod yX12_hour, .selects RX12 yX12_hour yX12_hour, .code yX12_outside cX12_outside 4 (some .int), .methodLink RX12 247 yX12_outside, .instanceMethod yX12_outside, .selects RX12 yX12_outside yX12_outside] ++ bs)
set_option maxHeartbeats 4000000 in
set_option maxRecDepth 100000 in
theorem s_soonest (l : Launch) (dC : Nat → ClassId) (dI : Nat → Nat → Nat) (kA : Nat → ClassId) (G : gT) (H0 : Heap) (q : Nat → Nat) (wN wH wB wC : Int) (wL wK : Nat → Prop) (PI : Nat → Int → Prop) (o0 : Nat) (p0 : Int32) (p1 : Int32) (p2 : Int32) (hT : gH (dC, dI) kA (SHm q (wP wN wH wB wC wC wL wK) PI) G H0) (hr_o0 : G o0 = some 0) (hgn : 6500000 ≤ wN ∧ wN ≤ 400000000) (hgh : 0 ≤ wH ∧ wH ≤ 40000) (hgb : 0 ≤ wB ∧ wB ≤ 3850000) (hgc : 0 ≤ wC ∧ wC ≤ 30) : Met l yX12_soonest w_s_soonest ({ frames := 2, cells := 0, slots := 0, locals := 45 }) (va_Pc [.ref o0, .int p0, .int p1, .int p2] (fun U => U.heap = H0 ∧ va_K (dC, dI) vwCl (tyl kA) U ∧ EV (gA G H0.size) U U.heap)) (va_Qi (fun (r : Int32) (u : Unit) => (-1 ≤ r.toInt ∧ r.toInt ≤ 999999999)) (fun (_ : Unit) (t : State) => gH (dC, dI) kA (SHm q (wP wN wH wB wC wC wL wK) PI) G t.heap ∧ gF (dC, dI) SKm G ([(0, 0)] : List (Nat × Nat)) H0 t.heap) (gA G H0.size)) 0 0 (gA G H0.size) := by
  refine Met.ofW (cc := cX12_soonest) (maxL := 9) (ret := (some .int)) (by decide) rfl ?_
  intro p e s m args below meth c s₁ B hml hv
  obtain ⟨rfl, hH0, hK, hE⟩ := hv
  have hx := B.exec
  have hb := B.bytes
  have hr := B.returns
  have hts := atoms_spec (ws := w_s_soonest) B.pre
  have hown : s.vm.findClass RX12 = some m.cls := findClass_of_methodNamed B.named
  have hlocks := B.notSynchronized
  subst hH0
  generalize hAe : gA G s.heap.size = A at hE ⊢
  have hA : ∀ q : Nat, s.heap.size ≤ q → A q := fun q h => by rw [← hAe]; exact Or.inr h
  have hG := gA_of hAe
  have hS : va_S A s.heap s.heap [] := va_S.rf
  have hF : gF (dC, dI) SKm G ([(0, 0)] : List (Nat × Nat)) s.heap s.heap := gF.rf
  have hl := lv_entry ([.ref o0, .int p0, .int p1, .int p2]) (n := 9) (Nat.le_of_ble_eq_true rfl)
  rw [lg_entry_eq]
  generalize (lg_sl ([.ref o0, .int p0, .int p1, .int p2]) ++ List.replicate (9 - (lg_sl ([.ref o0, .int p0, .int p1, .int p2])).length) Slot.unset).toArray = ls at hl ⊢
  have hl : lv_has ls 9 [(0, .ref o0), (1, .int p0), (2, .int p1), (3, .int p2)] := hl
  refine lv_aload_n hx hb dX12_soonest_0 rfl (lv_at hl 0 rfl) ?_
  refine lv_iconst (v := 0) hx hb dX12_soonest_1 (by decide) ?_
  refine tw_put (v := .int 0) (ty := .int) hx hb hts bF_X12 tyX12 tyX12_ok nmX12 hown hK hT hG hS hr_o0 shm_0 rfl 0 (by decide) (ht_at hts 0 rfl) (fun _ h9 => h9) rfl (by decide +kernel) rfl rfl (gl_at rfl (gi_all _)) dX12_soonest_2 (fun H locs hT oq m1 oj hS => ?_)
  have hF := hF.put hr_o0 skm_0 oq oj (by decide)
  refine lv_aload_n hx hb dX12_soonest_5 rfl (lv_at hl 0 rfl) ?_
  refine lv_aload_n hx hb dX12_soonest_6 rfl (lv_at hl 0 rfl) ?_
  refine lv_iload_n hx hb dX12_soonest_7 rfl (lv_at hl 1 rfl) ?_
  have hFc := gA_free hG hA hS
  refine va_calli (va_runV (As := [.int p0]) (rest := [.ref o0]) ⟨hx, hb, hml, hown, hts⟩ (s_noWork l dC dI kA G H q wN wH wB wC wL wK PI o0 p0 hT hr_o0 (by omega) (by omega) (by omega) (by omega)) (cwV 1 hts (goodIn_app (goodIn_r _ [8, 9, 10, 7] (by decide +kernel) (by decide +kernel)) (goodIn_ca (goodIn_r _ [2, 3, 4, 5, 6, 7] (by decide +kernel) (by decide +kernel)) (bs_in _ _))) rfl rfl rfl (by decide +kernel) ⟨(Nat.le_of_ble_eq_true rfl), (Nat.le_of_ble_eq_true rfl)⟩) ⟨fun a U g mk q => by obtain ⟨q0, q1, qK, qE⟩ := q; exact ⟨q0, q1, va_K.moved (u := U) (U := U.calling g mk a) (Vm.Alike.refl U.vm) qK, EV.blind g mk a qE⟩, gH_recv hK hT hr_o0 shm_0 rfl, fun U hU hW => ⟨rfl, hU, va_K.moved hW.alike hK, hE.call hS hFc hU hW⟩⟩ rfl rfl hl.1 rfl (lv_room (Nat.le_of_ble_eq_true rfl)) dX12_soonest_8 ⟨(Nat.le_of_ble_eq_true rfl), (Nat.le_of_ble_eq_true rfl)⟩) hS (fun q _ h => hFc q h) hFc (fun r2 u t H locs ht hvm hw3 hB _ _ hS => ?_)
  obtain ⟨hT, hF1⟩ := hB
  rw [ht] at hT hF1
  have m4 := (hF1.fld hr_o0 skm_0 (k := 0) (by decide) (by decide)).trans m1
  have hF := hF.more hF1 (by decide)
  try dsimp only at hw3
  obtain ⟨h5, hi6⟩ := hw3
  refine lv_iconst (v := 1) hx hb dX12_soonest_11 (by decide) ?_
  have hFc := gA_free hG hA hS
  refine va_calli (va_runV (As := [.int r2, .int 1]) (rest := []) ⟨hx, hb, hml, hown, hts⟩ (s_throwsIf l dC dI kA G H q wN wH wB wC wL wK PI o0 r2 1 hT hr_o0 (rg_t (a := r2.toInt) rfl (by have q8 := ti_all r2; omega) (by have q8 := ti_all r2; omega)) (by omega) (by omega) (by omega) (by omega)) (cwV 2 hts (goodIn_app (goodIn_r _ [12, 13, 14, 7] (by decide +kernel) (by decide +kernel)) (goodIn_ca (goodIn_r _ [11, 1] (by decide +kernel) (by decide +kernel)) (bs_in _ _))) rfl rfl rfl (by decide +kernel) ⟨(Nat.le_of_ble_eq_true rfl), (Nat.le_of_ble_eq_true rfl)⟩) ⟨fun a U g mk q => by obtain ⟨q0, q1, qK, qE⟩ := q; exact ⟨q0, q1, va_K.moved (u := U) (U := U.calling g mk a) (Vm.Alike.refl U.vm) qK, EV.blind g mk a qE⟩, gH_recv hK hT hr_o0 shm_0 rfl, fun U hU hW => ⟨rfl, hU, va_K.moved hW.alike hK, hE.call hS hFc hU hW⟩⟩ rfl rfl hl.1 rfl (lv_room (Nat.le_of_ble_eq_true rfl)) dX12_soonest_12 ⟨(Nat.le_of_ble_eq_true rfl), (Nat.le_of_ble_eq_true rfl)⟩) hS (fun q _ h => hFc q h) hFc (fun r7 u t H locs ht hvm hw8 hB _ _ hS => ?_)
  obtain ⟨hT, hF1⟩ := hB
  rw [ht] at hT hF1
  have hF := hF.more hF1 (by decide)
  try dsimp only at hw8
  obtain ⟨h10, hd11⟩ := hw8
  obtain rfl : r2 = r7 := hd11.symm
  refine lv_if_ne (tgt := 77) hx hb dX12_soonest_15 (by decide) (fun c12 => ?_) (fun c12 => ?_)
  · have t13 : r2.toInt ≠ 0 := ti_ne c12 rfl (by decide)
    refine lv_iconst (v := 0) hx hb dX12_soonest_77 (by decide) ?_
    exact W.iret (v := 0) hx hb hr (fun t ht hW => ⟨⟨0, (), rfl, (by exact (rg_t (a := 0) (by decide) (by omega) (by omega))), by (try dsimp only); rw [ht]; exact ⟨hT, hF⟩⟩, hS.F ht⟩) hS.2.2 dX12_soonest_78
  · have t14 : r2.toInt = 0 := ti_eq c12 rfl (by decide)
    have t15 : 0 ≤ p0.toInt ∧ p0.toInt ≤ 29 ∧ p0.toInt < wC := hi6 c12
    refine lv_aload_n hx hb dX12_soonest_18 rfl (lv_at hl 0 rfl) ?_
    refine lv_iload_n hx hb dX12_soonest_19 rfl (lv_at hl 2 rfl) ?_
    refine lv_iconst (v := 1) hx hb dX12_soonest_20 (by decide) ?_
    refine lv_bipush (v := 60) hx hb dX12_soonest_21 (by decide) ?_
    have hFc := gA_free hG hA hS
    refine va_calli (va_runS (As := [.int p1, .int 1, .int 60]) (rest := [.ref o0]) ⟨hx, hb, hml, hown, hts⟩ (s_in l dC dI kA G H q wN wH wB wC wL wK PI p1 1 60 hT (by omega) (by omega) (by omega) (by omega)) (va_cwS 3 hts (goodIn_app (goodIn_r _ [5, 6, 7] (by decide +kernel) (by decide +kernel)) (goodIn_ca (goodIn_r _ [4] (by decide +kernel) (by decide +kernel)) (bs_in _ _))) rfl rfl rfl (by decide +kernel) ⟨(Nat.le_of_ble_eq_true rfl), (Nat.le_of_ble_eq_true rfl)⟩) ⟨fun a U g mk q => by obtain ⟨q0, q1, qK, qE⟩ := q; exact ⟨q0, q1, va_K.moved (u := U) (U := U.calling g mk a) (Vm.Alike.refl U.vm) qK, EV.blind g mk a qE⟩, fun U hU hW => ⟨rfl, hU, va_K.moved hW.alike hK, hE.call hS hFc hU hW⟩⟩ rfl rfl hl.1 rfl (lv_room (Nat.le_of_ble_eq_true rfl)) dX12_soonest_23 ⟨(Nat.le_of_ble_eq_true rfl), (Nat.le_of_ble_eq_true rfl)⟩) hS (fun q _ h => hFc q h) hFc (fun r16 u t H locs ht hvm hw17 hB _ _ hS => ?_)
    obtain ⟨hT, hF1⟩ := hB
    rw [ht] at hT hF1
    have hF := hF.more hF1 (by decide)
    try dsimp only at hw17
    obtain ⟨h18, hi19, hi20⟩ := hw17
    refine lv_if_eq (tgt := 42) hx hb dX12_soonest_26 (by decide) (fun c21 => ?_) (fun c21 => ?_)
    · have t22 : r16.toInt = 0 := ti_eq c21 rfl (by decide)
      have t23 : (1 : Int32).toInt = 1 := by decide
      have t24 : (60 : Int32).toInt = 60 := by decide
      have t25 : p1.toInt < (1 : Int32).toInt ∨ (60 : Int32).toInt < p1.toInt := hi20 c21
      refine lv_iconst (v := 1) hx hb dX12_soonest_42 (by decide) ?_
      refine lv_goto (tgt := 47) hx hb dX12_soonest_43 (by decide) ?_
      refine lv_iconst (v := 2) hx hb dX12_soonest_47 (by decide) ?_
      have hFc := gA_free hG hA hS
      refine va_calli (va_runV (As := [.int 1, .int 2]) (rest := []) ⟨hx, hb, hml, hown, hts⟩ (s_throwsIf l dC dI kA G H q wN wH wB wC wL wK PI o0 1 2 hT hr_o0 (rg_t (a := 1) (by decide) (by omega) (by omega)) (by omega) (by omega) (by omega) (by omega)) (cwV 2 hts (goodIn_app (goodIn_r _ [12, 13, 14, 7] (by decide +kernel) (by decide +kernel)) (goodIn_ca (goodIn_r _ [11, 1] (by decide +kernel) (by decide +kernel)) (bs_in _ _))) rfl rfl rfl (by decide +kernel) ⟨(Nat.le_of_ble_eq_true rfl), (Nat.le_of_ble_eq_true rfl)⟩) ⟨fun a U g mk q => by obtain ⟨q0, q1, qK, qE⟩ := q; exact ⟨q0, q1, va_K.moved (u := U) (U := U.calling g mk a) (Vm.Alike.refl U.vm) qK, EV.blind g mk a qE⟩, gH_recv hK hT hr_o0 shm_0 rfl, fun U hU hW => ⟨rfl, hU, va_K.moved hW.alike hK, hE.call hS hFc hU hW⟩⟩ rfl rfl hl.1 rfl (lv_room (Nat.le_of_ble_eq_true rfl)) dX12_soonest_48 ⟨(Nat.le_of_ble_eq_true rfl), (Nat.le_of_ble_eq_true rfl)⟩) hS (fun q _ h => hFc q h) hFc (fun r26 u t H locs ht hvm hw27 hB _ _ hS => ?_)
      obtain ⟨hT, hF1⟩ := hB
      rw [ht] at hT hF1
      have hF := hF.more hF1 (by decide)
      try dsimp only at hw27
      obtain ⟨h28, hd29⟩ := hw27
      obtain rfl : (1 : Int32) = r26 := hd29.symm
      refine lv_if_ne (tgt := 77) hx hb dX12_soonest_51 (by decide) (fun c30 => ?_) (fun c30 => absurd c30 (by decide))
      refine lv_iconst (v := 0) hx hb dX12_soonest_77 (by decide) ?_
      exact W.iret (v := 0) hx hb hr (fun t ht hW => ⟨⟨0, (), rfl, (by exact (rg_t (a := 0) (by decide) (by omega) (by omega))), by (try dsimp only); rw [ht]; exact ⟨hT, hF⟩⟩, hS.F ht⟩) hS.2.2 dX12_soonest_78
    · have t31 : r16.toInt ≠ 0 := ti_ne c21 rfl (by decide)
      have t32 : (1 : Int32).toInt = 1 := by decide
      have t33 : (60 : Int32).toInt = 60 := by decide
      have t34 : (1 : Int32).toInt ≤ p1.toInt ∧ p1.toInt ≤ (60 : Int32).toInt := hi19 ((bit_of ⟨by omega, by omega⟩).resolve_left c21)
      refine lv_iload_n hx hb dX12_soonest_29 rfl (lv_at hl 3 rfl) ?_
      refine lv_sipush (v := (-1000)) hx hb dX12_soonest_30 (by decide) ?_
      refine lv_sipush (v := 1000) hx hb dX12_soonest_33 (by decide) ?_
      have hFc := gA_free hG hA hS
      refine va_calli (va_runS (As := [.int p2, .int (-1000), .int 1000]) (rest := [.ref o0]) ⟨hx, hb, hml, hown, hts⟩ (s_in l dC dI kA G H q wN wH wB wC wL wK PI p2 (-1000) 1000 hT (by omega) (by omega) (by omega) (by omega)) (va_cwS 3 hts (goodIn_app (goodIn_r _ [5, 6, 7] (by decide +kernel) (by decide +kernel)) (goodIn_ca (goodIn_r _ [4] (by decide +kernel) (by decide +kernel)) (bs_in _ _))) rfl rfl rfl (by decide +kernel) ⟨(Nat.le_of_ble_eq_true rfl), (Nat.le_of_ble_eq_true rfl)⟩) ⟨fun a U g mk q => by obtain ⟨q0, q1, qK, qE⟩ := q; exact ⟨q0, q1, va_K.moved (u := U) (U := U.calling g mk a) (Vm.Alike.refl U.vm) qK, EV.blind g mk a qE⟩, fun U hU hW => ⟨rfl, hU, va_K.moved hW.alike hK, hE.call hS hFc hU hW⟩⟩ rfl rfl hl.1 rfl (lv_room (Nat.le_of_ble_eq_true rfl)) dX12_soonest_36 ⟨(Nat.le_of_ble_eq_true rfl), (Nat.le_of_ble_eq_true rfl)⟩) hS (fun q _ h => hFc q h) hFc (fun r35 u t H locs ht hvm hw36 hB _ _ hS => ?_)
      obtain ⟨hT, hF1⟩ := hB
      rw [ht] at hT hF1
      have hF := hF.more hF1 (by decide)
      try dsimp only at hw36
      obtain ⟨h37, hi38, hi39⟩ := hw36
      refine lv_if_ne (tgt := 46) hx hb dX12_soonest_39 (by decide) (fun c40 => ?_) (fun c40 => ?_)
      · have t41 : r35.toInt ≠ 0 := ti_ne c40 rfl (by decide)
        have t42 : (-1000 : Int32).toInt = (-1000) := by decide
        have t43 : (1000 : Int32).toInt = 1000 := by decide
        have t44 : (-1000 : Int32).toInt ≤ p2.toInt ∧ p2.toInt ≤ (1000 : Int32).toInt := hi38 ((bit_of ⟨by omega, by omega⟩).resolve_left c40)
        refine lv_iconst (v := 0) hx hb dX12_soonest_46 (by decide) ?_
        refine lv_iconst (v := 2) hx hb dX12_soonest_47 (by decide) ?_
        have hFc := gA_free hG hA hS
        refine va_calli (va_runV (As := [.int 0, .int 2]) (rest := []) ⟨hx, hb, hml, hown, hts⟩ (s_throwsIf l dC dI kA G H q wN wH wB wC wL wK PI o0 0 2 hT hr_o0 (rg_t (a := 0) (by decide) (by omega) (by omega)) (by omega) (by omega) (by omega) (by omega)) (cwV 2 hts (goodIn_app (goodIn_r _ [12, 13, 14, 7] (by decide +kernel) (by decide +kernel)) (goodIn_ca (goodIn_r _ [11, 1] (by decide +kernel) (by decide +kernel)) (bs_in _ _))) rfl rfl rfl (by decide +kernel) ⟨(Nat.le_of_ble_eq_true rfl), (Nat.le_of_ble_eq_true rfl)⟩) ⟨fun a U g mk q => by obtain ⟨q0, q1, qK, qE⟩ := q; exact ⟨q0, q1, va_K.moved (u := U) (U := U.calling g mk a) (Vm.Alike.refl U.vm) qK, EV.blind g mk a qE⟩, gH_recv hK hT hr_o0 shm_0 rfl, fun U hU hW => ⟨rfl, hU, va_K.moved hW.alike hK, hE.call hS hFc hU hW⟩⟩ rfl rfl hl.1 rfl (lv_room (Nat.le_of_ble_eq_true rfl)) dX12_soonest_48 ⟨(Nat.le_of_ble_eq_true rfl), (Nat.le_of_ble_eq_true rfl)⟩) hS (fun q _ h => hFc q h) hFc (fun r45 u t H locs ht hvm hw46 hB _ _ hS => ?_)
        obtain ⟨hT, hF1⟩ := hB
        rw [ht] at hT hF1
        have hF := hF.more hF1 (by decide)
        try dsimp only at hw46
        obtain ⟨h47, hd48⟩ := hw46
        obtain rfl : (0 : Int32) = r45 := hd48.symm
        refine lv_if_ne (tgt := 77) hx hb dX12_soonest_51 (by decide) (fun c49 => absurd c49 (by decide)) (fun c49 => ?_)
        refine lv_aload_n hx hb dX12_soonest_54 rfl (lv_at hl 0 rfl) ?_
        refine lv_aload_n hx hb dX12_soonest_55 rfl (lv_at hl 0 rfl) ?_
        refine lv_iload_n hx hb dX12_soonest_56 rfl (lv_at hl 1 rfl) ?_
        refine lv_iconst (v := 0) hx hb dX12_soonest_57 (by decide) ?_
        have hFc := gA_free hG hA hS
        refine va_calli (va_runV (As := [.int p0, .int 0]) (rest := [.ref o0]) ⟨hx, hb, hml, hown, hts⟩ (s_of0 l dC dI kA G H q wN wH wB wC wL wK PI o0 p0 hT hr_o0 (rg_t (a := p0.toInt) rfl (by have q8 := ti_all p0; omega) (by have q8 := ti_all p0; omega)) (by omega) (by omega) (by omega) (by omega)) (cwV 2 hts (goodIn_app (goodIn_r _ [19, 20, 21, 7] (by decide +kernel) (by decide +kernel)) (goodIn_ca (goodIn_r _ [15, 3, 16, 17, 18, 7] (by decide +kernel) (by decide +kernel)) (bs_in _ _))) rfl rfl rfl (by decide +kernel) ⟨(Nat.le_of_ble_eq_true rfl), (Nat.le_of_ble_eq_true rfl)⟩) ⟨fun a U g mk q => by obtain ⟨q0, q1, qK, qE⟩ := q; exact ⟨q0, q1, va_K.moved (u := U) (U := U.calling g mk a) (Vm.Alike.refl U.vm) qK, EV.blind g mk a qE⟩, gH_recv hK hT hr_o0 shm_0 rfl, fun U hU hW => ⟨rfl, hU, va_K.moved hW.alike hK, hE.call hS hFc hU hW⟩⟩ rfl rfl hl.1 rfl (lv_room (Nat.le_of_ble_eq_true rfl)) dX12_soonest_58 ⟨(Nat.le_of_ble_eq_true rfl), (Nat.le_of_ble_eq_true rfl)⟩) hS (fun q _ h => hFc q h) hFc (fun r50 u t H locs ht hvm hw51 hB _ _ hS => ?_)
        obtain ⟨hT, hF1⟩ := hB
        rw [ht] at hT hF1
        have hF := hF.more hF1 (by decide)
        try dsimp only at hw51
        have ⟨ix52, hix52, m53⟩ := hw51
        have hg54 : G (q 1) = some 2 := gx_of hT hr_o0 shm_0 (k := 1) (by decide) rfl
        have m55 := (el_kept (hF1.arr hg54 skm_2 (by decide))).trans m53
        refine lv_iconst (v := 1) hx hb dX12_soonest_61 (by decide) ?_
        refine lv_icmp_eq (tgt := 69) hx hb dX12_soonest_62 (by decide) (fun c56 => ?_) (fun c56 => ?_)
        · have t57 : r50.toInt = 1 := ti_eq c56 rfl (by decide)
          refine lv_iconst (v := 0) hx hb dX12_soonest_69 (by decide) ?_
          refine lv_iconst (v := 3) hx hb dX12_soonest_70 (by decide) ?_
          have hFc := gA_free hG hA hS
          refine va_calli (va_runV (As := [.int 0, .int 3]) (rest := []) ⟨hx, hb, hml, hown, hts⟩ (s_throwsIf l dC dI kA G H q wN wH wB wC wL wK PI o0 0 3 hT hr_o0 (rg_t (a := 0) (by decide) (by omega) (by omega)) (by omega) (by omega) (by omega) (by omega)) (cwV 2 hts (goodIn_app (goodIn_r _ [12, 13, 14, 7] (by decide +kernel) (by decide +kernel)) (goodIn_ca (goodIn_r _ [11, 1] (by decide +kernel) (by decide +kernel)) (bs_in _ _))) rfl rfl rfl (by decide +kernel) ⟨(Nat.le_of_ble_eq_true rfl), (Nat.le_of_ble_eq_true rfl)⟩) ⟨fun a U g mk q => by obtain ⟨q0, q1, qK, qE⟩ := q; exact ⟨q0, q1, va_K.moved (u := U) (U := U.calling g mk a) (Vm.Alike.refl U.vm) qK, EV.blind g mk a qE⟩, gH_recv hK hT hr_o0 shm_0 rfl, fun U hU hW => ⟨rfl, hU, va_K.moved hW.alike hK, hE.call hS hFc hU hW⟩⟩ rfl rfl hl.1 rfl (lv_room (Nat.le_of_ble_eq_true rfl)) dX12_soonest_71 ⟨(Nat.le_of_ble_eq_true rfl), (Nat.le_of_ble_eq_true rfl)⟩) hS (fun q _ h => hFc q h) hFc (fun r58 u t H locs ht hvm hw59 hB _ _ hS => ?_)
          obtain ⟨hT, hF1⟩ := hB
          rw [ht] at hT hF1
          have m60 := (el_kept (hF1.arr hg54 skm_2 (by decide))).trans m55
          have hF := hF.more hF1 (by decide)
          try dsimp only at hw59
          obtain ⟨h61, hd62⟩ := hw59
          obtain rfl : (0 : Int32) = r58 := hd62.symm
          refine lv_if_eq (tgt := 79) hx hb dX12_soonest_74 (by decide) (fun c63 => ?_) (fun c63 => absurd c63 (by decide))
          refine lv_ldcw (v := 1000000000) hx hb hown (ht_at hts 21 rfl) dX12_soonest_79 ?_
          refine lv_istore (lv' := [(4, .int 1000000000), (0, .ref o0), (1, .int p0), (2, .int p1), (3, .int p2)]) hx hb dX12_soonest_82 hl (by decide) rfl (fun ls hl => ?_)
          refine lv_aload_n hx hb dX12_soonest_84 rfl (lv_at hl 1 rfl) ?_
          refine lv_iload_n hx hb dX12_soonest_85 rfl (lv_at hl 2 rfl) ?_
          refine lv_bipush (v := 17) hx hb dX12_soonest_86 (by decide) ?_
          have hFc := gA_free hG hA hS
          refine va_calli (va_runV (As := [.int p0, .int 17]) (rest := []) ⟨hx, hb, hml, hown, hts⟩ (s_of17 l dC dI kA G H q wN wH wB wC wL wK PI o0 p0 hT hr_o0 (rg_t (a := p0.toInt) rfl (by have q8 := ti_all p0; omega) (by have q8 := ti_all p0; omega)) (by omega) (by omega) (by omega) (by omega)) (cwV 2 hts (goodIn_app (goodIn_r _ [19, 20, 21, 7] (by decide +kernel) (by decide +kernel)) (goodIn_ca (goodIn_r _ [15, 3, 16, 17, 18, 7] (by decide +kernel) (by decide +kernel)) (bs_in _ _))) rfl rfl rfl (by decide +kernel) ⟨(Nat.le_of_ble_eq_true rfl), (Nat.le_of_ble_eq_true rfl)⟩) ⟨fun a U g mk q => by obtain ⟨q0, q1, qK, qE⟩ := q; exact ⟨q0, q1, va_K.moved (u := U) (U := U.calling g mk a) (Vm.Alike.refl U.vm) qK, EV.blind g mk a qE⟩, gH_recv hK hT hr_o0 shm_0 rfl, fun U hU hW => ⟨rfl, hU, va_K.moved hW.alike hK, hE.call hS hFc hU hW⟩⟩ rfl rfl hl.1 rfl (lv_room (Nat.le_of_ble_eq_true rfl)) dX12_soonest_88 ⟨(Nat.le_of_ble_eq_true rfl), (Nat.le_of_ble_eq_true rfl)⟩) hS (fun q _ h => hFc q h) hFc (fun r64 u t H locs ht hvm hw65 hB _ _ hS => ?_)
          obtain ⟨hT, hF1⟩ := hB
          rw [ht] at hT hF1
          have m66 := (el_kept (hF1.arr hg54 skm_2 (by decide))).trans m60
          have hF := hF.more hF1 (by decide)
          try dsimp only at hw65
          obtain ⟨h67, ⟨ix68, hix68, m69⟩⟩ := hw65
          have m70 := (el_kept (hF1.arr hg54 skm_2 (by decide))).trans m69
          refine lv_istore (lv' := [(5, .int r64), (4, .int 1000000000), (0, .ref o0), (1, .int p0), (2, .int p1), (3, .int p2)]) hx hb dX12_soonest_91 hl (by decide) rfl (fun ls hl => ?_)
          refine lv_iconst (v := 1) hx hb dX12_soonest_93 (by decide) ?_
          refine lv_istore (lv' := [(6, .int 1), (5, .int r64), (4, .int 1000000000), (0, .ref o0), (1, .int p0), (2, .int p1), (3, .int p2)]) hx hb dX12_soonest_94 hl (by decide) rfl (fun ls hl => ?_)
          have jn1108 : ∀ (z1102 : Int32), ∀ (z1104 : Int32), ((0 ≤ z1102.toInt ∧ z1102.toInt ≤ 60) ∧ (1 ≤ z1104.toInt ∧ z1104.toInt ≤ 1000000000)) → ∀ (H : Heap) (locs : List Loc), gH (dC, dI) kA (SHm q (wP wN wH wB wC wC wL wK) PI) G H → gF (dC, dI) SKm G ([(0, 0)] : List (Nat × Nat)) s.heap H → va_S A s.heap H locs → el H (q 1) ix52.toNatClampNeg = some (.int r50) → el H (q 1) ix68.toNatClampNeg = some (.int r64) → ∀ ls : Array Slot, lv_has ls 9 [(6, .int (nI 49)), (5, .int z1102), (4, .int z1104), (0, .ref o0), (1, .int p0), (2, .int p1), (3, .int p2)] → W p l e (headSpec w_s_soonest ({ frames := 2, cells := 0, slots := 0, locals := 45 })).room s m #[.ref o0, .int p0, .int p1, .int p2] below meth c H locs 0 0 (MQ below (va_Qi (fun (r : Int32) (u : Unit) => (-1 ≤ r.toInt ∧ r.toInt ≤ 999999999)) (fun (_ : Unit) (t : State) => gH (dC, dI) kA (SHm q (wP wN wH wB wC wC wL wK) PI) G t.heap ∧ gF (dC, dI) SKm G ([(0, 0)] : List (Nat × Nat)) s.heap t.heap) A) #[.ref o0, .int p0, .int p1, .int p2] s 0 0 A) (F0 m 201 ls []) := by
            intro z1102 z1104 ⟨h1103, h1105⟩ H locs hT hF hS m1106 m1107 ls hl
            refine lv_iload hx hb dX12_soonest_201 (lv_at hl 2 rfl) ?_
            refine lv_ldcw (v := 1000000000) hx hb hown (ht_at hts 21 rfl) dX12_soonest_203 ?_
            refine lv_icmp_ne (tgt := 213) hx hb dX12_soonest_206 (by decide) (fun c1109 => ?_) (fun c1109 => ?_)
            · have t1110 : z1104.toInt ≠ 1000000000 := ti_ne c1109 rfl (by decide)
              refine lv_iload hx hb dX12_soonest_213 (lv_at hl 2 rfl) ?_
              exact W.iret (v := z1104) hx hb hr (fun t ht hW => ⟨⟨z1104, (), rfl, (by exact (rg_t (a := z1104.toInt) rfl (by have q8 := ti_all z1104; omega) (by have q8 := ti_all z1104; omega))), by (try dsimp only); rw [ht]; exact ⟨hT, hF⟩⟩, hS.F ht⟩) hS.2.2 dX12_soonest_215
            · have t1111 : z1104.toInt = 1000000000 := ti_eq c1109 rfl (by decide)
              refine lv_iconst (v := (-1)) hx hb dX12_soonest_209 (by decide) ?_
              refine lv_goto (tgt := 215) hx hb dX12_soonest_210 (by decide) ?_
              exact W.iret (v := (-1)) hx hb hr (fun t ht hW => ⟨⟨(-1), (), rfl, (by exact (rg_t (a := (-1)) (by decide) (by omega) (by omega))), by (try dsimp only); rw [ht]; exact ⟨hT, hF⟩⟩, hS.F ht⟩) hS.2.2 dX12_soonest_215
          have key1112 : ∀ (n1112 i71 : Nat), i71 + n1112 = 49 → 1 ≤ i71 → ∀ (z586 : Int32), ∀ (z588 : Int32), ((0 ≤ z586.toInt ∧ z586.toInt ≤ 60) ∧ (1 ≤ z588.toInt ∧ z588.toInt ≤ 1000000000)) → ∀ (H : Heap) (locs : List Loc), gH (dC, dI) kA (SHm q (wP wN wH wB wC wC wL wK) PI) G H → gF (dC, dI) SKm G ([(0, 0)] : List (Nat × Nat)) s.heap H → va_S A s.heap H locs → el H (q 1) ix52.toNatClampNeg = some (.int r50) → el H (q 1) ix68.toNatClampNeg = some (.int r64) → ∀ ls : Array Slot, lv_has ls 9 [(6, .int (nI i71)), (5, .int z586), (4, .int z588), (0, .ref o0), (1, .int p0), (2, .int p1), (3, .int p2)] → W p l e (headSpec w_s_soonest ({ frames := 2, cells := 0, slots := 0, locals := 45 })).room s m #[.ref o0, .int p0, .int p1, .int p2] below meth c H locs 0 0 (MQ below (va_Qi (fun (r : Int32) (u : Unit) => (-1 ≤ r.toInt ∧ r.toInt ≤ 999999999)) (fun (_ : Unit) (t : State) => gH (dC, dI) kA (SHm q (wP wN wH wB wC wC wL wK) PI) G t.heap ∧ gF (dC, dI) SKm G ([(0, 0)] : List (Nat × Nat)) s.heap t.heap) A) #[.ref o0, .int p0, .int p1, .int p2] s 0 0 A) (F0 m 96 ls []) := by
            intro n1112
            induction n1112 with
            | zero =>
              intro i71 hn1112 hlo1113 z586 z588 ⟨h587, h589⟩ H locs hT hF hS m590 m591 ls hl
              obtain rfl : 49 = i71 := by omega
              refine lv_iload hx hb dX12_soonest_96 (lv_at hl 0 rfl) ?_
              refine lv_bipush (v := 48) hx hb dX12_soonest_98 (by decide) ?_
              refine lv_icmp_gt (tgt := 201) hx hb dX12_soonest_100 (by decide) (fun c1114 => ?_) (fun c1114 => (by exfalso; have q9 : ((49 : Nat) : Int) ≤ 48 := ti_nlt c1114 (by decide) (nI_toInt (by omega)); omega))
              have t1115 : 48 < ((49 : Nat) : Int) := ti_lt c1114 (by decide) (nI_toInt (by omega))
              exact jn1108 z586 z588 ⟨(rg_t (a := z586.toInt) rfl (by have q8 := ti_all z586; omega) (by have q8 := ti_all z586; omega)), (rg_t (a := z588.toInt) rfl (by have q8 := ti_all z588; omega) (by have q8 := ti_all z588; omega))⟩ _ _ hT hF hS m590 m591 ls (lv_sub hl [0, 1, 2, 3, 4, 5, 6] rfl)
            | succ n1112 ih1112 =>
              intro i71 hn1112 hlo1113 z586 z588 ⟨h587, h589⟩ H locs hT hF hS m590 m591 ls hl
              have hlt1115 : i71 < 49 := by omega
              refine lv_iload hx hb dX12_soonest_96 (lv_at hl 0 rfl) ?_
              refine lv_bipush (v := 48) hx hb dX12_soonest_98 (by decide) ?_
              refine lv_icmp_gt (tgt := 201) hx hb dX12_soonest_100 (by decide) (fun c1116 => (by exfalso; have q9 : 48 < ((i71 : Nat) : Int) := ti_lt c1116 (by decide) (nI_toInt (by omega)); omega)) (fun c1116 => ?_)
              have t1117 : ((i71 : Nat) : Int) ≤ 48 := ti_nlt c1116 (by decide) (nI_toInt (by omega))
              refine lv_iload hx hb dX12_soonest_103 (lv_at hl 1 rfl) ?_
              refine lv_istore (lv' := [(7, .int z586), (6, .int (nI i71)), (5, .int z586), (4, .int z588), (0, .ref o0), (1, .int p0), (2, .int p1), (3, .int p2)]) hx hb dX12_soonest_105 hl (by decide) rfl (fun ls hl => ?_)
              refine lv_iload hx hb dX12_soonest_107 (lv_at hl 1 rfl) ?_
              refine lv_istore (lv' := [(8, .int (nI i71)), (7, .int z586), (6, .int (nI i71)), (5, .int z586), (4, .int z588), (0, .ref o0), (1, .int p0), (2, .int p1), (3, .int p2)]) hx hb dX12_soonest_109 hl (by decide) rfl (fun ls hl => ?_)
              have jn1320 : ∀ (z1312 : Int32), ∀ (z1314 : Int32), ∀ (z1316 : Int32), ((1 ≤ z1312.toInt ∧ z1312.toInt ≤ 201) ∧ (-14 ≤ z1314.toInt ∧ z1314.toInt ≤ 60) ∧ (1 ≤ z1316.toInt ∧ z1316.toInt ≤ 1000000000)) → ∀ (H : Heap) (locs : List Loc), gH (dC, dI) kA (SHm q (wP wN wH wB wC wC wL wK) PI) G H → gF (dC, dI) SKm G ([(0, 0)] : List (Nat × Nat)) s.heap H → va_S A s.heap H locs → el H (q 1) ix52.toNatClampNeg = some (.int r50) → el H (q 1) ix68.toNatClampNeg = some (.int r64) → ∀ ls : Array Slot, lv_has ls 9 [(8, .int z1312), (7, .int z1314), (6, .int (nI i71)), (5, .int z586), (4, .int z1316), (0, .ref o0), (1, .int p0), (2, .int p1), (3, .int p2)] → W p l e (headSpec w_s_soonest ({ frames := 2, cells := 0, slots := 0, locals := 45 })).room s m #[.ref o0, .int p0, .int p1, .int p2] below meth c H locs 0 0 (MQ below (va_Qi (fun (r : Int32) (u : Unit) => (-1 ≤ r.toInt ∧ r.toInt ≤ 999999999)) (fun (_ : Unit) (t : State) => gH (dC, dI) kA (SHm q (wP wN wH wB wC wC wL wK) PI) G t.heap ∧ gF (dC, dI) SKm G ([(0, 0)] : List (Nat × Nat)) s.heap t.heap) A) #[.ref o0, .int p0, .int p1, .int p2] s 0 0 A) (F0 m 184 ls []) := by
                intro z1312 z1314 z1316 ⟨h1313, h1315, h1317⟩ H locs hT hF hS m1318 m1319 ls hl
                refine lv_bipush (v := 60) hx hb dX12_soonest_184 (by decide) ?_
                refine lv_iload hx hb dX12_soonest_186 (lv_at hl 3 rfl) ?_
                refine lv_iconst (v := 2) hx hb dX12_soonest_188 (by decide) ?_
                refine lv_iadd hx hb dX12_soonest_189 ?_
                refine lv_topi (fun x1321 ex1321 => ?_)
                have t1322 : x1321.toInt = z586.toInt + 2 := ti_add ex1321 rfl (by decide) (by omega) (by omega)
                refine va_mmin hx hb (hml.trans hl.1.symm) hown (ht_at hts 22 rfl) (ht_at hts 23 rfl) (ht_at hts 24 rfl) (ht_at hts 25 rfl) (Nat.le_of_ble_eq_true rfl) (Nat.le_of_ble_eq_true rfl) (Nat.le_of_ble_eq_true rfl) (Nat.le_of_ble_eq_true rfl) dX12_soonest_190 ?_
                refine lv_topi (fun x1323 ex1323 => ?_)
                have t1324 : x1323.toInt ≤ 60 ∧ x1323.toInt ≤ x1321.toInt ∧ (x1323.toInt = 60 ∨ x1323.toInt = x1321.toInt) := mn_f ex1323 (by decide) rfl
                refine lv_istore (lv' := [(5, .int x1323), (8, .int z1312), (7, .int z1314), (6, .int (nI i71)), (4, .int z1316), (0, .ref o0), (1, .int p0), (2, .int p1), (3, .int p2)]) hx hb dX12_soonest_193 hl (by decide) rfl (fun ls hl => ?_)
                refine lv_iinc (v := nI (i71 + 1)) (lv' := [(6, .int (nI (i71 + 1))), (5, .int x1323), (8, .int z1312), (7, .int z1314), (4, .int z1316), (0, .ref o0), (1, .int p0), (2, .int p1), (3, .int p2)]) hx hb dX12_soonest_195 hl (k := 3) rfl (nI_add i71 1) (by decide) rfl (fun ls hl => ?_)
                refine lv_goto (tgt := 96) hx hb dX12_soonest_198 (by decide) ?_
                exact ih1112 (i71 + 1) (by omega) (by omega) x1323 z1316 ⟨(rg_t (a := x1323.toInt) rfl (by have q8 := ti_all x1323; omega) (by have q8 := ti_all x1323; omega)), (rg_t (a := z1316.toInt) rfl (by have q8 := ti_all z1316; omega) (by have q8 := ti_all z1316; omega))⟩ _ _ hT hF hS m1318 m1319 ls (lv_sub hl [0, 1, 4, 5, 6, 7, 8] rfl)
              have key1325 : ∀ (n1325 i1118 : Nat), i1118 + n1325 = 201 → i71 ≤ i1118 → ∀ (z1218 : Int32), ∀ (z1220 : Int32), ((-14 ≤ z1218.toInt ∧ z1218.toInt ≤ 60) ∧ (1 ≤ z1220.toInt ∧ z1220.toInt ≤ 1000000000)) → ∀ (H : Heap) (locs : List Loc), gH (dC, dI) kA (SHm q (wP wN wH wB wC wC wL wK) PI) G H → gF (dC, dI) SKm G ([(0, 0)] : List (Nat × Nat)) s.heap H → va_S A s.heap H locs → el H (q 1) ix52.toNatClampNeg = some (.int r50) → el H (q 1) ix68.toNatClampNeg = some (.int r64) → ∀ ls : Array Slot, lv_has ls 9 [(8, .int (nI i1118)), (7, .int z1218), (6, .int (nI i71)), (5, .int z586), (4, .int z1220), (0, .ref o0), (1, .int p0), (2, .int p1), (3, .int p2)] → W p l e (headSpec w_s_soonest ({ frames := 2, cells := 0, slots := 0, locals := 45 })).room s m #[.ref o0, .int p0, .int p1, .int p2] below meth c H locs 0 0 (MQ below (va_Qi (fun (r : Int32) (u : Unit) => (-1 ≤ r.toInt ∧ r.toInt ≤ 999999999)) (fun (_ : Unit) (t : State) => gH (dC, dI) kA (SHm q (wP wN wH wB wC wC wL wK) PI) G t.heap ∧ gF (dC, dI) SKm G ([(0, 0)] : List (Nat × Nat)) s.heap t.heap) A) #[.ref o0, .int p0, .int p1, .int p2] s 0 0 A) (F0 m 111 ls []) := by
                intro n1325
                induction n1325 with
                | zero =>
                  intro i1118 hn1325 hlo1326 z1218 z1220 ⟨h1219, h1221⟩ H locs hT hF hS m1222 m1223 ls hl
                  obtain rfl : 201 = i1118 := by omega
                  refine lv_iload hx hb dX12_soonest_111 (lv_at hl 0 rfl) ?_
                  refine lv_sipush (v := 200) hx hb dX12_soonest_113 (by decide) ?_
                  refine lv_icmp_gt (tgt := 184) hx hb dX12_soonest_116 (by decide) (fun c1327 => ?_) (fun c1327 => (by exfalso; have q9 : ((201 : Nat) : Int) ≤ 200 := ti_nlt c1327 (by decide) (nI_toInt (by omega)); omega))
                  have t1328 : 200 < ((201 : Nat) : Int) := ti_lt c1327 (by decide) (nI_toInt (by omega))
                  exact jn1320 (nI 201) z1218 z1220 ⟨(rg_t (a := ((201 : Nat) : Int)) (nI_toInt (by omega)) (by omega) (by omega)), (rg_t (a := z1218.toInt) rfl (by have q8 := ti_all z1218; omega) (by have q8 := ti_all z1218; omega)), (rg_t (a := z1220.toInt) rfl (by have q8 := ti_all z1220; omega) (by have q8 := ti_all z1220; omega))⟩ _ _ hT hF hS m1222 m1223 ls (lv_sub hl [0, 1, 2, 3, 4, 5, 6, 7, 8] rfl)
                | succ n1325 ih1325 =>
                  intro i1118 hn1325 hlo1326 z1218 z1220 ⟨h1219, h1221⟩ H locs hT hF hS m1222 m1223 ls hl
                  have hlt1328 : i1118 < 201 := by omega
                  refine lv_iload hx hb dX12_soonest_111 (lv_at hl 0 rfl) ?_
                  refine lv_sipush (v := 200) hx hb dX12_soonest_113 (by decide) ?_
                  refine lv_icmp_gt (tgt := 184) hx hb dX12_soonest_116 (by decide) (fun c1329 => (by exfalso; have q9 : 200 < ((i1118 : Nat) : Int) := ti_lt c1329 (by decide) (nI_toInt (by omega)); omega)) (fun c1329 => ?_)
                  have t1330 : ((i1118 : Nat) : Int) ≤ 200 := ti_nlt c1329 (by decide) (nI_toInt (by omega))
                  refine lv_iload hx hb dX12_soonest_119 (lv_at hl 1 rfl) ?_
                  refine lv_if_le (tgt := 184) hx hb dX12_soonest_121 (by decide) (fun c1331 => ?_) (fun c1331 => ?_)
                  · have t1332 : z1218.toInt ≤ 0 := ti_le c1331 rfl (by decide)
                    exact jn1320 (nI i1118) z1218 z1220 ⟨(rg_t (a := ((i1118 : Nat) : Int)) (nI_toInt (by omega)) (by omega) (by omega)), (rg_t (a := z1218.toInt) rfl (by have q8 := ti_all z1218; omega) (by have q8 := ti_all z1218; omega)), (rg_t (a := z1220.toInt) rfl (by have q8 := ti_all z1220; omega) (by have q8 := ti_all z1220; omega))⟩ _ _ hT hF hS m1222 m1223 ls (lv_sub hl [0, 1, 2, 3, 4, 5, 6, 7, 8] rfl)
                  · have t1333 : 0 < z1218.toInt := ti_nle c1331 rfl (by decide)
                    refine lv_aload_n hx hb dX12_soonest_124 rfl (lv_at hl 5 rfl) ?_
                    refine lv_aload_n hx hb dX12_soonest_125 rfl (lv_at hl 5 rfl) ?_
                    have hFc := gA_free hG hA hS
                    refine va_calli (va_runV (As := []) (rest := [.ref o0]) ⟨hx, hb, hml, hown, hts⟩ (s_hour l dC dI kA G H q wN wH wB wC wL wK PI o0 hT hr_o0 (by omega) (by omega) (by omega) (by omega)) (cwV 0 hts (goodIn_app (goodIn_r _ [28, 29, 30, 7] (by decide +kernel) (by decide +kernel)) (goodIn_ca (goodIn_r _ [27, 3] (by decide +kernel) (by decide +kernel)) (bs_in _ _))) rfl rfl rfl (by decide +kernel) ⟨(Nat.le_of_ble_eq_true rfl), (Nat.le_of_ble_eq_true rfl)⟩) ⟨fun a U g mk q => by obtain ⟨q0, q1, qK, qE⟩ := q; exact ⟨q0, q1, va_K.moved (u := U) (U := U.calling g mk a) (Vm.Alike.refl U.vm) qK, EV.blind g mk a qE⟩, gH_recv hK hT hr_o0 shm_0 rfl, fun U hU hW => ⟨rfl, hU, va_K.moved hW.alike hK, hE.call hS hFc hU hW⟩⟩ rfl rfl hl.1 rfl (lv_room (Nat.le_of_ble_eq_true rfl)) dX12_soonest_126 ⟨(Nat.le_of_ble_eq_true rfl), (Nat.le_of_ble_eq_true rfl)⟩) hS (fun q _ h => hFc q h) hFc (fun r1334 u t H locs ht hvm hw1335 hB _ _ hS => ?_)
                    obtain ⟨hT, hF1⟩ := hB
                    rw [ht] at hT hF1
                    have m1336 := (el_kept (hF1.arr hg54 skm_2 (by decide))).trans m1222
                    have m1337 := (el_kept (hF1.arr hg54 skm_2 (by decide))).trans m1223
                    have hF := hF.more hF1 (by decide)
                    try dsimp only at hw1335
                    have h1338 := hw1335
                    refine lv_iload hx hb dX12_soonest_129 (lv_at hl 0 rfl) ?_
                    refine lv_iadd hx hb dX12_soonest_131 ?_
                    refine lv_topi (fun x1339 ex1339 => ?_)
                    have t1340 : x1339.toInt = r1334.toInt + ((i1118 : Nat) : Int) := ti_add ex1339 rfl (nI_toInt (by omega)) (by omega) (by omega)
                    have hFc := gA_free hG hA hS
                    refine va_calli (va_runV (As := [.int x1339]) (rest := []) ⟨hx, hb, hml, hown, hts⟩ (s_outside l dC dI kA G H q wN wH wB wC wL wK PI o0 x1339 hT hr_o0 (rg_t (a := x1339.toInt) rfl (by have q8 := ti_all x1339; omega) (by have q8 := ti_all x1339; omega)) (by omega) (by omega) (by omega) (by omega)) (cwV 1 hts (goodIn_app (goodIn_r _ [32, 33, 34, 7] (by decide +kernel) (by decide +kernel)) (goodIn_ca (goodIn_r _ [31, 3, 4, 5, 6, 7] (by decide +kernel) (by decide +kernel)) (bs_in _ _))) rfl rfl rfl (by decide +kernel) ⟨(Nat.le_of_ble_eq_true rfl), (Nat.le_of_ble_eq_true rfl)⟩) ⟨fun a U g mk q => by obtain ⟨q0, q1, qK, qE⟩ := q; exact ⟨q0, q1, va_K.moved (u := U) (U := U.calling g mk a) (Vm.Alike.refl U.vm) qK, EV.blind g mk a qE⟩, gH_recv hK hT hr_o0 shm_0 rfl, fun U hU hW => ⟨rfl, hU, va_K.moved hW.alike hK, hE.call hS hFc hU hW⟩⟩ rfl rfl hl.1 rfl (lv_room (Nat.le_of_ble_eq_true rfl)) dX12_soonest_132 ⟨(Nat.le_of_ble_eq_true rfl), (Nat.le_of_ble_eq_true rfl)⟩) hS (fun q _ h => hFc q h) hFc (fun r1341 u t H locs ht hvm hw1342 hB _ _ hS => ?_)
                    obtain ⟨hT, hF1⟩ := hB
                    rw [ht] at hT hF1
                    have m1343 := (el_kept (hF1.arr hg54 skm_2 (by decide))).trans m1336
                    have m1344 := (el_kept (hF1.arr hg54 skm_2 (by decide))).trans m1337
                    have hF := hF.more hF1 (by decide)
                    try dsimp only at hw1342
                    refine lv_iload_n hx hb dX12_soonest_135 rfl (lv_at hl 8 rfl) ?_
                    refine lv_icmp_gt (tgt := 148) hx hb dX12_soonest_136 (by decide) (fun c1345 => ?_) (fun c1345 => ?_)
                    · have t1346 : p2.toInt < r1341.toInt := ti_lt c1345 rfl rfl
                      refine lv_bipush (v := 60) hx hb dX12_soonest_148 (by decide) ?_
                      refine lv_iload hx hb dX12_soonest_150 (lv_at hl 1 rfl) ?_
                      refine lv_iconst (v := 2) hx hb dX12_soonest_152 (by decide) ?_
                      refine lv_iadd hx hb dX12_soonest_153 ?_
                      refine lv_topi (fun x1347 ex1347 => ?_)
                      have t1348 : x1347.toInt = z1218.toInt + 2 := ti_add ex1347 rfl (by decide) (by omega) (by omega)
                      refine va_mmin hx hb (hml.trans hl.1.symm) hown (ht_at hts 22 rfl) (ht_at hts 23 rfl) (ht_at hts 24 rfl) (ht_at hts 25 rfl) (Nat.le_of_ble_eq_true rfl) (Nat.le_of_ble_eq_true rfl) (Nat.le_of_ble_eq_true rfl) (Nat.le_of_ble_eq_true rfl) dX12_soonest_154 ?_
                      refine lv_topi (fun x1349 ex1349 => ?_)
                      have t1350 : x1349.toInt ≤ 60 ∧ x1349.toInt ≤ x1347.toInt ∧ (x1349.toInt = 60 ∨ x1349.toInt = x1347.toInt) := mn_f ex1349 (by decide) rfl
                      refine lv_istore (lv' := [(7, .int x1349), (8, .int (nI i1118)), (6, .int (nI i71)), (5, .int z586), (4, .int z1220), (0, .ref o0), (1, .int p0), (2, .int p1), (3, .int p2)]) hx hb dX12_soonest_157 hl (by decide) rfl (fun ls hl => ?_)
                      refine lv_iload hx hb dX12_soonest_159 (lv_at hl 0 rfl) ?_
                      refine lv_if_gt (tgt := 178) hx hb dX12_soonest_161 (by decide) (fun c1351 => ?_) (fun c1351 => (by exfalso; have q9 : x1349.toInt ≤ 0 := ti_nlt c1351 (by decide) rfl; omega))
                      have t1352 : 0 < x1349.toInt := ti_lt c1351 (by decide) rfl
                      refine lv_iinc (v := nI (i1118 + 1)) (lv' := [(8, .int (nI (i1118 + 1))), (7, .int x1349), (6, .int (nI i71)), (5, .int z586), (4, .int z1220), (0, .ref o0), (1, .int p0), (2, .int p1), (3, .int p2)]) hx hb dX12_soonest_178 hl (k := 1) rfl (nI_add i1118 1) (by decide) rfl (fun ls hl => ?_)
                      refine lv_goto (tgt := 111) hx hb dX12_soonest_181 (by decide) ?_
                      exact ih1325 (i1118 + 1) (by omega) (by omega) x1349 z1220 ⟨(rg_t (a := x1349.toInt) rfl (by have q8 := ti_all x1349; omega) (by have q8 := ti_all x1349; omega)), (rg_t (a := z1220.toInt) rfl (by have q8 := ti_all z1220; omega) (by have q8 := ti_all z1220; omega))⟩ _ _ hT hF hS m1343 m1344 ls (lv_sub hl [0, 1, 2, 3, 4, 5, 6, 7, 8] rfl)
                    · have t1353 : r1341.toInt ≤ p2.toInt := ti_nlt c1345 rfl rfl
                      refine lv_iload hx hb dX12_soonest_139 (lv_at hl 1 rfl) ?_
                      refine lv_iload_n hx hb dX12_soonest_141 rfl (lv_at hl 7 rfl) ?_
                      refine lv_iconst (v := 4) hx hb dX12_soonest_142 (by decide) ?_
                      refine lv_idiv hx hb dX12_soonest_143 (by decide) ?_
                      refine lv_topi (fun x1354 ex1354 => ?_)
                      have t1355 : x1354.toInt = p1.toInt / 4 := ti_div ex1354 rfl (by decide) (by omega) (by omega)
                      refine lv_isub hx hb dX12_soonest_144 ?_
                      refine lv_topi (fun x1356 ex1356 => ?_)
                      have t1357 : x1356.toInt = z1218.toInt - x1354.toInt := ti_sub ex1356 rfl rfl (by omega) (by omega)
                      refine lv_goto (tgt := 157) hx hb dX12_soonest_145 (by decide) ?_
                      refine lv_istore (lv' := [(7, .int x1356), (8, .int (nI i1118)), (6, .int (nI i71)), (5, .int z586), (4, .int z1220), (0, .ref o0), (1, .int p0), (2, .int p1), (3, .int p2)]) hx hb dX12_soonest_157 hl (by decide) rfl (fun ls hl => ?_)
                      refine lv_iload hx hb dX12_soonest_159 (lv_at hl 0 rfl) ?_
                      refine lv_if_gt (tgt := 178) hx hb dX12_soonest_161 (by decide) (fun c1358 => ?_) (fun c1358 => ?_)
                      · have t1359 : 0 < x1356.toInt := ti_lt c1358 (by decide) rfl
                        refine lv_iinc (v := nI (i1118 + 1)) (lv' := [(8, .int (nI (i1118 + 1))), (7, .int x1356), (6, .int (nI i71)), (5, .int z586), (4, .int z1220), (0, .ref o0), (1, .int p0), (2, .int p1), (3, .int p2)]) hx hb dX12_soonest_178 hl (k := 1) rfl (nI_add i1118 1) (by decide) rfl (fun ls hl => ?_)
                        refine lv_goto (tgt := 111) hx hb dX12_soonest_181 (by decide) ?_
                        exact ih1325 (i1118 + 1) (by omega) (by omega) x1356 z1220 ⟨(rg_t (a := x1356.toInt) rfl (by have q8 := ti_all x1356; omega) (by have q8 := ti_all x1356; omega)), (rg_t (a := z1220.toInt) rfl (by have q8 := ti_all z1220; omega) (by have q8 := ti_all z1220; omega))⟩ _ _ hT hF hS m1343 m1344 ls (lv_sub hl [0, 1, 2, 3, 4, 5, 6, 7, 8] rfl)
                      · have t1360 : x1356.toInt ≤ 0 := ti_nlt c1358 (by decide) rfl
                        refine lv_iload hx hb dX12_soonest_164 (lv_at hl 4 rfl) ?_
                        refine lv_aload_n hx hb dX12_soonest_166 rfl (lv_at hl 5 rfl) ?_
                        have hFc := gA_free hG hA hS
                        refine va_calli (va_runV (As := []) (rest := [.int z1220]) ⟨hx, hb, hml, hown, hts⟩ (s_hour l dC dI kA G H q wN wH wB wC wL wK PI o0 hT hr_o0 (by omega) (by omega) (by omega) (by omega)) (cwV 0 hts (goodIn_app (goodIn_r _ [28, 29, 30, 7] (by decide +kernel) (by decide +kernel)) (goodIn_ca (goodIn_r _ [27, 3] (by decide +kernel) (by decide +kernel)) (bs_in _ _))) rfl rfl rfl (by decide +kernel) ⟨(Nat.le_of_ble_eq_true rfl), (Nat.le_of_ble_eq_true rfl)⟩) ⟨fun a U g mk q => by obtain ⟨q0, q1, qK, qE⟩ := q; exact ⟨q0, q1, va_K.moved (u := U) (U := U.calling g mk a) (Vm.Alike.refl U.vm) qK, EV.blind g mk a qE⟩, gH_recv hK hT hr_o0 shm_0 rfl, fun U hU hW => ⟨rfl, hU, va_K.moved hW.alike hK, hE.call hS hFc hU hW⟩⟩ rfl rfl hl.1 rfl (lv_room (Nat.le_of_ble_eq_true rfl)) dX12_soonest_167 ⟨(Nat.le_of_ble_eq_true rfl), (Nat.le_of_ble_eq_true rfl)⟩) hS (fun q _ h => hFc q h) hFc (fun r1361 u t H locs ht hvm hw1362 hB _ _ hS => ?_)
                        obtain ⟨hT, hF1⟩ := hB
                        rw [ht] at hT hF1
                        have m1363 := (el_kept (hF1.arr hg54 skm_2 (by decide))).trans m1343
                        have m1364 := (el_kept (hF1.arr hg54 skm_2 (by decide))).trans m1344
                        have hF := hF.more hF1 (by decide)
                        try dsimp only at hw1362
                        have h1365 := hw1362
                        refine lv_iload hx hb dX12_soonest_170 (lv_at hl 1 rfl) ?_
                        refine lv_iadd hx hb dX12_soonest_172 ?_
                        refine lv_topi (fun x1366 ex1366 => ?_)
                        have t1367 : x1366.toInt = r1361.toInt + ((i1118 : Nat) : Int) := ti_add ex1366 rfl (nI_toInt (by omega)) (by omega) (by omega)
                        refine va_mmin hx hb (hml.trans hl.1.symm) hown (ht_at hts 22 rfl) (ht_at hts 23 rfl) (ht_at hts 24 rfl) (ht_at hts 25 rfl) (Nat.le_of_ble_eq_true rfl) (Nat.le_of_ble_eq_true rfl) (Nat.le_of_ble_eq_true rfl) (Nat.le_of_ble_eq_true rfl) dX12_soonest_173 ?_
                        refine lv_topi (fun x1368 ex1368 => ?_)
                        have t1369 : x1368.toInt ≤ z1220.toInt ∧ x1368.toInt ≤ x1366.toInt ∧ (x1368.toInt = z1220.toInt ∨ x1368.toInt = x1366.toInt) := mn_f ex1368 rfl rfl
                        refine lv_istore (lv' := [(4, .int x1368), (7, .int x1356), (8, .int (nI i1118)), (6, .int (nI i71)), (5, .int z586), (0, .ref o0), (1, .int p0), (2, .int p1), (3, .int p2)]) hx hb dX12_soonest_176 hl (by decide) rfl (fun ls hl => ?_)
                        refine lv_iinc (v := nI (i1118 + 1)) (lv' := [(8, .int (nI (i1118 + 1))), (4, .int x1368), (7, .int x1356), (6, .int (nI i71)), (5, .int z586), (0, .ref o0), (1, .int p0), (2, .int p1), (3, .int p2)]) hx hb dX12_soonest_178 hl (k := 2) rfl (nI_add i1118 1) (by decide) rfl (fun ls hl => ?_)
                        refine lv_goto (tgt := 111) hx hb dX12_soonest_181 (by decide) ?_
                        exact ih1325 (i1118 + 1) (by omega) (by omega) x1356 x1368 ⟨(rg_t (a := x1356.toInt) rfl (by have q8 := ti_all x1356; omega) (by have q8 := ti_all x1356; omega)), (rg_t (a := x1368.toInt) rfl (by have q8 := ti_all x1368; omega) (by have q8 := ti_all x1368; omega))⟩ _ _ hT hF hS m1363 m1364 ls (lv_sub hl [0, 2, 3, 4, 1, 5, 6, 7, 8] rfl)
              exact key1325 (201 - i71) i71 (by omega) (Nat.le_refl _) z586 z588 ⟨(rg_t (a := z586.toInt) rfl (by have q8 := ti_all z586; omega) (by have q8 := ti_all z586; omega)), (rg_t (a := z588.toInt) rfl (by have q8 := ti_all z588; omega) (by have q8 := ti_all z588; omega))⟩ _ _ hT hF hS m590 m591 ls (lv_sub hl [0, 1, 2, 3, 4, 5, 6, 7, 8] rfl)
          exact key1112 (49 - 1) 1 (by omega) (Nat.le_refl _) r64 1000000000 ⟨(rg_t (a := r64.toInt) rfl (by have q8 := ti_all r64; omega) (by have q8 := ti_all r64; omega)), (rg_t (a := 1000000000) (by decide) (by omega) (by omega))⟩ _ _ hT hF hS m66 m70 ls (lv_sub hl [0, 1, 2, 3, 4, 5, 6] rfl)
        · have t1370 : r50.toInt ≠ 1 := ti_ne c56 rfl (by decide)
          refine lv_iconst (v := 1) hx hb dX12_soonest_65 (by decide) ?_
          refine lv_goto (tgt := 70) hx hb dX12_soonest_66 (by decide) ?_
          refine lv_iconst (v := 3) hx hb dX12_soonest_70 (by decide) ?_
          have hFc := gA_free hG hA hS
          refine va_calli (va_runV (As := [.int 1, .int 3]) (rest := []) ⟨hx, hb, hml, hown, hts⟩ (s_throwsIf l dC dI kA G H q wN wH wB wC wL wK PI o0 1 3 hT hr_o0 (rg_t (a := 1) (by decide) (by omega) (by omega)) (by omega) (by omega) (by omega) (by omega)) (cwV 2 hts (goodIn_app (goodIn_r _ [12, 13, 14, 7] (by decide +kernel) (by decide +kernel)) (goodIn_ca (goodIn_r _ [11, 1] (by decide +kernel) (by decide +kernel)) (bs_in _ _))) rfl rfl rfl (by decide +kernel) ⟨(Nat.le_of_ble_eq_true rfl), (Nat.le_of_ble_eq_true rfl)⟩) ⟨fun a U g mk q => by obtain ⟨q0, q1, qK, qE⟩ := q; exact ⟨q0, q1, va_K.moved (u := U) (U := U.calling g mk a) (Vm.Alike.refl U.vm) qK, EV.blind g mk a qE⟩, gH_recv hK hT hr_o0 shm_0 rfl, fun U hU hW => ⟨rfl, hU, va_K.moved hW.alike hK, hE.call hS hFc hU hW⟩⟩ rfl rfl hl.1 rfl (lv_room (Nat.le_of_ble_eq_true rfl)) dX12_soonest_71 ⟨(Nat.le_of_ble_eq_true rfl), (Nat.le_of_ble_eq_true rfl)⟩) hS (fun q _ h => hFc q h) hFc (fun r1371 u t H locs ht hvm hw1372 hB _ _ hS => ?_)
          obtain ⟨hT, hF1⟩ := hB
          rw [ht] at hT hF1
          have m1373 := (el_kept (hF1.arr hg54 skm_2 (by decide))).trans m55
          have hF := hF.more hF1 (by decide)
          try dsimp only at hw1372
          obtain ⟨h1374, hd1375⟩ := hw1372
          obtain rfl : (1 : Int32) = r1371 := hd1375.symm
          refine lv_if_eq (tgt := 79) hx hb dX12_soonest_74 (by decide) (fun c1376 => absurd c1376 (by decide)) (fun c1376 => ?_)
          refine lv_iconst (v := 0) hx hb dX12_soonest_77 (by decide) ?_
          exact W.iret (v := 0) hx hb hr (fun t ht hW => ⟨⟨0, (), rfl, (by exact (rg_t (a := 0) (by decide) (by omega) (by omega))), by (try dsimp only); rw [ht]; exact ⟨hT, hF⟩⟩, hS.F ht⟩) hS.2.2 dX12_soonest_78
      · have t1377 : r35.toInt = 0 := ti_eq c40 rfl (by decide)
        have t1378 : (-1000 : Int32).toInt = (-1000) := by decide
        have t1379 : (1000 : Int32).toInt = 1000 := by decide
        have t1380 : p2.toInt < (-1000 : Int32).toInt ∨ (1000 : Int32).toInt < p2.toInt := hi39 c40
        refine lv_iconst (v := 1) hx hb dX12_soonest_42 (by decide) ?_
        refine lv_goto (tgt := 47) hx hb dX12_soonest_43 (by decide) ?_
        refine lv_iconst (v := 2) hx hb dX12_soonest_47 (by decide) ?_
        have hFc := gA_free hG hA hS
        refine va_calli (va_runV (As := [.int 1, .int 2]) (rest := []) ⟨hx, hb, hml, hown, hts⟩ (s_throwsIf l dC dI kA G H q wN wH wB wC wL wK PI o0 1 2 hT hr_o0 (rg_t (a := 1) (by decide) (by omega) (by omega)) (by omega) (by omega) (by omega) (by omega)) (cwV 2 hts (goodIn_app (goodIn_r _ [12, 13, 14, 7] (by decide +kernel) (by decide +kernel)) (goodIn_ca (goodIn_r _ [11, 1] (by decide +kernel) (by decide +kernel)) (bs_in _ _))) rfl rfl rfl (by decide +kernel) ⟨(Nat.le_of_ble_eq_true rfl), (Nat.le_of_ble_eq_true rfl)⟩) ⟨fun a U g mk q => by obtain ⟨q0, q1, qK, qE⟩ := q; exact ⟨q0, q1, va_K.moved (u := U) (U := U.calling g mk a) (Vm.Alike.refl U.vm) qK, EV.blind g mk a qE⟩, gH_recv hK hT hr_o0 shm_0 rfl, fun U hU hW => ⟨rfl, hU, va_K.moved hW.alike hK, hE.call hS hFc hU hW⟩⟩ rfl rfl hl.1 rfl (lv_room (Nat.le_of_ble_eq_true rfl)) dX12_soonest_48 ⟨(Nat.le_of_ble_eq_true rfl), (Nat.le_of_ble_eq_true rfl)⟩) hS (fun q _ h => hFc q h) hFc (fun r1381 u t H locs ht hvm hw1382 hB _ _ hS => ?_)
        obtain ⟨hT, hF1⟩ := hB
        rw [ht] at hT hF1
        have hF := hF.more hF1 (by decide)
        try dsimp only at hw1382
        obtain ⟨h1383, hd1384⟩ := hw1382
        obtain rfl : (1 : Int32) = r1381 := hd1384.symm
        refine lv_if_ne (tgt := 77) hx hb dX12_soonest_51 (by decide) (fun c1385 => ?_) (fun c1385 => absurd c1385 (by decide))
        refine lv_iconst (v := 0) hx hb dX12_soonest_77 (by decide) ?_
        exact W.iret (v := 0) hx hb hr (fun t ht hW => ⟨⟨0, (), rfl, (by exact (rg_t (a := 0) (by decide) (by omega) (by omega))), by (try dsimp only); rw [ht]; exact ⟨hT, hF⟩⟩, hS.F ht⟩) hS.2.2 dX12_soonest_78
def w_s_count : List Cond := .code yX12_count cX12_count 4 (some .int) :: ([.fieldLink RX12 194 "SeaLandModel" "thrown" "I", .code yX12_hour cX12_hour 1 (some .int), .fieldLink RX12 9 "SeaLandModel" "world" "[I", .methodLink RX12 228 yX12_hour, .instanceMethod yX12_hour, .selects RX12 yX12_hour yX12_hour, .initialized RX12, .code yX12_of cX12_of 3 (some .int), .code yX12_at cX12_at 2 (some .int), .methodLink RX12 214 yX12_at, .static yX12_at, .methodLink RX12 217 yX12_of, .instanceMethod yX12_of, .selects RX12 yX12_of yX12_of, .code yX12_sumLand cX12_sumLand 4 (some .int), .methodLink RX12 563 yX12_sumLand, .instanceMethod yX12_sumLand, .selects RX12 yX12_sumLand yX12_sumLand, .fieldLink RX12 42 "SeaLandModel" "lines" "[I", .fieldLink RX12 495 "SeaLandModel" "settlers" "I", .code yX12_holders cX12_holders 3 (some .int), .fieldLink RX12 101 "SeaLandModel" "holds" "[I", .methodLink RX12 460 yX12_holders, .instanceMethod yX12_holders, .selects RX12 yX12_holders yX12_holders, .fieldLink RX12 498 "SeaLandModel" "farms" "I", .fieldLink RX12 519 "SeaLandModel" "board" "I", .fieldLink RX12 107 "SeaLandModel" "owes" "[I", .fieldLink RX12 533 "SeaLandModel" "contracts" "I", .fieldLink RX12 238 "SeaLandModel" "rows" "I"] ++ bs)
set_option maxHeartbeats 4000000 in
set_option maxRecDepth 100000 in
theorem s_count (l : Launch) (dC : Nat → ClassId) (dI : Nat → Nat → Nat) (kA : Nat → ClassId) (G : gT) (H0 : Heap) (q : Nat → Nat) (wN wH wB wC : Int) (wL wK : Nat → Prop) (PI : Nat → Int → Prop) (o0 : Nat) (p0 : Int32) (hT : gH (dC, dI) kA (SHm q (wP wN wH wB wC wC wL wK) PI) G H0) (hr_o0 : G o0 = some 0) (hgn : 6500000 ≤ wN ∧ wN ≤ 400000000) (hgh : 0 ≤ wH ∧ wH ≤ 40000) (hgb : 0 ≤ wB ∧ wB ≤ 3850000) (hgc : 0 ≤ wC ∧ wC ≤ 30) : Met l yX12_count w_s_count ({ frames := 2, cells := 0, slots := 0, locals := 43 }) (va_Pc [.ref o0, .int p0] (fun U => U.heap = H0 ∧ va_K (dC, dI) vwCl (tyl kA) U ∧ EV (gA G H0.size) U U.heap)) (va_Qi (fun (r : Int32) (u : Unit) => True) (fun (_ : Unit) (t : State) => gH (dC, dI) kA (SHm q (wP wN wH wB wC wC wL wK) PI) G t.heap ∧ gF (dC, dI) SKm G ([(0, 0)] : List (Nat × Nat)) H0 t.heap) (gA G H0.size)) 0 0 (gA G H0.size) := by
  refine Met.ofW (cc := cX12_count) (maxL := 4) (ret := (some .int)) (by decide) rfl ?_
  intro p e s m args below meth c s₁ B hml hv
  obtain ⟨rfl, hH0, hK, hE⟩ := hv
  have hx := B.exec
  have hb := B.bytes
  have hr := B.returns
  have hts := atoms_spec (ws := w_s_count) B.pre
  have hown : s.vm.findClass RX12 = some m.cls := findClass_of_methodNamed B.named
  have hlocks := B.notSynchronized
  subst hH0
  generalize hAe : gA G s.heap.size = A at hE ⊢
  have hA : ∀ q : Nat, s.heap.size ≤ q → A q := fun q h => by rw [← hAe]; exact Or.inr h
  have hG := gA_of hAe
  have hS : va_S A s.heap s.heap [] := va_S.rf
  have hF : gF (dC, dI) SKm G ([(0, 0)] : List (Nat × Nat)) s.heap s.heap := gF.rf
  have hl := lv_entry ([.ref o0, .int p0]) (n := 4) (Nat.le_of_ble_eq_true rfl)
  rw [lg_entry_eq]
  generalize (lg_sl ([.ref o0, .int p0]) ++ List.replicate (4 - (lg_sl ([.ref o0, .int p0])).length) Slot.unset).toArray = ls at hl ⊢
  have hl : lv_has ls 4 [(0, .ref o0), (1, .int p0)] := hl
  refine lv_aload_n hx hb dX12_count_0 rfl (lv_at hl 0 rfl) ?_
  refine lv_iconst (v := 0) hx hb dX12_count_1 (by decide) ?_
  refine tw_put (v := .int 0) (ty := .int) hx hb hts bF_X12 tyX12 tyX12_ok nmX12 hown hK hT hG hS hr_o0 shm_0 rfl 0 (by decide) (ht_at hts 0 rfl) (fun _ h9 => h9) rfl (by decide +kernel) rfl rfl (gl_at rfl (gi_all _)) dX12_count_2 (fun H locs hT oq m1 oj hS => ?_)
  have hF := hF.put hr_o0 skm_0 oq oj (by decide)
  refine lv_iconst (v := 0) hx hb dX12_count_5 (by decide) ?_
  refine lv_istore_n (lv' := [(2, .int 0), (0, .ref o0), (1, .int p0)]) hx hb dX12_count_6 rfl hl (by decide) rfl (fun ls hl => ?_)
  refine lv_iload_n hx hb dX12_count_7 rfl (lv_at hl 2 rfl) ?_
  by_cases hs2 : p0 = 0
  · subst hs2
    refine lv_tableIn (x := 0) (off := 88) (tgt := 96) hx hb dX12_count_8 (by decide) (by decide) (by decide) (by decide) ?_
    refine lv_aload_n hx hb dX12_count_96 rfl (lv_at hl 1 rfl) ?_
    have hFc := gA_free hG hA hS
    refine va_calli (va_runV (As := []) (rest := []) ⟨hx, hb, hml, hown, hts⟩ (s_hour l dC dI kA G H q wN wH wB wC wL wK PI o0 hT hr_o0 (by omega) (by omega) (by omega) (by omega)) (cwV 0 hts (goodIn_app (goodIn_r _ [4, 5, 6, 7] (by decide +kernel) (by decide +kernel)) (goodIn_ca (goodIn_r _ [2, 3] (by decide +kernel) (by decide +kernel)) (bs_in _ _))) rfl rfl rfl (by decide +kernel) ⟨(Nat.le_of_ble_eq_true rfl), (Nat.le_of_ble_eq_true rfl)⟩) ⟨fun a U g mk q => by obtain ⟨q0, q1, qK, qE⟩ := q; exact ⟨q0, q1, va_K.moved (u := U) (U := U.calling g mk a) (Vm.Alike.refl U.vm) qK, EV.blind g mk a qE⟩, gH_recv hK hT hr_o0 shm_0 rfl, fun U hU hW => ⟨rfl, hU, va_K.moved hW.alike hK, hE.call hS hFc hU hW⟩⟩ rfl rfl hl.1 rfl (lv_room (Nat.le_of_ble_eq_true rfl)) dX12_count_97 ⟨(Nat.le_of_ble_eq_true rfl), (Nat.le_of_ble_eq_true rfl)⟩) hS (fun q _ h => hFc q h) hFc (fun r3 u t H locs ht hvm hw4 hB _ _ hS => ?_)
    obtain ⟨hT, hF1⟩ := hB
    rw [ht] at hT hF1
    have m5 := (hF1.fld hr_o0 skm_0 (k := 0) (by decide) (by decide)).trans m1
    have hF := hF.more hF1 (by decide)
    try dsimp only at hw4
    have h6 := hw4
    exact W.iret (v := r3) hx hb hr (fun t ht hW => ⟨⟨r3, (), rfl, (by exact trivial), by (try dsimp only); rw [ht]; exact ⟨hT, hF⟩⟩, hS.F ht⟩) hS.2.2 dX12_count_100
  by_cases hs7 : p0 = 1
  · subst hs7
    refine lv_tableIn (x := 1) (off := 93) (tgt := 101) hx hb dX12_count_8 (by decide) (by decide) (by decide) (by decide) ?_
    refine lv_aload_n hx hb dX12_count_101 rfl (lv_at hl 1 rfl) ?_
    have hFc := gA_free hG hA hS
    refine va_calli (va_runV (As := []) (rest := []) ⟨hx, hb, hml, hown, hts⟩ (s_hour l dC dI kA G H q wN wH wB wC wL wK PI o0 hT hr_o0 (by omega) (by omega) (by omega) (by omega)) (cwV 0 hts (goodIn_app (goodIn_r _ [4, 5, 6, 7] (by decide +kernel) (by decide +kernel)) (goodIn_ca (goodIn_r _ [2, 3] (by decide +kernel) (by decide +kernel)) (bs_in _ _))) rfl rfl rfl (by decide +kernel) ⟨(Nat.le_of_ble_eq_true rfl), (Nat.le_of_ble_eq_true rfl)⟩) ⟨fun a U g mk q => by obtain ⟨q0, q1, qK, qE⟩ := q; exact ⟨q0, q1, va_K.moved (u := U) (U := U.calling g mk a) (Vm.Alike.refl U.vm) qK, EV.blind g mk a qE⟩, gH_recv hK hT hr_o0 shm_0 rfl, fun U hU hW => ⟨rfl, hU, va_K.moved hW.alike hK, hE.call hS hFc hU hW⟩⟩ rfl rfl hl.1 rfl (lv_room (Nat.le_of_ble_eq_true rfl)) dX12_count_102 ⟨(Nat.le_of_ble_eq_true rfl), (Nat.le_of_ble_eq_true rfl)⟩) hS (fun q _ h => hFc q h) hFc (fun r8 u t H locs ht hvm hw9 hB _ _ hS => ?_)
    obtain ⟨hT, hF1⟩ := hB
    rw [ht] at hT hF1
    have m10 := (hF1.fld hr_o0 skm_0 (k := 0) (by decide) (by decide)).trans m1
    have hF := hF.more hF1 (by decide)
    try dsimp only at hw9
    have h11 := hw9
    refine lv_bipush (v := 24) hx hb dX12_count_105 (by decide) ?_
    refine lv_idiv hx hb dX12_count_107 (by decide) ?_
    refine lv_topi (fun x12 ex12 => ?_)
    have t13 : x12.toInt = r8.toInt / 24 := ti_div ex12 rfl (by decide) (by omega) (by omega)
    exact W.iret (v := x12) hx hb hr (fun t ht hW => ⟨⟨x12, (), rfl, (by exact trivial), by (try dsimp only); rw [ht]; exact ⟨hT, hF⟩⟩, hS.F ht⟩) hS.2.2 dX12_count_108
  by_cases hs14 : p0 = 2
  · subst hs14
    refine lv_tableIn (x := 2) (off := 101) (tgt := 109) hx hb dX12_count_8 (by decide) (by decide) (by decide) (by decide) ?_
    refine lv_aload_n hx hb dX12_count_109 rfl (lv_at hl 1 rfl) ?_
    refine tw_get hx hb hts bF_X12 hown hK hT hr_o0 shm_0 rfl 1 (by decide) (ht_at hts 2 rfl) (fun _ h9 => h9) dX12_count_110 (fun v9 m15 h9 => ?_)
    obtain ⟨rfl, hg16⟩ := h9 _ rfl
    refine lv_sipush (v := 1428) hx hb dX12_count_113 (by decide) ?_
    refine tw_iald (i := 1428) hx hb hK hT hg16 shm_2 rfl (by unfold vp_in; decide) dX12_count_116 (fun v9 m17 h9 => ?_)
    obtain ⟨x18, rfl, gx18, kx18⟩ := (gp_at h9 (w_wct (by have q9 := tn_of (show (1428 : Int32).toInt = 1428 from (by decide)) (show (0 : Int) ≤ 1428 from by omega); omega)))
    exact W.iret (v := x18) hx hb hr (fun t ht hW => ⟨⟨x18, (), rfl, (by exact trivial), by (try dsimp only); rw [ht]; exact ⟨hT, hF⟩⟩, hS.F ht⟩) hS.2.2 dX12_count_117
  by_cases hs19 : p0 = 3
  · subst hs19
    refine lv_tableIn (x := 3) (off := 110) (tgt := 118) hx hb dX12_count_8 (by decide) (by decide) (by decide) (by decide) ?_
    refine lv_iconst (v := 0) hx hb dX12_count_118 (by decide) ?_
    refine lv_istore_n (lv' := [(3, .int 0), (2, .int 0), (0, .ref o0), (1, .int 3)]) hx hb dX12_count_119 rfl hl (by decide) rfl (fun ls hl => ?_)
    have key462 : ∀ (n462 i20 : Nat), i20 + n462 = 30 → 0 ≤ i20 → ∀ (z438 : Int32), ∀ (H : Heap) (locs : List Loc), gH (dC, dI) kA (SHm q (wP wN wH wB wC wC wL wK) PI) G H → gF (dC, dI) SKm G ([(0, 0)] : List (Nat × Nat)) s.heap H → va_S A s.heap H locs → el H o0 (dI 15 0) = some (.int 0) → ∀ ls : Array Slot, lv_has ls 4 [(3, .int (nI i20)), (2, .int z438), (0, .ref o0), (1, .int 3)] → W p l e (headSpec w_s_count ({ frames := 2, cells := 0, slots := 0, locals := 43 })).room s m #[.ref o0, .int (3 : Int32)] below meth c H locs 0 0 (MQ below (va_Qi (fun (r : Int32) (u : Unit) => True) (fun (_ : Unit) (t : State) => gH (dC, dI) kA (SHm q (wP wN wH wB wC wC wL wK) PI) G t.heap ∧ gF (dC, dI) SKm G ([(0, 0)] : List (Nat × Nat)) s.heap t.heap) A) #[.ref o0, .int (3 : Int32)] s 0 0 A) (F0 m 120 ls []) := by
      intro n462
      induction n462 with
      | zero =>
        intro i20 hn462 hlo463 z438 H locs hT hF hS m439 ls hl
        obtain rfl : 30 = i20 := by omega
        refine lv_iload_n hx hb dX12_count_120 rfl (lv_at hl 0 rfl) ?_
        refine lv_aload_n hx hb dX12_count_121 rfl (lv_at hl 2 rfl) ?_
        refine tw_get hx hb hts bF_X12 hown hK hT hr_o0 shm_0 rfl 1 (by decide) (ht_at hts 2 rfl) (fun _ h9 => h9) dX12_count_122 (fun v9 m464 h9 => ?_)
        obtain ⟨rfl, hg465⟩ := h9 _ rfl
        refine lv_sipush (v := 1428) hx hb dX12_count_125 (by decide) ?_
        refine tw_iald (i := 1428) hx hb hK hT hg465 shm_2 rfl (by unfold vp_in; decide) dX12_count_128 (fun v9 m466 h9 => ?_)
        obtain ⟨x467, rfl, gx467, kx467⟩ := (gp_at h9 (w_wct (by have q9 := tn_of (show (1428 : Int32).toInt = 1428 from (by decide)) (show (0 : Int) ≤ 1428 from by omega); omega)))
        refine lv_icmp_ge (tgt := 156) hx hb dX12_count_129 (by decide) (fun c468 => ?_) (fun c468 => (by exfalso; have q9 : ((30 : Nat) : Int) < x467.toInt := ti_nle c468 rfl (nI_toInt (by omega)); omega))
        have t469 : x467.toInt ≤ ((30 : Nat) : Int) := ti_le c468 rfl (nI_toInt (by omega))
        refine lv_iload_n hx hb dX12_count_156 rfl (lv_at hl 1 rfl) ?_
        exact W.iret (v := z438) hx hb hr (fun t ht hW => ⟨⟨z438, (), rfl, (by exact trivial), by (try dsimp only); rw [ht]; exact ⟨hT, hF⟩⟩, hS.F ht⟩) hS.2.2 dX12_count_157
      | succ n462 ih462 =>
        intro i20 hn462 hlo463 z438 H locs hT hF hS m439 ls hl
        have hlt469 : i20 < 30 := by omega
        refine lv_iload_n hx hb dX12_count_120 rfl (lv_at hl 0 rfl) ?_
        refine lv_aload_n hx hb dX12_count_121 rfl (lv_at hl 2 rfl) ?_
        refine tw_get hx hb hts bF_X12 hown hK hT hr_o0 shm_0 rfl 1 (by decide) (ht_at hts 2 rfl) (fun _ h9 => h9) dX12_count_122 (fun v9 m470 h9 => ?_)
        obtain ⟨rfl, hg471⟩ := h9 _ rfl
        refine lv_sipush (v := 1428) hx hb dX12_count_125 (by decide) ?_
        refine tw_iald (i := 1428) hx hb hK hT hg471 shm_2 rfl (by unfold vp_in; decide) dX12_count_128 (fun v9 m472 h9 => ?_)
        obtain ⟨x473, rfl, gx473, kx473⟩ := (gp_at h9 (w_wct (by have q9 := tn_of (show (1428 : Int32).toInt = 1428 from (by decide)) (show (0 : Int) ≤ 1428 from by omega); omega)))
        refine lv_icmp_ge (tgt := 156) hx hb dX12_count_129 (by decide) (fun c474 => ?_) (fun c474 => ?_)
        · have t475 : x473.toInt ≤ ((i20 : Nat) : Int) := ti_le c474 rfl (nI_toInt (by omega))
          refine lv_iload_n hx hb dX12_count_156 rfl (lv_at hl 1 rfl) ?_
          exact W.iret (v := z438) hx hb hr (fun t ht hW => ⟨⟨z438, (), rfl, (by exact trivial), by (try dsimp only); rw [ht]; exact ⟨hT, hF⟩⟩, hS.F ht⟩) hS.2.2 dX12_count_157
        · have t476 : ((i20 : Nat) : Int) < x473.toInt := ti_nle c474 rfl (nI_toInt (by omega))
          refine lv_iload_n hx hb dX12_count_132 rfl (lv_at hl 1 rfl) ?_
          refine lv_aload_n hx hb dX12_count_133 rfl (lv_at hl 2 rfl) ?_
          refine lv_iload_n hx hb dX12_count_134 rfl (lv_at hl 0 rfl) ?_
          refine lv_iconst (v := 0) hx hb dX12_count_135 (by decide) ?_
          have hFc := gA_free hG hA hS
          refine va_calli (va_runV (As := [.int (nI i20), .int 0]) (rest := [.int z438]) ⟨hx, hb, hml, hown, hts⟩ (s_of0 l dC dI kA G H q wN wH wB wC wL wK PI o0 (nI i20) hT hr_o0 (rg_t (a := ((i20 : Nat) : Int)) (nI_toInt (by omega)) (by omega) (by omega)) (by omega) (by omega) (by omega) (by omega)) (cwV 2 hts (goodIn_app (goodIn_r _ [12, 13, 14, 7] (by decide +kernel) (by decide +kernel)) (goodIn_ca (goodIn_r _ [8, 3, 9, 10, 11, 7] (by decide +kernel) (by decide +kernel)) (bs_in _ _))) rfl rfl rfl (by decide +kernel) ⟨(Nat.le_of_ble_eq_true rfl), (Nat.le_of_ble_eq_true rfl)⟩) ⟨fun a U g mk q => by obtain ⟨q0, q1, qK, qE⟩ := q; exact ⟨q0, q1, va_K.moved (u := U) (U := U.calling g mk a) (Vm.Alike.refl U.vm) qK, EV.blind g mk a qE⟩, gH_recv hK hT hr_o0 shm_0 rfl, fun U hU hW => ⟨rfl, hU, va_K.moved hW.alike hK, hE.call hS hFc hU hW⟩⟩ rfl rfl hl.1 rfl (lv_room (Nat.le_of_ble_eq_true rfl)) dX12_count_136 ⟨(Nat.le_of_ble_eq_true rfl), (Nat.le_of_ble_eq_true rfl)⟩) hS (fun q _ h => hFc q h) hFc (fun r477 u t H locs ht hvm hw478 hB _ _ hS => ?_)
          obtain ⟨hT, hF1⟩ := hB
          rw [ht] at hT hF1
          have m479 := (hF1.fld hr_o0 skm_0 (k := 0) (by decide) (by decide)).trans m439
          have m480 := (el_kept (hF1.arr hg471 skm_2 (by decide))).trans m472
          have hF := hF.more hF1 (by decide)
          try dsimp only at hw478
          have ⟨ix481, hix481, m482⟩ := hw478
          have t483 : (nI i20).toInt = ((i20 : Nat) : Int) := nI_toInt (by omega)
          have m484 := (el_kept (hF1.arr hg471 skm_2 (by decide))).trans m482
          refine lv_iconst (v := 1) hx hb dX12_count_139 (by decide) ?_
          refine lv_icmp_ne (tgt := 147) hx hb dX12_count_140 (by decide) (fun c485 => ?_) (fun c485 => ?_)
          · have t486 : r477.toInt ≠ 1 := ti_ne c485 rfl (by decide)
            refine lv_iconst (v := 0) hx hb dX12_count_147 (by decide) ?_
            refine lv_iadd hx hb dX12_count_148 ?_
            refine lv_topi (fun x487 ex487 => ?_)
            have t488 : -2147483648 ≤ z438.toInt ∧ z438.toInt ≤ 2147483647 := ti_all z438
            have t489 : x487.toInt = z438.toInt + 0 := ti_add ex487 rfl (by decide) (by omega) (by omega)
            refine lv_istore_n (lv' := [(2, .int x487), (3, .int (nI i20)), (0, .ref o0), (1, .int 3)]) hx hb dX12_count_149 rfl hl (by decide) rfl (fun ls hl => ?_)
            refine lv_iinc (v := nI (i20 + 1)) (lv' := [(3, .int (nI (i20 + 1))), (2, .int x487), (0, .ref o0), (1, .int 3)]) hx hb dX12_count_150 hl (k := 1) rfl (nI_add i20 1) (by decide) rfl (fun ls hl => ?_)
            refine lv_goto (tgt := 120) hx hb dX12_count_153 (by decide) ?_
            exact ih462 (i20 + 1) (by omega) (by omega) x487 _ _ hT hF hS m479 ls (lv_sub hl [0, 1, 2, 3] rfl)
          · have t490 : r477.toInt = 1 := ti_eq c485 rfl (by decide)
            refine lv_iconst (v := 1) hx hb dX12_count_143 (by decide) ?_
            refine lv_goto (tgt := 148) hx hb dX12_count_144 (by decide) ?_
            refine lv_iadd hx hb dX12_count_148 ?_
            refine lv_topi (fun x491 ex491 => ?_)
            refine lv_istore_n (lv' := [(2, .int x491), (3, .int (nI i20)), (0, .ref o0), (1, .int 3)]) hx hb dX12_count_149 rfl hl (by decide) rfl (fun ls hl => ?_)
            refine lv_iinc (v := nI (i20 + 1)) (lv' := [(3, .int (nI (i20 + 1))), (2, .int x491), (0, .ref o0), (1, .int 3)]) hx hb dX12_count_150 hl (k := 1) rfl (nI_add i20 1) (by decide) rfl (fun ls hl => ?_)
            refine lv_goto (tgt := 120) hx hb dX12_count_153 (by decide) ?_
            exact ih462 (i20 + 1) (by omega) (by omega) x491 _ _ hT hF hS m479 ls (lv_sub hl [0, 1, 2, 3] rfl)
    exact key462 (30 - 0) 0 (by omega) (Nat.le_refl _) 0 _ _ hT hF hS m1 ls (lv_sub hl [0, 1, 2, 3] rfl)
  by_cases hs492 : p0 = 4
  · subst hs492
    refine lv_tableIn (x := 4) (off := 150) (tgt := 158) hx hb dX12_count_8 (by decide) (by decide) (by decide) (by decide) ?_
    refine lv_aload_n hx hb dX12_count_158 rfl (lv_at hl 1 rfl) ?_
    refine lv_sipush (v := 384) hx hb dX12_count_159 (by decide) ?_
    have hFc := gA_free hG hA hS
    refine va_calli (va_runV (As := [.int 384]) (rest := []) ⟨hx, hb, hml, hown, hts⟩ (s_sumLandW l dC dI kA G H q wN wH wB wC wL wK PI o0 hT hr_o0 (by omega) (by omega) (by omega) (by omega)) (cwV 1 hts (goodIn_app (goodIn_r _ [16, 17, 18, 7] (by decide +kernel) (by decide +kernel)) (goodIn_ca (goodIn_r _ [15, 3] (by decide +kernel) (by decide +kernel)) (bs_in _ _))) rfl rfl rfl (by decide +kernel) ⟨(Nat.le_of_ble_eq_true rfl), (Nat.le_of_ble_eq_true rfl)⟩) ⟨fun a U g mk q => by obtain ⟨q0, q1, qK, qE⟩ := q; exact ⟨q0, q1, va_K.moved (u := U) (U := U.calling g mk a) (Vm.Alike.refl U.vm) qK, EV.blind g mk a qE⟩, gH_recv hK hT hr_o0 shm_0 rfl, fun U hU hW => ⟨rfl, hU, va_K.moved hW.alike hK, hE.call hS hFc hU hW⟩⟩ rfl rfl hl.1 rfl (lv_room (Nat.le_of_ble_eq_true rfl)) dX12_count_162 ⟨(Nat.le_of_ble_eq_true rfl), (Nat.le_of_ble_eq_true rfl)⟩) hS (fun q _ h => hFc q h) hFc (fun r493 u t H locs ht hvm hw494 hB _ _ hS => ?_)
    obtain ⟨hT, hF1⟩ := hB
    rw [ht] at hT hF1
    have m495 := (hF1.fld hr_o0 skm_0 (k := 0) (by decide) (by decide)).trans m1
    have hF := hF.more hF1 (by decide)
    try dsimp only at hw494
    exact W.iret (v := r493) hx hb hr (fun t ht hW => ⟨⟨r493, (), rfl, (by exact trivial), by (try dsimp only); rw [ht]; exact ⟨hT, hF⟩⟩, hS.F ht⟩) hS.2.2 dX12_count_165
  by_cases hs496 : p0 = 5
  · subst hs496
    refine lv_tableIn (x := 5) (off := 158) (tgt := 166) hx hb dX12_count_8 (by decide) (by decide) (by decide) (by decide) ?_
    refine lv_aload_n hx hb dX12_count_166 rfl (lv_at hl 1 rfl) ?_
    refine lv_sipush (v := 480) hx hb dX12_count_167 (by decide) ?_
    have hFc := gA_free hG hA hS
    refine va_calli (va_runV (As := [.int 480]) (rest := []) ⟨hx, hb, hml, hown, hts⟩ (s_sumLandS l dC dI kA G H q wN wH wB wC wL wK PI o0 hT hr_o0 (by omega) (by omega) (by omega) (by omega)) (cwV 1 hts (goodIn_app (goodIn_r _ [16, 17, 18, 7] (by decide +kernel) (by decide +kernel)) (goodIn_ca (goodIn_r _ [15, 3] (by decide +kernel) (by decide +kernel)) (bs_in _ _))) rfl rfl rfl (by decide +kernel) ⟨(Nat.le_of_ble_eq_true rfl), (Nat.le_of_ble_eq_true rfl)⟩) ⟨fun a U g mk q => by obtain ⟨q0, q1, qK, qE⟩ := q; exact ⟨q0, q1, va_K.moved (u := U) (U := U.calling g mk a) (Vm.Alike.refl U.vm) qK, EV.blind g mk a qE⟩, gH_recv hK hT hr_o0 shm_0 rfl, fun U hU hW => ⟨rfl, hU, va_K.moved hW.alike hK, hE.call hS hFc hU hW⟩⟩ rfl rfl hl.1 rfl (lv_room (Nat.le_of_ble_eq_true rfl)) dX12_count_170 ⟨(Nat.le_of_ble_eq_true rfl), (Nat.le_of_ble_eq_true rfl)⟩) hS (fun q _ h => hFc q h) hFc (fun r497 u t H locs ht hvm hw498 hB _ _ hS => ?_)
    obtain ⟨hT, hF1⟩ := hB
    rw [ht] at hT hF1
    have m499 := (hF1.fld hr_o0 skm_0 (k := 0) (by decide) (by decide)).trans m1
    have hF := hF.more hF1 (by decide)
    try dsimp only at hw498
    exact W.iret (v := r497) hx hb hr (fun t ht hW => ⟨⟨r497, (), rfl, (by exact trivial), by (try dsimp only); rw [ht]; exact ⟨hT, hF⟩⟩, hS.F ht⟩) hS.2.2 dX12_count_173
  by_cases hs500 : p0 = 6
  · subst hs500
    refine lv_tableIn (x := 6) (off := 166) (tgt := 174) hx hb dX12_count_8 (by decide) (by decide) (by decide) (by decide) ?_
    refine lv_aload_n hx hb dX12_count_174 rfl (lv_at hl 1 rfl) ?_
    refine tw_get hx hb hts bF_X12 hown hK hT hr_o0 shm_0 rfl 18 (by decide) (ht_at hts 18 rfl) (fun _ h9 => h9) dX12_count_175 (fun v9 m501 h9 => ?_)
    obtain ⟨rfl, hg502⟩ := h9 _ rfl
    refine lv_iconst (v := 0) hx hb dX12_count_178 (by decide) ?_
    refine tw_iald (i := 0) hx hb hK hT hg502 shm_19 rfl (by unfold vp_in; decide) dX12_count_179 (fun v9 m503 h9 => ?_)
    obtain ⟨x504, rfl, gx504, kx504⟩ := h9
    exact W.iret (v := x504) hx hb hr (fun t ht hW => ⟨⟨x504, (), rfl, (by exact trivial), by (try dsimp only); rw [ht]; exact ⟨hT, hF⟩⟩, hS.F ht⟩) hS.2.2 dX12_count_180
  by_cases hs505 : p0 = 7
  · subst hs505
    refine lv_tableIn (x := 7) (off := 173) (tgt := 181) hx hb dX12_count_8 (by decide) (by decide) (by decide) (by decide) ?_
    refine lv_aload_n hx hb dX12_count_181 rfl (lv_at hl 1 rfl) ?_
    refine tw_get hx hb hts bF_X12 hown hK hT hr_o0 shm_0 rfl 42 (by decide) (ht_at hts 19 rfl) (fun _ h9 => h9) dX12_count_182 (fun v9 m506 h9 => ?_)
    obtain ⟨x507, rfl, gx507, kx507⟩ := h9 _ rfl
    exact W.iret (v := x507) hx hb hr (fun t ht hW => ⟨⟨x507, (), rfl, (by exact trivial), by (try dsimp only); rw [ht]; exact ⟨hT, hF⟩⟩, hS.F ht⟩) hS.2.2 dX12_count_185
  by_cases hs508 : p0 = 8
  · subst hs508
    refine lv_tableIn (x := 8) (off := 178) (tgt := 186) hx hb dX12_count_8 (by decide) (by decide) (by decide) (by decide) ?_
    refine lv_aload_n hx hb dX12_count_186 rfl (lv_at hl 1 rfl) ?_
    have hFc := gA_free hG hA hS
    refine va_calli (va_runV (As := []) (rest := []) ⟨hx, hb, hml, hown, hts⟩ (s_holders l dC dI kA G H q wN wH wB wC wL wK PI o0 hT hr_o0 (by omega) (by omega) (by omega) (by omega)) (cwV 0 hts (goodIn_app (goodIn_r _ [23, 24, 25, 7] (by decide +kernel) (by decide +kernel)) (goodIn_ca (goodIn_r _ [21, 20, 22] (by decide +kernel) (by decide +kernel)) (bs_in _ _))) rfl rfl rfl (by decide +kernel) ⟨(Nat.le_of_ble_eq_true rfl), (Nat.le_of_ble_eq_true rfl)⟩) ⟨fun a U g mk q => by obtain ⟨q0, q1, qK, qE⟩ := q; exact ⟨q0, q1, va_K.moved (u := U) (U := U.calling g mk a) (Vm.Alike.refl U.vm) qK, EV.blind g mk a qE⟩, gH_recv hK hT hr_o0 shm_0 rfl, fun U hU hW => ⟨rfl, hU, va_K.moved hW.alike hK, hE.call hS hFc hU hW⟩⟩ rfl rfl hl.1 rfl (lv_room (Nat.le_of_ble_eq_true rfl)) dX12_count_187 ⟨(Nat.le_of_ble_eq_true rfl), (Nat.le_of_ble_eq_true rfl)⟩) hS (fun q _ h => hFc q h) hFc (fun r509 u t H locs ht hvm hw510 hB _ _ hS => ?_)
    obtain ⟨hT, hF1⟩ := hB
    rw [ht] at hT hF1
    have m511 := (hF1.fld hr_o0 skm_0 (k := 0) (by decide) (by decide)).trans m1
    have hF := hF.more hF1 (by decide)
    try dsimp only at hw510
    exact W.iret (v := r509) hx hb hr (fun t ht hW => ⟨⟨r509, (), rfl, (by exact trivial), by (try dsimp only); rw [ht]; exact ⟨hT, hF⟩⟩, hS.F ht⟩) hS.2.2 dX12_count_190
  by_cases hs512 : p0 = 9
  · subst hs512
    refine lv_tableIn (x := 9) (off := 183) (tgt := 191) hx hb dX12_count_8 (by decide) (by decide) (by decide) (by decide) ?_
    refine lv_aload_n hx hb dX12_count_191 rfl (lv_at hl 1 rfl) ?_
    refine tw_get hx hb hts bF_X12 hown hK hT hr_o0 shm_0 rfl 47 (by decide) (ht_at hts 25 rfl) (fun _ h9 => h9) dX12_count_192 (fun v9 m513 h9 => ?_)
    obtain ⟨x514, rfl, gx514, kx514⟩ := h9 _ rfl
    exact W.iret (v := x514) hx hb hr (fun t ht hW => ⟨⟨x514, (), rfl, (by exact trivial), by (try dsimp only); rw [ht]; exact ⟨hT, hF⟩⟩, hS.F ht⟩) hS.2.2 dX12_count_195
  by_cases hs515 : p0 = 10
  · subst hs515
    refine lv_tableIn (x := 10) (off := 188) (tgt := 196) hx hb dX12_count_8 (by decide) (by decide) (by decide) (by decide) ?_
    refine lv_aload_n hx hb dX12_count_196 rfl (lv_at hl 1 rfl) ?_
    refine tw_get hx hb hts bF_X12 hown hK hT hr_o0 shm_0 rfl 48 (by decide) (ht_at hts 26 rfl) (fun _ h9 => h9) dX12_count_197 (fun v9 m516 h9 => ?_)
    obtain ⟨x517, rfl, gx517, kx517⟩ := h9 _ rfl
    exact W.iret (v := x517) hx hb hr (fun t ht hW => ⟨⟨x517, (), rfl, (by exact trivial), by (try dsimp only); rw [ht]; exact ⟨hT, hF⟩⟩, hS.F ht⟩) hS.2.2 dX12_count_200
  by_cases hs518 : p0 = 11
  · subst hs518
    refine lv_tableIn (x := 11) (off := 193) (tgt := 201) hx hb dX12_count_8 (by decide) (by decide) (by decide) (by decide) ?_
    refine lv_iconst (v := 0) hx hb dX12_count_201 (by decide) ?_
    refine lv_istore_n (lv' := [(3, .int 0), (2, .int 0), (0, .ref o0), (1, .int 11)]) hx hb dX12_count_202 rfl hl (by decide) rfl (fun ls hl => ?_)
    have key558 : ∀ (n558 i519 : Nat), i519 + n558 = 60 → 0 ≤ i519 → ∀ (z546 : Int32), ∀ (H : Heap) (locs : List Loc), gH (dC, dI) kA (SHm q (wP wN wH wB wC wC wL wK) PI) G H → gF (dC, dI) SKm G ([(0, 0)] : List (Nat × Nat)) s.heap H → va_S A s.heap H locs → el H o0 (dI 15 0) = some (.int 0) → ∀ ls : Array Slot, lv_has ls 4 [(3, .int (nI i519)), (2, .int z546), (0, .ref o0), (1, .int 11)] → W p l e (headSpec w_s_count ({ frames := 2, cells := 0, slots := 0, locals := 43 })).room s m #[.ref o0, .int (11 : Int32)] below meth c H locs 0 0 (MQ below (va_Qi (fun (r : Int32) (u : Unit) => True) (fun (_ : Unit) (t : State) => gH (dC, dI) kA (SHm q (wP wN wH wB wC wC wL wK) PI) G t.heap ∧ gF (dC, dI) SKm G ([(0, 0)] : List (Nat × Nat)) s.heap t.heap) A) #[.ref o0, .int (11 : Int32)] s 0 0 A) (F0 m 203 ls []) := by
      intro n558
      induction n558 with
      | zero =>
        intro i519 hn558 hlo559 z546 H locs hT hF hS m547 ls hl
        obtain rfl : 60 = i519 := by omega
        refine lv_iload_n hx hb dX12_count_203 rfl (lv_at hl 0 rfl) ?_
        refine lv_aload_n hx hb dX12_count_204 rfl (lv_at hl 2 rfl) ?_
        refine tw_get hx hb hts bF_X12 hown hK hT hr_o0 shm_0 rfl 42 (by decide) (ht_at hts 19 rfl) (fun _ h9 => h9) dX12_count_205 (fun v9 m560 h9 => ?_)
        obtain ⟨x561, rfl, gx561, kx561⟩ := h9 _ rfl
        refine lv_icmp_ge (tgt := 226) hx hb dX12_count_208 (by decide) (fun c562 => ?_) (fun c562 => (by exfalso; have q9 : ((60 : Nat) : Int) < x561.toInt := ti_nle c562 rfl (nI_toInt (by omega)); omega))
        have t563 : x561.toInt ≤ ((60 : Nat) : Int) := ti_le c562 rfl (nI_toInt (by omega))
        refine lv_iload_n hx hb dX12_count_226 rfl (lv_at hl 1 rfl) ?_
        exact W.iret (v := z546) hx hb hr (fun t ht hW => ⟨⟨z546, (), rfl, (by exact trivial), by (try dsimp only); rw [ht]; exact ⟨hT, hF⟩⟩, hS.F ht⟩) hS.2.2 dX12_count_227
      | succ n558 ih558 =>
        intro i519 hn558 hlo559 z546 H locs hT hF hS m547 ls hl
        have hlt563 : i519 < 60 := by omega
        refine lv_iload_n hx hb dX12_count_203 rfl (lv_at hl 0 rfl) ?_
        refine lv_aload_n hx hb dX12_count_204 rfl (lv_at hl 2 rfl) ?_
        refine tw_get hx hb hts bF_X12 hown hK hT hr_o0 shm_0 rfl 42 (by decide) (ht_at hts 19 rfl) (fun _ h9 => h9) dX12_count_205 (fun v9 m564 h9 => ?_)
        obtain ⟨x565, rfl, gx565, kx565⟩ := h9 _ rfl
        refine lv_icmp_ge (tgt := 226) hx hb dX12_count_208 (by decide) (fun c566 => ?_) (fun c566 => ?_)
        · have t567 : x565.toInt ≤ ((i519 : Nat) : Int) := ti_le c566 rfl (nI_toInt (by omega))
          refine lv_iload_n hx hb dX12_count_226 rfl (lv_at hl 1 rfl) ?_
          exact W.iret (v := z546) hx hb hr (fun t ht hW => ⟨⟨z546, (), rfl, (by exact trivial), by (try dsimp only); rw [ht]; exact ⟨hT, hF⟩⟩, hS.F ht⟩) hS.2.2 dX12_count_227
        · have t568 : ((i519 : Nat) : Int) < x565.toInt := ti_nle c566 rfl (nI_toInt (by omega))
          refine lv_iload_n hx hb dX12_count_211 rfl (lv_at hl 1 rfl) ?_
          refine lv_aload_n hx hb dX12_count_212 rfl (lv_at hl 2 rfl) ?_
          refine tw_get hx hb hts bF_X12 hown hK hT hr_o0 shm_0 rfl 40 (by decide) (ht_at hts 27 rfl) (fun _ h9 => h9) dX12_count_213 (fun v9 m569 h9 => ?_)
          obtain ⟨rfl, hg570⟩ := h9 _ rfl
          refine lv_iload_n hx hb dX12_count_216 rfl (lv_at hl 0 rfl) ?_
          refine tw_iald (i := (nI i519)) hx hb hK hT hg570 shm_41 rfl (vp_in_nI (by omega) (by decide)) dX12_count_217 (fun v9 m571 h9 => ?_)
          obtain ⟨x572, rfl, gx572, kx572⟩ := h9
          refine lv_iadd hx hb dX12_count_218 ?_
          refine lv_topi (fun x573 ex573 => ?_)
          refine lv_istore_n (lv' := [(2, .int x573), (3, .int (nI i519)), (0, .ref o0), (1, .int 11)]) hx hb dX12_count_219 rfl hl (by decide) rfl (fun ls hl => ?_)
          refine lv_iinc (v := nI (i519 + 1)) (lv' := [(3, .int (nI (i519 + 1))), (2, .int x573), (0, .ref o0), (1, .int 11)]) hx hb dX12_count_220 hl (k := 1) rfl (nI_add i519 1) (by decide) rfl (fun ls hl => ?_)
          refine lv_goto (tgt := 203) hx hb dX12_count_223 (by decide) ?_
          exact ih558 (i519 + 1) (by omega) (by omega) x573 _ _ hT hF hS m547 ls (lv_sub hl [0, 1, 2, 3] rfl)
    exact key558 (60 - 0) 0 (by omega) (Nat.le_refl _) 0 _ _ hT hF hS m1 ls (lv_sub hl [0, 1, 2, 3] rfl)
  by_cases hs574 : p0 = 12
  · subst hs574
    refine lv_tableIn (x := 12) (off := 220) (tgt := 228) hx hb dX12_count_8 (by decide) (by decide) (by decide) (by decide) ?_
    refine lv_aload_n hx hb dX12_count_228 rfl (lv_at hl 1 rfl) ?_
    refine tw_get hx hb hts bF_X12 hown hK hT hr_o0 shm_0 rfl 64 (by decide) (ht_at hts 28 rfl) (fun _ h9 => h9) dX12_count_229 (fun v9 m575 h9 => ?_)
    obtain ⟨x576, rfl, gx576, kx576⟩ := h9 _ rfl
    exact W.iret (v := x576) hx hb hr (fun t ht hW => ⟨⟨x576, (), rfl, (by exact trivial), by (try dsimp only); rw [ht]; exact ⟨hT, hF⟩⟩, hS.F ht⟩) hS.2.2 dX12_count_232
  by_cases hs577 : p0 = 13
  · subst hs577
    refine lv_tableIn (x := 13) (off := 225) (tgt := 233) hx hb dX12_count_8 (by decide) (by decide) (by decide) (by decide) ?_
    refine lv_aload_n hx hb dX12_count_233 rfl (lv_at hl 1 rfl) ?_
    refine tw_get hx hb hts bF_X12 hown hK hT hr_o0 shm_0 rfl 1 (by decide) (ht_at hts 2 rfl) (fun _ h9 => h9) dX12_count_234 (fun v9 m578 h9 => ?_)
    obtain ⟨rfl, hg579⟩ := h9 _ rfl
    refine lv_sipush (v := 1745) hx hb dX12_count_237 (by decide) ?_
    refine tw_iald (i := 1745) hx hb hK hT hg579 shm_2 rfl (by unfold vp_in; decide) dX12_count_240 (fun v9 m580 h9 => ?_)
    obtain ⟨x581, rfl, gx581, kx581⟩ := (gp_at h9 (w_fre (by have q9 := tn_of (show (1745 : Int32).toInt = 1745 from (by decide)) (show (0 : Int) ≤ 1745 from by omega); omega)))
    exact W.iret (v := x581) hx hb hr (fun t ht hW => ⟨⟨x581, (), rfl, (by exact trivial), by (try dsimp only); rw [ht]; exact ⟨hT, hF⟩⟩, hS.F ht⟩) hS.2.2 dX12_count_241
  by_cases hs582 : p0 = 14
  · subst hs582
    refine lv_tableIn (x := 14) (off := 234) (tgt := 242) hx hb dX12_count_8 (by decide) (by decide) (by decide) (by decide) ?_
    refine lv_aload_n hx hb dX12_count_242 rfl (lv_at hl 1 rfl) ?_
    refine tw_get hx hb hts bF_X12 hown hK hT hr_o0 shm_0 rfl 1 (by decide) (ht_at hts 2 rfl) (fun _ h9 => h9) dX12_count_243 (fun v9 m583 h9 => ?_)
    obtain ⟨rfl, hg584⟩ := h9 _ rfl
    refine lv_sipush (v := 1746) hx hb dX12_count_246 (by decide) ?_
    refine tw_iald (i := 1746) hx hb hK hT hg584 shm_2 rfl (by unfold vp_in; decide) dX12_count_249 (fun v9 m585 h9 => ?_)
    obtain ⟨x586, rfl, gx586, kx586⟩ := (gp_at h9 (w_fre (by have q9 := tn_of (show (1746 : Int32).toInt = 1746 from (by decide)) (show (0 : Int) ≤ 1746 from by omega); omega)))
    exact W.iret (v := x586) hx hb hr (fun t ht hW => ⟨⟨x586, (), rfl, (by exact trivial), by (try dsimp only); rw [ht]; exact ⟨hT, hF⟩⟩, hS.F ht⟩) hS.2.2 dX12_count_250
  by_cases hs587 : p0 = 15
  · subst hs587
    refine lv_tableIn (x := 15) (off := 243) (tgt := 251) hx hb dX12_count_8 (by decide) (by decide) (by decide) (by decide) ?_
    refine lv_aload_n hx hb dX12_count_251 rfl (lv_at hl 1 rfl) ?_
    refine tw_get hx hb hts bF_X12 hown hK hT hr_o0 shm_0 rfl 1 (by decide) (ht_at hts 2 rfl) (fun _ h9 => h9) dX12_count_252 (fun v9 m588 h9 => ?_)
    obtain ⟨rfl, hg589⟩ := h9 _ rfl
    refine lv_sipush (v := 1747) hx hb dX12_count_255 (by decide) ?_
    refine tw_iald (i := 1747) hx hb hK hT hg589 shm_2 rfl (by unfold vp_in; decide) dX12_count_258 (fun v9 m590 h9 => ?_)
    obtain ⟨x591, rfl, gx591, kx591⟩ := (gp_at h9 (w_fre (by have q9 := tn_of (show (1747 : Int32).toInt = 1747 from (by decide)) (show (0 : Int) ≤ 1747 from by omega); omega)))
    exact W.iret (v := x591) hx hb hr (fun t ht hW => ⟨⟨x591, (), rfl, (by exact trivial), by (try dsimp only); rw [ht]; exact ⟨hT, hF⟩⟩, hS.F ht⟩) hS.2.2 dX12_count_259
  by_cases hs592 : p0 = 16
  · subst hs592
    refine lv_tableIn (x := 16) (off := 252) (tgt := 260) hx hb dX12_count_8 (by decide) (by decide) (by decide) (by decide) ?_
    refine lv_aload_n hx hb dX12_count_260 rfl (lv_at hl 1 rfl) ?_
    refine tw_get hx hb hts bF_X12 hown hK hT hr_o0 shm_0 rfl 1 (by decide) (ht_at hts 2 rfl) (fun _ h9 => h9) dX12_count_261 (fun v9 m593 h9 => ?_)
    obtain ⟨rfl, hg594⟩ := h9 _ rfl
    refine lv_sipush (v := 1748) hx hb dX12_count_264 (by decide) ?_
    refine tw_iald (i := 1748) hx hb hK hT hg594 shm_2 rfl (by unfold vp_in; decide) dX12_count_267 (fun v9 m595 h9 => ?_)
    obtain ⟨x596, rfl, gx596, kx596⟩ := (gp_at h9 (w_fre (by have q9 := tn_of (show (1748 : Int32).toInt = 1748 from (by decide)) (show (0 : Int) ≤ 1748 from by omega); omega)))
    exact W.iret (v := x596) hx hb hr (fun t ht hW => ⟨⟨x596, (), rfl, (by exact trivial), by (try dsimp only); rw [ht]; exact ⟨hT, hF⟩⟩, hS.F ht⟩) hS.2.2 dX12_count_268
  by_cases hs597 : p0 = 17
  · subst hs597
    refine lv_tableIn (x := 17) (off := 261) (tgt := 269) hx hb dX12_count_8 (by decide) (by decide) (by decide) (by decide) ?_
    refine lv_aload_n hx hb dX12_count_269 rfl (lv_at hl 1 rfl) ?_
    refine tw_get hx hb hts bF_X12 hown hK hT hr_o0 shm_0 rfl 9 (by decide) (ht_at hts 29 rfl) (fun _ h9 => h9) dX12_count_270 (fun v9 m598 h9 => ?_)
    obtain ⟨x599, rfl, gx599, kx599⟩ := h9 _ rfl
    exact W.iret (v := x599) hx hb hr (fun t ht hW => ⟨⟨x599, (), rfl, (by exact trivial), by (try dsimp only); rw [ht]; exact ⟨hT, hF⟩⟩, hS.F ht⟩) hS.2.2 dX12_count_273
  have ho600 : p0.toInt < 0 ∨ 17 < p0.toInt := by
    have ehs2 : p0.toInt ≠ 0 := fun e => hs2 (Int32.toInt_inj.mp (e.trans (by decide)))
    have ehs7 : p0.toInt ≠ 1 := fun e => hs7 (Int32.toInt_inj.mp (e.trans (by decide)))
    have ehs14 : p0.toInt ≠ 2 := fun e => hs14 (Int32.toInt_inj.mp (e.trans (by decide)))
    have ehs19 : p0.toInt ≠ 3 := fun e => hs19 (Int32.toInt_inj.mp (e.trans (by decide)))
    have ehs492 : p0.toInt ≠ 4 := fun e => hs492 (Int32.toInt_inj.mp (e.trans (by decide)))
    have ehs496 : p0.toInt ≠ 5 := fun e => hs496 (Int32.toInt_inj.mp (e.trans (by decide)))
    have ehs500 : p0.toInt ≠ 6 := fun e => hs500 (Int32.toInt_inj.mp (e.trans (by decide)))
    have ehs505 : p0.toInt ≠ 7 := fun e => hs505 (Int32.toInt_inj.mp (e.trans (by decide)))
    have ehs508 : p0.toInt ≠ 8 := fun e => hs508 (Int32.toInt_inj.mp (e.trans (by decide)))
    have ehs512 : p0.toInt ≠ 9 := fun e => hs512 (Int32.toInt_inj.mp (e.trans (by decide)))
    have ehs515 : p0.toInt ≠ 10 := fun e => hs515 (Int32.toInt_inj.mp (e.trans (by decide)))
    have ehs518 : p0.toInt ≠ 11 := fun e => hs518 (Int32.toInt_inj.mp (e.trans (by decide)))
    have ehs574 : p0.toInt ≠ 12 := fun e => hs574 (Int32.toInt_inj.mp (e.trans (by decide)))
    have ehs577 : p0.toInt ≠ 13 := fun e => hs577 (Int32.toInt_inj.mp (e.trans (by decide)))
    have ehs582 : p0.toInt ≠ 14 := fun e => hs582 (Int32.toInt_inj.mp (e.trans (by decide)))
    have ehs587 : p0.toInt ≠ 15 := fun e => hs587 (Int32.toInt_inj.mp (e.trans (by decide)))
    have ehs592 : p0.toInt ≠ 16 := fun e => hs592 (Int32.toInt_inj.mp (e.trans (by decide)))
    have ehs597 : p0.toInt ≠ 17 := fun e => hs597 (Int32.toInt_inj.mp (e.trans (by decide)))
    omega
  refine lv_tableOut (tgt := 274) hx hb dX12_count_8 ho600 (by decide) ?_
  refine lv_iconst (v := (-1)) hx hb dX12_count_274 (by decide) ?_
  exact W.iret (v := (-1)) hx hb hr (fun t ht hW => ⟨⟨(-1), (), rfl, (by exact trivial), by (try dsimp only); rw [ht]; exact ⟨hT, hF⟩⟩, hS.F ht⟩) hS.2.2 dX12_count_275
