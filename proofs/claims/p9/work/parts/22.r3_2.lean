def w_s_storm : List Cond := .code yX12_storm cX12_storm 5 (some .int) :: (HAppend.hAppend (α := List Cond) (β := List Cond) (γ := List Cond) [.fieldLink RX12 194 "SeaLandModel" "thrown" "I", .code yX12_throwsIf cX12_throwsIf 3 (some .boolean), .methodLink RX12 224 yX12_throwsIf, .instanceMethod yX12_throwsIf, .selects RX12 yX12_throwsIf yX12_throwsIf, .initialized RX12, .constant RX12 242 40000, .code yX12_in cX12_in 3 (some .boolean), .methodLink RX12 197 yX12_in, .static yX12_in, .fieldLink RX12 9 "SeaLandModel" "world" "[I", .fieldLink RX12 238 "SeaLandModel" "rows" "I"] bs)
set_option maxHeartbeats 4000000 in
set_option maxRecDepth 100000 in
theorem s_storm (l : Launch) (dC : Nat → ClassId) (dI : Nat → Nat → Nat) (kA : Nat → ClassId) (adK adV : Nat → Nat) (G : gT) (H0 : Heap) (q : Nat → Nat) (wZ wN : Nat → Int) (wH wB wC : Int) (wL wK : Nat → Prop) (wU wV : Nat → Nat) (PI : Nat → Int → Prop) (im : Int) (PM PT : Nat → Int → Prop) (lS lB lE : Nat → Nat → Int → Prop) (lN : Nat → Int) (o0 : Nat) (p0 : Int32) (p1 : Int32) (p2 : Int32)  (hT : gH (dC, dI) kA (SHm q (wP wZ wN wH wB wC wL wK wU wV) PI im PM PT lS lB lE lN) G H0) (hr_o0 : G o0 = some 0) (hgz : ∀ i, 0 ≤ wZ i) (hgn : ∀ i, 6500000 ≤ wN i ∧ wN i ≤ 20200000) (hgh : 0 ≤ wH ∧ wH ≤ 40000) (hgb : 0 ≤ wB ∧ wB ≤ 3850000) (hgc : 0 ≤ wC ∧ wC ≤ 30) (hgi : 0 ≤ im ∧ im ≤ 1) (hgu : ∀ a t, G a = some (t + 1) → a = q t) : Met l yX12_storm w_s_storm ({ frames := 1, cells := 0, slots := 0, locals := 22 }) (va_Pc [.ref o0, .int p0, .int p1, .int p2] (fun U => U.heap = H0 ∧ va_K (dC, dI) vwCl (tyl kA) U ∧ EVS adK adV (gA G H0.size) U U.heap)) (va_Qi (fun (r : Int32) (u : (Nat → Nat)) => (-1 ≤ r.toInt ∧ r.toInt ≤ 20) ∧ (∀ w, w < 30 → u w = wU w)) (fun (wU1 : (Nat → Nat)) (t : State) => gH (dC, dI) kA (SHm q (wP wZ wN wH wB wC wL wK wU1 wV) PI im PM PT lS lB lE lN) G t.heap ∧ gF (dC, dI) SKm G ([(0, 0), (0, 9), (2, 0)] : List (Nat × Nat)) H0 t.heap) (gA G H0.size)) 0 0 (gA G H0.size) := by
  refine Met.ofW (cc := cX12_storm) (maxL := 5) (ret := (some .int)) (by decide) rfl ?_
  intro p e s m args below meth c s₁ B hml hv
  obtain ⟨rfl, hH0, hK, hE⟩ := hv
  have hx := B.exec
  have hb := B.bytes
  have hr := B.returns
  have hts := atoms_spec (ws := w_s_storm) B.pre
  have hown : s.vm.findClass RX12 = some m.cls := findClass_of_methodNamed B.named
  have hlocks := B.notSynchronized
  subst hH0
  generalize hAe : gA G s.heap.size = A at hE ⊢
  have hA : ∀ q : Nat, s.heap.size ≤ q → A q := fun q h => by rw [← hAe]; exact Or.inr h
  have hG := gA_of hAe
  have hS : va_S A s.heap s.heap [] := va_S.rf
  have hF : gF (dC, dI) SKm G ([(0, 0), (0, 9), (2, 0)] : List (Nat × Nat)) s.heap s.heap := gF.rf
  have hl := lv_entry ([.ref o0, .int p0, .int p1, .int p2]) (n := 5) (Nat.le_of_ble_eq_true rfl)
  rw [lg_entry_eq]
  generalize (lg_sl ([.ref o0, .int p0, .int p1, .int p2]) ++ List.replicate (5 - (lg_sl ([.ref o0, .int p0, .int p1, .int p2])).length) Slot.unset).toArray = ls at hl ⊢
  have hl : lv_has ls 5 [(0, .ref o0), (1, .int p0), (2, .int p1), (3, .int p2)] := hl
  refine lv_aload_n hx hb dX12_storm_0 rfl (lv_at hl 0 rfl) ?_
  refine lv_iconst (v := 0) hx hb dX12_storm_1 (by decide) ?_
  refine tw_put (v := .int 0) (ty := .int) hx hb hts bF_X12 tyX12 tyX12_ok nmX12 hown hK hT hG hS hr_o0 shm_0 rfl 0 (by decide) (ht_at hts 0 rfl) (fun _ h9 => h9) rfl (by decide +kernel) rfl rfl (gl_at rfl (gi_all _)) dX12_storm_2 (fun H locs hT oq m1 oj hS => ?_)
  have hF := hF.put hr_o0 skm_0 oq oj (by decide)
  refine lv_aload_n hx hb dX12_storm_5 rfl (lv_at hl 0 rfl) ?_
  refine lv_iload_n hx hb dX12_storm_6 rfl (lv_at hl 1 rfl) ?_
  refine lv_if_lt (tgt := 32) hx hb dX12_storm_7 (by decide) (fun c2 => ?_) (fun c2 => ?_)
  · have t3 : p0.toInt < 0 := ti_lt c2 rfl (by decide)
    refine lv_iconst (v := 1) hx hb dX12_storm_32 (by decide) ?_
    refine lv_goto (tgt := 37) hx hb dX12_storm_33 (by decide) ?_
    refine lv_iconst (v := 1) hx hb dX12_storm_37 (by decide) ?_
    have hFc := gA_free hG hA hS
    refine va_calli (va_runV (As := [.int 1, .int 1]) (rest := []) ⟨hx, hb, hml, hown, hts⟩ (s_throwsIf l dC dI kA adK adV G H q wZ wN wH wB wC wL wK wU wV PI im PM PT lS lB lE lN o0 1 1 hT hr_o0 (rg_t (a := 1) (by decide) (by first | decide | omega) (by first | decide | omega)) hgz hgn hgh hgb hgc hgi hgu) (cwV 2 hts (goodIn_app (goodIn_r _ [3, 4, 5, 6] rfl (by decide +kernel)) (goodIn_ca (goodIn_r _ [2, 1] rfl (by decide +kernel)) (bs_in _ _))) rfl rfl rfl (by decide +kernel) ⟨(Nat.le_of_ble_eq_true rfl), (Nat.le_of_ble_eq_true rfl)⟩) ⟨fun a U g mk q => by obtain ⟨q0, q1, qK, qE⟩ := q; exact ⟨q0, q1, va_K.moved (u := U) (U := U.calling g mk a) (Vm.Alike.refl U.vm) qK, EVS.blind g mk a qE⟩, gH_rc hK hT hr_o0 shm_0 rfl, fun U hU hW => ⟨rfl, hU, va_K.moved hW.alike hK, hE.call hS hFc hU hW⟩⟩ rfl rfl hl.1 rfl (lv_room (Nat.le_of_ble_eq_true rfl)) dX12_storm_38 ⟨(Nat.le_of_ble_eq_true rfl), (Nat.le_of_ble_eq_true rfl)⟩) hS (fun q _ h => hFc q h) hFc (fun r4 u t H locs ht hvm hw5 hB _ _ hS => ?_)
    obtain ⟨hT, hF1⟩ := hB
    rw [ht] at hT hF1
    have hF := hF.more hF1 (by decide)
    try dsimp only at hw5
    obtain ⟨h7, hd8⟩ := hw5
    obtain rfl : (1 : Int32) = r4 := hd8.symm
    refine lv_if_eq (tgt := 46) hx hb dX12_storm_41 (by decide) (fun c9 => absurd c9 (by decide)) (fun c9 => ?_)
    refine lv_iconst (v := 0) hx hb dX12_storm_44 (by decide) ?_
    exact W.iret (v := 0) hx hb hr (fun t ht hW => ⟨⟨0, wU, rfl, (by exact ⟨(rg_t (a := 0) (by decide) (by first | decide | omega) (by first | decide | omega)), (fun _ _ => rfl)⟩), by (try dsimp only); rw [ht]; exact ⟨hT, hF⟩⟩, hS.F ht⟩) hS.2.2 dX12_storm_45
  · have t10 : 0 ≤ p0.toInt := ti_nlt c2 rfl (by decide)
    refine lv_iload_n hx hb dX12_storm_10 rfl (lv_at hl 2 rfl) ?_
    refine lv_iload_n hx hb dX12_storm_11 rfl (lv_at hl 1 rfl) ?_
    refine lv_icmp_lt (tgt := 32) hx hb dX12_storm_12 (by decide) (fun c11 => ?_) (fun c11 => ?_)
    · have t12 : p1.toInt < p0.toInt := ti_lt c11 rfl rfl
      refine lv_iconst (v := 1) hx hb dX12_storm_32 (by decide) ?_
      refine lv_goto (tgt := 37) hx hb dX12_storm_33 (by decide) ?_
      refine lv_iconst (v := 1) hx hb dX12_storm_37 (by decide) ?_
      have hFc := gA_free hG hA hS
      refine va_calli (va_runV (As := [.int 1, .int 1]) (rest := []) ⟨hx, hb, hml, hown, hts⟩ (s_throwsIf l dC dI kA adK adV G H q wZ wN wH wB wC wL wK wU wV PI im PM PT lS lB lE lN o0 1 1 hT hr_o0 (rg_t (a := 1) (by decide) (by first | decide | omega) (by first | decide | omega)) hgz hgn hgh hgb hgc hgi hgu) (cwV 2 hts (goodIn_app (goodIn_r _ [3, 4, 5, 6] rfl (by decide +kernel)) (goodIn_ca (goodIn_r _ [2, 1] rfl (by decide +kernel)) (bs_in _ _))) rfl rfl rfl (by decide +kernel) ⟨(Nat.le_of_ble_eq_true rfl), (Nat.le_of_ble_eq_true rfl)⟩) ⟨fun a U g mk q => by obtain ⟨q0, q1, qK, qE⟩ := q; exact ⟨q0, q1, va_K.moved (u := U) (U := U.calling g mk a) (Vm.Alike.refl U.vm) qK, EVS.blind g mk a qE⟩, gH_rc hK hT hr_o0 shm_0 rfl, fun U hU hW => ⟨rfl, hU, va_K.moved hW.alike hK, hE.call hS hFc hU hW⟩⟩ rfl rfl hl.1 rfl (lv_room (Nat.le_of_ble_eq_true rfl)) dX12_storm_38 ⟨(Nat.le_of_ble_eq_true rfl), (Nat.le_of_ble_eq_true rfl)⟩) hS (fun q _ h => hFc q h) hFc (fun r13 u t H locs ht hvm hw14 hB _ _ hS => ?_)
      obtain ⟨hT, hF1⟩ := hB
      rw [ht] at hT hF1
      have hF := hF.more hF1 (by decide)
      try dsimp only at hw14
      obtain ⟨h16, hd17⟩ := hw14
      obtain rfl : (1 : Int32) = r13 := hd17.symm
      refine lv_if_eq (tgt := 46) hx hb dX12_storm_41 (by decide) (fun c18 => absurd c18 (by decide)) (fun c18 => ?_)
      refine lv_iconst (v := 0) hx hb dX12_storm_44 (by decide) ?_
      exact W.iret (v := 0) hx hb hr (fun t ht hW => ⟨⟨0, wU, rfl, (by exact ⟨(rg_t (a := 0) (by decide) (by first | decide | omega) (by first | decide | omega)), (fun _ _ => rfl)⟩), by (try dsimp only); rw [ht]; exact ⟨hT, hF⟩⟩, hS.F ht⟩) hS.2.2 dX12_storm_45
    · have t19 : p0.toInt ≤ p1.toInt := ti_nlt c11 rfl rfl
      refine lv_iload_n hx hb dX12_storm_15 rfl (lv_at hl 2 rfl) ?_
      refine lv_ldc (v := 40000) hx hb hown (ht_at hts 6 rfl) dX12_storm_16 ?_
      refine lv_icmp_gt (tgt := 32) hx hb dX12_storm_18 (by decide) (fun c20 => ?_) (fun c20 => ?_)
      · have t21 : 40000 < p1.toInt := ti_lt c20 (by decide) rfl
        refine lv_iconst (v := 1) hx hb dX12_storm_32 (by decide) ?_
        refine lv_goto (tgt := 37) hx hb dX12_storm_33 (by decide) ?_
        refine lv_iconst (v := 1) hx hb dX12_storm_37 (by decide) ?_
        have hFc := gA_free hG hA hS
        refine va_calli (va_runV (As := [.int 1, .int 1]) (rest := []) ⟨hx, hb, hml, hown, hts⟩ (s_throwsIf l dC dI kA adK adV G H q wZ wN wH wB wC wL wK wU wV PI im PM PT lS lB lE lN o0 1 1 hT hr_o0 (rg_t (a := 1) (by decide) (by first | decide | omega) (by first | decide | omega)) hgz hgn hgh hgb hgc hgi hgu) (cwV 2 hts (goodIn_app (goodIn_r _ [3, 4, 5, 6] rfl (by decide +kernel)) (goodIn_ca (goodIn_r _ [2, 1] rfl (by decide +kernel)) (bs_in _ _))) rfl rfl rfl (by decide +kernel) ⟨(Nat.le_of_ble_eq_true rfl), (Nat.le_of_ble_eq_true rfl)⟩) ⟨fun a U g mk q => by obtain ⟨q0, q1, qK, qE⟩ := q; exact ⟨q0, q1, va_K.moved (u := U) (U := U.calling g mk a) (Vm.Alike.refl U.vm) qK, EVS.blind g mk a qE⟩, gH_rc hK hT hr_o0 shm_0 rfl, fun U hU hW => ⟨rfl, hU, va_K.moved hW.alike hK, hE.call hS hFc hU hW⟩⟩ rfl rfl hl.1 rfl (lv_room (Nat.le_of_ble_eq_true rfl)) dX12_storm_38 ⟨(Nat.le_of_ble_eq_true rfl), (Nat.le_of_ble_eq_true rfl)⟩) hS (fun q _ h => hFc q h) hFc (fun r22 u t H locs ht hvm hw23 hB _ _ hS => ?_)
        obtain ⟨hT, hF1⟩ := hB
        rw [ht] at hT hF1
        have hF := hF.more hF1 (by decide)
        try dsimp only at hw23
        obtain ⟨h25, hd26⟩ := hw23
        obtain rfl : (1 : Int32) = r22 := hd26.symm
        refine lv_if_eq (tgt := 46) hx hb dX12_storm_41 (by decide) (fun c27 => absurd c27 (by decide)) (fun c27 => ?_)
        refine lv_iconst (v := 0) hx hb dX12_storm_44 (by decide) ?_
        exact W.iret (v := 0) hx hb hr (fun t ht hW => ⟨⟨0, wU, rfl, (by exact ⟨(rg_t (a := 0) (by decide) (by first | decide | omega) (by first | decide | omega)), (fun _ _ => rfl)⟩), by (try dsimp only); rw [ht]; exact ⟨hT, hF⟩⟩, hS.F ht⟩) hS.2.2 dX12_storm_45
      · have t28 : p1.toInt ≤ 40000 := ti_nlt c20 (by decide) rfl
        refine lv_iload_n hx hb dX12_storm_21 rfl (lv_at hl 3 rfl) ?_
        refine lv_iconst (v := 1) hx hb dX12_storm_22 (by decide) ?_
        refine lv_sipush (v := 500) hx hb dX12_storm_23 (by decide) ?_
        have hFc := gA_free hG hA hS
        refine va_calli (va_runS (As := [.int p2, .int 1, .int 500]) (rest := [.ref o0]) ⟨hx, hb, hml, hown, hts⟩ (s_in l dC dI kA adK adV G H q wZ wN wH wB wC wL wK wU wV PI im PM PT lS lB lE lN p2 1 500 hT hgz hgn hgh hgb hgc hgi hgu) (va_cwS 3 hts (goodIn_app (goodIn_r _ [9, 10, 6] rfl (by decide +kernel)) (goodIn_ca (goodIn_r _ [8] rfl (by decide +kernel)) (bs_in _ _))) rfl rfl rfl (by decide +kernel) ⟨(Nat.le_of_ble_eq_true rfl), (Nat.le_of_ble_eq_true rfl)⟩) ⟨fun a U g mk q => by obtain ⟨q0, q1, qK, qE⟩ := q; exact ⟨q0, q1, va_K.moved (u := U) (U := U.calling g mk a) (Vm.Alike.refl U.vm) qK, EVS.blind g mk a qE⟩, fun U hU hW => ⟨rfl, hU, va_K.moved hW.alike hK, hE.call hS hFc hU hW⟩⟩ rfl rfl hl.1 rfl (lv_room (Nat.le_of_ble_eq_true rfl)) dX12_storm_26 ⟨(Nat.le_of_ble_eq_true rfl), (Nat.le_of_ble_eq_true rfl)⟩) hS (fun q _ h => hFc q h) hFc (fun r29 u t H locs ht hvm hw30 hB _ _ hS => ?_)
        obtain ⟨hT, hF1⟩ := hB
        rw [ht] at hT hF1
        have hF := hF.more hF1 (by decide)
        try dsimp only at hw30
        obtain ⟨h32, hi33, hi34⟩ := hw30
        refine lv_if_ne (tgt := 36) hx hb dX12_storm_29 (by decide) (fun c35 => ?_) (fun c35 => ?_)
        · have t36 : r29.toInt ≠ 0 := ti_ne c35 rfl (by decide)
          have t37 : (1 : Int32).toInt = 1 := by decide
          have t38 : (500 : Int32).toInt = 500 := by decide
          have t39 : (1 : Int32).toInt ≤ p2.toInt ∧ p2.toInt ≤ (500 : Int32).toInt := hi33 ((bit_of ⟨by omega, by omega⟩).resolve_left c35)
          refine lv_iconst (v := 0) hx hb dX12_storm_36 (by decide) ?_
          refine lv_iconst (v := 1) hx hb dX12_storm_37 (by decide) ?_
          have hFc := gA_free hG hA hS
          refine va_calli (va_runV (As := [.int 0, .int 1]) (rest := []) ⟨hx, hb, hml, hown, hts⟩ (s_throwsIf l dC dI kA adK adV G H q wZ wN wH wB wC wL wK wU wV PI im PM PT lS lB lE lN o0 0 1 hT hr_o0 (rg_t (a := 0) (by decide) (by first | decide | omega) (by first | decide | omega)) hgz hgn hgh hgb hgc hgi hgu) (cwV 2 hts (goodIn_app (goodIn_r _ [3, 4, 5, 6] rfl (by decide +kernel)) (goodIn_ca (goodIn_r _ [2, 1] rfl (by decide +kernel)) (bs_in _ _))) rfl rfl rfl (by decide +kernel) ⟨(Nat.le_of_ble_eq_true rfl), (Nat.le_of_ble_eq_true rfl)⟩) ⟨fun a U g mk q => by obtain ⟨q0, q1, qK, qE⟩ := q; exact ⟨q0, q1, va_K.moved (u := U) (U := U.calling g mk a) (Vm.Alike.refl U.vm) qK, EVS.blind g mk a qE⟩, gH_rc hK hT hr_o0 shm_0 rfl, fun U hU hW => ⟨rfl, hU, va_K.moved hW.alike hK, hE.call hS hFc hU hW⟩⟩ rfl rfl hl.1 rfl (lv_room (Nat.le_of_ble_eq_true rfl)) dX12_storm_38 ⟨(Nat.le_of_ble_eq_true rfl), (Nat.le_of_ble_eq_true rfl)⟩) hS (fun q _ h => hFc q h) hFc (fun r40 u t H locs ht hvm hw41 hB _ _ hS => ?_)
          obtain ⟨hT, hF1⟩ := hB
          rw [ht] at hT hF1
          have hF := hF.more hF1 (by decide)
          try dsimp only at hw41
          obtain ⟨h43, hd44⟩ := hw41
          obtain rfl : (0 : Int32) = r40 := hd44.symm
          refine lv_if_eq (tgt := 46) hx hb dX12_storm_41 (by decide) (fun c45 => ?_) (fun c45 => absurd c45 (by decide))
          refine lv_aload_n hx hb dX12_storm_46 rfl (lv_at hl 0 rfl) ?_
          refine tw_get hx hb hts bF_X12 hown hK hT hr_o0 shm_0 rfl 1 (by decide) (ht_at hts 10 rfl) (fun _ h9 => h9) dX12_storm_47 (fun v9 m46 h9 => ?_)
          obtain ⟨rfl, hg47⟩ := h9 _ rfl
          refine lv_sipush (v := 1442) hx hb dX12_storm_50 (by decide) ?_
          refine tw_iald (i := 1442) hx hb hK hT hg47 shm_2 rfl (by unfold vp_in; decide) dX12_storm_53 (fun v9 m48 h9 => ?_)
          obtain ⟨x49, rfl, gx49, kx49⟩ := (gp_at h9 (w_stc (by have q9 := tn_of (show (1442 : Int32).toInt = 1442 from (by decide)) (show (0 : Int) ≤ 1442 from by omega); omega)))
          refine lv_istore (lv' := [(4, .int x49), (0, .ref o0), (1, .int p0), (2, .int p1), (3, .int p2)]) hx hb dX12_storm_54 hl (by decide) rfl (fun ls hl => ?_)
          refine lv_iload hx hb dX12_storm_56 (lv_at hl 0 rfl) ?_
          refine lv_bipush (v := 20) hx hb dX12_storm_58 (by decide) ?_
          refine lv_icmp_ne (tgt := 65) hx hb dX12_storm_60 (by decide) (fun c50 => ?_) (fun c50 => ?_)
          · have t51 : x49.toInt ≠ 20 := ti_ne c50 rfl (by decide)
            refine lv_aload_n hx hb dX12_storm_65 rfl (lv_at hl 1 rfl) ?_
            refine tw_get hx hb hts bF_X12 hown hK hT hr_o0 shm_0 rfl 1 (by decide) (ht_at hts 10 rfl) (fun _ h9 => h9) dX12_storm_66 (fun v9 m52 h9 => ?_)
            obtain ⟨rfl, hg53⟩ := h9 _ rfl
            refine lv_sipush (v := 1443) hx hb dX12_storm_69 (by decide) ?_
            refine lv_iconst (v := 3) hx hb dX12_storm_72 (by decide) ?_
            refine lv_iload hx hb dX12_storm_73 (lv_at hl 0 rfl) ?_
            refine lv_imul hx hb dX12_storm_75 ?_
            refine lv_topi (fun x54 ex54 => ?_)
            have t55 : x54.toInt = 3 * x49.toInt := ti_mul ex54 (by decide) rfl (by omega) (by omega)
            refine lv_iadd hx hb dX12_storm_76 ?_
            refine lv_topi (fun x56 ex56 => ?_)
            have t57 : x56.toInt = 1443 + x54.toInt := ti_add ex56 (by decide) rfl (by omega) (by omega)
            refine lv_iload_n hx hb dX12_storm_77 rfl (lv_at hl 2 rfl) ?_
            refine tw_iast2 (Sg1 := (SHm q (wP wZ wN wH wB wC wL wK (sU wU (x56.toNatClampNeg - 1400) (p0.toInt + 1000).toNat) wV) PI im PM PT lS lB lE lN)) (i := x56) (x := p0) hx hb hK hT hG hS hg47 shm_2 rfl shm_2 shm_o2 (fun b9 h9 => hgu b9 1 h9) (vin_t (a := x56.toInt) rfl (by omega) (by omega)) (gp_of (gi_all _) (w_fre (by have q9 := tn_of (show x56.toInt = x56.toInt from rfl) (show (0 : Int) ≤ x56.toInt from by omega); omega)) (wX_s (k := x56.toNatClampNeg - 1400) (v := (p0.toInt + 1000).toNat) ⟨by have q9 := tn_of (show x56.toInt = x56.toInt from rfl) (show (0 : Int) ≤ x56.toInt from by omega); omega, by have q9 := tn_of (show x56.toInt = x56.toInt from rfl) (show (0 : Int) ≤ x56.toInt from by omega); omega⟩ (by omega) (by have := (show p0.toInt = p0.toInt from rfl); omega))) (fun k9 hk9 hne9 v9 hv9 he9 => by obtain ⟨x9, rfl, p9⟩ := he9; exact ⟨x9, rfl, wP_U (by omega) (pl := x56.toNatClampNeg) ⟨by have q9 := tn_of (show x56.toInt = x56.toInt from rfl) (show (0 : Int) ≤ x56.toInt from by omega); omega, by have q9 := tn_of (show x56.toInt = x56.toInt from rfl) (show (0 : Int) ≤ x56.toInt from by omega); omega⟩ hne9 p9⟩) dX12_storm_78 (fun H locs hT oq m58 oi hS => ?_)
            have hF := hF.ast hg47 skm_2 oq (by decide)
            have m59 := (oi _ (tn_ne (show (1442 : Int32).toInt = 1442 from (by decide)) (show x56.toInt = x56.toInt from rfl) (by omega) (by omega) (by omega))).trans m48
            refine lv_aload_n hx hb dX12_storm_79 rfl (lv_at hl 1 rfl) ?_
            refine tw_get hx hb hts bF_X12 hown hK hT hr_o0 shm_0 rfl 1 (by decide) (ht_at hts 10 rfl) (fun _ h9 => h9) dX12_storm_80 (fun v9 m60 h9 => ?_)
            obtain ⟨rfl, hg61⟩ := h9 _ rfl
            refine lv_sipush (v := 1443) hx hb dX12_storm_83 (by decide) ?_
            refine lv_iconst (v := 3) hx hb dX12_storm_86 (by decide) ?_
            refine lv_iload hx hb dX12_storm_87 (lv_at hl 0 rfl) ?_
            refine lv_imul hx hb dX12_storm_89 ?_
            refine lv_topi (fun x62 ex62 => ?_)
            have t63 : x62.toInt = 3 * x49.toInt := ti_mul ex62 (by decide) rfl (by omega) (by omega)
            refine lv_iadd hx hb dX12_storm_90 ?_
            refine lv_topi (fun x64 ex64 => ?_)
            have t65 : x64.toInt = 1443 + x62.toInt := ti_add ex64 (by decide) rfl (by omega) (by omega)
            refine lv_iconst (v := 1) hx hb dX12_storm_91 (by decide) ?_
            refine lv_iadd hx hb dX12_storm_92 ?_
            refine lv_topi (fun x66 ex66 => ?_)
            have t67 : x66.toInt = x64.toInt + 1 := ti_add ex66 rfl (by decide) (by omega) (by omega)
            refine lv_iload_n hx hb dX12_storm_93 rfl (lv_at hl 3 rfl) ?_
            refine tw_iast2 (Sg1 := (SHm q (wP wZ wN wH wB wC wL wK (sU (sU wU (x56.toNatClampNeg - 1400) (p0.toInt + 1000).toNat) (x66.toNatClampNeg - 1400) (p1.toInt + 1000).toNat) wV) PI im PM PT lS lB lE lN)) (i := x66) (x := p1) hx hb hK hT hG hS hg47 shm_2 rfl shm_2 shm_o2 (fun b9 h9 => hgu b9 1 h9) (vin_t (a := x66.toInt) rfl (by omega) (by omega)) (gp_of (gi_all _) (w_fre (by have q9 := tn_of (show x66.toInt = x66.toInt from rfl) (show (0 : Int) ≤ x66.toInt from by omega); omega)) (wX_s (k := x66.toNatClampNeg - 1400) (v := (p1.toInt + 1000).toNat) ⟨by have q9 := tn_of (show x66.toInt = x66.toInt from rfl) (show (0 : Int) ≤ x66.toInt from by omega); omega, by have q9 := tn_of (show x66.toInt = x66.toInt from rfl) (show (0 : Int) ≤ x66.toInt from by omega); omega⟩ (by omega) (by have := (show p1.toInt = p1.toInt from rfl); omega))) (fun k9 hk9 hne9 v9 hv9 he9 => by obtain ⟨x9, rfl, p9⟩ := he9; exact ⟨x9, rfl, wP_U (by omega) (pl := x66.toNatClampNeg) ⟨by have q9 := tn_of (show x66.toInt = x66.toInt from rfl) (show (0 : Int) ≤ x66.toInt from by omega); omega, by have q9 := tn_of (show x66.toInt = x66.toInt from rfl) (show (0 : Int) ≤ x66.toInt from by omega); omega⟩ hne9 p9⟩) dX12_storm_94 (fun H locs hT oq m68 oi hS => ?_)
            have hF := hF.ast hg47 skm_2 oq (by decide)
            have m69 := (oi _ (tn_ne (show (1442 : Int32).toInt = 1442 from (by decide)) (show x66.toInt = x66.toInt from rfl) (by omega) (by omega) (by omega))).trans m59
            refine lv_aload_n hx hb dX12_storm_95 rfl (lv_at hl 1 rfl) ?_
            refine tw_get hx hb hts bF_X12 hown hK hT hr_o0 shm_0 rfl 1 (by decide) (ht_at hts 10 rfl) (fun _ h9 => h9) dX12_storm_96 (fun v9 m71 h9 => ?_)
            obtain ⟨rfl, hg72⟩ := h9 _ rfl
            refine lv_sipush (v := 1443) hx hb dX12_storm_99 (by decide) ?_
            refine lv_iconst (v := 3) hx hb dX12_storm_102 (by decide) ?_
            refine lv_iload hx hb dX12_storm_103 (lv_at hl 0 rfl) ?_
            refine lv_imul hx hb dX12_storm_105 ?_
            refine lv_topi (fun x73 ex73 => ?_)
            have t74 : x73.toInt = 3 * x49.toInt := ti_mul ex73 (by decide) rfl (by omega) (by omega)
            refine lv_iadd hx hb dX12_storm_106 ?_
            refine lv_topi (fun x75 ex75 => ?_)
            have t76 : x75.toInt = 1443 + x73.toInt := ti_add ex75 (by decide) rfl (by omega) (by omega)
            refine lv_iconst (v := 2) hx hb dX12_storm_107 (by decide) ?_
            refine lv_iadd hx hb dX12_storm_108 ?_
            refine lv_topi (fun x77 ex77 => ?_)
            have t78 : x77.toInt = x75.toInt + 2 := ti_add ex77 rfl (by decide) (by omega) (by omega)
            refine lv_iload_n hx hb dX12_storm_109 rfl (lv_at hl 4 rfl) ?_
            refine tw_iast2 (Sg1 := (SHm q (wP wZ wN wH wB wC wL wK (sU (sU (sU wU (x56.toNatClampNeg - 1400) (p0.toInt + 1000).toNat) (x66.toNatClampNeg - 1400) (p1.toInt + 1000).toNat) (x77.toNatClampNeg - 1400) (p2.toInt + 1000).toNat) wV) PI im PM PT lS lB lE lN)) (i := x77) (x := p2) hx hb hK hT hG hS hg47 shm_2 rfl shm_2 shm_o2 (fun b9 h9 => hgu b9 1 h9) (vin_t (a := x77.toInt) rfl (by omega) (by omega)) (gp_of (gi_of (show p2.toInt = p2.toInt from rfl) (by omega) (by omega)) (w_stm (by have q9 := tn_of (show x77.toInt = x77.toInt from rfl) (show (0 : Int) ≤ x77.toInt from by omega); omega)) (wX_s (k := x77.toNatClampNeg - 1400) (v := (p2.toInt + 1000).toNat) ⟨by have q9 := tn_of (show x77.toInt = x77.toInt from rfl) (show (0 : Int) ≤ x77.toInt from by omega); omega, by have q9 := tn_of (show x77.toInt = x77.toInt from rfl) (show (0 : Int) ≤ x77.toInt from by omega); omega⟩ (by omega) (by have := (show p2.toInt = p2.toInt from rfl); omega))) (fun k9 hk9 hne9 v9 hv9 he9 => by obtain ⟨x9, rfl, p9⟩ := he9; exact ⟨x9, rfl, wP_U (by omega) (pl := x77.toNatClampNeg) ⟨by have q9 := tn_of (show x77.toInt = x77.toInt from rfl) (show (0 : Int) ≤ x77.toInt from by omega); omega, by have q9 := tn_of (show x77.toInt = x77.toInt from rfl) (show (0 : Int) ≤ x77.toInt from by omega); omega⟩ hne9 p9⟩) dX12_storm_110 (fun H locs hT oq m79 oi hS => ?_)
            have hF := hF.ast hg47 skm_2 oq (by decide)
            have m80 := (oi _ (tn_ne (show (1442 : Int32).toInt = 1442 from (by decide)) (show x77.toInt = x77.toInt from rfl) (by omega) (by omega) (by omega))).trans m69
            refine lv_aload_n hx hb dX12_storm_111 rfl (lv_at hl 1 rfl) ?_
            refine tw_get hx hb hts bF_X12 hown hK hT hr_o0 shm_0 rfl 1 (by decide) (ht_at hts 10 rfl) (fun _ h9 => h9) dX12_storm_112 (fun v9 m83 h9 => ?_)
            obtain ⟨rfl, hg84⟩ := h9 _ rfl
            refine lv_sipush (v := 1442) hx hb dX12_storm_115 (by decide) ?_
            refine lv_dup2_11 hx hb dX12_storm_118 rfl rfl ?_
            refine tw_iald (i := 1442) hx hb hK hT hg47 shm_2 rfl (by unfold vp_in; decide) dX12_storm_119 (fun v9 m85 h9 => ?_)
            obtain ⟨x86, rfl, gx86, kx86⟩ := (gp_at h9 (w_stc (by have q9 := tn_of (show (1442 : Int32).toInt = 1442 from (by decide)) (show (0 : Int) ≤ 1442 from by omega); omega)))
            obtain rfl : x49 = x86 := (el_same m85 m80 rfl).symm
            refine lv_iconst (v := 1) hx hb dX12_storm_120 (by decide) ?_
            refine lv_iadd hx hb dX12_storm_121 ?_
            refine lv_topi (fun x87 ex87 => ?_)
            have t88 : x87.toInt = x49.toInt + 1 := ti_add ex87 rfl (by decide) (by omega) (by omega)
            refine tw_iast2 (Sg1 := (SHm q (wP wZ wN wH wB wC wL wK (sU (sU (sU (sU wU (x56.toNatClampNeg - 1400) (p0.toInt + 1000).toNat) (x66.toNatClampNeg - 1400) (p1.toInt + 1000).toNat) (x77.toNatClampNeg - 1400) (p2.toInt + 1000).toNat) ((1442 : Int32).toNatClampNeg - 1400) (x87.toInt + 1000).toNat) wV) PI im PM PT lS lB lE lN)) (i := 1442) (x := x87) hx hb hK hT hG hS hg47 shm_2 rfl shm_2 shm_o2 (fun b9 h9 => hgu b9 1 h9) (by unfold vp_in; decide) (gp_of (gi_of (show x87.toInt = x87.toInt from rfl) (by omega) (by omega)) (w_stc (by have q9 := tn_of (show (1442 : Int32).toInt = 1442 from (by decide)) (show (0 : Int) ≤ 1442 from by omega); omega)) (wX_s (k := (1442 : Int32).toNatClampNeg - 1400) (v := (x87.toInt + 1000).toNat) ⟨by have q9 := tn_of (show (1442 : Int32).toInt = 1442 from (by decide)) (show (0 : Int) ≤ 1442 from by omega); omega, by have q9 := tn_of (show (1442 : Int32).toInt = 1442 from (by decide)) (show (0 : Int) ≤ 1442 from by omega); omega⟩ (by omega) (by have := (show x87.toInt = x87.toInt from rfl); omega))) (fun k9 hk9 hne9 v9 hv9 he9 => by obtain ⟨x9, rfl, p9⟩ := he9; exact ⟨x9, rfl, wP_U (by omega) (pl := (1442 : Int32).toNatClampNeg) ⟨by have q9 := tn_of (show (1442 : Int32).toInt = 1442 from (by decide)) (show (0 : Int) ≤ 1442 from by omega); omega, by have q9 := tn_of (show (1442 : Int32).toInt = 1442 from (by decide)) (show (0 : Int) ≤ 1442 from by omega); omega⟩ hne9 p9⟩) dX12_storm_122 (fun H locs hT oq m89 oi hS => ?_)
            have hF := hF.ast hg47 skm_2 oq (by decide)
            refine lv_aload_n hx hb dX12_storm_123 rfl (lv_at hl 1 rfl) ?_
            refine lv_iconst (v := 0) hx hb dX12_storm_124 (by decide) ?_
            refine tw_put (v := .int 0) (ty := .int) hx hb hts bF_X12 tyX12 tyX12_ok nmX12 hown hK hT hG hS hr_o0 shm_0 rfl 9 (by decide) (ht_at hts 11 rfl) (fun _ h9 => h9) rfl (by decide +kernel) rfl rfl (gl_at rfl (gi_of (show (0 : Int32).toInt = 0 from (by decide)) (by first | decide | omega) (by first | decide | omega))) dX12_storm_125 (fun H locs hT oq m93 oj hS => ?_)
            have hF := hF.put hr_o0 skm_0 oq oj (by decide)
            refine lv_iload hx hb dX12_storm_128 (lv_at hl 0 rfl) ?_
            refine lv_iconst (v := 1) hx hb dX12_storm_130 (by decide) ?_
            refine lv_iadd hx hb dX12_storm_131 ?_
            refine lv_topi (fun x98 ex98 => ?_)
            have t99 : x98.toInt = x49.toInt + 1 := ti_add ex98 rfl (by decide) (by omega) (by omega)
            exact W.iret (v := x98) hx hb hr (fun t ht hW => ⟨⟨x98, (sU (sU (sU (sU wU (x56.toNatClampNeg - 1400) (p0.toInt + 1000).toNat) (x66.toNatClampNeg - 1400) (p1.toInt + 1000).toNat) (x77.toNatClampNeg - 1400) (p2.toInt + 1000).toNat) ((1442 : Int32).toNatClampNeg - 1400) (x87.toInt + 1000).toNat), rfl, (by exact ⟨(by have q8 := ti_all x98; omega), (fun w9 h9 => by have := tn_of (show x56.toInt = x56.toInt from rfl) (by omega); have := tn_of (show x66.toInt = x66.toInt from rfl) (by omega); have := tn_of (show x77.toInt = x77.toInt from rfl) (by omega); have : (1442 : Int32).toNatClampNeg = 1442 := (by decide); rw [sU_o (by omega)]; rw [sU_o (by omega)]; rw [sU_o (by omega)]; rw [sU_o (by omega)])⟩), by (try dsimp only); rw [ht]; exact ⟨hT, hF⟩⟩, hS.F ht⟩) hS.2.2 dX12_storm_132
          · have t100 : x49.toInt = 20 := ti_eq c50 rfl (by decide)
            refine lv_iconst (v := (-1)) hx hb dX12_storm_63 (by decide) ?_
            exact W.iret (v := (-1)) hx hb hr (fun t ht hW => ⟨⟨(-1), wU, rfl, (by exact ⟨(rg_t (a := (-1)) (by decide) (by first | decide | omega) (by first | decide | omega)), (fun _ _ => rfl)⟩), by (try dsimp only); rw [ht]; exact ⟨hT, hF⟩⟩, hS.F ht⟩) hS.2.2 dX12_storm_64
        · have t101 : r29.toInt = 0 := ti_eq c35 rfl (by decide)
          have t102 : (1 : Int32).toInt = 1 := by decide
          have t103 : (500 : Int32).toInt = 500 := by decide
          have t104 : p2.toInt < (1 : Int32).toInt ∨ (500 : Int32).toInt < p2.toInt := hi34 c35
          refine lv_iconst (v := 1) hx hb dX12_storm_32 (by decide) ?_
          refine lv_goto (tgt := 37) hx hb dX12_storm_33 (by decide) ?_
          refine lv_iconst (v := 1) hx hb dX12_storm_37 (by decide) ?_
          have hFc := gA_free hG hA hS
          refine va_calli (va_runV (As := [.int 1, .int 1]) (rest := []) ⟨hx, hb, hml, hown, hts⟩ (s_throwsIf l dC dI kA adK adV G H q wZ wN wH wB wC wL wK wU wV PI im PM PT lS lB lE lN o0 1 1 hT hr_o0 (rg_t (a := 1) (by decide) (by first | decide | omega) (by first | decide | omega)) hgz hgn hgh hgb hgc hgi hgu) (cwV 2 hts (goodIn_app (goodIn_r _ [3, 4, 5, 6] rfl (by decide +kernel)) (goodIn_ca (goodIn_r _ [2, 1] rfl (by decide +kernel)) (bs_in _ _))) rfl rfl rfl (by decide +kernel) ⟨(Nat.le_of_ble_eq_true rfl), (Nat.le_of_ble_eq_true rfl)⟩) ⟨fun a U g mk q => by obtain ⟨q0, q1, qK, qE⟩ := q; exact ⟨q0, q1, va_K.moved (u := U) (U := U.calling g mk a) (Vm.Alike.refl U.vm) qK, EVS.blind g mk a qE⟩, gH_rc hK hT hr_o0 shm_0 rfl, fun U hU hW => ⟨rfl, hU, va_K.moved hW.alike hK, hE.call hS hFc hU hW⟩⟩ rfl rfl hl.1 rfl (lv_room (Nat.le_of_ble_eq_true rfl)) dX12_storm_38 ⟨(Nat.le_of_ble_eq_true rfl), (Nat.le_of_ble_eq_true rfl)⟩) hS (fun q _ h => hFc q h) hFc (fun r105 u t H locs ht hvm hw106 hB _ _ hS => ?_)
          obtain ⟨hT, hF1⟩ := hB
          rw [ht] at hT hF1
          have hF := hF.more hF1 (by decide)
          try dsimp only at hw106
          obtain ⟨h108, hd109⟩ := hw106
          obtain rfl : (1 : Int32) = r105 := hd109.symm
          refine lv_if_eq (tgt := 46) hx hb dX12_storm_41 (by decide) (fun c110 => absurd c110 (by decide)) (fun c110 => ?_)
          refine lv_iconst (v := 0) hx hb dX12_storm_44 (by decide) ?_
          exact W.iret (v := 0) hx hb hr (fun t ht hW => ⟨⟨0, wU, rfl, (by exact ⟨(rg_t (a := 0) (by decide) (by first | decide | omega) (by first | decide | omega)), (fun _ _ => rfl)⟩), by (try dsimp only); rw [ht]; exact ⟨hT, hF⟩⟩, hS.F ht⟩) hS.2.2 dX12_storm_45
def w_s_turn : List Cond := .code yX12_turn cX12_turn 4 (some .boolean) :: (HAppend.hAppend (α := List Cond) (β := List Cond) (γ := List Cond) [.fieldLink RX12 194 "SeaLandModel" "thrown" "I", .code yX12_noWork cX12_noWork 2 (some .boolean), .fieldLink RX12 9 "SeaLandModel" "world" "[I", .code yX12_in cX12_in 3 (some .boolean), .methodLink RX12 197 yX12_in, .static yX12_in, .initialized RX12, .methodLink RX12 269 yX12_noWork, .instanceMethod yX12_noWork, .selects RX12 yX12_noWork yX12_noWork, .code yX12_throwsIf cX12_throwsIf 3 (some .boolean), .methodLink RX12 224 yX12_throwsIf, .instanceMethod yX12_throwsIf, .selects RX12 yX12_throwsIf yX12_throwsIf, .code yX12_of cX12_of 3 (some .int), .code yX12_at cX12_at 2 (some .int), .methodLink RX12 214 yX12_at, .static yX12_at, .methodLink RX12 217 yX12_of, .instanceMethod yX12_of, .selects RX12 yX12_of yX12_of, .fieldLink RX12 238 "SeaLandModel" "rows" "I"] bs)
set_option maxHeartbeats 4000000 in
set_option maxRecDepth 100000 in
theorem s_turn (l : Launch) (dC : Nat → ClassId) (dI : Nat → Nat → Nat) (kA : Nat → ClassId) (adK adV : Nat → Nat) (G : gT) (H0 : Heap) (q : Nat → Nat) (wZ wN : Nat → Int) (wH wB wC : Int) (wL wK : Nat → Prop) (wU wV : Nat → Nat) (PI : Nat → Int → Prop) (im : Int) (PM PT : Nat → Int → Prop) (lS lB lE : Nat → Nat → Int → Prop) (lN : Nat → Int) (o0 : Nat) (p0 : Int32) (p1 : Int32)  (hT : gH (dC, dI) kA (SHm q (wP wZ wN wH wB wC wL wK wU wV) PI im PM PT lS lB lE lN) G H0) (hr_o0 : G o0 = some 0) (hq0 : 0 ≤ p1.toInt ∧ p1.toInt ≤ 1) (hgz : ∀ i, 0 ≤ wZ i) (hgn : ∀ i, 6500000 ≤ wN i ∧ wN i ≤ 20200000) (hgh : 0 ≤ wH ∧ wH ≤ 40000) (hgb : 0 ≤ wB ∧ wB ≤ 3850000) (hgc : 0 ≤ wC ∧ wC ≤ 30) (hgi : 0 ≤ im ∧ im ≤ 1) (hgu : ∀ a t, G a = some (t + 1) → a = q t) : Met l yX12_turn w_s_turn ({ frames := 2, cells := 0, slots := 0, locals := 43 }) (va_Pc [.ref o0, .int p0, .int p1] (fun U => U.heap = H0 ∧ va_K (dC, dI) vwCl (tyl kA) U ∧ EVS adK adV (gA G H0.size) U U.heap)) (va_Qi (fun (r : Int32) (u : Unit) => (0 ≤ r.toInt ∧ r.toInt ≤ 1)) (fun (_ : Unit) (t : State) => gH (dC, dI) kA (SHm q (wP wZ wN wH wB wC wL wK wU wV) PI im PM PT lS lB lE lN) G t.heap ∧ gF (dC, dI) SKm G ([(0, 0), (0, 9), (2, 0)] : List (Nat × Nat)) H0 t.heap) (gA G H0.size)) 0 0 (gA G H0.size) := by
  refine Met.ofW (cc := cX12_turn) (maxL := 4) (ret := (some .boolean)) (by decide) rfl ?_
  intro p e s m args below meth c s₁ B hml hv
  obtain ⟨rfl, hH0, hK, hE⟩ := hv
  have hx := B.exec
  have hb := B.bytes
  have hr := B.returns
  have hts := atoms_spec (ws := w_s_turn) B.pre
  have hown : s.vm.findClass RX12 = some m.cls := findClass_of_methodNamed B.named
  have hlocks := B.notSynchronized
  subst hH0
  generalize hAe : gA G s.heap.size = A at hE ⊢
  have hA : ∀ q : Nat, s.heap.size ≤ q → A q := fun q h => by rw [← hAe]; exact Or.inr h
  have hG := gA_of hAe
  have hS : va_S A s.heap s.heap [] := va_S.rf
  have hF : gF (dC, dI) SKm G ([(0, 0), (0, 9), (2, 0)] : List (Nat × Nat)) s.heap s.heap := gF.rf
  have hl := lv_entry ([.ref o0, .int p0, .int p1]) (n := 4) (Nat.le_of_ble_eq_true rfl)
  rw [lg_entry_eq]
  generalize (lg_sl ([.ref o0, .int p0, .int p1]) ++ List.replicate (4 - (lg_sl ([.ref o0, .int p0, .int p1])).length) Slot.unset).toArray = ls at hl ⊢
  have hl : lv_has ls 4 [(0, .ref o0), (1, .int p0), (2, .int p1)] := hl
  refine lv_aload_n hx hb dX12_turn_0 rfl (lv_at hl 0 rfl) ?_
  refine lv_iconst (v := 0) hx hb dX12_turn_1 (by decide) ?_
  refine tw_put (v := .int 0) (ty := .int) hx hb hts bF_X12 tyX12 tyX12_ok nmX12 hown hK hT hG hS hr_o0 shm_0 rfl 0 (by decide) (ht_at hts 0 rfl) (fun _ h9 => h9) rfl (by decide +kernel) rfl rfl (gl_at rfl (gi_all _)) dX12_turn_2 (fun H locs hT oq m1 oj hS => ?_)
  have hF := hF.put hr_o0 skm_0 oq oj (by decide)
  refine lv_aload_n hx hb dX12_turn_5 rfl (lv_at hl 0 rfl) ?_
  refine lv_aload_n hx hb dX12_turn_6 rfl (lv_at hl 0 rfl) ?_
  refine lv_iload_n hx hb dX12_turn_7 rfl (lv_at hl 1 rfl) ?_
  have hFc := gA_free hG hA hS
  refine va_calli (va_runV (As := [.int p0]) (rest := [.ref o0]) ⟨hx, hb, hml, hown, hts⟩ (s_noWork l dC dI kA adK adV G H q wZ wN wH wB wC wL wK wU wV PI im PM PT lS lB lE lN o0 p0 hT hr_o0 hgz hgn hgh hgb hgc hgi hgu) (cwV 1 hts (goodIn_app (goodIn_r _ [8, 9, 10, 7] rfl (by decide +kernel)) (goodIn_ca (goodIn_r _ [2, 3, 4, 5, 6, 7] rfl (by decide +kernel)) (bs_in _ _))) rfl rfl rfl (by decide +kernel) ⟨(Nat.le_of_ble_eq_true rfl), (Nat.le_of_ble_eq_true rfl)⟩) ⟨fun a U g mk q => by obtain ⟨q0, q1, qK, qE⟩ := q; exact ⟨q0, q1, va_K.moved (u := U) (U := U.calling g mk a) (Vm.Alike.refl U.vm) qK, EVS.blind g mk a qE⟩, gH_rc hK hT hr_o0 shm_0 rfl, fun U hU hW => ⟨rfl, hU, va_K.moved hW.alike hK, hE.call hS hFc hU hW⟩⟩ rfl rfl hl.1 rfl (lv_room (Nat.le_of_ble_eq_true rfl)) dX12_turn_8 ⟨(Nat.le_of_ble_eq_true rfl), (Nat.le_of_ble_eq_true rfl)⟩) hS (fun q _ h => hFc q h) hFc (fun r2 u t H locs ht hvm hw3 hB _ _ hS => ?_)
  obtain ⟨hT, hF1⟩ := hB
  rw [ht] at hT hF1
  have hF := hF.more hF1 (by decide)
  try dsimp only at hw3
  obtain ⟨h5, hi6⟩ := hw3
  refine lv_iconst (v := 1) hx hb dX12_turn_11 (by decide) ?_
  have hFc := gA_free hG hA hS
  refine va_calli (va_runV (As := [.int r2, .int 1]) (rest := []) ⟨hx, hb, hml, hown, hts⟩ (s_throwsIf l dC dI kA adK adV G H q wZ wN wH wB wC wL wK wU wV PI im PM PT lS lB lE lN o0 r2 1 hT hr_o0 (by have q8 := ti_all r2; omega) hgz hgn hgh hgb hgc hgi hgu) (cwV 2 hts (goodIn_app (goodIn_r _ [12, 13, 14, 7] rfl (by decide +kernel)) (goodIn_ca (goodIn_r _ [11, 1] rfl (by decide +kernel)) (bs_in _ _))) rfl rfl rfl (by decide +kernel) ⟨(Nat.le_of_ble_eq_true rfl), (Nat.le_of_ble_eq_true rfl)⟩) ⟨fun a U g mk q => by obtain ⟨q0, q1, qK, qE⟩ := q; exact ⟨q0, q1, va_K.moved (u := U) (U := U.calling g mk a) (Vm.Alike.refl U.vm) qK, EVS.blind g mk a qE⟩, gH_rc hK hT hr_o0 shm_0 rfl, fun U hU hW => ⟨rfl, hU, va_K.moved hW.alike hK, hE.call hS hFc hU hW⟩⟩ rfl rfl hl.1 rfl (lv_room (Nat.le_of_ble_eq_true rfl)) dX12_turn_12 ⟨(Nat.le_of_ble_eq_true rfl), (Nat.le_of_ble_eq_true rfl)⟩) hS (fun q _ h => hFc q h) hFc (fun r7 u t H locs ht hvm hw8 hB _ _ hS => ?_)
  obtain ⟨hT, hF1⟩ := hB
  rw [ht] at hT hF1
  have hF := hF.more hF1 (by decide)
  try dsimp only at hw8
  obtain ⟨h10, hd11⟩ := hw8
  obtain rfl : r2 = r7 := hd11.symm
  refine lv_if_ne (tgt := 41) hx hb dX12_turn_15 (by decide) (fun c12 => ?_) (fun c12 => ?_)
  · have t13 : r2.toInt ≠ 0 := ti_ne c12 rfl (by decide)
    refine lv_iconst (v := 0) hx hb dX12_turn_41 (by decide) ?_
    exact W.zret (v := 0) hx hb hr (by decide) (fun t ht hW => ⟨⟨0, (), rfl, (by exact (rg_t (a := 0) (by decide) (by first | decide | omega) (by first | decide | omega))), by (try dsimp only); rw [ht]; exact ⟨hT, hF⟩⟩, hS.F ht⟩) hS.2.2 dX12_turn_42
  · have t14 : r2.toInt = 0 := ti_eq c12 rfl (by decide)
    have t15 : 0 ≤ p0.toInt ∧ p0.toInt ≤ 29 ∧ p0.toInt < wC := hi6 c12
    refine lv_aload_n hx hb dX12_turn_18 rfl (lv_at hl 0 rfl) ?_
    refine lv_aload_n hx hb dX12_turn_19 rfl (lv_at hl 0 rfl) ?_
    refine lv_iload_n hx hb dX12_turn_20 rfl (lv_at hl 1 rfl) ?_
    refine lv_iconst (v := 0) hx hb dX12_turn_21 (by decide) ?_
    have hFc := gA_free hG hA hS
    refine va_calli (va_runV (As := [.int p0, .int 0]) (rest := [.ref o0]) ⟨hx, hb, hml, hown, hts⟩ (s_of0 l dC dI kA adK adV G H q wZ wN wH wB wC wL wK wU wV PI im PM PT lS lB lE lN o0 p0 hT hr_o0 (by have q8 := ti_all p0; omega) hgz hgn hgh hgb hgc hgi hgu) (cwV 2 hts (goodIn_app (goodIn_r _ [19, 20, 21, 7] rfl (by decide +kernel)) (goodIn_ca (goodIn_r _ [15, 3, 16, 17, 18, 7] rfl (by decide +kernel)) (bs_in _ _))) rfl rfl rfl (by decide +kernel) ⟨(Nat.le_of_ble_eq_true rfl), (Nat.le_of_ble_eq_true rfl)⟩) ⟨fun a U g mk q => by obtain ⟨q0, q1, qK, qE⟩ := q; exact ⟨q0, q1, va_K.moved (u := U) (U := U.calling g mk a) (Vm.Alike.refl U.vm) qK, EVS.blind g mk a qE⟩, gH_rc hK hT hr_o0 shm_0 rfl, fun U hU hW => ⟨rfl, hU, va_K.moved hW.alike hK, hE.call hS hFc hU hW⟩⟩ rfl rfl hl.1 rfl (lv_room (Nat.le_of_ble_eq_true rfl)) dX12_turn_22 ⟨(Nat.le_of_ble_eq_true rfl), (Nat.le_of_ble_eq_true rfl)⟩) hS (fun q _ h => hFc q h) hFc (fun r16 u t H locs ht hvm hw17 hB _ _ hS => ?_)
    obtain ⟨hT, hF1⟩ := hB
    rw [ht] at hT hF1
    have hF := hF.more hF1 (by decide)
    try dsimp only at hw17
    have ⟨ix18, hix18, m19⟩ := hw17
    have hg20 : G (q 1) = some 2 := gx_of hT hr_o0 shm_0 (k := 1) (by decide) rfl
    refine lv_iconst (v := 3) hx hb dX12_turn_25 (by decide) ?_
    refine lv_icmp_ge (tgt := 33) hx hb dX12_turn_26 (by decide) (fun c22 => ?_) (fun c22 => ?_)
    · have t23 : 3 ≤ r16.toInt := ti_le c22 (by decide) rfl
      refine lv_iconst (v := 0) hx hb dX12_turn_33 (by decide) ?_
      refine lv_iconst (v := 2) hx hb dX12_turn_34 (by decide) ?_
      have hFc := gA_free hG hA hS
      refine va_calli (va_runV (As := [.int 0, .int 2]) (rest := []) ⟨hx, hb, hml, hown, hts⟩ (s_throwsIf l dC dI kA adK adV G H q wZ wN wH wB wC wL wK wU wV PI im PM PT lS lB lE lN o0 0 2 hT hr_o0 (rg_t (a := 0) (by decide) (by first | decide | omega) (by first | decide | omega)) hgz hgn hgh hgb hgc hgi hgu) (cwV 2 hts (goodIn_app (goodIn_r _ [12, 13, 14, 7] rfl (by decide +kernel)) (goodIn_ca (goodIn_r _ [11, 1] rfl (by decide +kernel)) (bs_in _ _))) rfl rfl rfl (by decide +kernel) ⟨(Nat.le_of_ble_eq_true rfl), (Nat.le_of_ble_eq_true rfl)⟩) ⟨fun a U g mk q => by obtain ⟨q0, q1, qK, qE⟩ := q; exact ⟨q0, q1, va_K.moved (u := U) (U := U.calling g mk a) (Vm.Alike.refl U.vm) qK, EVS.blind g mk a qE⟩, gH_rc hK hT hr_o0 shm_0 rfl, fun U hU hW => ⟨rfl, hU, va_K.moved hW.alike hK, hE.call hS hFc hU hW⟩⟩ rfl rfl hl.1 rfl (lv_room (Nat.le_of_ble_eq_true rfl)) dX12_turn_35 ⟨(Nat.le_of_ble_eq_true rfl), (Nat.le_of_ble_eq_true rfl)⟩) hS (fun q _ h => hFc q h) hFc (fun r24 u t H locs ht hvm hw25 hB _ _ hS => ?_)
      obtain ⟨hT, hF1⟩ := hB
      rw [ht] at hT hF1
      have hF := hF.more hF1 (by decide)
      try dsimp only at hw25
      obtain ⟨h27, hd28⟩ := hw25
      obtain rfl : (0 : Int32) = r24 := hd28.symm
      refine lv_if_eq (tgt := 43) hx hb dX12_turn_38 (by decide) (fun c29 => ?_) (fun c29 => absurd c29 (by decide))
      refine lv_aload_n hx hb dX12_turn_43 rfl (lv_at hl 0 rfl) ?_
      refine lv_iload_n hx hb dX12_turn_44 rfl (lv_at hl 1 rfl) ?_
      refine lv_bipush (v := 19) hx hb dX12_turn_45 (by decide) ?_
      have hFc := gA_free hG hA hS
      refine va_calli (va_runV (As := [.int p0, .int 19]) (rest := []) ⟨hx, hb, hml, hown, hts⟩ (s_of19 l dC dI kA adK adV G H q wZ wN wH wB wC wL wK wU wV PI im PM PT lS lB lE lN o0 p0 hT hr_o0 (by have q8 := ti_all p0; omega) hgz hgn hgh hgb hgc hgi hgu) (cwV 2 hts (goodIn_app (goodIn_r _ [19, 20, 21, 7] rfl (by decide +kernel)) (goodIn_ca (goodIn_r _ [15, 3, 16, 17, 18, 7] rfl (by decide +kernel)) (bs_in _ _))) rfl rfl rfl (by decide +kernel) ⟨(Nat.le_of_ble_eq_true rfl), (Nat.le_of_ble_eq_true rfl)⟩) ⟨fun a U g mk q => by obtain ⟨q0, q1, qK, qE⟩ := q; exact ⟨q0, q1, va_K.moved (u := U) (U := U.calling g mk a) (Vm.Alike.refl U.vm) qK, EVS.blind g mk a qE⟩, gH_rc hK hT hr_o0 shm_0 rfl, fun U hU hW => ⟨rfl, hU, va_K.moved hW.alike hK, hE.call hS hFc hU hW⟩⟩ rfl rfl hl.1 rfl (lv_room (Nat.le_of_ble_eq_true rfl)) dX12_turn_47 ⟨(Nat.le_of_ble_eq_true rfl), (Nat.le_of_ble_eq_true rfl)⟩) hS (fun q _ h => hFc q h) hFc (fun r30 u t H locs ht hvm hw31 hB _ _ hS => ?_)
      obtain ⟨hT, hF1⟩ := hB
      rw [ht] at hT hF1
      have hF := hF.more hF1 (by decide)
      try dsimp only at hw31
      have ⟨ix33, hix33, m34⟩ := hw31
      refine lv_iconst (v := 1) hx hb dX12_turn_50 (by decide) ?_
      refine lv_icmp_ne (tgt := 58) hx hb dX12_turn_51 (by decide) (fun c36 => ?_) (fun c36 => ?_)
      · have t37 : r30.toInt ≠ 1 := ti_ne c36 rfl (by decide)
        refine lv_iconst (v := 0) hx hb dX12_turn_58 (by decide) ?_
        refine lv_istore_n (lv' := [(3, .int 0), (0, .ref o0), (1, .int p0), (2, .int p1)]) hx hb dX12_turn_59 rfl hl (by decide) rfl (fun ls hl => ?_)
        refine lv_aload_n hx hb dX12_turn_60 rfl (lv_at hl 1 rfl) ?_
        refine tw_get hx hb hts bF_X12 hown hK hT hr_o0 shm_0 rfl 1 (by decide) (ht_at hts 2 rfl) (fun _ h9 => h9) dX12_turn_61 (fun v9 m38 h9 => ?_)
        obtain ⟨rfl, hg39⟩ := h9 _ rfl
        refine lv_iload_n hx hb dX12_turn_64 rfl (lv_at hl 2 rfl) ?_
        refine lv_bipush (v := 19) hx hb dX12_turn_65 (by decide) ?_
        have hFc := gA_free hG hA hS
        refine va_calli (va_runS (As := [.int p0, .int 19]) (rest := [.ref (q 1)]) ⟨hx, hb, hml, hown, hts⟩ (s_at l dC dI kA adK adV G H q wZ wN wH wB wC wL wK wU wV PI im PM PT lS lB lE lN p0 19 hT (by have q8 := ti_all p0; omega) (rg_t (a := 19) (by decide) (by first | decide | omega) (by first | decide | omega)) hgz hgn hgh hgb hgc hgi hgu) (va_cwS 2 hts (goodIn_app (goodIn_r _ [17, 18, 7] rfl (by decide +kernel)) (goodIn_ca (goodIn_r _ [16] rfl (by decide +kernel)) (bs_in _ _))) rfl rfl rfl (by decide +kernel) ⟨(Nat.le_of_ble_eq_true rfl), (Nat.le_of_ble_eq_true rfl)⟩) ⟨fun a U g mk q => by obtain ⟨q0, q1, qK, qE⟩ := q; exact ⟨q0, q1, va_K.moved (u := U) (U := U.calling g mk a) (Vm.Alike.refl U.vm) qK, EVS.blind g mk a qE⟩, fun U hU hW => ⟨rfl, hU, va_K.moved hW.alike hK, hE.call hS hFc hU hW⟩⟩ rfl rfl hl.1 rfl (lv_room (Nat.le_of_ble_eq_true rfl)) dX12_turn_67 ⟨(Nat.le_of_ble_eq_true rfl), (Nat.le_of_ble_eq_true rfl)⟩) hS (fun q _ h => hFc q h) hFc (fun r40 u t H locs ht hvm hw41 hB _ _ hS => ?_)
        obtain ⟨hT, hF1⟩ := hB
        rw [ht] at hT hF1
        have hF := hF.more hF1 (by decide)
        try dsimp only at hw41
        obtain ⟨h44, hf45⟩ := hw41
        have t46 : (19 : Int32).toInt = 19 := by decide
        refine lv_iload_n hx hb dX12_turn_70 rfl (lv_at hl 3 rfl) ?_
        refine lv_if_eq (tgt := 78) hx hb dX12_turn_71 (by decide) (fun c47 => ?_) (fun c47 => ?_)
        · have t48 : p1.toInt = 0 := ti_eq c47 rfl (by decide)
          refine lv_iconst (v := 0) hx hb dX12_turn_78 (by decide) ?_
          refine tw_iast (i := r40) (x := 0) hx hb hK hT hG hS hg20 shm_2 rfl (vin_t (a := r40.toInt) rfl (by omega) (by omega)) (w_wk0 (by have q9 := tn_of (show r40.toInt = r40.toInt from rfl) (show (0 : Int) ≤ r40.toInt from by omega); omega) (wX_o (by have q9 := tn_of (show r40.toInt = r40.toInt from rfl) (show (0 : Int) ≤ r40.toInt from by omega); omega) (by omega))) dX12_turn_79 (fun H locs hT oq m49 oi hS => ?_)
          have hF := hF.ast hg20 skm_2 oq (by decide)
          refine lv_aload_n hx hb dX12_turn_80 rfl (lv_at hl 1 rfl) ?_
          refine lv_iconst (v := 0) hx hb dX12_turn_81 (by decide) ?_
          refine tw_put (v := .int 0) (ty := .int) hx hb hts bF_X12 tyX12 tyX12_ok nmX12 hown hK hT hG hS hr_o0 shm_0 rfl 9 (by decide) (ht_at hts 21 rfl) (fun _ h9 => h9) rfl (by decide +kernel) rfl rfl (gl_at rfl (gi_of (show (0 : Int32).toInt = 0 from (by decide)) (by first | decide | omega) (by first | decide | omega))) dX12_turn_82 (fun H locs hT oq m51 oj hS => ?_)
          have hF := hF.put hr_o0 skm_0 oq oj (by decide)
          refine lv_iload_n hx hb dX12_turn_85 rfl (lv_at hl 0 rfl) ?_
          refine lv_iload_n hx hb dX12_turn_86 rfl (lv_at hl 3 rfl) ?_
          refine lv_icmp_eq (tgt := 94) hx hb dX12_turn_87 (by decide) (fun c54 => ?_) (fun c54 => (by exfalso; have q9 : 0 ≠ p1.toInt := ti_ne c54 (by decide) rfl; omega))
          have t55 : 0 = p1.toInt := ti_eq c54 (by decide) rfl
          refine lv_iconst (v := 0) hx hb dX12_turn_94 (by decide) ?_
          exact W.zret (v := 0) hx hb hr (by decide) (fun t ht hW => ⟨⟨0, (), rfl, (by exact (rg_t (a := 0) (by decide) (by first | decide | omega) (by first | decide | omega))), by (try dsimp only); rw [ht]; exact ⟨hT, hF⟩⟩, hS.F ht⟩) hS.2.2 dX12_turn_95
        · have t56 : p1.toInt ≠ 0 := ti_ne c47 rfl (by decide)
          refine lv_iconst (v := 1) hx hb dX12_turn_74 (by decide) ?_
          refine lv_goto (tgt := 79) hx hb dX12_turn_75 (by decide) ?_
          refine tw_iast (i := r40) (x := 1) hx hb hK hT hG hS hg20 shm_2 rfl (vin_t (a := r40.toInt) rfl (by omega) (by omega)) (gp_of (gi_all _) (w_fre (by have q9 := tn_of (show r40.toInt = r40.toInt from rfl) (show (0 : Int) ≤ r40.toInt from by omega); omega)) (wX_o (by have q9 := tn_of (show r40.toInt = r40.toInt from rfl) (show (0 : Int) ≤ r40.toInt from by omega); omega) (by omega))) dX12_turn_79 (fun H locs hT oq m57 oi hS => ?_)
          have hF := hF.ast hg20 skm_2 oq (by decide)
          refine lv_aload_n hx hb dX12_turn_80 rfl (lv_at hl 1 rfl) ?_
          refine lv_iconst (v := 0) hx hb dX12_turn_81 (by decide) ?_
          refine tw_put (v := .int 0) (ty := .int) hx hb hts bF_X12 tyX12 tyX12_ok nmX12 hown hK hT hG hS hr_o0 shm_0 rfl 9 (by decide) (ht_at hts 21 rfl) (fun _ h9 => h9) rfl (by decide +kernel) rfl rfl (gl_at rfl (gi_of (show (0 : Int32).toInt = 0 from (by decide)) (by first | decide | omega) (by first | decide | omega))) dX12_turn_82 (fun H locs hT oq m59 oj hS => ?_)
          have hF := hF.put hr_o0 skm_0 oq oj (by decide)
          refine lv_iload_n hx hb dX12_turn_85 rfl (lv_at hl 0 rfl) ?_
          refine lv_iload_n hx hb dX12_turn_86 rfl (lv_at hl 3 rfl) ?_
          refine lv_icmp_eq (tgt := 94) hx hb dX12_turn_87 (by decide) (fun c62 => (by exfalso; have q9 : 0 = p1.toInt := ti_eq c62 (by decide) rfl; omega)) (fun c62 => ?_)
          have t63 : 0 ≠ p1.toInt := ti_ne c62 (by decide) rfl
          refine lv_iconst (v := 1) hx hb dX12_turn_90 (by decide) ?_
          refine lv_goto (tgt := 95) hx hb dX12_turn_91 (by decide) ?_
          exact W.zret (v := 1) hx hb hr (by decide) (fun t ht hW => ⟨⟨1, (), rfl, (by exact (rg_t (a := 1) (by decide) (by first | decide | omega) (by first | decide | omega))), by (try dsimp only); rw [ht]; exact ⟨hT, hF⟩⟩, hS.F ht⟩) hS.2.2 dX12_turn_95
      · have t64 : r30.toInt = 1 := ti_eq c36 rfl (by decide)
        refine lv_iconst (v := 1) hx hb dX12_turn_54 (by decide) ?_
        refine lv_goto (tgt := 59) hx hb dX12_turn_55 (by decide) ?_
        refine lv_istore_n (lv' := [(3, .int 1), (0, .ref o0), (1, .int p0), (2, .int p1)]) hx hb dX12_turn_59 rfl hl (by decide) rfl (fun ls hl => ?_)
        refine lv_aload_n hx hb dX12_turn_60 rfl (lv_at hl 1 rfl) ?_
        refine tw_get hx hb hts bF_X12 hown hK hT hr_o0 shm_0 rfl 1 (by decide) (ht_at hts 2 rfl) (fun _ h9 => h9) dX12_turn_61 (fun v9 m65 h9 => ?_)
        obtain ⟨rfl, hg66⟩ := h9 _ rfl
        refine lv_iload_n hx hb dX12_turn_64 rfl (lv_at hl 2 rfl) ?_
        refine lv_bipush (v := 19) hx hb dX12_turn_65 (by decide) ?_
        have hFc := gA_free hG hA hS
        refine va_calli (va_runS (As := [.int p0, .int 19]) (rest := [.ref (q 1)]) ⟨hx, hb, hml, hown, hts⟩ (s_at l dC dI kA adK adV G H q wZ wN wH wB wC wL wK wU wV PI im PM PT lS lB lE lN p0 19 hT (by have q8 := ti_all p0; omega) (rg_t (a := 19) (by decide) (by first | decide | omega) (by first | decide | omega)) hgz hgn hgh hgb hgc hgi hgu) (va_cwS 2 hts (goodIn_app (goodIn_r _ [17, 18, 7] rfl (by decide +kernel)) (goodIn_ca (goodIn_r _ [16] rfl (by decide +kernel)) (bs_in _ _))) rfl rfl rfl (by decide +kernel) ⟨(Nat.le_of_ble_eq_true rfl), (Nat.le_of_ble_eq_true rfl)⟩) ⟨fun a U g mk q => by obtain ⟨q0, q1, qK, qE⟩ := q; exact ⟨q0, q1, va_K.moved (u := U) (U := U.calling g mk a) (Vm.Alike.refl U.vm) qK, EVS.blind g mk a qE⟩, fun U hU hW => ⟨rfl, hU, va_K.moved hW.alike hK, hE.call hS hFc hU hW⟩⟩ rfl rfl hl.1 rfl (lv_room (Nat.le_of_ble_eq_true rfl)) dX12_turn_67 ⟨(Nat.le_of_ble_eq_true rfl), (Nat.le_of_ble_eq_true rfl)⟩) hS (fun q _ h => hFc q h) hFc (fun r67 u t H locs ht hvm hw68 hB _ _ hS => ?_)
        obtain ⟨hT, hF1⟩ := hB
        rw [ht] at hT hF1
        have hF := hF.more hF1 (by decide)
        try dsimp only at hw68
        obtain ⟨h71, hf72⟩ := hw68
        have t73 : (19 : Int32).toInt = 19 := by decide
        refine lv_iload_n hx hb dX12_turn_70 rfl (lv_at hl 3 rfl) ?_
        refine lv_if_eq (tgt := 78) hx hb dX12_turn_71 (by decide) (fun c74 => ?_) (fun c74 => ?_)
        · have t75 : p1.toInt = 0 := ti_eq c74 rfl (by decide)
          refine lv_iconst (v := 0) hx hb dX12_turn_78 (by decide) ?_
          refine tw_iast (i := r67) (x := 0) hx hb hK hT hG hS hg20 shm_2 rfl (vin_t (a := r67.toInt) rfl (by omega) (by omega)) (w_wk0 (by have q9 := tn_of (show r67.toInt = r67.toInt from rfl) (show (0 : Int) ≤ r67.toInt from by omega); omega) (wX_o (by have q9 := tn_of (show r67.toInt = r67.toInt from rfl) (show (0 : Int) ≤ r67.toInt from by omega); omega) (by omega))) dX12_turn_79 (fun H locs hT oq m76 oi hS => ?_)
          have hF := hF.ast hg20 skm_2 oq (by decide)
          refine lv_aload_n hx hb dX12_turn_80 rfl (lv_at hl 1 rfl) ?_
          refine lv_iconst (v := 0) hx hb dX12_turn_81 (by decide) ?_
          refine tw_put (v := .int 0) (ty := .int) hx hb hts bF_X12 tyX12 tyX12_ok nmX12 hown hK hT hG hS hr_o0 shm_0 rfl 9 (by decide) (ht_at hts 21 rfl) (fun _ h9 => h9) rfl (by decide +kernel) rfl rfl (gl_at rfl (gi_of (show (0 : Int32).toInt = 0 from (by decide)) (by first | decide | omega) (by first | decide | omega))) dX12_turn_82 (fun H locs hT oq m78 oj hS => ?_)
          have hF := hF.put hr_o0 skm_0 oq oj (by decide)
          refine lv_iload_n hx hb dX12_turn_85 rfl (lv_at hl 0 rfl) ?_
          refine lv_iload_n hx hb dX12_turn_86 rfl (lv_at hl 3 rfl) ?_
          refine lv_icmp_eq (tgt := 94) hx hb dX12_turn_87 (by decide) (fun c81 => (by exfalso; have q9 : 1 = p1.toInt := ti_eq c81 (by decide) rfl; omega)) (fun c81 => ?_)
          have t82 : 1 ≠ p1.toInt := ti_ne c81 (by decide) rfl
          refine lv_iconst (v := 1) hx hb dX12_turn_90 (by decide) ?_
          refine lv_goto (tgt := 95) hx hb dX12_turn_91 (by decide) ?_
          exact W.zret (v := 1) hx hb hr (by decide) (fun t ht hW => ⟨⟨1, (), rfl, (by exact (rg_t (a := 1) (by decide) (by first | decide | omega) (by first | decide | omega))), by (try dsimp only); rw [ht]; exact ⟨hT, hF⟩⟩, hS.F ht⟩) hS.2.2 dX12_turn_95
        · have t83 : p1.toInt ≠ 0 := ti_ne c74 rfl (by decide)
          refine lv_iconst (v := 1) hx hb dX12_turn_74 (by decide) ?_
          refine lv_goto (tgt := 79) hx hb dX12_turn_75 (by decide) ?_
          refine tw_iast (i := r67) (x := 1) hx hb hK hT hG hS hg20 shm_2 rfl (vin_t (a := r67.toInt) rfl (by omega) (by omega)) (gp_of (gi_all _) (w_fre (by have q9 := tn_of (show r67.toInt = r67.toInt from rfl) (show (0 : Int) ≤ r67.toInt from by omega); omega)) (wX_o (by have q9 := tn_of (show r67.toInt = r67.toInt from rfl) (show (0 : Int) ≤ r67.toInt from by omega); omega) (by omega))) dX12_turn_79 (fun H locs hT oq m84 oi hS => ?_)
          have hF := hF.ast hg20 skm_2 oq (by decide)
          refine lv_aload_n hx hb dX12_turn_80 rfl (lv_at hl 1 rfl) ?_
          refine lv_iconst (v := 0) hx hb dX12_turn_81 (by decide) ?_
          refine tw_put (v := .int 0) (ty := .int) hx hb hts bF_X12 tyX12 tyX12_ok nmX12 hown hK hT hG hS hr_o0 shm_0 rfl 9 (by decide) (ht_at hts 21 rfl) (fun _ h9 => h9) rfl (by decide +kernel) rfl rfl (gl_at rfl (gi_of (show (0 : Int32).toInt = 0 from (by decide)) (by first | decide | omega) (by first | decide | omega))) dX12_turn_82 (fun H locs hT oq m86 oj hS => ?_)
          have hF := hF.put hr_o0 skm_0 oq oj (by decide)
          refine lv_iload_n hx hb dX12_turn_85 rfl (lv_at hl 0 rfl) ?_
          refine lv_iload_n hx hb dX12_turn_86 rfl (lv_at hl 3 rfl) ?_
          refine lv_icmp_eq (tgt := 94) hx hb dX12_turn_87 (by decide) (fun c89 => ?_) (fun c89 => (by exfalso; have q9 : 1 ≠ p1.toInt := ti_ne c89 (by decide) rfl; omega))
          have t90 : 1 = p1.toInt := ti_eq c89 (by decide) rfl
          refine lv_iconst (v := 0) hx hb dX12_turn_94 (by decide) ?_
          exact W.zret (v := 0) hx hb hr (by decide) (fun t ht hW => ⟨⟨0, (), rfl, (by exact (rg_t (a := 0) (by decide) (by first | decide | omega) (by first | decide | omega))), by (try dsimp only); rw [ht]; exact ⟨hT, hF⟩⟩, hS.F ht⟩) hS.2.2 dX12_turn_95
    · have t91 : r16.toInt < 3 := ti_nle c22 (by decide) rfl
      refine lv_iconst (v := 1) hx hb dX12_turn_29 (by decide) ?_
      refine lv_goto (tgt := 34) hx hb dX12_turn_30 (by decide) ?_
      refine lv_iconst (v := 2) hx hb dX12_turn_34 (by decide) ?_
      have hFc := gA_free hG hA hS
      refine va_calli (va_runV (As := [.int 1, .int 2]) (rest := []) ⟨hx, hb, hml, hown, hts⟩ (s_throwsIf l dC dI kA adK adV G H q wZ wN wH wB wC wL wK wU wV PI im PM PT lS lB lE lN o0 1 2 hT hr_o0 (rg_t (a := 1) (by decide) (by first | decide | omega) (by first | decide | omega)) hgz hgn hgh hgb hgc hgi hgu) (cwV 2 hts (goodIn_app (goodIn_r _ [12, 13, 14, 7] rfl (by decide +kernel)) (goodIn_ca (goodIn_r _ [11, 1] rfl (by decide +kernel)) (bs_in _ _))) rfl rfl rfl (by decide +kernel) ⟨(Nat.le_of_ble_eq_true rfl), (Nat.le_of_ble_eq_true rfl)⟩) ⟨fun a U g mk q => by obtain ⟨q0, q1, qK, qE⟩ := q; exact ⟨q0, q1, va_K.moved (u := U) (U := U.calling g mk a) (Vm.Alike.refl U.vm) qK, EVS.blind g mk a qE⟩, gH_rc hK hT hr_o0 shm_0 rfl, fun U hU hW => ⟨rfl, hU, va_K.moved hW.alike hK, hE.call hS hFc hU hW⟩⟩ rfl rfl hl.1 rfl (lv_room (Nat.le_of_ble_eq_true rfl)) dX12_turn_35 ⟨(Nat.le_of_ble_eq_true rfl), (Nat.le_of_ble_eq_true rfl)⟩) hS (fun q _ h => hFc q h) hFc (fun r92 u t H locs ht hvm hw93 hB _ _ hS => ?_)
      obtain ⟨hT, hF1⟩ := hB
      rw [ht] at hT hF1
      have hF := hF.more hF1 (by decide)
      try dsimp only at hw93
      obtain ⟨h95, hd96⟩ := hw93
      obtain rfl : (1 : Int32) = r92 := hd96.symm
      refine lv_if_eq (tgt := 43) hx hb dX12_turn_38 (by decide) (fun c97 => absurd c97 (by decide)) (fun c97 => ?_)
      refine lv_iconst (v := 0) hx hb dX12_turn_41 (by decide) ?_
      exact W.zret (v := 0) hx hb hr (by decide) (fun t ht hW => ⟨⟨0, (), rfl, (by exact (rg_t (a := 0) (by decide) (by first | decide | omega) (by first | decide | omega))), by (try dsimp only); rw [ht]; exact ⟨hT, hF⟩⟩, hS.F ht⟩) hS.2.2 dX12_turn_42
def w_s_worth : List Cond := .code yX12_worth cX12_worth 2 (some .int) :: (HAppend.hAppend (α := List Cond) (β := List Cond) (γ := List Cond) [.fieldLink RX12 194 "SeaLandModel" "thrown" "I", .code yX12_noFarm cX12_noFarm 2 (some .boolean), .fieldLink RX12 498 "SeaLandModel" "farms" "I", .code yX12_in cX12_in 3 (some .boolean), .methodLink RX12 197 yX12_in, .static yX12_in, .initialized RX12, .methodLink RX12 502 yX12_noFarm, .instanceMethod yX12_noFarm, .selects RX12 yX12_noFarm yX12_noFarm, .code yX12_throwsIf cX12_throwsIf 3 (some .boolean), .methodLink RX12 224 yX12_throwsIf, .instanceMethod yX12_throwsIf, .selects RX12 yX12_throwsIf yX12_throwsIf, .code yX12_worthOf cX12_worthOf 5 (some .int), .fieldLink RX12 113 "SeaLandModel" "farmFrom" "[I", .fieldLink RX12 116 "SeaLandModel" "farmTo" "[I", .code yX12_isIn cX12_isIn 5 (some .boolean), .methodLink RX12 207 Lib.Math.min.name, .static Lib.Math.min.name, .initialized "java/lang/Math", .code Lib.Math.min.name Lib.Math.min.code 2 (some .int), .methodLink RX12 211 Lib.Math.max.name, .static Lib.Math.max.name, .code Lib.Math.max.name Lib.Math.max.code 2 (some .int), .methodLink RX12 232 yX12_isIn, .static yX12_isIn, .fieldLink RX12 9 "SeaLandModel" "world" "[I", .methodLink RX12 505 yX12_worthOf, .instanceMethod yX12_worthOf, .selects RX12 yX12_worthOf yX12_worthOf] bs)
set_option maxHeartbeats 4000000 in
set_option maxRecDepth 100000 in
theorem s_worth (l : Launch) (dC : Nat → ClassId) (dI : Nat → Nat → Nat) (kA : Nat → ClassId) (adK adV : Nat → Nat) (G : gT) (H0 : Heap) (q : Nat → Nat) (wZ wN : Nat → Int) (wH wB wC : Int) (wL wK : Nat → Prop) (wU wV : Nat → Nat) (PI : Nat → Int → Prop) (im : Int) (PM PT : Nat → Int → Prop) (lS lB lE : Nat → Nat → Int → Prop) (lN : Nat → Int) (o0 : Nat) (p0 : Int32)  (hT : gH (dC, dI) kA (SHm q (wP wZ wN wH wB wC wL wK wU wV) PI im PM PT lS lB lE lN) G H0) (hr_o0 : G o0 = some 0) (hgz : ∀ i, 0 ≤ wZ i) (hgn : ∀ i, 6500000 ≤ wN i ∧ wN i ≤ 20200000) (hgh : 0 ≤ wH ∧ wH ≤ 40000) (hgb : 0 ≤ wB ∧ wB ≤ 3850000) (hgc : 0 ≤ wC ∧ wC ≤ 30) (hgi : 0 ≤ im ∧ im ≤ 1) (hgu : ∀ a t, G a = some (t + 1) → a = q t) : Met l yX12_worth w_s_worth ({ frames := 3, cells := 0, slots := 0, locals := 88 }) (va_Pc [.ref o0, .int p0] (fun U => U.heap = H0 ∧ va_K (dC, dI) vwCl (tyl kA) U ∧ EVS adK adV (gA G H0.size) U U.heap)) (va_Qi (fun (r : Int32) (u : Unit) => True) (fun (_ : Unit) (t : State) => gH (dC, dI) kA (SHm q (wP wZ wN wH wB wC wL wK wU wV) PI im PM PT lS lB lE lN) G t.heap ∧ gF (dC, dI) SKm G ([(0, 0)] : List (Nat × Nat)) H0 t.heap) (gA G H0.size)) 0 0 (gA G H0.size) := by
  refine Met.ofW (cc := cX12_worth) (maxL := 2) (ret := (some .int)) (by decide) rfl ?_
  intro p e s m args below meth c s₁ B hml hv
  obtain ⟨rfl, hH0, hK, hE⟩ := hv
  have hx := B.exec
  have hb := B.bytes
  have hr := B.returns
  have hts := atoms_spec (ws := w_s_worth) B.pre
  have hown : s.vm.findClass RX12 = some m.cls := findClass_of_methodNamed B.named
  have hlocks := B.notSynchronized
  subst hH0
  generalize hAe : gA G s.heap.size = A at hE ⊢
  have hA : ∀ q : Nat, s.heap.size ≤ q → A q := fun q h => by rw [← hAe]; exact Or.inr h
  have hG := gA_of hAe
  have hS : va_S A s.heap s.heap [] := va_S.rf
  have hF : gF (dC, dI) SKm G ([(0, 0)] : List (Nat × Nat)) s.heap s.heap := gF.rf
  have hl := lv_entry ([.ref o0, .int p0]) (n := 2) (Nat.le_of_ble_eq_true rfl)
  rw [lg_entry_eq]
  generalize (lg_sl ([.ref o0, .int p0]) ++ List.replicate (2 - (lg_sl ([.ref o0, .int p0])).length) Slot.unset).toArray = ls at hl ⊢
  have hl : lv_has ls 2 [(0, .ref o0), (1, .int p0)] := hl
  refine lv_aload_n hx hb dX12_worth_0 rfl (lv_at hl 0 rfl) ?_
  refine lv_iconst (v := 0) hx hb dX12_worth_1 (by decide) ?_
  refine tw_put (v := .int 0) (ty := .int) hx hb hts bF_X12 tyX12 tyX12_ok nmX12 hown hK hT hG hS hr_o0 shm_0 rfl 0 (by decide) (ht_at hts 0 rfl) (fun _ h9 => h9) rfl (by decide +kernel) rfl rfl (gl_at rfl (gi_all _)) dX12_worth_2 (fun H locs hT oq m1 oj hS => ?_)
  have hF := hF.put hr_o0 skm_0 oq oj (by decide)
  refine lv_aload_n hx hb dX12_worth_5 rfl (lv_at hl 0 rfl) ?_
  refine lv_aload_n hx hb dX12_worth_6 rfl (lv_at hl 0 rfl) ?_
  refine lv_iload_n hx hb dX12_worth_7 rfl (lv_at hl 1 rfl) ?_
  have hFc := gA_free hG hA hS
  refine va_calli (va_runV (As := [.int p0]) (rest := [.ref o0]) ⟨hx, hb, hml, hown, hts⟩ (s_noFarm l dC dI kA adK adV G H q wZ wN wH wB wC wL wK wU wV PI im PM PT lS lB lE lN o0 p0 hT hr_o0 hgz hgn hgh hgb hgc hgi hgu) (cwV 1 hts (goodIn_app (goodIn_r _ [8, 9, 10, 7] rfl (by decide +kernel)) (goodIn_ca (goodIn_r _ [2, 3, 4, 5, 6, 7] rfl (by decide +kernel)) (bs_in _ _))) rfl rfl rfl (by decide +kernel) ⟨(Nat.le_of_ble_eq_true rfl), (Nat.le_of_ble_eq_true rfl)⟩) ⟨fun a U g mk q => by obtain ⟨q0, q1, qK, qE⟩ := q; exact ⟨q0, q1, va_K.moved (u := U) (U := U.calling g mk a) (Vm.Alike.refl U.vm) qK, EVS.blind g mk a qE⟩, gH_rc hK hT hr_o0 shm_0 rfl, fun U hU hW => ⟨rfl, hU, va_K.moved hW.alike hK, hE.call hS hFc hU hW⟩⟩ rfl rfl hl.1 rfl (lv_room (Nat.le_of_ble_eq_true rfl)) dX12_worth_8 ⟨(Nat.le_of_ble_eq_true rfl), (Nat.le_of_ble_eq_true rfl)⟩) hS (fun q _ h => hFc q h) hFc (fun r2 u t H locs ht hvm hw3 hB _ _ hS => ?_)
  obtain ⟨hT, hF1⟩ := hB
  rw [ht] at hT hF1
  have hF := hF.more hF1 (by decide)
  try dsimp only at hw3
  obtain ⟨h5, hi6⟩ := hw3
  refine lv_iconst (v := 1) hx hb dX12_worth_11 (by decide) ?_
  have hFc := gA_free hG hA hS
  refine va_calli (va_runV (As := [.int r2, .int 1]) (rest := []) ⟨hx, hb, hml, hown, hts⟩ (s_throwsIf l dC dI kA adK adV G H q wZ wN wH wB wC wL wK wU wV PI im PM PT lS lB lE lN o0 r2 1 hT hr_o0 (by have q8 := ti_all r2; omega) hgz hgn hgh hgb hgc hgi hgu) (cwV 2 hts (goodIn_app (goodIn_r _ [12, 13, 14, 7] rfl (by decide +kernel)) (goodIn_ca (goodIn_r _ [11, 1] rfl (by decide +kernel)) (bs_in _ _))) rfl rfl rfl (by decide +kernel) ⟨(Nat.le_of_ble_eq_true rfl), (Nat.le_of_ble_eq_true rfl)⟩) ⟨fun a U g mk q => by obtain ⟨q0, q1, qK, qE⟩ := q; exact ⟨q0, q1, va_K.moved (u := U) (U := U.calling g mk a) (Vm.Alike.refl U.vm) qK, EVS.blind g mk a qE⟩, gH_rc hK hT hr_o0 shm_0 rfl, fun U hU hW => ⟨rfl, hU, va_K.moved hW.alike hK, hE.call hS hFc hU hW⟩⟩ rfl rfl hl.1 rfl (lv_room (Nat.le_of_ble_eq_true rfl)) dX12_worth_12 ⟨(Nat.le_of_ble_eq_true rfl), (Nat.le_of_ble_eq_true rfl)⟩) hS (fun q _ h => hFc q h) hFc (fun r7 u t H locs ht hvm hw8 hB _ _ hS => ?_)
  obtain ⟨hT, hF1⟩ := hB
  rw [ht] at hT hF1
  have hF := hF.more hF1 (by decide)
  try dsimp only at hw8
  obtain ⟨h10, hd11⟩ := hw8
  obtain rfl : r2 = r7 := hd11.symm
  refine lv_if_eq (tgt := 22) hx hb dX12_worth_15 (by decide) (fun c12 => ?_) (fun c12 => ?_)
  · have t13 : r2.toInt = 0 := ti_eq c12 rfl (by decide)
    have t14 : 0 ≤ p0.toInt ∧ p0.toInt ≤ 29 := hi6 c12
    refine lv_aload_n hx hb dX12_worth_22 rfl (lv_at hl 0 rfl) ?_
    refine lv_iload_n hx hb dX12_worth_23 rfl (lv_at hl 1 rfl) ?_
    have hFc := gA_free hG hA hS
    refine va_calli (va_runV (As := [.int p0]) (rest := []) ⟨hx, hb, hml, hown, hts⟩ (s_worthOf l dC dI kA adK adV G H q wZ wN wH wB wC wL wK wU wV PI im PM PT lS lB lE lN o0 p0 hT hr_o0 (by have q8 := ti_all p0; omega) hgz hgn hgh hgb hgc hgi hgu) (cwV 1 hts (goodIn_app (goodIn_r _ [29, 30, 31, 7] rfl (by decide +kernel)) (goodIn_ca (goodIn_r _ [15, 16, 17, 18, 19, 20, 21, 22, 23, 24, 25, 4, 5, 6, 7, 26, 27, 28] rfl (by decide +kernel)) (bs_in _ _))) rfl rfl rfl (by decide +kernel) ⟨(Nat.le_of_ble_eq_true rfl), (Nat.le_of_ble_eq_true rfl)⟩) ⟨fun a U g mk q => by obtain ⟨q0, q1, qK, qE⟩ := q; exact ⟨q0, q1, va_K.moved (u := U) (U := U.calling g mk a) (Vm.Alike.refl U.vm) qK, EVS.blind g mk a qE⟩, gH_rc hK hT hr_o0 shm_0 rfl, fun U hU hW => ⟨rfl, hU, va_K.moved hW.alike hK, hE.call hS hFc hU hW⟩⟩ rfl rfl hl.1 rfl (lv_room (Nat.le_of_ble_eq_true rfl)) dX12_worth_24 ⟨(Nat.le_of_ble_eq_true rfl), (Nat.le_of_ble_eq_true rfl)⟩) hS (fun q _ h => hFc q h) hFc (fun r15 u t H locs ht hvm hw16 hB _ _ hS => ?_)
    obtain ⟨hT, hF1⟩ := hB
    rw [ht] at hT hF1
    have hF := hF.more hF1 (by decide)
    try dsimp only at hw16
    exact W.iret (v := r15) hx hb hr (fun t ht hW => ⟨⟨r15, (), rfl, (by exact trivial), by (try dsimp only); rw [ht]; exact ⟨hT, hF⟩⟩, hS.F ht⟩) hS.2.2 dX12_worth_27
  · have t17 : r2.toInt ≠ 0 := ti_ne c12 rfl (by decide)
    refine lv_iconst (v := 0) hx hb dX12_worth_18 (by decide) ?_
    refine lv_goto (tgt := 27) hx hb dX12_worth_19 (by decide) ?_
    exact W.iret (v := 0) hx hb hr (fun t ht hW => ⟨⟨0, (), rfl, (by exact trivial), by (try dsimp only); rw [ht]; exact ⟨hT, hF⟩⟩, hS.F ht⟩) hS.2.2 dX12_worth_27
def w_s_arrears : List Cond := .code yX12_arrears cX12_arrears 5 (some .int) :: (HAppend.hAppend (α := List Cond) (β := List Cond) (γ := List Cond) [.fieldLink RX12 194 "SeaLandModel" "thrown" "I", .fieldLink RX12 495 "SeaLandModel" "settlers" "I", .fieldLink RX12 131 "SeaLandModel" "open" "[Z", .fieldLink RX12 107 "SeaLandModel" "owes" "[I", .fieldLink RX12 101 "SeaLandModel" "holds" "[I"] bs)
set_option maxHeartbeats 4000000 in
set_option maxRecDepth 100000 in
theorem s_arrears (l : Launch) (dC : Nat → ClassId) (dI : Nat → Nat → Nat) (kA : Nat → ClassId) (adK adV : Nat → Nat) (G : gT) (H0 : Heap) (q : Nat → Nat) (wZ wN : Nat → Int) (wH wB wC : Int) (wL wK : Nat → Prop) (wU wV : Nat → Nat) (PI : Nat → Int → Prop) (im : Int) (PM PT : Nat → Int → Prop) (lS lB lE : Nat → Nat → Int → Prop) (lN : Nat → Int) (o0 : Nat) (p0 : Int32)  (hT : gH (dC, dI) kA (SHm q (wP wZ wN wH wB wC wL wK wU wV) PI im PM PT lS lB lE lN) G H0) (hr_o0 : G o0 = some 0) (hgz : ∀ i, 0 ≤ wZ i) (hgn : ∀ i, 6500000 ≤ wN i ∧ wN i ≤ 20200000) (hgh : 0 ≤ wH ∧ wH ≤ 40000) (hgb : 0 ≤ wB ∧ wB ≤ 3850000) (hgc : 0 ≤ wC ∧ wC ≤ 30) (hgi : 0 ≤ im ∧ im ≤ 1) (hgu : ∀ a t, G a = some (t + 1) → a = q t) : Met l yX12_arrears w_s_arrears ({ frames := 0, cells := 0, slots := 0, locals := 0 }) (va_Pc [.ref o0, .int p0] (fun U => U.heap = H0 ∧ va_K (dC, dI) vwCl (tyl kA) U ∧ EVS adK adV (gA G H0.size) U U.heap)) (va_Qi (fun (r : Int32) (u : Unit) => (-1 ≤ r.toInt ∧ r.toInt ≤ 59)) (fun (_ : Unit) (t : State) => gH (dC, dI) kA (SHm q (wP wZ wN wH wB wC wL wK wU wV) PI im PM PT lS lB lE lN) G t.heap ∧ gF (dC, dI) SKm G ([(0, 0), (52, 0)] : List (Nat × Nat)) H0 t.heap) (gA G H0.size)) 0 0 (gA G H0.size) := by
  refine Met.ofW (cc := cX12_arrears) (maxL := 5) (ret := (some .int)) (by decide) rfl ?_
  intro p e s m args below meth c s₁ B hml hv
  obtain ⟨rfl, hH0, hK, hE⟩ := hv
  have hx := B.exec
  have hb := B.bytes
  have hr := B.returns
  have hts := atoms_spec (ws := w_s_arrears) B.pre
  have hown : s.vm.findClass RX12 = some m.cls := findClass_of_methodNamed B.named
  have hlocks := B.notSynchronized
  subst hH0
  generalize hAe : gA G s.heap.size = A at hE ⊢
  have hA : ∀ q : Nat, s.heap.size ≤ q → A q := fun q h => by rw [← hAe]; exact Or.inr h
  have hG := gA_of hAe
  have hS : va_S A s.heap s.heap [] := va_S.rf
  have hF : gF (dC, dI) SKm G ([(0, 0), (52, 0)] : List (Nat × Nat)) s.heap s.heap := gF.rf
  have hl := lv_entry ([.ref o0, .int p0]) (n := 5) (Nat.le_of_ble_eq_true rfl)
  rw [lg_entry_eq]
  generalize (lg_sl ([.ref o0, .int p0]) ++ List.replicate (5 - (lg_sl ([.ref o0, .int p0])).length) Slot.unset).toArray = ls at hl ⊢
  have hl : lv_has ls 5 [(0, .ref o0), (1, .int p0)] := hl
  refine lv_aload_n hx hb dX12_arrears_0 rfl (lv_at hl 0 rfl) ?_
  refine lv_iconst (v := 0) hx hb dX12_arrears_1 (by decide) ?_
  refine tw_put (v := .int 0) (ty := .int) hx hb hts bF_X12 tyX12 tyX12_ok nmX12 hown hK hT hG hS hr_o0 shm_0 rfl 0 (by decide) (ht_at hts 0 rfl) (fun _ h9 => h9) rfl (by decide +kernel) rfl rfl (gl_at rfl (gi_all _)) dX12_arrears_2 (fun H locs hT oq m1 oj hS => ?_)
  have hF := hF.put hr_o0 skm_0 oq oj (by decide)
  refine lv_iload_n hx hb dX12_arrears_5 rfl (lv_at hl 1 rfl) ?_
  refine lv_if_lt (tgt := 17) hx hb dX12_arrears_6 (by decide) (fun c2 => ?_) (fun c2 => ?_)
  · have t3 : p0.toInt < 0 := ti_lt c2 rfl (by decide)
    refine lv_iconst (v := (-1)) hx hb dX12_arrears_17 (by decide) ?_
    exact W.iret (v := (-1)) hx hb hr (fun t ht hW => ⟨⟨(-1), (), rfl, (by exact (rg_t (a := (-1)) (by decide) (by first | decide | omega) (by first | decide | omega))), by (try dsimp only); rw [ht]; exact ⟨hT, hF⟩⟩, hS.F ht⟩) hS.2.2 dX12_arrears_18
  · have t4 : 0 ≤ p0.toInt := ti_nlt c2 rfl (by decide)
    refine lv_iload_n hx hb dX12_arrears_9 rfl (lv_at hl 1 rfl) ?_
    refine lv_aload_n hx hb dX12_arrears_10 rfl (lv_at hl 0 rfl) ?_
    refine tw_get hx hb hts bF_X12 hown hK hT hr_o0 shm_0 rfl 42 (by decide) (ht_at hts 1 rfl) (fun _ h9 => h9) dX12_arrears_11 (fun v9 m5 h9 => ?_)
    obtain ⟨x6, rfl, gx6, kx6⟩ := h9 _ rfl
    refine lv_icmp_lt (tgt := 19) hx hb dX12_arrears_14 (by decide) (fun c7 => ?_) (fun c7 => ?_)
    · have t8 : p0.toInt < x6.toInt := ti_lt c7 rfl rfl
      refine lv_iconst (v := 0) hx hb dX12_arrears_19 (by decide) ?_
      refine lv_istore_n (lv' := [(2, .int 0), (0, .ref o0), (1, .int p0)]) hx hb dX12_arrears_20 rfl hl (by decide) rfl (fun ls hl => ?_)
      have key314 : ∀ (n314 i9 : Nat), i9 + n314 = 60 → 0 ≤ i9 → ∀ (H : Heap) (locs : List Loc), gH (dC, dI) kA (SHm q (wP wZ wN wH wB wC wL wK wU wV) PI im PM PT lS lB lE lN) G H → gF (dC, dI) SKm G ([(0, 0), (52, 0)] : List (Nat × Nat)) s.heap H → va_S A s.heap H locs → el H o0 (dI 15 0) = some (.int 0) → el H o0 (dI 15 42) = some (.int x6) → ∀ ls : Array Slot, lv_has ls 5 [(2, .int (nI i9)), (0, .ref o0), (1, .int p0)] → W p l e (headSpec w_s_arrears ({ frames := 0, cells := 0, slots := 0, locals := 0 })).room s m #[.ref o0, .int p0] below meth c H locs 0 0 (MQ below (va_Qi (fun (r : Int32) (u : Unit) => (-1 ≤ r.toInt ∧ r.toInt ≤ 59)) (fun (_ : Unit) (t : State) => gH (dC, dI) kA (SHm q (wP wZ wN wH wB wC wL wK wU wV) PI im PM PT lS lB lE lN) G t.heap ∧ gF (dC, dI) SKm G ([(0, 0), (52, 0)] : List (Nat × Nat)) s.heap t.heap) A) #[.ref o0, .int p0] s 0 0 A) (F0 m 21 ls []) := by
        intro n314
        induction n314 with
        | zero =>
          intro i9 hn314 hlo315  H locs hT hF hS m10 m11 ls hl
          obtain rfl : 60 = i9 := by omega
          refine lv_iload_n hx hb dX12_arrears_21 rfl (lv_at hl 0 rfl) ?_
          refine lv_aload_n hx hb dX12_arrears_22 rfl (lv_at hl 1 rfl) ?_
          refine tw_getM (v := .int x6) hx hb hts bF_X12 hown hK hT hr_o0 shm_0 rfl 42 (by decide) (ht_at hts 1 rfl) (fun _ h9 => h9) m11 dX12_arrears_23 ?_
          refine lv_icmp_ge (tgt := 64) hx hb dX12_arrears_26 (by decide) (fun c316 => ?_) (fun c316 => (by exfalso; have q9 : ((60 : Nat) : Int) < x6.toInt := ti_nle c316 rfl (nI_toInt (by omega)); omega))
          have t317 : x6.toInt ≤ ((60 : Nat) : Int) := ti_le c316 rfl (nI_toInt (by omega))
          refine lv_iconst (v := (-1)) hx hb dX12_arrears_64 (by decide) ?_
          refine lv_istore_n (lv' := [(2, .int (-1)), (0, .ref o0), (1, .int p0)]) hx hb dX12_arrears_65 rfl hl (by decide) rfl (fun ls hl => ?_)
          refine lv_iconst (v := 0) hx hb dX12_arrears_66 (by decide) ?_
          refine lv_istore_n (lv' := [(3, .int 0), (2, .int (-1)), (0, .ref o0), (1, .int p0)]) hx hb dX12_arrears_67 rfl hl (by decide) rfl (fun ls hl => ?_)
          have key453 : ∀ (n453 i318 : Nat), i318 + n453 = 60 → 0 ≤ i318 → ∀ (z319 : Int32), ((-1 ≤ z319.toInt ∧ z319.toInt ≤ 59)) → ∀ (H : Heap) (locs : List Loc), gH (dC, dI) kA (SHm q (wP wZ wN wH wB wC wL wK wU wV) PI im PM PT lS lB lE lN) G H → gF (dC, dI) SKm G ([(0, 0), (52, 0)] : List (Nat × Nat)) s.heap H → va_S A s.heap H locs → el H o0 (dI 15 0) = some (.int 0) → el H o0 (dI 15 42) = some (.int x6) → ∀ ls : Array Slot, lv_has ls 5 [(3, .int (nI i318)), (2, .int z319), (0, .ref o0), (1, .int p0)] → W p l e (headSpec w_s_arrears ({ frames := 0, cells := 0, slots := 0, locals := 0 })).room s m #[.ref o0, .int p0] below meth c H locs 0 0 (MQ below (va_Qi (fun (r : Int32) (u : Unit) => (-1 ≤ r.toInt ∧ r.toInt ≤ 59)) (fun (_ : Unit) (t : State) => gH (dC, dI) kA (SHm q (wP wZ wN wH wB wC wL wK wU wV) PI im PM PT lS lB lE lN) G t.heap ∧ gF (dC, dI) SKm G ([(0, 0), (52, 0)] : List (Nat × Nat)) s.heap t.heap) A) #[.ref o0, .int p0] s 0 0 A) (F0 m 68 ls []) := by
            intro n453
            induction n453 with
            | zero =>
              intro i318 hn453 hlo454 z319 h320 H locs hT hF hS m321 m322 ls hl
              obtain rfl : 60 = i318 := by omega
              refine lv_iload_n hx hb dX12_arrears_68 rfl (lv_at hl 0 rfl) ?_
              refine lv_iload_n hx hb dX12_arrears_69 rfl (lv_at hl 3 rfl) ?_
              refine lv_icmp_gt (tgt := 145) hx hb dX12_arrears_70 (by decide) (fun c455 => ?_) (fun c455 => (by exfalso; have q9 : ((60 : Nat) : Int) ≤ p0.toInt := ti_nlt c455 rfl (nI_toInt (by omega)); omega))
              have t456 : p0.toInt < ((60 : Nat) : Int) := ti_lt c455 rfl (nI_toInt (by omega))
              refine lv_iload_n hx hb dX12_arrears_145 rfl (lv_at hl 1 rfl) ?_
              exact W.iret (v := z319) hx hb hr (fun t ht hW => ⟨⟨z319, (), rfl, (by exact (by have q8 := ti_all z319; omega)), by (try dsimp only); rw [ht]; exact ⟨hT, hF⟩⟩, hS.F ht⟩) hS.2.2 dX12_arrears_146
            | succ n453 ih453 =>
              intro i318 hn453 hlo454 z319 h320 H locs hT hF hS m321 m322 ls hl
              have hlt456 : i318 < 60 := by omega
              refine lv_iload_n hx hb dX12_arrears_68 rfl (lv_at hl 0 rfl) ?_
              refine lv_iload_n hx hb dX12_arrears_69 rfl (lv_at hl 3 rfl) ?_
              refine lv_icmp_gt (tgt := 145) hx hb dX12_arrears_70 (by decide) (fun c457 => ?_) (fun c457 => ?_)
              · have t458 : p0.toInt < ((i318 : Nat) : Int) := ti_lt c457 rfl (nI_toInt (by omega))
                refine lv_iload_n hx hb dX12_arrears_145 rfl (lv_at hl 1 rfl) ?_
                exact W.iret (v := z319) hx hb hr (fun t ht hW => ⟨⟨z319, (), rfl, (by exact (by have q8 := ti_all z319; omega)), by (try dsimp only); rw [ht]; exact ⟨hT, hF⟩⟩, hS.F ht⟩) hS.2.2 dX12_arrears_146
              · have t459 : ((i318 : Nat) : Int) ≤ p0.toInt := ti_nlt c457 rfl (nI_toInt (by omega))
                refine lv_iconst (v := (-1)) hx hb dX12_arrears_73 (by decide) ?_
                refine lv_istore_n (lv' := [(2, .int (-1)), (3, .int (nI i318)), (0, .ref o0), (1, .int p0)]) hx hb dX12_arrears_74 rfl hl (by decide) rfl (fun ls hl => ?_)
                refine lv_iconst (v := 0) hx hb dX12_arrears_75 (by decide) ?_
                refine lv_istore (lv' := [(4, .int 0), (2, .int (-1)), (3, .int (nI i318)), (0, .ref o0), (1, .int p0)]) hx hb dX12_arrears_76 hl (by decide) rfl (fun ls hl => ?_)
                have jn550 : ∀ (z544 : Int32), ∀ (z546 : Int32), ((1 ≤ z544.toInt ∧ z544.toInt ≤ 60) ∧ (-1 ≤ z546.toInt ∧ z546.toInt ≤ 59)) → ∀ (H : Heap) (locs : List Loc), gH (dC, dI) kA (SHm q (wP wZ wN wH wB wC wL wK wU wV) PI im PM PT lS lB lE lN) G H → gF (dC, dI) SKm G ([(0, 0), (52, 0)] : List (Nat × Nat)) s.heap H → va_S A s.heap H locs → el H o0 (dI 15 0) = some (.int 0) → el H o0 (dI 15 42) = some (.int x6) → ∀ ls : Array Slot, lv_has ls 5 [(4, .int z544), (2, .int z546), (3, .int (nI i318)), (0, .ref o0), (1, .int p0)] → W p l e (headSpec w_s_arrears ({ frames := 0, cells := 0, slots := 0, locals := 0 })).room s m #[.ref o0, .int p0] below meth c H locs 0 0 (MQ below (va_Qi (fun (r : Int32) (u : Unit) => (-1 ≤ r.toInt ∧ r.toInt ≤ 59)) (fun (_ : Unit) (t : State) => gH (dC, dI) kA (SHm q (wP wZ wN wH wB wC wL wK wU wV) PI im PM PT lS lB lE lN) G t.heap ∧ gF (dC, dI) SKm G ([(0, 0), (52, 0)] : List (Nat × Nat)) s.heap t.heap) A) #[.ref o0, .int p0] s 0 0 A) (F0 m 126 ls []) := by
                  intro z544 z546 ⟨h545, h547⟩ H locs hT hF hS m548 m549 ls hl
                  refine lv_iload_n hx hb dX12_arrears_126 rfl (lv_at hl 1 rfl) ?_
                  refine lv_if_ge (tgt := 132) hx hb dX12_arrears_127 (by decide) (fun c551 => ?_) (fun c551 => ?_)
                  · have t552 : 0 ≤ z546.toInt := ti_le c551 (by decide) rfl
                    refine lv_aload_n hx hb dX12_arrears_132 rfl (lv_at hl 3 rfl) ?_
                    refine tw_get hx hb hts bF_X12 hown hK hT hr_o0 shm_0 rfl 51 (by decide) (ht_at hts 2 rfl) (fun _ h9 => h9) dX12_arrears_133 (fun v9 m553 h9 => ?_)
                    obtain ⟨rfl, hg554⟩ := h9 _ rfl
                    refine lv_iload_n hx hb dX12_arrears_136 rfl (lv_at hl 1 rfl) ?_
                    refine lv_iconst (v := 0) hx hb dX12_arrears_137 (by decide) ?_
                    refine tw_zast (i := z546) (x := 0) hx hb hK hT hG hS hg554 shm_52 rfl (vin_t (a := z546.toInt) rfl (by omega) (by omega)) (gi_z (rg_t (a := 0) (by decide) (by first | decide | omega) (by first | decide | omega)) (by decide) (by decide)) dX12_arrears_138 (fun H locs hT oq m555 oi hS => ?_)
                    have hF := hF.ast hg554 skm_52 oq (by decide)
                    have m556 := (el_kept (oq _ (gne hr_o0 hg554 (by decide)))).trans m548
                    have m557 := (el_kept (oq _ (gne hr_o0 hg554 (by decide)))).trans m549
                    refine lv_iinc (v := nI (i318 + 1)) (lv' := [(3, .int (nI (i318 + 1))), (4, .int z544), (2, .int z546), (0, .ref o0), (1, .int p0)]) hx hb dX12_arrears_139 hl (k := 2) rfl (nI_add i318 1) (by decide) rfl (fun ls hl => ?_)
                    refine lv_goto (tgt := 68) hx hb dX12_arrears_142 (by decide) ?_
                    exact ih453 (i318 + 1) (by omega) (by omega) z546 (by have q8 := ti_all z546; omega) _ _ hT hF hS m556 m557 ls (lv_sub hl [0, 2, 3, 4] rfl)
                  · have t558 : z546.toInt < 0 := ti_nle c551 (by decide) rfl
                    refine lv_iconst (v := (-1)) hx hb dX12_arrears_130 (by decide) ?_
                    exact W.iret (v := (-1)) hx hb hr (fun t ht hW => ⟨⟨(-1), (), rfl, (by exact (rg_t (a := (-1)) (by decide) (by first | decide | omega) (by first | decide | omega))), by (try dsimp only); rw [ht]; exact ⟨hT, hF⟩⟩, hS.F ht⟩) hS.2.2 dX12_arrears_131
                have key559 : ∀ (n559 i460 : Nat), i460 + n559 = 60 → 0 ≤ i460 → ∀ (z461 : Int32), ((-1 ≤ z461.toInt ∧ z461.toInt ≤ 59)) → ∀ (H : Heap) (locs : List Loc), gH (dC, dI) kA (SHm q (wP wZ wN wH wB wC wL wK wU wV) PI im PM PT lS lB lE lN) G H → gF (dC, dI) SKm G ([(0, 0), (52, 0)] : List (Nat × Nat)) s.heap H → va_S A s.heap H locs → el H o0 (dI 15 0) = some (.int 0) → el H o0 (dI 15 42) = some (.int x6) → ∀ ls : Array Slot, lv_has ls 5 [(4, .int (nI i460)), (2, .int z461), (3, .int (nI i318)), (0, .ref o0), (1, .int p0)] → W p l e (headSpec w_s_arrears ({ frames := 0, cells := 0, slots := 0, locals := 0 })).room s m #[.ref o0, .int p0] below meth c H locs 0 0 (MQ below (va_Qi (fun (r : Int32) (u : Unit) => (-1 ≤ r.toInt ∧ r.toInt ≤ 59)) (fun (_ : Unit) (t : State) => gH (dC, dI) kA (SHm q (wP wZ wN wH wB wC wL wK wU wV) PI im PM PT lS lB lE lN) G t.heap ∧ gF (dC, dI) SKm G ([(0, 0), (52, 0)] : List (Nat × Nat)) s.heap t.heap) A) #[.ref o0, .int p0] s 0 0 A) (F0 m 78 ls []) := by
                  intro n559
                  induction n559 with
                  | zero =>
                    intro i460 hn559 hlo560 z461 h462 H locs hT hF hS m463 m464 ls hl
                    obtain rfl : 60 = i460 := by omega
                    refine lv_iload hx hb dX12_arrears_78 (lv_at hl 0 rfl) ?_
                    refine lv_aload_n hx hb dX12_arrears_80 rfl (lv_at hl 3 rfl) ?_
                    refine tw_getM (v := .int x6) hx hb hts bF_X12 hown hK hT hr_o0 shm_0 rfl 42 (by decide) (ht_at hts 1 rfl) (fun _ h9 => h9) m464 dX12_arrears_81 ?_
                    refine lv_icmp_ge (tgt := 126) hx hb dX12_arrears_84 (by decide) (fun c561 => ?_) (fun c561 => (by exfalso; have q9 : ((60 : Nat) : Int) < x6.toInt := ti_nle c561 rfl (nI_toInt (by omega)); omega))
                    have t562 : x6.toInt ≤ ((60 : Nat) : Int) := ti_le c561 rfl (nI_toInt (by omega))
                    exact jn550 (nI 60) z461 ⟨(rg_t (a := ((60 : Nat) : Int)) (nI_toInt (by omega)) (by omega) (by omega)), (by have q8 := ti_all z461; omega)⟩ _ _ hT hF hS m463 m464 ls (lv_sub hl [0, 1, 2, 3, 4] rfl)
                  | succ n559 ih559 =>
                    intro i460 hn559 hlo560 z461 h462 H locs hT hF hS m463 m464 ls hl
                    have hlt562 : i460 < 60 := by omega
                    refine lv_iload hx hb dX12_arrears_78 (lv_at hl 0 rfl) ?_
                    refine lv_aload_n hx hb dX12_arrears_80 rfl (lv_at hl 3 rfl) ?_
                    refine tw_getM (v := .int x6) hx hb hts bF_X12 hown hK hT hr_o0 shm_0 rfl 42 (by decide) (ht_at hts 1 rfl) (fun _ h9 => h9) m464 dX12_arrears_81 ?_
                    refine lv_icmp_ge (tgt := 126) hx hb dX12_arrears_84 (by decide) (fun c563 => ?_) (fun c563 => ?_)
                    · have t564 : x6.toInt ≤ ((i460 : Nat) : Int) := ti_le c563 rfl (nI_toInt (by omega))
                      exact jn550 (nI i460) z461 ⟨(rg_t (a := ((i460 : Nat) : Int)) (nI_toInt (by omega)) (by omega) (by omega)), (by have q8 := ti_all z461; omega)⟩ _ _ hT hF hS m463 m464 ls (lv_sub hl [0, 1, 2, 3, 4] rfl)
                    · have t565 : ((i460 : Nat) : Int) < x6.toInt := ti_nle c563 rfl (nI_toInt (by omega))
                      refine lv_aload_n hx hb dX12_arrears_87 rfl (lv_at hl 3 rfl) ?_
                      refine tw_get hx hb hts bF_X12 hown hK hT hr_o0 shm_0 rfl 51 (by decide) (ht_at hts 2 rfl) (fun _ h9 => h9) dX12_arrears_88 (fun v9 m566 h9 => ?_)
                      obtain ⟨rfl, hg567⟩ := h9 _ rfl
                      refine lv_iload hx hb dX12_arrears_91 (lv_at hl 0 rfl) ?_
                      refine tw_zald (i := (nI i460)) hx hb hK hT hg567 shm_52 rfl (vp_in_nI (by omega) (by decide)) dX12_arrears_93 (fun v9 m568 h9 => ?_)
                      obtain ⟨x569, rfl, gx569, kx569⟩ := h9
                      refine lv_if_eq (tgt := 120) hx hb dX12_arrears_94 (by decide) (fun c570 => ?_) (fun c570 => ?_)
                      · have t571 : x569.toInt = 0 := ti_eq c570 rfl (by decide)
                        refine lv_iinc (v := nI (i460 + 1)) (lv' := [(4, .int (nI (i460 + 1))), (2, .int z461), (3, .int (nI i318)), (0, .ref o0), (1, .int p0)]) hx hb dX12_arrears_120 hl (k := 0) rfl (nI_add i460 1) (by decide) rfl (fun ls hl => ?_)
                        refine lv_goto (tgt := 78) hx hb dX12_arrears_123 (by decide) ?_
                        exact ih559 (i460 + 1) (by omega) (by omega) z461 (by have q8 := ti_all z461; omega) _ _ hT hF hS m463 m464 ls (lv_sub hl [0, 1, 2, 3, 4] rfl)
                      · have t572 : x569.toInt ≠ 0 := ti_ne c570 rfl (by decide)
                        refine lv_iload_n hx hb dX12_arrears_97 rfl (lv_at hl 1 rfl) ?_
                        refine lv_if_lt (tgt := 117) hx hb dX12_arrears_98 (by decide) (fun c573 => ?_) (fun c573 => ?_)
                        · have t574 : z461.toInt < 0 := ti_lt c573 rfl (by decide)
                          refine lv_iload hx hb dX12_arrears_117 (lv_at hl 0 rfl) ?_
                          refine lv_istore_n (lv' := [(2, .int (nI i460)), (4, .int (nI i460)), (3, .int (nI i318)), (0, .ref o0), (1, .int p0)]) hx hb dX12_arrears_119 rfl hl (by decide) rfl (fun ls hl => ?_)
                          refine lv_iinc (v := nI (i460 + 1)) (lv' := [(4, .int (nI (i460 + 1))), (2, .int (nI i460)), (3, .int (nI i318)), (0, .ref o0), (1, .int p0)]) hx hb dX12_arrears_120 hl (k := 1) rfl (nI_add i460 1) (by decide) rfl (fun ls hl => ?_)
                          refine lv_goto (tgt := 78) hx hb dX12_arrears_123 (by decide) ?_
                          exact ih559 (i460 + 1) (by omega) (by omega) (nI i460) (rg_t (a := ((i460 : Nat) : Int)) (nI_toInt (by omega)) (by omega) (by omega)) _ _ hT hF hS m463 m464 ls (lv_sub hl [0, 1, 2, 3, 4] rfl)
                        · have t575 : 0 ≤ z461.toInt := ti_nlt c573 rfl (by decide)
                          refine lv_aload_n hx hb dX12_arrears_101 rfl (lv_at hl 3 rfl) ?_
                          refine tw_get hx hb hts bF_X12 hown hK hT hr_o0 shm_0 rfl 40 (by decide) (ht_at hts 3 rfl) (fun _ h9 => h9) dX12_arrears_102 (fun v9 m576 h9 => ?_)
                          obtain ⟨rfl, hg577⟩ := h9 _ rfl
                          refine lv_iload hx hb dX12_arrears_105 (lv_at hl 0 rfl) ?_
                          refine tw_iald (i := (nI i460)) hx hb hK hT hg577 shm_41 rfl (vp_in_nI (by omega) (by decide)) dX12_arrears_107 (fun v9 m578 h9 => ?_)
                          obtain ⟨x579, rfl, gx579, kx579⟩ := h9
                          refine lv_aload_n hx hb dX12_arrears_108 rfl (lv_at hl 3 rfl) ?_
                          refine tw_get hx hb hts bF_X12 hown hK hT hr_o0 shm_0 rfl 40 (by decide) (ht_at hts 3 rfl) (fun _ h9 => h9) dX12_arrears_109 (fun v9 m580 h9 => ?_)
                          obtain ⟨rfl, hg581⟩ := h9 _ rfl
                          refine lv_iload_n hx hb dX12_arrears_112 rfl (lv_at hl 1 rfl) ?_
                          refine tw_iald (i := z461) hx hb hK hT hg577 shm_41 rfl (vin_t (a := z461.toInt) rfl (by omega) (by omega)) dX12_arrears_113 (fun v9 m582 h9 => ?_)
                          obtain ⟨x583, rfl, gx583, kx583⟩ := h9
                          refine lv_icmp_le (tgt := 120) hx hb dX12_arrears_114 (by decide) (fun c584 => ?_) (fun c584 => ?_)
                          · have t585 : x579.toInt ≤ x583.toInt := ti_le c584 rfl rfl
                            refine lv_iinc (v := nI (i460 + 1)) (lv' := [(4, .int (nI (i460 + 1))), (2, .int z461), (3, .int (nI i318)), (0, .ref o0), (1, .int p0)]) hx hb dX12_arrears_120 hl (k := 0) rfl (nI_add i460 1) (by decide) rfl (fun ls hl => ?_)
                            refine lv_goto (tgt := 78) hx hb dX12_arrears_123 (by decide) ?_
                            exact ih559 (i460 + 1) (by omega) (by omega) z461 (by have q8 := ti_all z461; omega) _ _ hT hF hS m463 m464 ls (lv_sub hl [0, 1, 2, 3, 4] rfl)
                          · have t586 : x583.toInt < x579.toInt := ti_nle c584 rfl rfl
                            refine lv_iload hx hb dX12_arrears_117 (lv_at hl 0 rfl) ?_
                            refine lv_istore_n (lv' := [(2, .int (nI i460)), (4, .int (nI i460)), (3, .int (nI i318)), (0, .ref o0), (1, .int p0)]) hx hb dX12_arrears_119 rfl hl (by decide) rfl (fun ls hl => ?_)
                            refine lv_iinc (v := nI (i460 + 1)) (lv' := [(4, .int (nI (i460 + 1))), (2, .int (nI i460)), (3, .int (nI i318)), (0, .ref o0), (1, .int p0)]) hx hb dX12_arrears_120 hl (k := 1) rfl (nI_add i460 1) (by decide) rfl (fun ls hl => ?_)
                            refine lv_goto (tgt := 78) hx hb dX12_arrears_123 (by decide) ?_
                            exact ih559 (i460 + 1) (by omega) (by omega) (nI i460) (rg_t (a := ((i460 : Nat) : Int)) (nI_toInt (by omega)) (by omega) (by omega)) _ _ hT hF hS m463 m464 ls (lv_sub hl [0, 1, 2, 3, 4] rfl)
                exact key559 (60 - 0) 0 (by omega) (Nat.le_refl _) (-1) (rg_t (a := (-1)) (by decide) (by first | decide | omega) (by first | decide | omega)) _ _ hT hF hS m321 m322 ls (lv_sub hl [0, 1, 2, 3, 4] rfl)
          exact key453 (60 - 0) 0 (by omega) (Nat.le_refl _) (-1) (rg_t (a := (-1)) (by decide) (by first | decide | omega) (by first | decide | omega)) _ _ hT hF hS m10 m11 ls (lv_sub hl [0, 1, 2, 3] rfl)
        | succ n314 ih314 =>
          intro i9 hn314 hlo315  H locs hT hF hS m10 m11 ls hl
          have hlt586 : i9 < 60 := by omega
          refine lv_iload_n hx hb dX12_arrears_21 rfl (lv_at hl 0 rfl) ?_
          refine lv_aload_n hx hb dX12_arrears_22 rfl (lv_at hl 1 rfl) ?_
          refine tw_getM (v := .int x6) hx hb hts bF_X12 hown hK hT hr_o0 shm_0 rfl 42 (by decide) (ht_at hts 1 rfl) (fun _ h9 => h9) m11 dX12_arrears_23 ?_
          refine lv_icmp_ge (tgt := 64) hx hb dX12_arrears_26 (by decide) (fun c587 => ?_) (fun c587 => ?_)
          · have t588 : x6.toInt ≤ ((i9 : Nat) : Int) := ti_le c587 rfl (nI_toInt (by omega))
            refine lv_iconst (v := (-1)) hx hb dX12_arrears_64 (by decide) ?_
            refine lv_istore_n (lv' := [(2, .int (-1)), (0, .ref o0), (1, .int p0)]) hx hb dX12_arrears_65 rfl hl (by decide) rfl (fun ls hl => ?_)
            refine lv_iconst (v := 0) hx hb dX12_arrears_66 (by decide) ?_
            refine lv_istore_n (lv' := [(3, .int 0), (2, .int (-1)), (0, .ref o0), (1, .int p0)]) hx hb dX12_arrears_67 rfl hl (by decide) rfl (fun ls hl => ?_)
            have key724 : ∀ (n724 i589 : Nat), i589 + n724 = 60 → 0 ≤ i589 → ∀ (z590 : Int32), ((-1 ≤ z590.toInt ∧ z590.toInt ≤ 59)) → ∀ (H : Heap) (locs : List Loc), gH (dC, dI) kA (SHm q (wP wZ wN wH wB wC wL wK wU wV) PI im PM PT lS lB lE lN) G H → gF (dC, dI) SKm G ([(0, 0), (52, 0)] : List (Nat × Nat)) s.heap H → va_S A s.heap H locs → el H o0 (dI 15 0) = some (.int 0) → el H o0 (dI 15 42) = some (.int x6) → ∀ ls : Array Slot, lv_has ls 5 [(3, .int (nI i589)), (2, .int z590), (0, .ref o0), (1, .int p0)] → W p l e (headSpec w_s_arrears ({ frames := 0, cells := 0, slots := 0, locals := 0 })).room s m #[.ref o0, .int p0] below meth c H locs 0 0 (MQ below (va_Qi (fun (r : Int32) (u : Unit) => (-1 ≤ r.toInt ∧ r.toInt ≤ 59)) (fun (_ : Unit) (t : State) => gH (dC, dI) kA (SHm q (wP wZ wN wH wB wC wL wK wU wV) PI im PM PT lS lB lE lN) G t.heap ∧ gF (dC, dI) SKm G ([(0, 0), (52, 0)] : List (Nat × Nat)) s.heap t.heap) A) #[.ref o0, .int p0] s 0 0 A) (F0 m 68 ls []) := by
              intro n724
              induction n724 with
              | zero =>
                intro i589 hn724 hlo725 z590 h591 H locs hT hF hS m592 m593 ls hl
                obtain rfl : 60 = i589 := by omega
                refine lv_iload_n hx hb dX12_arrears_68 rfl (lv_at hl 0 rfl) ?_
                refine lv_iload_n hx hb dX12_arrears_69 rfl (lv_at hl 3 rfl) ?_
                refine lv_icmp_gt (tgt := 145) hx hb dX12_arrears_70 (by decide) (fun c726 => ?_) (fun c726 => (by exfalso; have q9 : ((60 : Nat) : Int) ≤ p0.toInt := ti_nlt c726 rfl (nI_toInt (by omega)); omega))
                have t727 : p0.toInt < ((60 : Nat) : Int) := ti_lt c726 rfl (nI_toInt (by omega))
                refine lv_iload_n hx hb dX12_arrears_145 rfl (lv_at hl 1 rfl) ?_
                exact W.iret (v := z590) hx hb hr (fun t ht hW => ⟨⟨z590, (), rfl, (by exact (by have q8 := ti_all z590; omega)), by (try dsimp only); rw [ht]; exact ⟨hT, hF⟩⟩, hS.F ht⟩) hS.2.2 dX12_arrears_146
              | succ n724 ih724 =>
                intro i589 hn724 hlo725 z590 h591 H locs hT hF hS m592 m593 ls hl
                have hlt727 : i589 < 60 := by omega
                refine lv_iload_n hx hb dX12_arrears_68 rfl (lv_at hl 0 rfl) ?_
                refine lv_iload_n hx hb dX12_arrears_69 rfl (lv_at hl 3 rfl) ?_
                refine lv_icmp_gt (tgt := 145) hx hb dX12_arrears_70 (by decide) (fun c728 => ?_) (fun c728 => ?_)
                · have t729 : p0.toInt < ((i589 : Nat) : Int) := ti_lt c728 rfl (nI_toInt (by omega))
                  refine lv_iload_n hx hb dX12_arrears_145 rfl (lv_at hl 1 rfl) ?_
                  exact W.iret (v := z590) hx hb hr (fun t ht hW => ⟨⟨z590, (), rfl, (by exact (by have q8 := ti_all z590; omega)), by (try dsimp only); rw [ht]; exact ⟨hT, hF⟩⟩, hS.F ht⟩) hS.2.2 dX12_arrears_146
                · have t730 : ((i589 : Nat) : Int) ≤ p0.toInt := ti_nlt c728 rfl (nI_toInt (by omega))
                  refine lv_iconst (v := (-1)) hx hb dX12_arrears_73 (by decide) ?_
                  refine lv_istore_n (lv' := [(2, .int (-1)), (3, .int (nI i589)), (0, .ref o0), (1, .int p0)]) hx hb dX12_arrears_74 rfl hl (by decide) rfl (fun ls hl => ?_)
                  refine lv_iconst (v := 0) hx hb dX12_arrears_75 (by decide) ?_
                  refine lv_istore (lv' := [(4, .int 0), (2, .int (-1)), (3, .int (nI i589)), (0, .ref o0), (1, .int p0)]) hx hb dX12_arrears_76 hl (by decide) rfl (fun ls hl => ?_)
                  have jn821 : ∀ (z815 : Int32), ∀ (z817 : Int32), ((1 ≤ z815.toInt ∧ z815.toInt ≤ 60) ∧ (-1 ≤ z817.toInt ∧ z817.toInt ≤ 59)) → ∀ (H : Heap) (locs : List Loc), gH (dC, dI) kA (SHm q (wP wZ wN wH wB wC wL wK wU wV) PI im PM PT lS lB lE lN) G H → gF (dC, dI) SKm G ([(0, 0), (52, 0)] : List (Nat × Nat)) s.heap H → va_S A s.heap H locs → el H o0 (dI 15 0) = some (.int 0) → el H o0 (dI 15 42) = some (.int x6) → ∀ ls : Array Slot, lv_has ls 5 [(4, .int z815), (2, .int z817), (3, .int (nI i589)), (0, .ref o0), (1, .int p0)] → W p l e (headSpec w_s_arrears ({ frames := 0, cells := 0, slots := 0, locals := 0 })).room s m #[.ref o0, .int p0] below meth c H locs 0 0 (MQ below (va_Qi (fun (r : Int32) (u : Unit) => (-1 ≤ r.toInt ∧ r.toInt ≤ 59)) (fun (_ : Unit) (t : State) => gH (dC, dI) kA (SHm q (wP wZ wN wH wB wC wL wK wU wV) PI im PM PT lS lB lE lN) G t.heap ∧ gF (dC, dI) SKm G ([(0, 0), (52, 0)] : List (Nat × Nat)) s.heap t.heap) A) #[.ref o0, .int p0] s 0 0 A) (F0 m 126 ls []) := by
                    intro z815 z817 ⟨h816, h818⟩ H locs hT hF hS m819 m820 ls hl
                    refine lv_iload_n hx hb dX12_arrears_126 rfl (lv_at hl 1 rfl) ?_
                    refine lv_if_ge (tgt := 132) hx hb dX12_arrears_127 (by decide) (fun c822 => ?_) (fun c822 => ?_)
                    · have t823 : 0 ≤ z817.toInt := ti_le c822 (by decide) rfl
                      refine lv_aload_n hx hb dX12_arrears_132 rfl (lv_at hl 3 rfl) ?_
                      refine tw_get hx hb hts bF_X12 hown hK hT hr_o0 shm_0 rfl 51 (by decide) (ht_at hts 2 rfl) (fun _ h9 => h9) dX12_arrears_133 (fun v9 m824 h9 => ?_)
                      obtain ⟨rfl, hg825⟩ := h9 _ rfl
                      refine lv_iload_n hx hb dX12_arrears_136 rfl (lv_at hl 1 rfl) ?_
                      refine lv_iconst (v := 0) hx hb dX12_arrears_137 (by decide) ?_
                      refine tw_zast (i := z817) (x := 0) hx hb hK hT hG hS hg825 shm_52 rfl (vin_t (a := z817.toInt) rfl (by omega) (by omega)) (gi_z (rg_t (a := 0) (by decide) (by first | decide | omega) (by first | decide | omega)) (by decide) (by decide)) dX12_arrears_138 (fun H locs hT oq m826 oi hS => ?_)
                      have hF := hF.ast hg825 skm_52 oq (by decide)
                      have m827 := (el_kept (oq _ (gne hr_o0 hg825 (by decide)))).trans m819
                      have m828 := (el_kept (oq _ (gne hr_o0 hg825 (by decide)))).trans m820
                      refine lv_iinc (v := nI (i589 + 1)) (lv' := [(3, .int (nI (i589 + 1))), (4, .int z815), (2, .int z817), (0, .ref o0), (1, .int p0)]) hx hb dX12_arrears_139 hl (k := 2) rfl (nI_add i589 1) (by decide) rfl (fun ls hl => ?_)
                      refine lv_goto (tgt := 68) hx hb dX12_arrears_142 (by decide) ?_
                      exact ih724 (i589 + 1) (by omega) (by omega) z817 (by have q8 := ti_all z817; omega) _ _ hT hF hS m827 m828 ls (lv_sub hl [0, 2, 3, 4] rfl)
                    · have t829 : z817.toInt < 0 := ti_nle c822 (by decide) rfl
                      refine lv_iconst (v := (-1)) hx hb dX12_arrears_130 (by decide) ?_
                      exact W.iret (v := (-1)) hx hb hr (fun t ht hW => ⟨⟨(-1), (), rfl, (by exact (rg_t (a := (-1)) (by decide) (by first | decide | omega) (by first | decide | omega))), by (try dsimp only); rw [ht]; exact ⟨hT, hF⟩⟩, hS.F ht⟩) hS.2.2 dX12_arrears_131
                  have key830 : ∀ (n830 i731 : Nat), i731 + n830 = 60 → 0 ≤ i731 → ∀ (z732 : Int32), ((-1 ≤ z732.toInt ∧ z732.toInt ≤ 59)) → ∀ (H : Heap) (locs : List Loc), gH (dC, dI) kA (SHm q (wP wZ wN wH wB wC wL wK wU wV) PI im PM PT lS lB lE lN) G H → gF (dC, dI) SKm G ([(0, 0), (52, 0)] : List (Nat × Nat)) s.heap H → va_S A s.heap H locs → el H o0 (dI 15 0) = some (.int 0) → el H o0 (dI 15 42) = some (.int x6) → ∀ ls : Array Slot, lv_has ls 5 [(4, .int (nI i731)), (2, .int z732), (3, .int (nI i589)), (0, .ref o0), (1, .int p0)] → W p l e (headSpec w_s_arrears ({ frames := 0, cells := 0, slots := 0, locals := 0 })).room s m #[.ref o0, .int p0] below meth c H locs 0 0 (MQ below (va_Qi (fun (r : Int32) (u : Unit) => (-1 ≤ r.toInt ∧ r.toInt ≤ 59)) (fun (_ : Unit) (t : State) => gH (dC, dI) kA (SHm q (wP wZ wN wH wB wC wL wK wU wV) PI im PM PT lS lB lE lN) G t.heap ∧ gF (dC, dI) SKm G ([(0, 0), (52, 0)] : List (Nat × Nat)) s.heap t.heap) A) #[.ref o0, .int p0] s 0 0 A) (F0 m 78 ls []) := by
                    intro n830
                    induction n830 with
                    | zero =>
                      intro i731 hn830 hlo831 z732 h733 H locs hT hF hS m734 m735 ls hl
                      obtain rfl : 60 = i731 := by omega
                      refine lv_iload hx hb dX12_arrears_78 (lv_at hl 0 rfl) ?_
                      refine lv_aload_n hx hb dX12_arrears_80 rfl (lv_at hl 3 rfl) ?_
                      refine tw_getM (v := .int x6) hx hb hts bF_X12 hown hK hT hr_o0 shm_0 rfl 42 (by decide) (ht_at hts 1 rfl) (fun _ h9 => h9) m735 dX12_arrears_81 ?_
                      refine lv_icmp_ge (tgt := 126) hx hb dX12_arrears_84 (by decide) (fun c832 => ?_) (fun c832 => (by exfalso; have q9 : ((60 : Nat) : Int) < x6.toInt := ti_nle c832 rfl (nI_toInt (by omega)); omega))
                      have t833 : x6.toInt ≤ ((60 : Nat) : Int) := ti_le c832 rfl (nI_toInt (by omega))
                      exact jn821 (nI 60) z732 ⟨(rg_t (a := ((60 : Nat) : Int)) (nI_toInt (by omega)) (by omega) (by omega)), (by have q8 := ti_all z732; omega)⟩ _ _ hT hF hS m734 m735 ls (lv_sub hl [0, 1, 2, 3, 4] rfl)
                    | succ n830 ih830 =>
                      intro i731 hn830 hlo831 z732 h733 H locs hT hF hS m734 m735 ls hl
                      have hlt833 : i731 < 60 := by omega
                      refine lv_iload hx hb dX12_arrears_78 (lv_at hl 0 rfl) ?_
                      refine lv_aload_n hx hb dX12_arrears_80 rfl (lv_at hl 3 rfl) ?_
                      refine tw_getM (v := .int x6) hx hb hts bF_X12 hown hK hT hr_o0 shm_0 rfl 42 (by decide) (ht_at hts 1 rfl) (fun _ h9 => h9) m735 dX12_arrears_81 ?_
                      refine lv_icmp_ge (tgt := 126) hx hb dX12_arrears_84 (by decide) (fun c834 => ?_) (fun c834 => ?_)
                      · have t835 : x6.toInt ≤ ((i731 : Nat) : Int) := ti_le c834 rfl (nI_toInt (by omega))
                        exact jn821 (nI i731) z732 ⟨(rg_t (a := ((i731 : Nat) : Int)) (nI_toInt (by omega)) (by omega) (by omega)), (by have q8 := ti_all z732; omega)⟩ _ _ hT hF hS m734 m735 ls (lv_sub hl [0, 1, 2, 3, 4] rfl)
                      · have t836 : ((i731 : Nat) : Int) < x6.toInt := ti_nle c834 rfl (nI_toInt (by omega))
                        refine lv_aload_n hx hb dX12_arrears_87 rfl (lv_at hl 3 rfl) ?_
                        refine tw_get hx hb hts bF_X12 hown hK hT hr_o0 shm_0 rfl 51 (by decide) (ht_at hts 2 rfl) (fun _ h9 => h9) dX12_arrears_88 (fun v9 m837 h9 => ?_)
                        obtain ⟨rfl, hg838⟩ := h9 _ rfl
                        refine lv_iload hx hb dX12_arrears_91 (lv_at hl 0 rfl) ?_
                        refine tw_zald (i := (nI i731)) hx hb hK hT hg838 shm_52 rfl (vp_in_nI (by omega) (by decide)) dX12_arrears_93 (fun v9 m839 h9 => ?_)
                        obtain ⟨x840, rfl, gx840, kx840⟩ := h9
                        refine lv_if_eq (tgt := 120) hx hb dX12_arrears_94 (by decide) (fun c841 => ?_) (fun c841 => ?_)
                        · have t842 : x840.toInt = 0 := ti_eq c841 rfl (by decide)
                          refine lv_iinc (v := nI (i731 + 1)) (lv' := [(4, .int (nI (i731 + 1))), (2, .int z732), (3, .int (nI i589)), (0, .ref o0), (1, .int p0)]) hx hb dX12_arrears_120 hl (k := 0) rfl (nI_add i731 1) (by decide) rfl (fun ls hl => ?_)
                          refine lv_goto (tgt := 78) hx hb dX12_arrears_123 (by decide) ?_
                          exact ih830 (i731 + 1) (by omega) (by omega) z732 (by have q8 := ti_all z732; omega) _ _ hT hF hS m734 m735 ls (lv_sub hl [0, 1, 2, 3, 4] rfl)
                        · have t843 : x840.toInt ≠ 0 := ti_ne c841 rfl (by decide)
                          refine lv_iload_n hx hb dX12_arrears_97 rfl (lv_at hl 1 rfl) ?_
                          refine lv_if_lt (tgt := 117) hx hb dX12_arrears_98 (by decide) (fun c844 => ?_) (fun c844 => ?_)
                          · have t845 : z732.toInt < 0 := ti_lt c844 rfl (by decide)
                            refine lv_iload hx hb dX12_arrears_117 (lv_at hl 0 rfl) ?_
                            refine lv_istore_n (lv' := [(2, .int (nI i731)), (4, .int (nI i731)), (3, .int (nI i589)), (0, .ref o0), (1, .int p0)]) hx hb dX12_arrears_119 rfl hl (by decide) rfl (fun ls hl => ?_)
                            refine lv_iinc (v := nI (i731 + 1)) (lv' := [(4, .int (nI (i731 + 1))), (2, .int (nI i731)), (3, .int (nI i589)), (0, .ref o0), (1, .int p0)]) hx hb dX12_arrears_120 hl (k := 1) rfl (nI_add i731 1) (by decide) rfl (fun ls hl => ?_)
                            refine lv_goto (tgt := 78) hx hb dX12_arrears_123 (by decide) ?_
                            exact ih830 (i731 + 1) (by omega) (by omega) (nI i731) (rg_t (a := ((i731 : Nat) : Int)) (nI_toInt (by omega)) (by omega) (by omega)) _ _ hT hF hS m734 m735 ls (lv_sub hl [0, 1, 2, 3, 4] rfl)
                          · have t846 : 0 ≤ z732.toInt := ti_nlt c844 rfl (by decide)
                            refine lv_aload_n hx hb dX12_arrears_101 rfl (lv_at hl 3 rfl) ?_
                            refine tw_get hx hb hts bF_X12 hown hK hT hr_o0 shm_0 rfl 40 (by decide) (ht_at hts 3 rfl) (fun _ h9 => h9) dX12_arrears_102 (fun v9 m847 h9 => ?_)
                            obtain ⟨rfl, hg848⟩ := h9 _ rfl
                            refine lv_iload hx hb dX12_arrears_105 (lv_at hl 0 rfl) ?_
                            refine tw_iald (i := (nI i731)) hx hb hK hT hg848 shm_41 rfl (vp_in_nI (by omega) (by decide)) dX12_arrears_107 (fun v9 m849 h9 => ?_)
                            obtain ⟨x850, rfl, gx850, kx850⟩ := h9
                            refine lv_aload_n hx hb dX12_arrears_108 rfl (lv_at hl 3 rfl) ?_
                            refine tw_get hx hb hts bF_X12 hown hK hT hr_o0 shm_0 rfl 40 (by decide) (ht_at hts 3 rfl) (fun _ h9 => h9) dX12_arrears_109 (fun v9 m851 h9 => ?_)
                            obtain ⟨rfl, hg852⟩ := h9 _ rfl
                            refine lv_iload_n hx hb dX12_arrears_112 rfl (lv_at hl 1 rfl) ?_
                            refine tw_iald (i := z732) hx hb hK hT hg848 shm_41 rfl (vin_t (a := z732.toInt) rfl (by omega) (by omega)) dX12_arrears_113 (fun v9 m853 h9 => ?_)
                            obtain ⟨x854, rfl, gx854, kx854⟩ := h9
                            refine lv_icmp_le (tgt := 120) hx hb dX12_arrears_114 (by decide) (fun c855 => ?_) (fun c855 => ?_)
                            · have t856 : x850.toInt ≤ x854.toInt := ti_le c855 rfl rfl
                              refine lv_iinc (v := nI (i731 + 1)) (lv' := [(4, .int (nI (i731 + 1))), (2, .int z732), (3, .int (nI i589)), (0, .ref o0), (1, .int p0)]) hx hb dX12_arrears_120 hl (k := 0) rfl (nI_add i731 1) (by decide) rfl (fun ls hl => ?_)
                              refine lv_goto (tgt := 78) hx hb dX12_arrears_123 (by decide) ?_
                              exact ih830 (i731 + 1) (by omega) (by omega) z732 (by have q8 := ti_all z732; omega) _ _ hT hF hS m734 m735 ls (lv_sub hl [0, 1, 2, 3, 4] rfl)
                            · have t857 : x854.toInt < x850.toInt := ti_nle c855 rfl rfl
                              refine lv_iload hx hb dX12_arrears_117 (lv_at hl 0 rfl) ?_
                              refine lv_istore_n (lv' := [(2, .int (nI i731)), (4, .int (nI i731)), (3, .int (nI i589)), (0, .ref o0), (1, .int p0)]) hx hb dX12_arrears_119 rfl hl (by decide) rfl (fun ls hl => ?_)
                              refine lv_iinc (v := nI (i731 + 1)) (lv' := [(4, .int (nI (i731 + 1))), (2, .int (nI i731)), (3, .int (nI i589)), (0, .ref o0), (1, .int p0)]) hx hb dX12_arrears_120 hl (k := 1) rfl (nI_add i731 1) (by decide) rfl (fun ls hl => ?_)
                              refine lv_goto (tgt := 78) hx hb dX12_arrears_123 (by decide) ?_
                              exact ih830 (i731 + 1) (by omega) (by omega) (nI i731) (rg_t (a := ((i731 : Nat) : Int)) (nI_toInt (by omega)) (by omega) (by omega)) _ _ hT hF hS m734 m735 ls (lv_sub hl [0, 1, 2, 3, 4] rfl)
                  exact key830 (60 - 0) 0 (by omega) (Nat.le_refl _) (-1) (rg_t (a := (-1)) (by decide) (by first | decide | omega) (by first | decide | omega)) _ _ hT hF hS m592 m593 ls (lv_sub hl [0, 1, 2, 3, 4] rfl)
            exact key724 (60 - 0) 0 (by omega) (Nat.le_refl _) (-1) (rg_t (a := (-1)) (by decide) (by first | decide | omega) (by first | decide | omega)) _ _ hT hF hS m10 m11 ls (lv_sub hl [0, 1, 2, 3] rfl)
          · have t858 : ((i9 : Nat) : Int) < x6.toInt := ti_nle c587 rfl (nI_toInt (by omega))
            refine lv_aload_n hx hb dX12_arrears_29 rfl (lv_at hl 1 rfl) ?_
            refine tw_get hx hb hts bF_X12 hown hK hT hr_o0 shm_0 rfl 51 (by decide) (ht_at hts 2 rfl) (fun _ h9 => h9) dX12_arrears_30 (fun v9 m859 h9 => ?_)
            obtain ⟨rfl, hg860⟩ := h9 _ rfl
            refine lv_iload_n hx hb dX12_arrears_33 rfl (lv_at hl 0 rfl) ?_
            refine lv_aload_n hx hb dX12_arrears_34 rfl (lv_at hl 1 rfl) ?_
            refine tw_get hx hb hts bF_X12 hown hK hT hr_o0 shm_0 rfl 38 (by decide) (ht_at hts 4 rfl) (fun _ h9 => h9) dX12_arrears_35 (fun v9 m861 h9 => ?_)
            obtain ⟨rfl, hg862⟩ := h9 _ rfl
            refine lv_iload_n hx hb dX12_arrears_38 rfl (lv_at hl 0 rfl) ?_
            refine tw_iald (i := (nI i9)) hx hb hK hT hg862 shm_39 rfl (vp_in_nI (by omega) (by decide)) dX12_arrears_39 (fun v9 m863 h9 => ?_)
            obtain ⟨x864, rfl, gx864, kx864⟩ := h9
            refine lv_if_lt (tgt := 56) hx hb dX12_arrears_40 (by decide) (fun c865 => ?_) (fun c865 => ?_)
            · have t866 : x864.toInt < 0 := ti_lt c865 rfl (by decide)
              refine lv_iconst (v := 0) hx hb dX12_arrears_56 (by decide) ?_
              refine tw_zast (i := (nI i9)) (x := 0) hx hb hK hT hG hS hg860 shm_52 rfl (vp_in_nI (by omega) (by decide)) (gi_z (rg_t (a := 0) (by decide) (by first | decide | omega) (by first | decide | omega)) (by decide) (by decide)) dX12_arrears_57 (fun H locs hT oq m867 oi hS => ?_)
              have hF := hF.ast hg860 skm_52 oq (by decide)
              have m868 := (el_kept (oq _ (gne hr_o0 hg860 (by decide)))).trans m10
              have m869 := (el_kept (oq _ (gne hr_o0 hg860 (by decide)))).trans m11
              refine lv_iinc (v := nI (i9 + 1)) (lv' := [(2, .int (nI (i9 + 1))), (0, .ref o0), (1, .int p0)]) hx hb dX12_arrears_58 hl (k := 0) rfl (nI_add i9 1) (by decide) rfl (fun ls hl => ?_)
              refine lv_goto (tgt := 21) hx hb dX12_arrears_61 (by decide) ?_
              exact ih314 (i9 + 1) (by omega) (by omega) _ _ hT hF hS m868 m869 ls (lv_sub hl [0, 1, 2] rfl)
            · have t871 : 0 ≤ x864.toInt := ti_nlt c865 rfl (by decide)
              refine lv_aload_n hx hb dX12_arrears_43 rfl (lv_at hl 1 rfl) ?_
              refine tw_get hx hb hts bF_X12 hown hK hT hr_o0 shm_0 rfl 40 (by decide) (ht_at hts 3 rfl) (fun _ h9 => h9) dX12_arrears_44 (fun v9 m872 h9 => ?_)
              obtain ⟨rfl, hg873⟩ := h9 _ rfl
              refine lv_iload_n hx hb dX12_arrears_47 rfl (lv_at hl 0 rfl) ?_
              refine tw_iald (i := (nI i9)) hx hb hK hT hg873 shm_41 rfl (vp_in_nI (by omega) (by decide)) dX12_arrears_48 (fun v9 m874 h9 => ?_)
              obtain ⟨x875, rfl, gx875, kx875⟩ := h9
              refine lv_if_le (tgt := 56) hx hb dX12_arrears_49 (by decide) (fun c876 => ?_) (fun c876 => ?_)
              · have t877 : x875.toInt ≤ 0 := ti_le c876 rfl (by decide)
                refine lv_iconst (v := 0) hx hb dX12_arrears_56 (by decide) ?_
                refine tw_zast (i := (nI i9)) (x := 0) hx hb hK hT hG hS hg860 shm_52 rfl (vp_in_nI (by omega) (by decide)) (gi_z (rg_t (a := 0) (by decide) (by first | decide | omega) (by first | decide | omega)) (by decide) (by decide)) dX12_arrears_57 (fun H locs hT oq m878 oi hS => ?_)
                have hF := hF.ast hg860 skm_52 oq (by decide)
                have m879 := (el_kept (oq _ (gne hr_o0 hg860 (by decide)))).trans m10
                have m880 := (el_kept (oq _ (gne hr_o0 hg860 (by decide)))).trans m11
                refine lv_iinc (v := nI (i9 + 1)) (lv' := [(2, .int (nI (i9 + 1))), (0, .ref o0), (1, .int p0)]) hx hb dX12_arrears_58 hl (k := 0) rfl (nI_add i9 1) (by decide) rfl (fun ls hl => ?_)
                refine lv_goto (tgt := 21) hx hb dX12_arrears_61 (by decide) ?_
                exact ih314 (i9 + 1) (by omega) (by omega) _ _ hT hF hS m879 m880 ls (lv_sub hl [0, 1, 2] rfl)
              · have t883 : 0 < x875.toInt := ti_nle c876 rfl (by decide)
                refine lv_iconst (v := 1) hx hb dX12_arrears_52 (by decide) ?_
                refine lv_goto (tgt := 57) hx hb dX12_arrears_53 (by decide) ?_
                refine tw_zast (i := (nI i9)) (x := 1) hx hb hK hT hG hS hg860 shm_52 rfl (vp_in_nI (by omega) (by decide)) (gi_z (rg_t (a := 1) (by decide) (by first | decide | omega) (by first | decide | omega)) (by decide) (by decide)) dX12_arrears_57 (fun H locs hT oq m884 oi hS => ?_)
                have hF := hF.ast hg860 skm_52 oq (by decide)
                have m885 := (el_kept (oq _ (gne hr_o0 hg860 (by decide)))).trans m10
                have m886 := (el_kept (oq _ (gne hr_o0 hg860 (by decide)))).trans m11
                refine lv_iinc (v := nI (i9 + 1)) (lv' := [(2, .int (nI (i9 + 1))), (0, .ref o0), (1, .int p0)]) hx hb dX12_arrears_58 hl (k := 0) rfl (nI_add i9 1) (by decide) rfl (fun ls hl => ?_)
                refine lv_goto (tgt := 21) hx hb dX12_arrears_61 (by decide) ?_
                exact ih314 (i9 + 1) (by omega) (by omega) _ _ hT hF hS m885 m886 ls (lv_sub hl [0, 1, 2] rfl)
      exact key314 (60 - 0) 0 (by omega) (Nat.le_refl _) _ _ hT hF hS m1 m5 ls (lv_sub hl [0, 1, 2] rfl)
    · have t889 : x6.toInt ≤ p0.toInt := ti_nlt c7 rfl rfl
      refine lv_iconst (v := (-1)) hx hb dX12_arrears_17 (by decide) ?_
      exact W.iret (v := (-1)) hx hb hr (fun t ht hW => ⟨⟨(-1), (), rfl, (by exact (rg_t (a := (-1)) (by decide) (by first | decide | omega) (by first | decide | omega))), by (try dsimp only); rw [ht]; exact ⟨hT, hF⟩⟩, hS.F ht⟩) hS.2.2 dX12_arrears_18
def w_s_seep : List Cond := .code yX12_seep cX12_seep 3 (some .int) :: (HAppend.hAppend (α := List Cond) (β := List Cond) (γ := List Cond) [.fieldLink RX12 194 "SeaLandModel" "thrown" "I", .code yX12_noWork cX12_noWork 2 (some .boolean), .fieldLink RX12 9 "SeaLandModel" "world" "[I", .code yX12_in cX12_in 3 (some .boolean), .methodLink RX12 197 yX12_in, .static yX12_in, .initialized RX12, .methodLink RX12 269 yX12_noWork, .instanceMethod yX12_noWork, .selects RX12 yX12_noWork yX12_noWork, .code yX12_throwsIf cX12_throwsIf 3 (some .boolean), .methodLink RX12 224 yX12_throwsIf, .instanceMethod yX12_throwsIf, .selects RX12 yX12_throwsIf yX12_throwsIf, .code yX12_isDike cX12_isDike 2 (some .boolean), .code yX12_of cX12_of 3 (some .int), .code yX12_at cX12_at 2 (some .int), .methodLink RX12 214 yX12_at, .static yX12_at, .methodLink RX12 217 yX12_of, .instanceMethod yX12_of, .selects RX12 yX12_of yX12_of, .methodLink RX12 272 yX12_isDike, .instanceMethod yX12_isDike, .selects RX12 yX12_isDike yX12_isDike, .code yX12_seepOf cX12_seepOf 8 (some .int), .code yX12_level cX12_level 2 (some .int), .code yX12_isLand cX12_isLand 2 (some .boolean), .methodLink RX12 235 yX12_isLand, .instanceMethod yX12_isLand, .selects RX12 yX12_isLand yX12_isLand, .code yX12_hour cX12_hour 1 (some .int), .methodLink RX12 228 yX12_hour, .instanceMethod yX12_hour, .selects RX12 yX12_hour yX12_hour, .code yX12_outside cX12_outside 4 (some .int), .methodLink RX12 247 yX12_outside, .instanceMethod yX12_outside, .selects RX12 yX12_outside yX12_outside, .methodLink RX12 285 yX12_level, .instanceMethod yX12_level, .selects RX12 yX12_level yX12_level, .methodLink RX12 211 Lib.Math.max.name, .static Lib.Math.max.name, .initialized "java/lang/Math", .code Lib.Math.max.name Lib.Math.max.code 2 (some .int), .methodLink RX12 288 yX12_seepOf, .instanceMethod yX12_seepOf, .selects RX12 yX12_seepOf yX12_seepOf] bs)
set_option maxHeartbeats 4000000 in
set_option maxRecDepth 100000 in
theorem s_seep (l : Launch) (dC : Nat → ClassId) (dI : Nat → Nat → Nat) (kA : Nat → ClassId) (adK adV : Nat → Nat) (G : gT) (H0 : Heap) (q : Nat → Nat) (wZ wN : Nat → Int) (wH wB wC : Int) (wL wK : Nat → Prop) (wU wV : Nat → Nat) (PI : Nat → Int → Prop) (im : Int) (PM PT : Nat → Int → Prop) (lS lB lE : Nat → Nat → Int → Prop) (lN : Nat → Int) (o0 : Nat) (p0 : Int32) (p1 : Int32)  (hT : gH (dC, dI) kA (SHm q (wP wZ wN wH wB wC wL wK wU wV) PI im PM PT lS lB lE lN) G H0) (hr_o0 : G o0 = some 0) (hgz : ∀ i, 0 ≤ wZ i) (hgn : ∀ i, 6500000 ≤ wN i ∧ wN i ≤ 20200000) (hgh : 0 ≤ wH ∧ wH ≤ 40000) (hgb : 0 ≤ wB ∧ wB ≤ 3850000) (hgc : 0 ≤ wC ∧ wC ≤ 30) (hgi : 0 ≤ im ∧ im ≤ 1) (hgu : ∀ a t, G a = some (t + 1) → a = q t) : Met l yX12_seep w_s_seep ({ frames := 4, cells := 0, slots := 0, locals := 93 }) (va_Pc [.ref o0, .int p0, .int p1] (fun U => U.heap = H0 ∧ va_K (dC, dI) vwCl (tyl kA) U ∧ EVS adK adV (gA G H0.size) U U.heap)) (va_Qi (fun (r : Int32) (u : Unit) => (-21474836 ≤ r.toInt ∧ r.toInt ≤ 21474836)) (fun (_ : Unit) (t : State) => gH (dC, dI) kA (SHm q (wP wZ wN wH wB wC wL wK wU wV) PI im PM PT lS lB lE lN) G t.heap ∧ gF (dC, dI) SKm G ([(0, 0)] : List (Nat × Nat)) H0 t.heap) (gA G H0.size)) 0 0 (gA G H0.size) := by
  refine Met.ofW (cc := cX12_seep) (maxL := 3) (ret := (some .int)) (by decide) rfl ?_
  intro p e s m args below meth c s₁ B hml hv
  obtain ⟨rfl, hH0, hK, hE⟩ := hv
  have hx := B.exec
  have hb := B.bytes
  have hr := B.returns
  have hts := atoms_spec (ws := w_s_seep) B.pre
  have hown : s.vm.findClass RX12 = some m.cls := findClass_of_methodNamed B.named
  have hlocks := B.notSynchronized
  subst hH0
  generalize hAe : gA G s.heap.size = A at hE ⊢
  have hA : ∀ q : Nat, s.heap.size ≤ q → A q := fun q h => by rw [← hAe]; exact Or.inr h
  have hG := gA_of hAe
  have hS : va_S A s.heap s.heap [] := va_S.rf
  have hF : gF (dC, dI) SKm G ([(0, 0)] : List (Nat × Nat)) s.heap s.heap := gF.rf
  have hl := lv_entry ([.ref o0, .int p0, .int p1]) (n := 3) (Nat.le_of_ble_eq_true rfl)
  rw [lg_entry_eq]
  generalize (lg_sl ([.ref o0, .int p0, .int p1]) ++ List.replicate (3 - (lg_sl ([.ref o0, .int p0, .int p1])).length) Slot.unset).toArray = ls at hl ⊢
  have hl : lv_has ls 3 [(0, .ref o0), (1, .int p0), (2, .int p1)] := hl
  refine lv_aload_n hx hb dX12_seep_0 rfl (lv_at hl 0 rfl) ?_
  refine lv_iconst (v := 0) hx hb dX12_seep_1 (by decide) ?_
  refine tw_put (v := .int 0) (ty := .int) hx hb hts bF_X12 tyX12 tyX12_ok nmX12 hown hK hT hG hS hr_o0 shm_0 rfl 0 (by decide) (ht_at hts 0 rfl) (fun _ h9 => h9) rfl (by decide +kernel) rfl rfl (gl_at rfl (gi_all _)) dX12_seep_2 (fun H locs hT oq m1 oj hS => ?_)
  have hF := hF.put hr_o0 skm_0 oq oj (by decide)
  refine lv_aload_n hx hb dX12_seep_5 rfl (lv_at hl 0 rfl) ?_
  refine lv_aload_n hx hb dX12_seep_6 rfl (lv_at hl 0 rfl) ?_
  refine lv_iload_n hx hb dX12_seep_7 rfl (lv_at hl 1 rfl) ?_
  have hFc := gA_free hG hA hS
  refine va_calli (va_runV (As := [.int p0]) (rest := [.ref o0]) ⟨hx, hb, hml, hown, hts⟩ (s_noWork l dC dI kA adK adV G H q wZ wN wH wB wC wL wK wU wV PI im PM PT lS lB lE lN o0 p0 hT hr_o0 hgz hgn hgh hgb hgc hgi hgu) (cwV 1 hts (goodIn_app (goodIn_r _ [8, 9, 10, 7] rfl (by decide +kernel)) (goodIn_ca (goodIn_r _ [2, 3, 4, 5, 6, 7] rfl (by decide +kernel)) (bs_in _ _))) rfl rfl rfl (by decide +kernel) ⟨(Nat.le_of_ble_eq_true rfl), (Nat.le_of_ble_eq_true rfl)⟩) ⟨fun a U g mk q => by obtain ⟨q0, q1, qK, qE⟩ := q; exact ⟨q0, q1, va_K.moved (u := U) (U := U.calling g mk a) (Vm.Alike.refl U.vm) qK, EVS.blind g mk a qE⟩, gH_rc hK hT hr_o0 shm_0 rfl, fun U hU hW => ⟨rfl, hU, va_K.moved hW.alike hK, hE.call hS hFc hU hW⟩⟩ rfl rfl hl.1 rfl (lv_room (Nat.le_of_ble_eq_true rfl)) dX12_seep_8 ⟨(Nat.le_of_ble_eq_true rfl), (Nat.le_of_ble_eq_true rfl)⟩) hS (fun q _ h => hFc q h) hFc (fun r2 u t H locs ht hvm hw3 hB _ _ hS => ?_)
  obtain ⟨hT, hF1⟩ := hB
  rw [ht] at hT hF1
  have hF := hF.more hF1 (by decide)
  try dsimp only at hw3
  obtain ⟨h5, hi6⟩ := hw3
  refine lv_iconst (v := 1) hx hb dX12_seep_11 (by decide) ?_
  have hFc := gA_free hG hA hS
  refine va_calli (va_runV (As := [.int r2, .int 1]) (rest := []) ⟨hx, hb, hml, hown, hts⟩ (s_throwsIf l dC dI kA adK adV G H q wZ wN wH wB wC wL wK wU wV PI im PM PT lS lB lE lN o0 r2 1 hT hr_o0 (by have q8 := ti_all r2; omega) hgz hgn hgh hgb hgc hgi hgu) (cwV 2 hts (goodIn_app (goodIn_r _ [12, 13, 14, 7] rfl (by decide +kernel)) (goodIn_ca (goodIn_r _ [11, 1] rfl (by decide +kernel)) (bs_in _ _))) rfl rfl rfl (by decide +kernel) ⟨(Nat.le_of_ble_eq_true rfl), (Nat.le_of_ble_eq_true rfl)⟩) ⟨fun a U g mk q => by obtain ⟨q0, q1, qK, qE⟩ := q; exact ⟨q0, q1, va_K.moved (u := U) (U := U.calling g mk a) (Vm.Alike.refl U.vm) qK, EVS.blind g mk a qE⟩, gH_rc hK hT hr_o0 shm_0 rfl, fun U hU hW => ⟨rfl, hU, va_K.moved hW.alike hK, hE.call hS hFc hU hW⟩⟩ rfl rfl hl.1 rfl (lv_room (Nat.le_of_ble_eq_true rfl)) dX12_seep_12 ⟨(Nat.le_of_ble_eq_true rfl), (Nat.le_of_ble_eq_true rfl)⟩) hS (fun q _ h => hFc q h) hFc (fun r7 u t H locs ht hvm hw8 hB _ _ hS => ?_)
  obtain ⟨hT, hF1⟩ := hB
  rw [ht] at hT hF1
  have hF := hF.more hF1 (by decide)
  try dsimp only at hw8
  obtain ⟨h10, hd11⟩ := hw8
  obtain rfl : r2 = r7 := hd11.symm
  refine lv_if_ne (tgt := 65) hx hb dX12_seep_15 (by decide) (fun c12 => ?_) (fun c12 => ?_)
  · have t13 : r2.toInt ≠ 0 := ti_ne c12 rfl (by decide)
    refine lv_iconst (v := 0) hx hb dX12_seep_65 (by decide) ?_
    exact W.iret (v := 0) hx hb hr (fun t ht hW => ⟨⟨0, (), rfl, (by exact (rg_t (a := 0) (by decide) (by first | decide | omega) (by first | decide | omega))), by (try dsimp only); rw [ht]; exact ⟨hT, hF⟩⟩, hS.F ht⟩) hS.2.2 dX12_seep_66
  · have t14 : r2.toInt = 0 := ti_eq c12 rfl (by decide)
    have t15 : 0 ≤ p0.toInt ∧ p0.toInt ≤ 29 ∧ p0.toInt < wC := hi6 c12
    refine lv_aload_n hx hb dX12_seep_18 rfl (lv_at hl 0 rfl) ?_
    refine lv_iload_n hx hb dX12_seep_19 rfl (lv_at hl 2 rfl) ?_
    refine lv_sipush (v := (-1000)) hx hb dX12_seep_20 (by decide) ?_
    refine lv_sipush (v := 1000) hx hb dX12_seep_23 (by decide) ?_
    have hFc := gA_free hG hA hS
    refine va_calli (va_runS (As := [.int p1, .int (-1000), .int 1000]) (rest := [.ref o0]) ⟨hx, hb, hml, hown, hts⟩ (s_in l dC dI kA adK adV G H q wZ wN wH wB wC wL wK wU wV PI im PM PT lS lB lE lN p1 (-1000) 1000 hT hgz hgn hgh hgb hgc hgi hgu) (va_cwS 3 hts (goodIn_app (goodIn_r _ [5, 6, 7] rfl (by decide +kernel)) (goodIn_ca (goodIn_r _ [4] rfl (by decide +kernel)) (bs_in _ _))) rfl rfl rfl (by decide +kernel) ⟨(Nat.le_of_ble_eq_true rfl), (Nat.le_of_ble_eq_true rfl)⟩) ⟨fun a U g mk q => by obtain ⟨q0, q1, qK, qE⟩ := q; exact ⟨q0, q1, va_K.moved (u := U) (U := U.calling g mk a) (Vm.Alike.refl U.vm) qK, EVS.blind g mk a qE⟩, fun U hU hW => ⟨rfl, hU, va_K.moved hW.alike hK, hE.call hS hFc hU hW⟩⟩ rfl rfl hl.1 rfl (lv_room (Nat.le_of_ble_eq_true rfl)) dX12_seep_26 ⟨(Nat.le_of_ble_eq_true rfl), (Nat.le_of_ble_eq_true rfl)⟩) hS (fun q _ h => hFc q h) hFc (fun r16 u t H locs ht hvm hw17 hB _ _ hS => ?_)
    obtain ⟨hT, hF1⟩ := hB
    rw [ht] at hT hF1
    have hF := hF.more hF1 (by decide)
    try dsimp only at hw17
    obtain ⟨h18, hi19, hi20⟩ := hw17
    refine lv_if_ne (tgt := 36) hx hb dX12_seep_29 (by decide) (fun c21 => ?_) (fun c21 => ?_)
    · have t22 : r16.toInt ≠ 0 := ti_ne c21 rfl (by decide)
      have t23 : (-1000 : Int32).toInt = (-1000) := by decide
      have t24 : (1000 : Int32).toInt = 1000 := by decide
      have t25 : (-1000 : Int32).toInt ≤ p1.toInt ∧ p1.toInt ≤ (1000 : Int32).toInt := hi19 ((bit_of ⟨by omega, by omega⟩).resolve_left c21)
      refine lv_iconst (v := 0) hx hb dX12_seep_36 (by decide) ?_
      refine lv_iconst (v := 2) hx hb dX12_seep_37 (by decide) ?_
      have hFc := gA_free hG hA hS
      refine va_calli (va_runV (As := [.int 0, .int 2]) (rest := []) ⟨hx, hb, hml, hown, hts⟩ (s_throwsIf l dC dI kA adK adV G H q wZ wN wH wB wC wL wK wU wV PI im PM PT lS lB lE lN o0 0 2 hT hr_o0 (rg_t (a := 0) (by decide) (by first | decide | omega) (by first | decide | omega)) hgz hgn hgh hgb hgc hgi hgu) (cwV 2 hts (goodIn_app (goodIn_r _ [12, 13, 14, 7] rfl (by decide +kernel)) (goodIn_ca (goodIn_r _ [11, 1] rfl (by decide +kernel)) (bs_in _ _))) rfl rfl rfl (by decide +kernel) ⟨(Nat.le_of_ble_eq_true rfl), (Nat.le_of_ble_eq_true rfl)⟩) ⟨fun a U g mk q => by obtain ⟨q0, q1, qK, qE⟩ := q; exact ⟨q0, q1, va_K.moved (u := U) (U := U.calling g mk a) (Vm.Alike.refl U.vm) qK, EVS.blind g mk a qE⟩, gH_rc hK hT hr_o0 shm_0 rfl, fun U hU hW => ⟨rfl, hU, va_K.moved hW.alike hK, hE.call hS hFc hU hW⟩⟩ rfl rfl hl.1 rfl (lv_room (Nat.le_of_ble_eq_true rfl)) dX12_seep_38 ⟨(Nat.le_of_ble_eq_true rfl), (Nat.le_of_ble_eq_true rfl)⟩) hS (fun q _ h => hFc q h) hFc (fun r26 u t H locs ht hvm hw27 hB _ _ hS => ?_)
      obtain ⟨hT, hF1⟩ := hB
      rw [ht] at hT hF1
      have hF := hF.more hF1 (by decide)
      try dsimp only at hw27
      obtain ⟨h28, hd29⟩ := hw27
      obtain rfl : (0 : Int32) = r26 := hd29.symm
      refine lv_if_ne (tgt := 65) hx hb dX12_seep_41 (by decide) (fun c30 => absurd c30 (by decide)) (fun c30 => ?_)
      refine lv_aload_n hx hb dX12_seep_44 rfl (lv_at hl 0 rfl) ?_
      refine lv_aload_n hx hb dX12_seep_45 rfl (lv_at hl 0 rfl) ?_
      refine lv_iload_n hx hb dX12_seep_46 rfl (lv_at hl 1 rfl) ?_
      have hFc := gA_free hG hA hS
      refine va_calli (va_runV (As := [.int p0]) (rest := [.ref o0]) ⟨hx, hb, hml, hown, hts⟩ (s_isDike l dC dI kA adK adV G H q wZ wN wH wB wC wL wK wU wV PI im PM PT lS lB lE lN o0 p0 hT hr_o0 (by have q8 := ti_all p0; omega) hgz hgn hgh hgb hgc hgi hgu) (cwV 1 hts (goodIn_app (goodIn_r _ [23, 24, 25, 7] rfl (by decide +kernel)) (goodIn_ca (goodIn_r _ [15, 16, 3, 17, 18, 19, 7, 20, 21, 22] rfl (by decide +kernel)) (bs_in _ _))) rfl rfl rfl (by decide +kernel) ⟨(Nat.le_of_ble_eq_true rfl), (Nat.le_of_ble_eq_true rfl)⟩) ⟨fun a U g mk q => by obtain ⟨q0, q1, qK, qE⟩ := q; exact ⟨q0, q1, va_K.moved (u := U) (U := U.calling g mk a) (Vm.Alike.refl U.vm) qK, EVS.blind g mk a qE⟩, gH_rc hK hT hr_o0 shm_0 rfl, fun U hU hW => ⟨rfl, hU, va_K.moved hW.alike hK, hE.call hS hFc hU hW⟩⟩ rfl rfl hl.1 rfl (lv_room (Nat.le_of_ble_eq_true rfl)) dX12_seep_47 ⟨(Nat.le_of_ble_eq_true rfl), (Nat.le_of_ble_eq_true rfl)⟩) hS (fun q _ h => hFc q h) hFc (fun r31 u t H locs ht hvm hw32 hB _ _ hS => ?_)
      obtain ⟨hT, hF1⟩ := hB
      rw [ht] at hT hF1
      have hF := hF.more hF1 (by decide)
      try dsimp only at hw32
      obtain ⟨h33, hi34⟩ := hw32
      refine lv_if_ne (tgt := 57) hx hb dX12_seep_50 (by decide) (fun c35 => ?_) (fun c35 => ?_)
      · have t36 : r31.toInt ≠ 0 := ti_ne c35 rfl (by decide)
        have t37 : p0.toInt < wC → wK p0.toNatClampNeg := hi34 ((bit_of ⟨by omega, by omega⟩).resolve_left c35)
        refine lv_iconst (v := 0) hx hb dX12_seep_57 (by decide) ?_
        refine lv_iconst (v := 3) hx hb dX12_seep_58 (by decide) ?_
        have hFc := gA_free hG hA hS
        refine va_calli (va_runV (As := [.int 0, .int 3]) (rest := []) ⟨hx, hb, hml, hown, hts⟩ (s_throwsIf l dC dI kA adK adV G H q wZ wN wH wB wC wL wK wU wV PI im PM PT lS lB lE lN o0 0 3 hT hr_o0 (rg_t (a := 0) (by decide) (by first | decide | omega) (by first | decide | omega)) hgz hgn hgh hgb hgc hgi hgu) (cwV 2 hts (goodIn_app (goodIn_r _ [12, 13, 14, 7] rfl (by decide +kernel)) (goodIn_ca (goodIn_r _ [11, 1] rfl (by decide +kernel)) (bs_in _ _))) rfl rfl rfl (by decide +kernel) ⟨(Nat.le_of_ble_eq_true rfl), (Nat.le_of_ble_eq_true rfl)⟩) ⟨fun a U g mk q => by obtain ⟨q0, q1, qK, qE⟩ := q; exact ⟨q0, q1, va_K.moved (u := U) (U := U.calling g mk a) (Vm.Alike.refl U.vm) qK, EVS.blind g mk a qE⟩, gH_rc hK hT hr_o0 shm_0 rfl, fun U hU hW => ⟨rfl, hU, va_K.moved hW.alike hK, hE.call hS hFc hU hW⟩⟩ rfl rfl hl.1 rfl (lv_room (Nat.le_of_ble_eq_true rfl)) dX12_seep_59 ⟨(Nat.le_of_ble_eq_true rfl), (Nat.le_of_ble_eq_true rfl)⟩) hS (fun q _ h => hFc q h) hFc (fun r38 u t H locs ht hvm hw39 hB _ _ hS => ?_)
        obtain ⟨hT, hF1⟩ := hB
        rw [ht] at hT hF1
        have hF := hF.more hF1 (by decide)
        try dsimp only at hw39
        obtain ⟨h40, hd41⟩ := hw39
        obtain rfl : (0 : Int32) = r38 := hd41.symm
        refine lv_if_eq (tgt := 67) hx hb dX12_seep_62 (by decide) (fun c42 => ?_) (fun c42 => absurd c42 (by decide))
        refine lv_aload_n hx hb dX12_seep_67 rfl (lv_at hl 0 rfl) ?_
        refine lv_iload_n hx hb dX12_seep_68 rfl (lv_at hl 1 rfl) ?_
        refine lv_iconst (v := 0) hx hb dX12_seep_69 (by decide) ?_
        have hFc := gA_free hG hA hS
        refine va_calli (va_runV (As := [.int p0, .int 0]) (rest := []) ⟨hx, hb, hml, hown, hts⟩ (s_of0 l dC dI kA adK adV G H q wZ wN wH wB wC wL wK wU wV PI im PM PT lS lB lE lN o0 p0 hT hr_o0 (by have q8 := ti_all p0; omega) hgz hgn hgh hgb hgc hgi hgu) (cwV 2 hts (goodIn_app (goodIn_r _ [20, 21, 22, 7] rfl (by decide +kernel)) (goodIn_ca (goodIn_r _ [16, 3, 17, 18, 19, 7] rfl (by decide +kernel)) (bs_in _ _))) rfl rfl rfl (by decide +kernel) ⟨(Nat.le_of_ble_eq_true rfl), (Nat.le_of_ble_eq_true rfl)⟩) ⟨fun a U g mk q => by obtain ⟨q0, q1, qK, qE⟩ := q; exact ⟨q0, q1, va_K.moved (u := U) (U := U.calling g mk a) (Vm.Alike.refl U.vm) qK, EVS.blind g mk a qE⟩, gH_rc hK hT hr_o0 shm_0 rfl, fun U hU hW => ⟨rfl, hU, va_K.moved hW.alike hK, hE.call hS hFc hU hW⟩⟩ rfl rfl hl.1 rfl (lv_room (Nat.le_of_ble_eq_true rfl)) dX12_seep_70 ⟨(Nat.le_of_ble_eq_true rfl), (Nat.le_of_ble_eq_true rfl)⟩) hS (fun q _ h => hFc q h) hFc (fun r43 u t H locs ht hvm hw44 hB _ _ hS => ?_)
        obtain ⟨hT, hF1⟩ := hB
        rw [ht] at hT hF1
        have hF := hF.more hF1 (by decide)
        try dsimp only at hw44
        have ⟨ix45, hix45, m46⟩ := hw44
        have hg47 : G (q 1) = some 2 := gx_of hT hr_o0 shm_0 (k := 1) (by decide) rfl
        refine lv_iconst (v := 1) hx hb dX12_seep_73 (by decide) ?_
        refine lv_icmp_ne (tgt := 81) hx hb dX12_seep_74 (by decide) (fun c49 => ?_) (fun c49 => ?_)
        · have t50 : r43.toInt ≠ 1 := ti_ne c49 rfl (by decide)
          refine lv_aload_n hx hb dX12_seep_81 rfl (lv_at hl 0 rfl) ?_
          refine lv_iload_n hx hb dX12_seep_82 rfl (lv_at hl 1 rfl) ?_
          refine lv_iload_n hx hb dX12_seep_83 rfl (lv_at hl 2 rfl) ?_
          have hFc := gA_free hG hA hS
          refine va_calli (va_runV (As := [.int p0, .int p1]) (rest := []) ⟨hx, hb, hml, hown, hts⟩ (s_seepOf l dC dI kA adK adV G H q wZ wN wH wB wC wL wK wU wV PI im PM PT lS lB lE lN o0 p0 p1 hT hr_o0 (by have q8 := ti_all p0; omega) hgz hgn hgh hgb hgc hgi hgu) (cwV 2 hts (goodIn_app (goodIn_r _ [47, 48, 49, 7] rfl (by decide +kernel)) (goodIn_ca (goodIn_r _ [26, 16, 3, 17, 18, 19, 7, 20, 21, 22, 27, 28, 29, 30, 31, 32, 33, 34, 35, 36, 4, 5, 6, 37, 38, 39, 40, 41, 42, 43, 44, 45, 46] rfl (by decide +kernel)) (bs_in _ _))) rfl rfl rfl (by decide +kernel) ⟨(Nat.le_of_ble_eq_true rfl), (Nat.le_of_ble_eq_true rfl)⟩) ⟨fun a U g mk q => by obtain ⟨q0, q1, qK, qE⟩ := q; exact ⟨q0, q1, va_K.moved (u := U) (U := U.calling g mk a) (Vm.Alike.refl U.vm) qK, EVS.blind g mk a qE⟩, gH_rc hK hT hr_o0 shm_0 rfl, fun U hU hW => ⟨rfl, hU, va_K.moved hW.alike hK, hE.call hS hFc hU hW⟩⟩ rfl rfl hl.1 rfl (lv_room (Nat.le_of_ble_eq_true rfl)) dX12_seep_84 ⟨(Nat.le_of_ble_eq_true rfl), (Nat.le_of_ble_eq_true rfl)⟩) hS (fun q _ h => hFc q h) hFc (fun r51 u t H locs ht hvm hw52 hB _ _ hS => ?_)
          obtain ⟨hT, hF1⟩ := hB
          rw [ht] at hT hF1
          have hF := hF.more hF1 (by decide)
          try dsimp only at hw52
          have h54 := hw52
          exact W.iret (v := r51) hx hb hr (fun t ht hW => ⟨⟨r51, (), rfl, (by exact (by have q8 := ti_all r51; omega)), by (try dsimp only); rw [ht]; exact ⟨hT, hF⟩⟩, hS.F ht⟩) hS.2.2 dX12_seep_87
        · have t55 : r43.toInt = 1 := ti_eq c49 rfl (by decide)
          refine lv_iconst (v := 0) hx hb dX12_seep_77 (by decide) ?_
          refine lv_goto (tgt := 87) hx hb dX12_seep_78 (by decide) ?_
          exact W.iret (v := 0) hx hb hr (fun t ht hW => ⟨⟨0, (), rfl, (by exact (rg_t (a := 0) (by decide) (by first | decide | omega) (by first | decide | omega))), by (try dsimp only); rw [ht]; exact ⟨hT, hF⟩⟩, hS.F ht⟩) hS.2.2 dX12_seep_87
      · have t56 : r31.toInt = 0 := ti_eq c35 rfl (by decide)
        refine lv_iconst (v := 1) hx hb dX12_seep_53 (by decide) ?_
        refine lv_goto (tgt := 58) hx hb dX12_seep_54 (by decide) ?_
        refine lv_iconst (v := 3) hx hb dX12_seep_58 (by decide) ?_
        have hFc := gA_free hG hA hS
        refine va_calli (va_runV (As := [.int 1, .int 3]) (rest := []) ⟨hx, hb, hml, hown, hts⟩ (s_throwsIf l dC dI kA adK adV G H q wZ wN wH wB wC wL wK wU wV PI im PM PT lS lB lE lN o0 1 3 hT hr_o0 (rg_t (a := 1) (by decide) (by first | decide | omega) (by first | decide | omega)) hgz hgn hgh hgb hgc hgi hgu) (cwV 2 hts (goodIn_app (goodIn_r _ [12, 13, 14, 7] rfl (by decide +kernel)) (goodIn_ca (goodIn_r _ [11, 1] rfl (by decide +kernel)) (bs_in _ _))) rfl rfl rfl (by decide +kernel) ⟨(Nat.le_of_ble_eq_true rfl), (Nat.le_of_ble_eq_true rfl)⟩) ⟨fun a U g mk q => by obtain ⟨q0, q1, qK, qE⟩ := q; exact ⟨q0, q1, va_K.moved (u := U) (U := U.calling g mk a) (Vm.Alike.refl U.vm) qK, EVS.blind g mk a qE⟩, gH_rc hK hT hr_o0 shm_0 rfl, fun U hU hW => ⟨rfl, hU, va_K.moved hW.alike hK, hE.call hS hFc hU hW⟩⟩ rfl rfl hl.1 rfl (lv_room (Nat.le_of_ble_eq_true rfl)) dX12_seep_59 ⟨(Nat.le_of_ble_eq_true rfl), (Nat.le_of_ble_eq_true rfl)⟩) hS (fun q _ h => hFc q h) hFc (fun r57 u t H locs ht hvm hw58 hB _ _ hS => ?_)
        obtain ⟨hT, hF1⟩ := hB
        rw [ht] at hT hF1
        have hF := hF.more hF1 (by decide)
        try dsimp only at hw58
        obtain ⟨h59, hd60⟩ := hw58
        obtain rfl : (1 : Int32) = r57 := hd60.symm
        refine lv_if_eq (tgt := 67) hx hb dX12_seep_62 (by decide) (fun c61 => absurd c61 (by decide)) (fun c61 => ?_)
        refine lv_iconst (v := 0) hx hb dX12_seep_65 (by decide) ?_
        exact W.iret (v := 0) hx hb hr (fun t ht hW => ⟨⟨0, (), rfl, (by exact (rg_t (a := 0) (by decide) (by first | decide | omega) (by first | decide | omega))), by (try dsimp only); rw [ht]; exact ⟨hT, hF⟩⟩, hS.F ht⟩) hS.2.2 dX12_seep_66
    · have t62 : r16.toInt = 0 := ti_eq c21 rfl (by decide)
      have t63 : (-1000 : Int32).toInt = (-1000) := by decide
      have t64 : (1000 : Int32).toInt = 1000 := by decide
      have t65 : p1.toInt < (-1000 : Int32).toInt ∨ (1000 : Int32).toInt < p1.toInt := hi20 c21
      refine lv_iconst (v := 1) hx hb dX12_seep_32 (by decide) ?_
      refine lv_goto (tgt := 37) hx hb dX12_seep_33 (by decide) ?_
      refine lv_iconst (v := 2) hx hb dX12_seep_37 (by decide) ?_
      have hFc := gA_free hG hA hS
      refine va_calli (va_runV (As := [.int 1, .int 2]) (rest := []) ⟨hx, hb, hml, hown, hts⟩ (s_throwsIf l dC dI kA adK adV G H q wZ wN wH wB wC wL wK wU wV PI im PM PT lS lB lE lN o0 1 2 hT hr_o0 (rg_t (a := 1) (by decide) (by first | decide | omega) (by first | decide | omega)) hgz hgn hgh hgb hgc hgi hgu) (cwV 2 hts (goodIn_app (goodIn_r _ [12, 13, 14, 7] rfl (by decide +kernel)) (goodIn_ca (goodIn_r _ [11, 1] rfl (by decide +kernel)) (bs_in _ _))) rfl rfl rfl (by decide +kernel) ⟨(Nat.le_of_ble_eq_true rfl), (Nat.le_of_ble_eq_true rfl)⟩) ⟨fun a U g mk q => by obtain ⟨q0, q1, qK, qE⟩ := q; exact ⟨q0, q1, va_K.moved (u := U) (U := U.calling g mk a) (Vm.Alike.refl U.vm) qK, EVS.blind g mk a qE⟩, gH_rc hK hT hr_o0 shm_0 rfl, fun U hU hW => ⟨rfl, hU, va_K.moved hW.alike hK, hE.call hS hFc hU hW⟩⟩ rfl rfl hl.1 rfl (lv_room (Nat.le_of_ble_eq_true rfl)) dX12_seep_38 ⟨(Nat.le_of_ble_eq_true rfl), (Nat.le_of_ble_eq_true rfl)⟩) hS (fun q _ h => hFc q h) hFc (fun r66 u t H locs ht hvm hw67 hB _ _ hS => ?_)
      obtain ⟨hT, hF1⟩ := hB
      rw [ht] at hT hF1
      have hF := hF.more hF1 (by decide)
      try dsimp only at hw67
      obtain ⟨h68, hd69⟩ := hw67
      obtain rfl : (1 : Int32) = r66 := hd69.symm
      refine lv_if_ne (tgt := 65) hx hb dX12_seep_41 (by decide) (fun c70 => ?_) (fun c70 => absurd c70 (by decide))
      refine lv_iconst (v := 0) hx hb dX12_seep_65 (by decide) ?_
      exact W.iret (v := 0) hx hb hr (fun t ht hW => ⟨⟨0, (), rfl, (by exact (rg_t (a := 0) (by decide) (by first | decide | omega) (by first | decide | omega))), by (try dsimp only); rw [ht]; exact ⟨hT, hF⟩⟩, hS.F ht⟩) hS.2.2 dX12_seep_66
