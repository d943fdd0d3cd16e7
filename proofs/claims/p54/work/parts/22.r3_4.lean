def w_s_storm : List Cond := .code yX12_storm cX12_storm 5 (some .int) :: (HAppend.hAppend (α := List Cond) (β := List Cond) (γ := List Cond) [.fieldLink RX12 194 "SeaLandModel" "thrown" "I", .code yX12_throwsIf cX12_throwsIf 3 (some .boolean), .methodLink RX12 224 yX12_throwsIf, .instanceMethod yX12_throwsIf, .selects RX12 yX12_throwsIf yX12_throwsIf, .initialized RX12, .constant RX12 242 40000, .code yX12_in cX12_in 3 (some .boolean), .methodLink RX12 197 yX12_in, .static yX12_in, .fieldLink RX12 9 "SeaLandModel" "world" "[I", .fieldLink RX12 238 "SeaLandModel" "rows" "I"] bs)
set_option maxHeartbeats 4000000 in
set_option maxRecDepth 100000 in
theorem s_storm (l : Launch) (dC : Nat → ClassId) (dI : Nat → Nat → Nat) (kA : Nat → ClassId) (adK adV : Nat → Nat) (G : gT) (H0 : Heap) (q : Nat → Nat) (wZ wN : Nat → Int) (wH wB wC : Int) (wL wK : Nat → Prop) (wU wV : Nat → Nat) (PI : Nat → Int → Prop) (im : Int) (PM PT : Nat → Int → Prop) (lS lB lE : Nat → Nat → Int → Prop) (lN : Nat → Int) (o0 : Nat) (p0 : Int32) (p1 : Int32) (p2 : Int32)  (hT : gH (dC, dI) kA (SHm q (wP wZ wN wH wB wC wL wK wU wV) PI im PM PT lS lB lE lN) G H0) (hr_o0 : G o0 = some 0) (hgz : ∀ i, 0 ≤ wZ i) (hgn : ∀ i, 6500000 ≤ wN i ∧ wN i ≤ 20200000) (hgh : 0 ≤ wH ∧ wH ≤ 40000) (hgb : 0 ≤ wB ∧ wB ≤ 3850000) (hgc : 0 ≤ wC ∧ wC ≤ 30) (hgi : 0 ≤ im ∧ im ≤ 1) (hgu : ∀ a t, G a = some (t + 1) → a = q t) : Met l yX12_storm w_s_storm ({ frames := 1, cells := 0, slots := 0, locals := 22 }) (va_Pc [.ref o0, .int p0, .int p1, .int p2] (fun U => U.heap = H0 ∧ va_K (dC, dI) vwCl (tyl kA) U ∧ EVS adK adV (gA G H0.size) U U.heap)) (va_Qi (fun (r : Int32) (u : Unit) => (-1 ≤ r.toInt ∧ r.toInt ≤ 20)) (fun (_ : Unit) (t : State) => gH (dC, dI) kA (SHm q (wP wZ wN wH wB wC wL wK wU wV) PI im PM PT lS lB lE lN) G t.heap ∧ gF (dC, dI) SKm G ([(0, 0), (0, 9), (2, 0)] : List (Nat × Nat)) H0 t.heap) (gA G H0.size)) 0 0 (gA G H0.size) := by
  refine Met.ofW (cc := cX12_storm) (maxL := 5) (ret := (some .int)) (by decide) rfl ?_
  intro p e s m args below meth c s₁ B hml hv
  obtain ⟨rfl, hH0, hK, hE⟩ := hv
  have hx := B.exec
  have hb := B.bytes
  have hr := B.returns
  have hts := atoms_spec (ws := w_s_storm) B.pre
  have hown : s.vm.findClass RX12 = some m.cls := findClass_of_methodNamed B.named
  have hlocks := B.notSynchronized
  subst hH0
  generalize hAe : gA G s.heap.size = A at hE ⊢
  have hA : ∀ q : Nat, s.heap.size ≤ q → A q := fun q h => by rw [← hAe]; exact Or.inr h
  have hG := gA_of hAe
  have hS : va_S A s.heap s.heap [] := va_S.rf
  have hF : gF (dC, dI) SKm G ([(0, 0), (0, 9), (2, 0)] : List (Nat × Nat)) s.heap s.heap := gF.rf
  have hl := lv_entry ([.ref o0, .int p0, .int p1, .int p2]) (n := 5) (Nat.le_of_ble_eq_true rfl)
  rw [lg_entry_eq]
  generalize (lg_sl ([.ref o0, .int p0, .int p1, .int p2]) ++ List.replicate (5 - (lg_sl ([.ref o0, .int p0, .int p1, .int p2])).length) Slot.unset).toArray = ls at hl ⊢
  have hl : lv_has ls 5 [(0, .ref o0), (1, .int p0), (2, .int p1), (3, .int p2)] := hl
  refine lv_aload_n hx hb dX12_storm_0 rfl (lv_at hl 0 rfl) ?_
  refine lv_iconst (v := 0) hx hb dX12_storm_1 (by decide) ?_
  refine tw_put (v := .int 0) (ty := .int) hx hb hts bF_X12 tyX12 tyX12_ok nmX12 hown hK hT hG hS hr_o0 shm_0 rfl 0 (by decide) (ht_at hts 0 rfl) (fun _ h9 => h9) rfl (by decide +kernel) rfl rfl (gl_at rfl (gi_all _)) dX12_storm_2 (fun H locs hT oq m1 oj hS => ?_)
  have hF := hF.put hr_o0 skm_0 oq oj (by decide)
  refine lv_aload_n hx hb dX12_storm_5 rfl (lv_at hl 0 rfl) ?_
  refine lv_iload_n hx hb dX12_storm_6 rfl (lv_at hl 1 rfl) ?_
  refine lv_if_lt (tgt := 32) hx hb dX12_storm_7 (by decide) (fun c2 => ?_) (fun c2 => ?_)
  · have t3 : p0.toInt < 0 := ti_lt c2 rfl (by decide)
    refine lv_iconst (v := 1) hx hb dX12_storm_32 (by decide) ?_
    refine lv_goto (tgt := 37) hx hb dX12_storm_33 (by decide) ?_
    refine lv_iconst (v := 1) hx hb dX12_storm_37 (by decide) ?_
    have hFc := gA_free hG hA hS
    refine va_calli (va_runV (As := [.int 1, .int 1]) (rest := []) ⟨hx, hb, hml, hown, hts⟩ (s_throwsIf l dC dI kA adK adV G H q wZ wN wH wB wC wL wK wU wV PI im PM PT lS lB lE lN o0 1 1 hT hr_o0 (rg_t (a := 1) (by decide) (by first | decide | omega) (by first | decide | omega)) hgz hgn hgh hgb hgc hgi hgu) (cwV 2 hts (goodIn_app (goodIn_r _ [3, 4, 5, 6] rfl (by decide +kernel)) (goodIn_ca (goodIn_r _ [2, 1] rfl (by decide +kernel)) (bs_in _ _))) rfl rfl rfl (by decide +kernel) ⟨(Nat.le_of_ble_eq_true rfl), (Nat.le_of_ble_eq_true rfl)⟩) ⟨fun a U g mk q => by obtain ⟨q0, q1, qK, qE⟩ := q; exact ⟨q0, q1, va_K.moved (u := U) (U := U.calling g mk a) (Vm.Alike.refl U.vm) qK, EVS.blind g mk a qE⟩, gH_rc hK hT hr_o0 shm_0 rfl, fun U hU hW => ⟨rfl, hU, va_K.moved hW.alike hK, hE.call hS hFc hU hW⟩⟩ rfl rfl hl.1 rfl (lv_room (Nat.le_of_ble_eq_true rfl)) dX12_storm_38 ⟨(Nat.le_of_ble_eq_true rfl), (Nat.le_of_ble_eq_true rfl)⟩) hS (fun q _ h => hFc q h) hFc (fun r4 u t H locs ht hvm hw5 hB _ _ hS => ?_)
    obtain ⟨hT, hF1⟩ := hB
    rw [ht] at hT hF1
    have hF := hF.more hF1 (by decide)
    try dsimp only at hw5
    obtain ⟨h7, hd8⟩ := hw5
    obtain rfl : (1 : Int32) = r4 := hd8.symm
    refine lv_if_eq (tgt := 46) hx hb dX12_storm_41 (by decide) (fun c9 => absurd c9 (by decide)) (fun c9 => ?_)
    refine lv_iconst (v := 0) hx hb dX12_storm_44 (by decide) ?_
    exact W.iret (v := 0) hx hb hr (fun t ht hW => ⟨⟨0, (), rfl, (by exact (rg_t (a := 0) (by decide) (by first | decide | omega) (by first | decide | omega))), by (try dsimp only); rw [ht]; exact ⟨hT, hF⟩⟩, hS.F ht⟩) hS.2.2 dX12_storm_45
  · have t10 : 0 ≤ p0.toInt := ti_nlt c2 rfl (by decide)
    refine lv_iload_n hx hb dX12_storm_10 rfl (lv_at hl 2 rfl) ?_
    refine lv_iload_n hx hb dX12_storm_11 rfl (lv_at hl 1 rfl) ?_
    refine lv_icmp_lt (tgt := 32) hx hb dX12_storm_12 (by decide) (fun c11 => ?_) (fun c11 => ?_)
    · have t12 : p1.toInt < p0.toInt := ti_lt c11 rfl rfl
      refine lv_iconst (v := 1) hx hb dX12_storm_32 (by decide) ?_
      refine lv_goto (tgt := 37) hx hb dX12_storm_33 (by decide) ?_
      refine lv_iconst (v := 1) hx hb dX12_storm_37 (by decide) ?_
      have hFc := gA_free hG hA hS
      refine va_calli (va_runV (As := [.int 1, .int 1]) (rest := []) ⟨hx, hb, hml, hown, hts⟩ (s_throwsIf l dC dI kA adK adV G H q wZ wN wH wB wC wL wK wU wV PI im PM PT lS lB lE lN o0 1 1 hT hr_o0 (rg_t (a := 1) (by decide) (by first | decide | omega) (by first | decide | omega)) hgz hgn hgh hgb hgc hgi hgu) (cwV 2 hts (goodIn_app (goodIn_r _ [3, 4, 5, 6] rfl (by decide +kernel)) (goodIn_ca (goodIn_r _ [2, 1] rfl (by decide +kernel)) (bs_in _ _))) rfl rfl rfl (by decide +kernel) ⟨(Nat.le_of_ble_eq_true rfl), (Nat.le_of_ble_eq_true rfl)⟩) ⟨fun a U g mk q => by obtain ⟨q0, q1, qK, qE⟩ := q; exact ⟨q0, q1, va_K.moved (u := U) (U := U.calling g mk a) (Vm.Alike.refl U.vm) qK, EVS.blind g mk a qE⟩, gH_rc hK hT hr_o0 shm_0 rfl, fun U hU hW => ⟨rfl, hU, va_K.moved hW.alike hK, hE.call hS hFc hU hW⟩⟩ rfl rfl hl.1 rfl (lv_room (Nat.le_of_ble_eq_true rfl)) dX12_storm_38 ⟨(Nat.le_of_ble_eq_true rfl), (Nat.le_of_ble_eq_true rfl)⟩) hS (fun q _ h => hFc q h) hFc (fun r13 u t H locs ht hvm hw14 hB _ _ hS => ?_)
      obtain ⟨hT, hF1⟩ := hB
      rw [ht] at hT hF1
      have hF := hF.more hF1 (by decide)
      try dsimp only at hw14
      obtain ⟨h16, hd17⟩ := hw14
      obtain rfl : (1 : Int32) = r13 := hd17.symm
      refine lv_if_eq (tgt := 46) hx hb dX12_storm_41 (by decide) (fun c18 => absurd c18 (by decide)) (fun c18 => ?_)
      refine lv_iconst (v := 0) hx hb dX12_storm_44 (by decide) ?_
      exact W.iret (v := 0) hx hb hr (fun t ht hW => ⟨⟨0, (), rfl, (by exact (rg_t (a := 0) (by decide) (by first | decide | omega) (by first | decide | omega))), by (try dsimp only); rw [ht]; exact ⟨hT, hF⟩⟩, hS.F ht⟩) hS.2.2 dX12_storm_45
    · have t19 : p0.toInt ≤ p1.toInt := ti_nlt c11 rfl rfl
      refine lv_iload_n hx hb dX12_storm_15 rfl (lv_at hl 2 rfl) ?_
      refine lv_ldc (v := 40000) hx hb hown (ht_at hts 6 rfl) dX12_storm_16 ?_
      refine lv_icmp_gt (tgt := 32) hx hb dX12_storm_18 (by decide) (fun c20 => ?_) (fun c20 => ?_)
      · have t21 : 40000 < p1.toInt := ti_lt c20 (by decide) rfl
        refine lv_iconst (v := 1) hx hb dX12_storm_32 (by decide) ?_
        refine lv_goto (tgt := 37) hx hb dX12_storm_33 (by decide) ?_
        refine lv_iconst (v := 1) hx hb dX12_storm_37 (by decide) ?_
        have hFc := gA_free hG hA hS
        refine va_calli (va_runV (As := [.int 1, .int 1]) (rest := []) ⟨hx, hb, hml, hown, hts⟩ (s_throwsIf l dC dI kA adK adV G H q wZ wN wH wB wC wL wK wU wV PI im PM PT lS lB lE lN o0 1 1 hT hr_o0 (rg_t (a := 1) (by decide) (by first | decide | omega) (by first | decide | omega)) hgz hgn hgh hgb hgc hgi hgu) (cwV 2 hts (goodIn_app (goodIn_r _ [3, 4, 5, 6] rfl (by decide +kernel)) (goodIn_ca (goodIn_r _ [2, 1] rfl (by decide +kernel)) (bs_in _ _))) rfl rfl rfl (by decide +kernel) ⟨(Nat.le_of_ble_eq_true rfl), (Nat.le_of_ble_eq_true rfl)⟩) ⟨fun a U g mk q => by obtain ⟨q0, q1, qK, qE⟩ := q; exact ⟨q0, q1, va_K.moved (u := U) (U := U.calling g mk a) (Vm.Alike.refl U.vm) qK, EVS.blind g mk a qE⟩, gH_rc hK hT hr_o0 shm_0 rfl, fun U hU hW => ⟨rfl, hU, va_K.moved hW.alike hK, hE.call hS hFc hU hW⟩⟩ rfl rfl hl.1 rfl (lv_room (Nat.le_of_ble_eq_true rfl)) dX12_storm_38 ⟨(Nat.le_of_ble_eq_true rfl), (Nat.le_of_ble_eq_true rfl)⟩) hS (fun q _ h => hFc q h) hFc (fun r22 u t H locs ht hvm hw23 hB _ _ hS => ?_)
        obtain ⟨hT, hF1⟩ := hB
        rw [ht] at hT hF1
        have hF := hF.more hF1 (by decide)
        try dsimp only at hw23
        obtain ⟨h25, hd26⟩ := hw23
        obtain rfl : (1 : Int32) = r22 := hd26.symm
        refine lv_if_eq (tgt := 46) hx hb dX12_storm_41 (by decide) (fun c27 => absurd c27 (by decide)) (fun c27 => ?_)
        refine lv_iconst (v := 0) hx hb dX12_storm_44 (by decide) ?_
        exact W.iret (v := 0) hx hb hr (fun t ht hW => ⟨⟨0, (), rfl, (by exact (rg_t (a := 0) (by decide) (by first | decide | omega) (by first | decide | omega))), by (try dsimp only); rw [ht]; exact ⟨hT, hF⟩⟩, hS.F ht⟩) hS.2.2 dX12_storm_45
      · have t28 : p1.toInt ≤ 40000 := ti_nlt c20 (by decide) rfl
        refine lv_iload_n hx hb dX12_storm_21 rfl (lv_at hl 3 rfl) ?_
        refine lv_iconst (v := 1) hx hb dX12_storm_22 (by decide) ?_
        refine lv_sipush (v := 500) hx hb dX12_storm_23 (by decide) ?_
        have hFc := gA_free hG hA hS
        refine va_calli (va_runS (As := [.int p2, .int 1, .int 500]) (rest := [.ref o0]) ⟨hx, hb, hml, hown, hts⟩ (s_in l dC dI kA adK adV G H q wZ wN wH wB wC wL wK wU wV PI im PM PT lS lB lE lN p2 1 500 hT hgz hgn hgh hgb hgc hgi hgu) (va_cwS 3 hts (goodIn_app (goodIn_r _ [9, 10, 6] rfl (by decide +kernel)) (goodIn_ca (goodIn_r _ [8] rfl (by decide +kernel)) (bs_in _ _))) rfl rfl rfl (by decide +kernel) ⟨(Nat.le_of_ble_eq_true rfl), (Nat.le_of_ble_eq_true rfl)⟩) ⟨fun a U g mk q => by obtain ⟨q0, q1, qK, qE⟩ := q; exact ⟨q0, q1, va_K.moved (u := U) (U := U.calling g mk a) (Vm.Alike.refl U.vm) qK, EVS.blind g mk a qE⟩, fun U hU hW => ⟨rfl, hU, va_K.moved hW.alike hK, hE.call hS hFc hU hW⟩⟩ rfl rfl hl.1 rfl (lv_room (Nat.le_of_ble_eq_true rfl)) dX12_storm_26 ⟨(Nat.le_of_ble_eq_true rfl), (Nat.le_of_ble_eq_true rfl)⟩) hS (fun q _ h => hFc q h) hFc (fun r29 u t H locs ht hvm hw30 hB _ _ hS => ?_)
        obtain ⟨hT, hF1⟩ := hB
        rw [ht] at hT hF1
        have hF := hF.more hF1 (by decide)
        try dsimp only at hw30
        obtain ⟨h32, hi33, hi34⟩ := hw30
        refine lv_if_ne (tgt := 36) hx hb dX12_storm_29 (by decide) (fun c35 => ?_) (fun c35 => ?_)
        · have t36 : r29.toInt ≠ 0 := ti_ne c35 rfl (by decide)
          have t37 : (500 : Int32).toInt = 500 := by decide
          have t38 : (1 : Int32).toInt = 1 := by decide
          have t39 : (1 : Int32).toInt ≤ p2.toInt ∧ p2.toInt ≤ (500 : Int32).toInt := hi33 ((bit_of ⟨by omega, by omega⟩).resolve_left c35)
          refine lv_iconst (v := 0) hx hb dX12_storm_36 (by decide) ?_
          refine lv_iconst (v := 1) hx hb dX12_storm_37 (by decide) ?_
          have hFc := gA_free hG hA hS
          refine va_calli (va_runV (As := [.int 0, .int 1]) (rest := []) ⟨hx, hb, hml, hown, hts⟩ (s_throwsIf l dC dI kA adK adV G H q wZ wN wH wB wC wL wK wU wV PI im PM PT lS lB lE lN o0 0 1 hT hr_o0 (rg_t (a := 0) (by decide) (by first | decide | omega) (by first | decide | omega)) hgz hgn hgh hgb hgc hgi hgu) (cwV 2 hts (goodIn_app (goodIn_r _ [3, 4, 5, 6] rfl (by decide +kernel)) (goodIn_ca (goodIn_r _ [2, 1] rfl (by decide +kernel)) (bs_in _ _))) rfl rfl rfl (by decide +kernel) ⟨(Nat.le_of_ble_eq_true rfl), (Nat.le_of_ble_eq_true rfl)⟩) ⟨fun a U g mk q => by obtain ⟨q0, q1, qK, qE⟩ := q; exact ⟨q0, q1, va_K.moved (u := U) (U := U.calling g mk a) (Vm.Alike.refl U.vm) qK, EVS.blind g mk a qE⟩, gH_rc hK hT hr_o0 shm_0 rfl, fun U hU hW => ⟨rfl, hU, va_K.moved hW.alike hK, hE.call hS hFc hU hW⟩⟩ rfl rfl hl.1 rfl (lv_room (Nat.le_of_ble_eq_true rfl)) dX12_storm_38 ⟨(Nat.le_of_ble_eq_true rfl), (Nat.le_of_ble_eq_true rfl)⟩) hS (fun q _ h => hFc q h) hFc (fun r40 u t H locs ht hvm hw41 hB _ _ hS => ?_)
          obtain ⟨hT, hF1⟩ := hB
          rw [ht] at hT hF1
          have hF := hF.more hF1 (by decide)
          try dsimp only at hw41
          obtain ⟨h43, hd44⟩ := hw41
          obtain rfl : (0 : Int32) = r40 := hd44.symm
          refine lv_if_eq (tgt := 46) hx hb dX12_storm_41 (by decide) (fun c45 => ?_) (fun c45 => absurd c45 (by decide))
          refine lv_aload_n hx hb dX12_storm_46 rfl (lv_at hl 0 rfl) ?_
          refine tw_get hx hb hts bF_X12 hown hK hT hr_o0 shm_0 rfl 1 (by decide) (ht_at hts 10 rfl) (fun _ h9 => h9) dX12_storm_47 (fun v9 m46 h9 => ?_)
          obtain ⟨rfl, hg47⟩ := h9 _ rfl
          refine lv_sipush (v := 1442) hx hb dX12_storm_50 (by decide) ?_
          refine tw_iald (i := 1442) hx hb hK hT hg47 shm_2 rfl (by unfold vp_in; decide) dX12_storm_53 (fun v9 m48 h9 => ?_)
          obtain ⟨x49, rfl, gx49, kx49⟩ := (gp_at h9 (w_stc (by have q9 := tn_of (show (1442 : Int32).toInt = 1442 from (by decide)) (show (0 : Int) ≤ 1442 from by omega); omega)))
          refine lv_istore (lv' := [(4, .int x49), (0, .ref o0), (1, .int p0), (2, .int p1), (3, .int p2)]) hx hb dX12_storm_54 hl (by decide) rfl (fun ls hl => ?_)
          refine lv_iload hx hb dX12_storm_56 (lv_at hl 0 rfl) ?_
          refine lv_bipush (v := 20) hx hb dX12_storm_58 (by decide) ?_
          refine lv_icmp_ne (tgt := 65) hx hb dX12_storm_60 (by decide) (fun c50 => ?_) (fun c50 => ?_)
          · have t51 : x49.toInt ≠ 20 := ti_ne c50 rfl (by decide)
            refine lv_aload_n hx hb dX12_storm_65 rfl (lv_at hl 1 rfl) ?_
            refine tw_get hx hb hts bF_X12 hown hK hT hr_o0 shm_0 rfl 1 (by decide) (ht_at hts 10 rfl) (fun _ h9 => h9) dX12_storm_66 (fun v9 m52 h9 => ?_)
            obtain ⟨rfl, hg53⟩ := h9 _ rfl
            refine lv_sipush (v := 1443) hx hb dX12_storm_69 (by decide) ?_
            refine lv_iconst (v := 3) hx hb dX12_storm_72 (by decide) ?_
            refine lv_iload hx hb dX12_storm_73 (lv_at hl 0 rfl) ?_
            refine lv_imul hx hb dX12_storm_75 ?_
            refine lv_topi (fun x54 ex54 => ?_)
            have t55 : x54.toInt = 3 * x49.toInt := ti_mul ex54 (by decide) rfl (by omega) (by omega)
            refine lv_iadd hx hb dX12_storm_76 ?_
            refine lv_topi (fun x56 ex56 => ?_)
            have t57 : x56.toInt = 1443 + x54.toInt := ti_add ex56 (by decide) rfl (by omega) (by omega)
            refine lv_iload_n hx hb dX12_storm_77 rfl (lv_at hl 2 rfl) ?_
            refine tw_iast (i := x56) (x := p0) hx hb hK hT hG hS hg47 shm_2 rfl (vin_t (a := x56.toInt) rfl (by omega) (by omega)) (gp_of (gi_all _) (w_fre (by have q9 := tn_of (show x56.toInt = x56.toInt from rfl) (show (0 : Int) ≤ x56.toInt from by omega); omega)) (wX_o (by have q9 := tn_of (show x56.toInt = x56.toInt from rfl) (show (0 : Int) ≤ x56.toInt from by omega); omega) (by omega))) dX12_storm_78 (fun H locs hT oq m58 oi hS => ?_)
            have hF := hF.ast hg47 skm_2 oq (by decide)
            have m59 := (oi _ (tn_ne (show (1442 : Int32).toInt = 1442 from (by decide)) (show x56.toInt = x56.toInt from rfl) (by omega) (by omega) (by omega))).trans m48
            refine lv_aload_n hx hb dX12_storm_79 rfl (lv_at hl 1 rfl) ?_
            refine tw_get hx hb hts bF_X12 hown hK hT hr_o0 shm_0 rfl 1 (by decide) (ht_at hts 10 rfl) (fun _ h9 => h9) dX12_storm_80 (fun v9 m60 h9 => ?_)
            obtain ⟨rfl, hg61⟩ := h9 _ rfl
            refine lv_sipush (v := 1443) hx hb dX12_storm_83 (by decide) ?_
            refine lv_iconst (v := 3) hx hb dX12_storm_86 (by decide) ?_
            refine lv_iload hx hb dX12_storm_87 (lv_at hl 0 rfl) ?_
            refine lv_imul hx hb dX12_storm_89 ?_
            refine lv_topi (fun x62 ex62 => ?_)
            have t63 : x62.toInt = 3 * x49.toInt := ti_mul ex62 (by decide) rfl (by omega) (by omega)
            refine lv_iadd hx hb dX12_storm_90 ?_
            refine lv_topi (fun x64 ex64 => ?_)
            have t65 : x64.toInt = 1443 + x62.toInt := ti_add ex64 (by decide) rfl (by omega) (by omega)
            refine lv_iconst (v := 1) hx hb dX12_storm_91 (by decide) ?_
            refine lv_iadd hx hb dX12_storm_92 ?_
            refine lv_topi (fun x66 ex66 => ?_)
            have t67 : x66.toInt = x64.toInt + 1 := ti_add ex66 rfl (by decide) (by omega) (by omega)
            refine lv_iload_n hx hb dX12_storm_93 rfl (lv_at hl 3 rfl) ?_
            refine tw_iast (i := x66) (x := p1) hx hb hK hT hG hS hg47 shm_2 rfl (vin_t (a := x66.toInt) rfl (by omega) (by omega)) (gp_of (gi_all _) (w_fre (by have q9 := tn_of (show x66.toInt = x66.toInt from rfl) (show (0 : Int) ≤ x66.toInt from by omega); omega)) (wX_o (by have q9 := tn_of (show x66.toInt = x66.toInt from rfl) (show (0 : Int) ≤ x66.toInt from by omega); omega) (by omega))) dX12_storm_94 (fun H locs hT oq m68 oi hS => ?_)
            have hF := hF.ast hg47 skm_2 oq (by decide)
            have m69 := (oi _ (tn_ne (show (1442 : Int32).toInt = 1442 from (by decide)) (show x66.toInt = x66.toInt from rfl) (by omega) (by omega) (by omega))).trans m59
            refine lv_aload_n hx hb dX12_storm_95 rfl (lv_at hl 1 rfl) ?_
            refine tw_get hx hb hts bF_X12 hown hK hT hr_o0 shm_0 rfl 1 (by decide) (ht_at hts 10 rfl) (fun _ h9 => h9) dX12_storm_96 (fun v9 m71 h9 => ?_)
            obtain ⟨rfl, hg72⟩ := h9 _ rfl
            refine lv_sipush (v := 1443) hx hb dX12_storm_99 (by decide) ?_
            refine lv_iconst (v := 3) hx hb dX12_storm_102 (by decide) ?_
            refine lv_iload hx hb dX12_storm_103 (lv_at hl 0 rfl) ?_
            refine lv_imul hx hb dX12_storm_105 ?_
            refine lv_topi (fun x73 ex73 => ?_)
            have t74 : x73.toInt = 3 * x49.toInt := ti_mul ex73 (by decide) rfl (by omega) (by omega)
            refine lv_iadd hx hb dX12_storm_106 ?_
            refine lv_topi (fun x75 ex75 => ?_)
            have t76 : x75.toInt = 1443 + x73.toInt := ti_add ex75 (by decide) rfl (by omega) (by omega)
            refine lv_iconst (v := 2) hx hb dX12_storm_107 (by decide) ?_
            refine lv_iadd hx hb dX12_storm_108 ?_
            refine lv_topi (fun x77 ex77 => ?_)
            have t78 : x77.toInt = x75.toInt + 2 := ti_add ex77 rfl (by decide) (by omega) (by omega)
            refine lv_iload_n hx hb dX12_storm_109 rfl (lv_at hl 4 rfl) ?_
            refine tw_iast (i := x77) (x := p2) hx hb hK hT hG hS hg47 shm_2 rfl (vin_t (a := x77.toInt) rfl (by omega) (by omega)) (gp_of (gi_of (show p2.toInt = p2.toInt from rfl) (by omega) (by omega)) (w_stm (by have q9 := tn_of (show x77.toInt = x77.toInt from rfl) (show (0 : Int) ≤ x77.toInt from by omega); omega)) (wX_o (by have q9 := tn_of (show x77.toInt = x77.toInt from rfl) (show (0 : Int) ≤ x77.toInt from by omega); omega) (by omega))) dX12_storm_110 (fun H locs hT oq m79 oi hS => ?_)
            have hF := hF.ast hg47 skm_2 oq (by decide)
            have m80 := (oi _ (tn_ne (show (1442 : Int32).toInt = 1442 from (by decide)) (show x77.toInt = x77.toInt from rfl) (by omega) (by omega) (by omega))).trans m69
            refine lv_aload_n hx hb dX12_storm_111 rfl (lv_at hl 1 rfl) ?_
            refine tw_get hx hb hts bF_X12 hown hK hT hr_o0 shm_0 rfl 1 (by decide) (ht_at hts 10 rfl) (fun _ h9 => h9) dX12_storm_112 (fun v9 m83 h9 => ?_)
            obtain ⟨rfl, hg84⟩ := h9 _ rfl
            refine lv_sipush (v := 1442) hx hb dX12_storm_115 (by decide) ?_
            refine lv_dup2_11 hx hb dX12_storm_118 rfl rfl ?_
            refine tw_iald (i := 1442) hx hb hK hT hg47 shm_2 rfl (by unfold vp_in; decide) dX12_storm_119 (fun v9 m85 h9 => ?_)
            obtain ⟨x86, rfl, gx86, kx86⟩ := (gp_at h9 (w_stc (by have q9 := tn_of (show (1442 : Int32).toInt = 1442 from (by decide)) (show (0 : Int) ≤ 1442 from by omega); omega)))
            obtain rfl : x49 = x86 := (el_same m85 m80 rfl).symm
            refine lv_iconst (v := 1) hx hb dX12_storm_120 (by decide) ?_
            refine lv_iadd hx hb dX12_storm_121 ?_
            refine lv_topi (fun x87 ex87 => ?_)
            have t88 : x87.toInt = x49.toInt + 1 := ti_add ex87 rfl (by decide) (by omega) (by omega)
            refine tw_iast (i := 1442) (x := x87) hx hb hK hT hG hS hg47 shm_2 rfl (by unfold vp_in; decide) (gp_of (gi_of (show x87.toInt = x87.toInt from rfl) (by omega) (by omega)) (w_stc (by have q9 := tn_of (show (1442 : Int32).toInt = 1442 from (by decide)) (show (0 : Int) ≤ 1442 from by omega); omega)) (wX_o (by have q9 := tn_of (show (1442 : Int32).toInt = 1442 from (by decide)) (show (0 : Int) ≤ 1442 from by omega); omega) (by omega))) dX12_storm_122 (fun H locs hT oq m89 oi hS => ?_)
            have hF := hF.ast hg47 skm_2 oq (by decide)
            refine lv_aload_n hx hb dX12_storm_123 rfl (lv_at hl 1 rfl) ?_
            refine lv_iconst (v := 0) hx hb dX12_storm_124 (by decide) ?_
            refine tw_put (v := .int 0) (ty := .int) hx hb hts bF_X12 tyX12 tyX12_ok nmX12 hown hK hT hG hS hr_o0 shm_0 rfl 9 (by decide) (ht_at hts 11 rfl) (fun _ h9 => h9) rfl (by decide +kernel) rfl rfl (gl_at rfl (gi_of (show (0 : Int32).toInt = 0 from (by decide)) (by first | decide | omega) (by first | decide | omega))) dX12_storm_125 (fun H locs hT oq m93 oj hS => ?_)
            have hF := hF.put hr_o0 skm_0 oq oj (by decide)
            refine lv_iload hx hb dX12_storm_128 (lv_at hl 0 rfl) ?_
            refine lv_iconst (v := 1) hx hb dX12_storm_130 (by decide) ?_
            refine lv_iadd hx hb dX12_storm_131 ?_
            refine lv_topi (fun x98 ex98 => ?_)
            have t99 : x98.toInt = x49.toInt + 1 := ti_add ex98 rfl (by decide) (by omega) (by omega)
            exact W.iret (v := x98) hx hb hr (fun t ht hW => ⟨⟨x98, (), rfl, (by exact (by have q8 := ti_all x98; omega)), by (try dsimp only); rw [ht]; exact ⟨hT, hF⟩⟩, hS.F ht⟩) hS.2.2 dX12_storm_132
          · have t100 : x49.toInt = 20 := ti_eq c50 rfl (by decide)
            refine lv_iconst (v := (-1)) hx hb dX12_storm_63 (by decide) ?_
            exact W.iret (v := (-1)) hx hb hr (fun t ht hW => ⟨⟨(-1), (), rfl, (by exact (rg_t (a := (-1)) (by decide) (by first | decide | omega) (by first | decide | omega))), by (try dsimp only); rw [ht]; exact ⟨hT, hF⟩⟩, hS.F ht⟩) hS.2.2 dX12_storm_64
        · have t101 : r29.toInt = 0 := ti_eq c35 rfl (by decide)
          have t102 : (500 : Int32).toInt = 500 := by decide
          have t103 : (1 : Int32).toInt = 1 := by decide
          have t104 : p2.toInt < (1 : Int32).toInt ∨ (500 : Int32).toInt < p2.toInt := hi34 c35
          refine lv_iconst (v := 1) hx hb dX12_storm_32 (by decide) ?_
          refine lv_goto (tgt := 37) hx hb dX12_storm_33 (by decide) ?_
          refine lv_iconst (v := 1) hx hb dX12_storm_37 (by decide) ?_
          have hFc := gA_free hG hA hS
          refine va_calli (va_runV (As := [.int 1, .int 1]) (rest := []) ⟨hx, hb, hml, hown, hts⟩ (s_throwsIf l dC dI kA adK adV G H q wZ wN wH wB wC wL wK wU wV PI im PM PT lS lB lE lN o0 1 1 hT hr_o0 (rg_t (a := 1) (by decide) (by first | decide | omega) (by first | decide | omega)) hgz hgn hgh hgb hgc hgi hgu) (cwV 2 hts (goodIn_app (goodIn_r _ [3, 4, 5, 6] rfl (by decide +kernel)) (goodIn_ca (goodIn_r _ [2, 1] rfl (by decide +kernel)) (bs_in _ _))) rfl rfl rfl (by decide +kernel) ⟨(Nat.le_of_ble_eq_true rfl), (Nat.le_of_ble_eq_true rfl)⟩) ⟨fun a U g mk q => by obtain ⟨q0, q1, qK, qE⟩ := q; exact ⟨q0, q1, va_K.moved (u := U) (U := U.calling g mk a) (Vm.Alike.refl U.vm) qK, EVS.blind g mk a qE⟩, gH_rc hK hT hr_o0 shm_0 rfl, fun U hU hW => ⟨rfl, hU, va_K.moved hW.alike hK, hE.call hS hFc hU hW⟩⟩ rfl rfl hl.1 rfl (lv_room (Nat.le_of_ble_eq_true rfl)) dX12_storm_38 ⟨(Nat.le_of_ble_eq_true rfl), (Nat.le_of_ble_eq_true rfl)⟩) hS (fun q _ h => hFc q h) hFc (fun r105 u t H locs ht hvm hw106 hB _ _ hS => ?_)
          obtain ⟨hT, hF1⟩ := hB
          rw [ht] at hT hF1
          have hF := hF.more hF1 (by decide)
          try dsimp only at hw106
          obtain ⟨h108, hd109⟩ := hw106
          obtain rfl : (1 : Int32) = r105 := hd109.symm
          refine lv_if_eq (tgt := 46) hx hb dX12_storm_41 (by decide) (fun c110 => absurd c110 (by decide)) (fun c110 => ?_)
          refine lv_iconst (v := 0) hx hb dX12_storm_44 (by decide) ?_
          exact W.iret (v := 0) hx hb hr (fun t ht hW => ⟨⟨0, (), rfl, (by exact (rg_t (a := 0) (by decide) (by first | decide | omega) (by first | decide | omega))), by (try dsimp only); rw [ht]; exact ⟨hT, hF⟩⟩, hS.F ht⟩) hS.2.2 dX12_storm_45
def w_s_settler : List Cond := .code yX12_settler cX12_settler 9 (some .int) :: (HAppend.hAppend (α := List Cond) (β := List Cond) (γ := List Cond) [.fieldLink RX12 194 "SeaLandModel" "thrown" "I", .code yX12_in cX12_in 3 (some .boolean), .methodLink RX12 197 yX12_in, .static yX12_in, .initialized RX12, .code yX12_throwsIf cX12_throwsIf 3 (some .boolean), .methodLink RX12 224 yX12_throwsIf, .instanceMethod yX12_throwsIf, .selects RX12 yX12_throwsIf yX12_throwsIf, .constant RX12 241 100000, .constant RX12 501 999999, .fieldLink RX12 495 "SeaLandModel" "settlers" "I", .fieldLink RX12 79 "SeaLandModel" "age" "[I", .fieldLink RX12 82 "SeaLandModel" "sons" "[I", .fieldLink RX12 85 "SeaLandModel" "coin" "[I", .fieldLink RX12 88 "SeaLandModel" "cattle" "[I", .fieldLink RX12 91 "SeaLandModel" "isKin" "[Z", .fieldLink RX12 95 "SeaLandModel" "isBoard" "[Z", .fieldLink RX12 98 "SeaLandModel" "drawn" "[I", .fieldLink RX12 101 "SeaLandModel" "holds" "[I"] bs)
set_option maxHeartbeats 4000000 in
set_option maxRecDepth 100000 in
theorem s_settler (l : Launch) (dC : Nat → ClassId) (dI : Nat → Nat → Nat) (kA : Nat → ClassId) (adK adV : Nat → Nat) (G : gT) (H0 : Heap) (q : Nat → Nat) (wZ wN : Nat → Int) (wH wB wC : Int) (wL wK : Nat → Prop) (wU wV : Nat → Nat) (PI : Nat → Int → Prop) (im : Int) (PM PT : Nat → Int → Prop) (lS lB lE : Nat → Nat → Int → Prop) (lN : Nat → Int) (o0 : Nat) (p0 : Int32) (p1 : Int32) (p2 : Int32) (p3 : Int32) (p4 : Int32) (p5 : Int32) (p6 : Int32)  (hT : gH (dC, dI) kA (SHm q (wP wZ wN wH wB wC wL wK wU wV) PI im PM PT lS lB lE lN) G H0) (hr_o0 : G o0 = some 0) (hq0 : 0 ≤ p4.toInt ∧ p4.toInt ≤ 1) (hq1 : 0 ≤ p5.toInt ∧ p5.toInt ≤ 1) (hgz : ∀ i, 0 ≤ wZ i) (hgn : ∀ i, 6500000 ≤ wN i ∧ wN i ≤ 20200000) (hgh : 0 ≤ wH ∧ wH ≤ 40000) (hgb : 0 ≤ wB ∧ wB ≤ 3850000) (hgc : 0 ≤ wC ∧ wC ≤ 30) (hgi : 0 ≤ im ∧ im ≤ 1) (hgu : ∀ a t, G a = some (t + 1) → a = q t) : Met l yX12_settler w_s_settler ({ frames := 1, cells := 0, slots := 0, locals := 22 }) (va_Pc [.ref o0, .int p0, .int p1, .int p2, .int p3, .int p4, .int p5, .int p6] (fun U => U.heap = H0 ∧ va_K (dC, dI) vwCl (tyl kA) U ∧ EVS adK adV (gA G H0.size) U U.heap)) (va_Qi (fun (r : Int32) (u : Unit) => (0 ≤ r.toInt ∧ r.toInt ≤ 59)) (fun (_ : Unit) (t : State) => gH (dC, dI) kA (SHm q (wP wZ wN wH wB wC wL wK wU wV) PI im PM PT lS lB lE lN) G t.heap ∧ gF (dC, dI) SKm G ([(0, 0), (0, 42), (32, 0), (33, 0), (34, 0), (35, 0), (36, 0), (37, 0), (38, 0), (39, 0)] : List (Nat × Nat)) H0 t.heap) (gA G H0.size)) 0 0 (gA G H0.size) := by
  refine Met.ofW (cc := cX12_settler) (maxL := 9) (ret := (some .int)) (by decide) rfl ?_
  intro p e s m args below meth c s₁ B hml hv
  obtain ⟨rfl, hH0, hK, hE⟩ := hv
  have hx := B.exec
  have hb := B.bytes
  have hr := B.returns
  have hts := atoms_spec (ws := w_s_settler) B.pre
  have hown : s.vm.findClass RX12 = some m.cls := findClass_of_methodNamed B.named
  have hlocks := B.notSynchronized
  subst hH0
  generalize hAe : gA G s.heap.size = A at hE ⊢
  have hA : ∀ q : Nat, s.heap.size ≤ q → A q := fun q h => by rw [← hAe]; exact Or.inr h
  have hG := gA_of hAe
  have hS : va_S A s.heap s.heap [] := va_S.rf
  have hF : gF (dC, dI) SKm G ([(0, 0), (0, 42), (32, 0), (33, 0), (34, 0), (35, 0), (36, 0), (37, 0), (38, 0), (39, 0)] : List (Nat × Nat)) s.heap s.heap := gF.rf
  have hl := lv_entry ([.ref o0, .int p0, .int p1, .int p2, .int p3, .int p4, .int p5, .int p6]) (n := 9) (Nat.le_of_ble_eq_true rfl)
  rw [lg_entry_eq]
  generalize (lg_sl ([.ref o0, .int p0, .int p1, .int p2, .int p3, .int p4, .int p5, .int p6]) ++ List.replicate (9 - (lg_sl ([.ref o0, .int p0, .int p1, .int p2, .int p3, .int p4, .int p5, .int p6])).length) Slot.unset).toArray = ls at hl ⊢
  have hl : lv_has ls 9 [(0, .ref o0), (1, .int p0), (2, .int p1), (3, .int p2), (4, .int p3), (5, .int p4), (6, .int p5), (7, .int p6)] := hl
  refine lv_aload_n hx hb dX12_settler_0 rfl (lv_at hl 0 rfl) ?_
  refine lv_iconst (v := 0) hx hb dX12_settler_1 (by decide) ?_
  refine tw_put (v := .int 0) (ty := .int) hx hb hts bF_X12 tyX12 tyX12_ok nmX12 hown hK hT hG hS hr_o0 shm_0 rfl 0 (by decide) (ht_at hts 0 rfl) (fun _ h9 => h9) rfl (by decide +kernel) rfl rfl (gl_at rfl (gi_all _)) dX12_settler_2 (fun H locs hT oq m1 oj hS => ?_)
  have hF := hF.put hr_o0 skm_0 oq oj (by decide)
  refine lv_aload_n hx hb dX12_settler_5 rfl (lv_at hl 0 rfl) ?_
  refine lv_iload_n hx hb dX12_settler_6 rfl (lv_at hl 1 rfl) ?_
  refine lv_iconst (v := 0) hx hb dX12_settler_7 (by decide) ?_
  refine lv_bipush (v := 99) hx hb dX12_settler_8 (by decide) ?_
  have hFc := gA_free hG hA hS
  refine va_calli (va_runS (As := [.int p0, .int 0, .int 99]) (rest := [.ref o0]) ⟨hx, hb, hml, hown, hts⟩ (s_in l dC dI kA adK adV G H q wZ wN wH wB wC wL wK wU wV PI im PM PT lS lB lE lN p0 0 99 hT hgz hgn hgh hgb hgc hgi hgu) (va_cwS 3 hts (goodIn_app (goodIn_r _ [3, 4, 5] rfl (by decide +kernel)) (goodIn_ca (goodIn_r _ [2] rfl (by decide +kernel)) (bs_in _ _))) rfl rfl rfl (by decide +kernel) ⟨(Nat.le_of_ble_eq_true rfl), (Nat.le_of_ble_eq_true rfl)⟩) ⟨fun a U g mk q => by obtain ⟨q0, q1, qK, qE⟩ := q; exact ⟨q0, q1, va_K.moved (u := U) (U := U.calling g mk a) (Vm.Alike.refl U.vm) qK, EVS.blind g mk a qE⟩, fun U hU hW => ⟨rfl, hU, va_K.moved hW.alike hK, hE.call hS hFc hU hW⟩⟩ rfl rfl hl.1 rfl (lv_room (Nat.le_of_ble_eq_true rfl)) dX12_settler_10 ⟨(Nat.le_of_ble_eq_true rfl), (Nat.le_of_ble_eq_true rfl)⟩) hS (fun q _ h => hFc q h) hFc (fun r2 u t H locs ht hvm hw3 hB _ _ hS => ?_)
  obtain ⟨hT, hF1⟩ := hB
  rw [ht] at hT hF1
  have hF := hF.more hF1 (by decide)
  try dsimp only at hw3
  obtain ⟨h5, hi6, hi7⟩ := hw3
  refine lv_if_eq (tgt := 59) hx hb dX12_settler_13 (by decide) (fun c8 => ?_) (fun c8 => ?_)
  · have t9 : r2.toInt = 0 := ti_eq c8 rfl (by decide)
    have t10 : (99 : Int32).toInt = 99 := by decide
    have t11 : (0 : Int32).toInt = 0 := by decide
    have t12 : p0.toInt < (0 : Int32).toInt ∨ (99 : Int32).toInt < p0.toInt := hi7 c8
    refine lv_iconst (v := 1) hx hb dX12_settler_59 (by decide) ?_
    refine lv_goto (tgt := 64) hx hb dX12_settler_60 (by decide) ?_
    refine lv_iconst (v := 1) hx hb dX12_settler_64 (by decide) ?_
    have hFc := gA_free hG hA hS
    refine va_calli (va_runV (As := [.int 1, .int 1]) (rest := []) ⟨hx, hb, hml, hown, hts⟩ (s_throwsIf l dC dI kA adK adV G H q wZ wN wH wB wC wL wK wU wV PI im PM PT lS lB lE lN o0 1 1 hT hr_o0 (rg_t (a := 1) (by decide) (by first | decide | omega) (by first | decide | omega)) hgz hgn hgh hgb hgc hgi hgu) (cwV 2 hts (goodIn_app (goodIn_r _ [7, 8, 9, 5] rfl (by decide +kernel)) (goodIn_ca (goodIn_r _ [6, 1] rfl (by decide +kernel)) (bs_in _ _))) rfl rfl rfl (by decide +kernel) ⟨(Nat.le_of_ble_eq_true rfl), (Nat.le_of_ble_eq_true rfl)⟩) ⟨fun a U g mk q => by obtain ⟨q0, q1, qK, qE⟩ := q; exact ⟨q0, q1, va_K.moved (u := U) (U := U.calling g mk a) (Vm.Alike.refl U.vm) qK, EVS.blind g mk a qE⟩, gH_rc hK hT hr_o0 shm_0 rfl, fun U hU hW => ⟨rfl, hU, va_K.moved hW.alike hK, hE.call hS hFc hU hW⟩⟩ rfl rfl hl.1 rfl (lv_room (Nat.le_of_ble_eq_true rfl)) dX12_settler_65 ⟨(Nat.le_of_ble_eq_true rfl), (Nat.le_of_ble_eq_true rfl)⟩) hS (fun q _ h => hFc q h) hFc (fun r13 u t H locs ht hvm hw14 hB _ _ hS => ?_)
    obtain ⟨hT, hF1⟩ := hB
    rw [ht] at hT hF1
    have hF := hF.more hF1 (by decide)
    try dsimp only at hw14
    obtain ⟨h16, hd17⟩ := hw14
    obtain rfl : (1 : Int32) = r13 := hd17.symm
    refine lv_if_ne (tgt := 93) hx hb dX12_settler_68 (by decide) (fun c18 => ?_) (fun c18 => absurd c18 (by decide))
    refine lv_iconst (v := 0) hx hb dX12_settler_93 (by decide) ?_
    exact W.iret (v := 0) hx hb hr (fun t ht hW => ⟨⟨0, (), rfl, (by exact (rg_t (a := 0) (by decide) (by first | decide | omega) (by first | decide | omega))), by (try dsimp only); rw [ht]; exact ⟨hT, hF⟩⟩, hS.F ht⟩) hS.2.2 dX12_settler_94
  · have t19 : r2.toInt ≠ 0 := ti_ne c8 rfl (by decide)
    have t20 : (99 : Int32).toInt = 99 := by decide
    have t21 : (0 : Int32).toInt = 0 := by decide
    have t22 : (0 : Int32).toInt ≤ p0.toInt ∧ p0.toInt ≤ (99 : Int32).toInt := hi6 ((bit_of ⟨by omega, by omega⟩).resolve_left c8)
    refine lv_iload_n hx hb dX12_settler_16 rfl (lv_at hl 2 rfl) ?_
    refine lv_iconst (v := 0) hx hb dX12_settler_17 (by decide) ?_
    refine lv_bipush (v := 20) hx hb dX12_settler_18 (by decide) ?_
    have hFc := gA_free hG hA hS
    refine va_calli (va_runS (As := [.int p1, .int 0, .int 20]) (rest := [.ref o0]) ⟨hx, hb, hml, hown, hts⟩ (s_in l dC dI kA adK adV G H q wZ wN wH wB wC wL wK wU wV PI im PM PT lS lB lE lN p1 0 20 hT hgz hgn hgh hgb hgc hgi hgu) (va_cwS 3 hts (goodIn_app (goodIn_r _ [3, 4, 5] rfl (by decide +kernel)) (goodIn_ca (goodIn_r _ [2] rfl (by decide +kernel)) (bs_in _ _))) rfl rfl rfl (by decide +kernel) ⟨(Nat.le_of_ble_eq_true rfl), (Nat.le_of_ble_eq_true rfl)⟩) ⟨fun a U g mk q => by obtain ⟨q0, q1, qK, qE⟩ := q; exact ⟨q0, q1, va_K.moved (u := U) (U := U.calling g mk a) (Vm.Alike.refl U.vm) qK, EVS.blind g mk a qE⟩, fun U hU hW => ⟨rfl, hU, va_K.moved hW.alike hK, hE.call hS hFc hU hW⟩⟩ rfl rfl hl.1 rfl (lv_room (Nat.le_of_ble_eq_true rfl)) dX12_settler_20 ⟨(Nat.le_of_ble_eq_true rfl), (Nat.le_of_ble_eq_true rfl)⟩) hS (fun q _ h => hFc q h) hFc (fun r23 u t H locs ht hvm hw24 hB _ _ hS => ?_)
    obtain ⟨hT, hF1⟩ := hB
    rw [ht] at hT hF1
    have hF := hF.more hF1 (by decide)
    try dsimp only at hw24
    obtain ⟨h26, hi27, hi28⟩ := hw24
    refine lv_if_eq (tgt := 59) hx hb dX12_settler_23 (by decide) (fun c29 => ?_) (fun c29 => ?_)
    · have t30 : r23.toInt = 0 := ti_eq c29 rfl (by decide)
      have t31 : (20 : Int32).toInt = 20 := by decide
      have t32 : (0 : Int32).toInt = 0 := by decide
      have t33 : p1.toInt < (0 : Int32).toInt ∨ (20 : Int32).toInt < p1.toInt := hi28 c29
      refine lv_iconst (v := 1) hx hb dX12_settler_59 (by decide) ?_
      refine lv_goto (tgt := 64) hx hb dX12_settler_60 (by decide) ?_
      refine lv_iconst (v := 1) hx hb dX12_settler_64 (by decide) ?_
      have hFc := gA_free hG hA hS
      refine va_calli (va_runV (As := [.int 1, .int 1]) (rest := []) ⟨hx, hb, hml, hown, hts⟩ (s_throwsIf l dC dI kA adK adV G H q wZ wN wH wB wC wL wK wU wV PI im PM PT lS lB lE lN o0 1 1 hT hr_o0 (rg_t (a := 1) (by decide) (by first | decide | omega) (by first | decide | omega)) hgz hgn hgh hgb hgc hgi hgu) (cwV 2 hts (goodIn_app (goodIn_r _ [7, 8, 9, 5] rfl (by decide +kernel)) (goodIn_ca (goodIn_r _ [6, 1] rfl (by decide +kernel)) (bs_in _ _))) rfl rfl rfl (by decide +kernel) ⟨(Nat.le_of_ble_eq_true rfl), (Nat.le_of_ble_eq_true rfl)⟩) ⟨fun a U g mk q => by obtain ⟨q0, q1, qK, qE⟩ := q; exact ⟨q0, q1, va_K.moved (u := U) (U := U.calling g mk a) (Vm.Alike.refl U.vm) qK, EVS.blind g mk a qE⟩, gH_rc hK hT hr_o0 shm_0 rfl, fun U hU hW => ⟨rfl, hU, va_K.moved hW.alike hK, hE.call hS hFc hU hW⟩⟩ rfl rfl hl.1 rfl (lv_room (Nat.le_of_ble_eq_true rfl)) dX12_settler_65 ⟨(Nat.le_of_ble_eq_true rfl), (Nat.le_of_ble_eq_true rfl)⟩) hS (fun q _ h => hFc q h) hFc (fun r34 u t H locs ht hvm hw35 hB _ _ hS => ?_)
      obtain ⟨hT, hF1⟩ := hB
      rw [ht] at hT hF1
      have hF := hF.more hF1 (by decide)
      try dsimp only at hw35
      obtain ⟨h37, hd38⟩ := hw35
      obtain rfl : (1 : Int32) = r34 := hd38.symm
      refine lv_if_ne (tgt := 93) hx hb dX12_settler_68 (by decide) (fun c39 => ?_) (fun c39 => absurd c39 (by decide))
      refine lv_iconst (v := 0) hx hb dX12_settler_93 (by decide) ?_
      exact W.iret (v := 0) hx hb hr (fun t ht hW => ⟨⟨0, (), rfl, (by exact (rg_t (a := 0) (by decide) (by first | decide | omega) (by first | decide | omega))), by (try dsimp only); rw [ht]; exact ⟨hT, hF⟩⟩, hS.F ht⟩) hS.2.2 dX12_settler_94
    · have t40 : r23.toInt ≠ 0 := ti_ne c29 rfl (by decide)
      have t41 : (20 : Int32).toInt = 20 := by decide
      have t42 : (0 : Int32).toInt = 0 := by decide
      have t43 : (0 : Int32).toInt ≤ p1.toInt ∧ p1.toInt ≤ (20 : Int32).toInt := hi27 ((bit_of ⟨by omega, by omega⟩).resolve_left c29)
      refine lv_iload_n hx hb dX12_settler_26 rfl (lv_at hl 3 rfl) ?_
      refine lv_iconst (v := 0) hx hb dX12_settler_27 (by decide) ?_
      refine lv_ldc (v := 100000) hx hb hown (ht_at hts 9 rfl) dX12_settler_28 ?_
      have hFc := gA_free hG hA hS
      refine va_calli (va_runS (As := [.int p2, .int 0, .int 100000]) (rest := [.ref o0]) ⟨hx, hb, hml, hown, hts⟩ (s_in l dC dI kA adK adV G H q wZ wN wH wB wC wL wK wU wV PI im PM PT lS lB lE lN p2 0 100000 hT hgz hgn hgh hgb hgc hgi hgu) (va_cwS 3 hts (goodIn_app (goodIn_r _ [3, 4, 5] rfl (by decide +kernel)) (goodIn_ca (goodIn_r _ [2] rfl (by decide +kernel)) (bs_in _ _))) rfl rfl rfl (by decide +kernel) ⟨(Nat.le_of_ble_eq_true rfl), (Nat.le_of_ble_eq_true rfl)⟩) ⟨fun a U g mk q => by obtain ⟨q0, q1, qK, qE⟩ := q; exact ⟨q0, q1, va_K.moved (u := U) (U := U.calling g mk a) (Vm.Alike.refl U.vm) qK, EVS.blind g mk a qE⟩, fun U hU hW => ⟨rfl, hU, va_K.moved hW.alike hK, hE.call hS hFc hU hW⟩⟩ rfl rfl hl.1 rfl (lv_room (Nat.le_of_ble_eq_true rfl)) dX12_settler_30 ⟨(Nat.le_of_ble_eq_true rfl), (Nat.le_of_ble_eq_true rfl)⟩) hS (fun q _ h => hFc q h) hFc (fun r44 u t H locs ht hvm hw45 hB _ _ hS => ?_)
      obtain ⟨hT, hF1⟩ := hB
      rw [ht] at hT hF1
      have hF := hF.more hF1 (by decide)
      try dsimp only at hw45
      obtain ⟨h47, hi48, hi49⟩ := hw45
      refine lv_if_eq (tgt := 59) hx hb dX12_settler_33 (by decide) (fun c50 => ?_) (fun c50 => ?_)
      · have t51 : r44.toInt = 0 := ti_eq c50 rfl (by decide)
        have t52 : (100000 : Int32).toInt = 100000 := by decide
        have t53 : (0 : Int32).toInt = 0 := by decide
        have t54 : p2.toInt < (0 : Int32).toInt ∨ (100000 : Int32).toInt < p2.toInt := hi49 c50
        refine lv_iconst (v := 1) hx hb dX12_settler_59 (by decide) ?_
        refine lv_goto (tgt := 64) hx hb dX12_settler_60 (by decide) ?_
        refine lv_iconst (v := 1) hx hb dX12_settler_64 (by decide) ?_
        have hFc := gA_free hG hA hS
        refine va_calli (va_runV (As := [.int 1, .int 1]) (rest := []) ⟨hx, hb, hml, hown, hts⟩ (s_throwsIf l dC dI kA adK adV G H q wZ wN wH wB wC wL wK wU wV PI im PM PT lS lB lE lN o0 1 1 hT hr_o0 (rg_t (a := 1) (by decide) (by first | decide | omega) (by first | decide | omega)) hgz hgn hgh hgb hgc hgi hgu) (cwV 2 hts (goodIn_app (goodIn_r _ [7, 8, 9, 5] rfl (by decide +kernel)) (goodIn_ca (goodIn_r _ [6, 1] rfl (by decide +kernel)) (bs_in _ _))) rfl rfl rfl (by decide +kernel) ⟨(Nat.le_of_ble_eq_true rfl), (Nat.le_of_ble_eq_true rfl)⟩) ⟨fun a U g mk q => by obtain ⟨q0, q1, qK, qE⟩ := q; exact ⟨q0, q1, va_K.moved (u := U) (U := U.calling g mk a) (Vm.Alike.refl U.vm) qK, EVS.blind g mk a qE⟩, gH_rc hK hT hr_o0 shm_0 rfl, fun U hU hW => ⟨rfl, hU, va_K.moved hW.alike hK, hE.call hS hFc hU hW⟩⟩ rfl rfl hl.1 rfl (lv_room (Nat.le_of_ble_eq_true rfl)) dX12_settler_65 ⟨(Nat.le_of_ble_eq_true rfl), (Nat.le_of_ble_eq_true rfl)⟩) hS (fun q _ h => hFc q h) hFc (fun r55 u t H locs ht hvm hw56 hB _ _ hS => ?_)
        obtain ⟨hT, hF1⟩ := hB
        rw [ht] at hT hF1
        have hF := hF.more hF1 (by decide)
        try dsimp only at hw56
        obtain ⟨h58, hd59⟩ := hw56
        obtain rfl : (1 : Int32) = r55 := hd59.symm
        refine lv_if_ne (tgt := 93) hx hb dX12_settler_68 (by decide) (fun c60 => ?_) (fun c60 => absurd c60 (by decide))
        refine lv_iconst (v := 0) hx hb dX12_settler_93 (by decide) ?_
        exact W.iret (v := 0) hx hb hr (fun t ht hW => ⟨⟨0, (), rfl, (by exact (rg_t (a := 0) (by decide) (by first | decide | omega) (by first | decide | omega))), by (try dsimp only); rw [ht]; exact ⟨hT, hF⟩⟩, hS.F ht⟩) hS.2.2 dX12_settler_94
      · have t61 : r44.toInt ≠ 0 := ti_ne c50 rfl (by decide)
        have t62 : (100000 : Int32).toInt = 100000 := by decide
        have t63 : (0 : Int32).toInt = 0 := by decide
        have t64 : (0 : Int32).toInt ≤ p2.toInt ∧ p2.toInt ≤ (100000 : Int32).toInt := hi48 ((bit_of ⟨by omega, by omega⟩).resolve_left c50)
        refine lv_iload hx hb dX12_settler_36 (lv_at hl 4 rfl) ?_
        refine lv_iconst (v := 0) hx hb dX12_settler_38 (by decide) ?_
        refine lv_bipush (v := 100) hx hb dX12_settler_39 (by decide) ?_
        have hFc := gA_free hG hA hS
        refine va_calli (va_runS (As := [.int p3, .int 0, .int 100]) (rest := [.ref o0]) ⟨hx, hb, hml, hown, hts⟩ (s_in l dC dI kA adK adV G H q wZ wN wH wB wC wL wK wU wV PI im PM PT lS lB lE lN p3 0 100 hT hgz hgn hgh hgb hgc hgi hgu) (va_cwS 3 hts (goodIn_app (goodIn_r _ [3, 4, 5] rfl (by decide +kernel)) (goodIn_ca (goodIn_r _ [2] rfl (by decide +kernel)) (bs_in _ _))) rfl rfl rfl (by decide +kernel) ⟨(Nat.le_of_ble_eq_true rfl), (Nat.le_of_ble_eq_true rfl)⟩) ⟨fun a U g mk q => by obtain ⟨q0, q1, qK, qE⟩ := q; exact ⟨q0, q1, va_K.moved (u := U) (U := U.calling g mk a) (Vm.Alike.refl U.vm) qK, EVS.blind g mk a qE⟩, fun U hU hW => ⟨rfl, hU, va_K.moved hW.alike hK, hE.call hS hFc hU hW⟩⟩ rfl rfl hl.1 rfl (lv_room (Nat.le_of_ble_eq_true rfl)) dX12_settler_41 ⟨(Nat.le_of_ble_eq_true rfl), (Nat.le_of_ble_eq_true rfl)⟩) hS (fun q _ h => hFc q h) hFc (fun r65 u t H locs ht hvm hw66 hB _ _ hS => ?_)
        obtain ⟨hT, hF1⟩ := hB
        rw [ht] at hT hF1
        have hF := hF.more hF1 (by decide)
        try dsimp only at hw66
        obtain ⟨h68, hi69, hi70⟩ := hw66
        refine lv_if_eq (tgt := 59) hx hb dX12_settler_44 (by decide) (fun c71 => ?_) (fun c71 => ?_)
        · have t72 : r65.toInt = 0 := ti_eq c71 rfl (by decide)
          have t73 : (100 : Int32).toInt = 100 := by decide
          have t74 : (0 : Int32).toInt = 0 := by decide
          have t75 : p3.toInt < (0 : Int32).toInt ∨ (100 : Int32).toInt < p3.toInt := hi70 c71
          refine lv_iconst (v := 1) hx hb dX12_settler_59 (by decide) ?_
          refine lv_goto (tgt := 64) hx hb dX12_settler_60 (by decide) ?_
          refine lv_iconst (v := 1) hx hb dX12_settler_64 (by decide) ?_
          have hFc := gA_free hG hA hS
          refine va_calli (va_runV (As := [.int 1, .int 1]) (rest := []) ⟨hx, hb, hml, hown, hts⟩ (s_throwsIf l dC dI kA adK adV G H q wZ wN wH wB wC wL wK wU wV PI im PM PT lS lB lE lN o0 1 1 hT hr_o0 (rg_t (a := 1) (by decide) (by first | decide | omega) (by first | decide | omega)) hgz hgn hgh hgb hgc hgi hgu) (cwV 2 hts (goodIn_app (goodIn_r _ [7, 8, 9, 5] rfl (by decide +kernel)) (goodIn_ca (goodIn_r _ [6, 1] rfl (by decide +kernel)) (bs_in _ _))) rfl rfl rfl (by decide +kernel) ⟨(Nat.le_of_ble_eq_true rfl), (Nat.le_of_ble_eq_true rfl)⟩) ⟨fun a U g mk q => by obtain ⟨q0, q1, qK, qE⟩ := q; exact ⟨q0, q1, va_K.moved (u := U) (U := U.calling g mk a) (Vm.Alike.refl U.vm) qK, EVS.blind g mk a qE⟩, gH_rc hK hT hr_o0 shm_0 rfl, fun U hU hW => ⟨rfl, hU, va_K.moved hW.alike hK, hE.call hS hFc hU hW⟩⟩ rfl rfl hl.1 rfl (lv_room (Nat.le_of_ble_eq_true rfl)) dX12_settler_65 ⟨(Nat.le_of_ble_eq_true rfl), (Nat.le_of_ble_eq_true rfl)⟩) hS (fun q _ h => hFc q h) hFc (fun r76 u t H locs ht hvm hw77 hB _ _ hS => ?_)
          obtain ⟨hT, hF1⟩ := hB
          rw [ht] at hT hF1
          have hF := hF.more hF1 (by decide)
          try dsimp only at hw77
          obtain ⟨h79, hd80⟩ := hw77
          obtain rfl : (1 : Int32) = r76 := hd80.symm
          refine lv_if_ne (tgt := 93) hx hb dX12_settler_68 (by decide) (fun c81 => ?_) (fun c81 => absurd c81 (by decide))
          refine lv_iconst (v := 0) hx hb dX12_settler_93 (by decide) ?_
          exact W.iret (v := 0) hx hb hr (fun t ht hW => ⟨⟨0, (), rfl, (by exact (rg_t (a := 0) (by decide) (by first | decide | omega) (by first | decide | omega))), by (try dsimp only); rw [ht]; exact ⟨hT, hF⟩⟩, hS.F ht⟩) hS.2.2 dX12_settler_94
        · have t82 : r65.toInt ≠ 0 := ti_ne c71 rfl (by decide)
          have t83 : (100 : Int32).toInt = 100 := by decide
          have t84 : (0 : Int32).toInt = 0 := by decide
          have t85 : (0 : Int32).toInt ≤ p3.toInt ∧ p3.toInt ≤ (100 : Int32).toInt := hi69 ((bit_of ⟨by omega, by omega⟩).resolve_left c71)
          refine lv_iload hx hb dX12_settler_47 (lv_at hl 7 rfl) ?_
          refine lv_iconst (v := 0) hx hb dX12_settler_49 (by decide) ?_
          refine lv_ldcw (v := 999999) hx hb hown (ht_at hts 10 rfl) dX12_settler_50 ?_
          have hFc := gA_free hG hA hS
          refine va_calli (va_runS (As := [.int p6, .int 0, .int 999999]) (rest := [.ref o0]) ⟨hx, hb, hml, hown, hts⟩ (s_in l dC dI kA adK adV G H q wZ wN wH wB wC wL wK wU wV PI im PM PT lS lB lE lN p6 0 999999 hT hgz hgn hgh hgb hgc hgi hgu) (va_cwS 3 hts (goodIn_app (goodIn_r _ [3, 4, 5] rfl (by decide +kernel)) (goodIn_ca (goodIn_r _ [2] rfl (by decide +kernel)) (bs_in _ _))) rfl rfl rfl (by decide +kernel) ⟨(Nat.le_of_ble_eq_true rfl), (Nat.le_of_ble_eq_true rfl)⟩) ⟨fun a U g mk q => by obtain ⟨q0, q1, qK, qE⟩ := q; exact ⟨q0, q1, va_K.moved (u := U) (U := U.calling g mk a) (Vm.Alike.refl U.vm) qK, EVS.blind g mk a qE⟩, fun U hU hW => ⟨rfl, hU, va_K.moved hW.alike hK, hE.call hS hFc hU hW⟩⟩ rfl rfl hl.1 rfl (lv_room (Nat.le_of_ble_eq_true rfl)) dX12_settler_53 ⟨(Nat.le_of_ble_eq_true rfl), (Nat.le_of_ble_eq_true rfl)⟩) hS (fun q _ h => hFc q h) hFc (fun r86 u t H locs ht hvm hw87 hB _ _ hS => ?_)
          obtain ⟨hT, hF1⟩ := hB
          rw [ht] at hT hF1
          have hF := hF.more hF1 (by decide)
          try dsimp only at hw87
          obtain ⟨h89, hi90, hi91⟩ := hw87
          refine lv_if_ne (tgt := 63) hx hb dX12_settler_56 (by decide) (fun c92 => ?_) (fun c92 => ?_)
          · have t93 : r86.toInt ≠ 0 := ti_ne c92 rfl (by decide)
            have t94 : (999999 : Int32).toInt = 999999 := by decide
            have t95 : (0 : Int32).toInt = 0 := by decide
            have t96 : (0 : Int32).toInt ≤ p6.toInt ∧ p6.toInt ≤ (999999 : Int32).toInt := hi90 ((bit_of ⟨by omega, by omega⟩).resolve_left c92)
            refine lv_iconst (v := 0) hx hb dX12_settler_63 (by decide) ?_
            refine lv_iconst (v := 1) hx hb dX12_settler_64 (by decide) ?_
            have hFc := gA_free hG hA hS
            refine va_calli (va_runV (As := [.int 0, .int 1]) (rest := []) ⟨hx, hb, hml, hown, hts⟩ (s_throwsIf l dC dI kA adK adV G H q wZ wN wH wB wC wL wK wU wV PI im PM PT lS lB lE lN o0 0 1 hT hr_o0 (rg_t (a := 0) (by decide) (by first | decide | omega) (by first | decide | omega)) hgz hgn hgh hgb hgc hgi hgu) (cwV 2 hts (goodIn_app (goodIn_r _ [7, 8, 9, 5] rfl (by decide +kernel)) (goodIn_ca (goodIn_r _ [6, 1] rfl (by decide +kernel)) (bs_in _ _))) rfl rfl rfl (by decide +kernel) ⟨(Nat.le_of_ble_eq_true rfl), (Nat.le_of_ble_eq_true rfl)⟩) ⟨fun a U g mk q => by obtain ⟨q0, q1, qK, qE⟩ := q; exact ⟨q0, q1, va_K.moved (u := U) (U := U.calling g mk a) (Vm.Alike.refl U.vm) qK, EVS.blind g mk a qE⟩, gH_rc hK hT hr_o0 shm_0 rfl, fun U hU hW => ⟨rfl, hU, va_K.moved hW.alike hK, hE.call hS hFc hU hW⟩⟩ rfl rfl hl.1 rfl (lv_room (Nat.le_of_ble_eq_true rfl)) dX12_settler_65 ⟨(Nat.le_of_ble_eq_true rfl), (Nat.le_of_ble_eq_true rfl)⟩) hS (fun q _ h => hFc q h) hFc (fun r97 u t H locs ht hvm hw98 hB _ _ hS => ?_)
            obtain ⟨hT, hF1⟩ := hB
            rw [ht] at hT hF1
            have hF := hF.more hF1 (by decide)
            try dsimp only at hw98
            obtain ⟨h100, hd101⟩ := hw98
            obtain rfl : (0 : Int32) = r97 := hd101.symm
            refine lv_if_ne (tgt := 93) hx hb dX12_settler_68 (by decide) (fun c102 => absurd c102 (by decide)) (fun c102 => ?_)
            refine lv_aload_n hx hb dX12_settler_71 rfl (lv_at hl 0 rfl) ?_
            refine lv_aload_n hx hb dX12_settler_72 rfl (lv_at hl 0 rfl) ?_
            refine tw_get hx hb hts bF_X12 hown hK hT hr_o0 shm_0 rfl 42 (by decide) (ht_at hts 11 rfl) (fun _ h9 => h9) dX12_settler_73 (fun v9 m103 h9 => ?_)
            obtain ⟨x104, rfl, gx104, kx104⟩ := h9 _ rfl
            refine lv_bipush (v := 60) hx hb dX12_settler_76 (by decide) ?_
            refine lv_icmp_ne (tgt := 85) hx hb dX12_settler_78 (by decide) (fun c105 => ?_) (fun c105 => ?_)
            · have t106 : x104.toInt ≠ 60 := ti_ne c105 rfl (by decide)
              refine lv_iconst (v := 0) hx hb dX12_settler_85 (by decide) ?_
              refine lv_iconst (v := 2) hx hb dX12_settler_86 (by decide) ?_
              have hFc := gA_free hG hA hS
              refine va_calli (va_runV (As := [.int 0, .int 2]) (rest := []) ⟨hx, hb, hml, hown, hts⟩ (s_throwsIf l dC dI kA adK adV G H q wZ wN wH wB wC wL wK wU wV PI im PM PT lS lB lE lN o0 0 2 hT hr_o0 (rg_t (a := 0) (by decide) (by first | decide | omega) (by first | decide | omega)) hgz hgn hgh hgb hgc hgi hgu) (cwV 2 hts (goodIn_app (goodIn_r _ [7, 8, 9, 5] rfl (by decide +kernel)) (goodIn_ca (goodIn_r _ [6, 1] rfl (by decide +kernel)) (bs_in _ _))) rfl rfl rfl (by decide +kernel) ⟨(Nat.le_of_ble_eq_true rfl), (Nat.le_of_ble_eq_true rfl)⟩) ⟨fun a U g mk q => by obtain ⟨q0, q1, qK, qE⟩ := q; exact ⟨q0, q1, va_K.moved (u := U) (U := U.calling g mk a) (Vm.Alike.refl U.vm) qK, EVS.blind g mk a qE⟩, gH_rc hK hT hr_o0 shm_0 rfl, fun U hU hW => ⟨rfl, hU, va_K.moved hW.alike hK, hE.call hS hFc hU hW⟩⟩ rfl rfl hl.1 rfl (lv_room (Nat.le_of_ble_eq_true rfl)) dX12_settler_87 ⟨(Nat.le_of_ble_eq_true rfl), (Nat.le_of_ble_eq_true rfl)⟩) hS (fun q _ h => hFc q h) hFc (fun r107 u t H locs ht hvm hw108 hB _ _ hS => ?_)
              obtain ⟨hT, hF1⟩ := hB
              rw [ht] at hT hF1
              have m109 := (hF1.fld hr_o0 skm_0 (k := 42) (by decide) (by decide)).trans m103
              have hF := hF.more hF1 (by decide)
              try dsimp only at hw108
              obtain ⟨h110, hd111⟩ := hw108
              obtain rfl : (0 : Int32) = r107 := hd111.symm
              refine lv_if_eq (tgt := 95) hx hb dX12_settler_90 (by decide) (fun c112 => ?_) (fun c112 => absurd c112 (by decide))
              refine lv_aload_n hx hb dX12_settler_95 rfl (lv_at hl 0 rfl) ?_
              refine tw_getM (v := .int x104) hx hb hts bF_X12 hown hK hT hr_o0 shm_0 rfl 42 (by decide) (ht_at hts 11 rfl) (fun _ h9 => h9) m109 dX12_settler_96 ?_
              refine lv_istore (lv' := [(8, .int x104), (0, .ref o0), (1, .int p0), (2, .int p1), (3, .int p2), (4, .int p3), (5, .int p4), (6, .int p5), (7, .int p6)]) hx hb dX12_settler_99 hl (by decide) rfl (fun ls hl => ?_)
              refine lv_aload_n hx hb dX12_settler_101 rfl (lv_at hl 1 rfl) ?_
              refine lv_dup hx hb dX12_settler_102 rfl ?_
              refine tw_getM (v := .int x104) hx hb hts bF_X12 hown hK hT hr_o0 shm_0 rfl 42 (by decide) (ht_at hts 11 rfl) (fun _ h9 => h9) m109 dX12_settler_103 ?_
              refine lv_iconst (v := 1) hx hb dX12_settler_106 (by decide) ?_
              refine lv_iadd hx hb dX12_settler_107 ?_
              refine lv_topi (fun x113 ex113 => ?_)
              have t114 : x113.toInt = x104.toInt + 1 := ti_add ex113 rfl (by decide) (by omega) (by omega)
              refine tw_put (v := .int x113) (ty := .int) hx hb hts bF_X12 tyX12 tyX12_ok nmX12 hown hK hT hG hS hr_o0 shm_0 rfl 42 (by decide) (ht_at hts 11 rfl) (fun _ h9 => h9) rfl (by decide +kernel) rfl rfl (gl_at rfl (gi_of (show x113.toInt = x113.toInt from rfl) (by omega) (by omega))) dX12_settler_108 (fun H locs hT oq m115 oj hS => ?_)
              have hF := hF.put hr_o0 skm_0 oq oj (by decide)
              refine lv_aload_n hx hb dX12_settler_111 rfl (lv_at hl 1 rfl) ?_
              refine tw_get hx hb hts bF_X12 hown hK hT hr_o0 shm_0 rfl 31 (by decide) (ht_at hts 12 rfl) (fun _ h9 => h9) dX12_settler_112 (fun v9 m116 h9 => ?_)
              obtain ⟨rfl, hg117⟩ := h9 _ rfl
              refine lv_iload hx hb dX12_settler_115 (lv_at hl 0 rfl) ?_
              refine lv_iload_n hx hb dX12_settler_117 rfl (lv_at hl 2 rfl) ?_
              refine tw_iast (i := x104) (x := p0) hx hb hK hT hG hS hg117 shm_32 rfl (vin_t (a := x104.toInt) rfl (by omega) (by omega)) (gi_all _) dX12_settler_118 (fun H locs hT oq m118 oi hS => ?_)
              have hF := hF.ast hg117 skm_32 oq (by decide)
              refine lv_aload_n hx hb dX12_settler_119 rfl (lv_at hl 1 rfl) ?_
              refine tw_get hx hb hts bF_X12 hown hK hT hr_o0 shm_0 rfl 32 (by decide) (ht_at hts 13 rfl) (fun _ h9 => h9) dX12_settler_120 (fun v9 m120 h9 => ?_)
              obtain ⟨rfl, hg121⟩ := h9 _ rfl
              refine lv_iload hx hb dX12_settler_123 (lv_at hl 0 rfl) ?_
              refine lv_iload_n hx hb dX12_settler_125 rfl (lv_at hl 3 rfl) ?_
              refine tw_iast (i := x104) (x := p1) hx hb hK hT hG hS hg121 shm_33 rfl (vin_t (a := x104.toInt) rfl (by omega) (by omega)) (gi_all _) dX12_settler_126 (fun H locs hT oq m122 oi hS => ?_)
              have hF := hF.ast hg121 skm_33 oq (by decide)
              refine lv_aload_n hx hb dX12_settler_127 rfl (lv_at hl 1 rfl) ?_
              refine tw_get hx hb hts bF_X12 hown hK hT hr_o0 shm_0 rfl 33 (by decide) (ht_at hts 14 rfl) (fun _ h9 => h9) dX12_settler_128 (fun v9 m125 h9 => ?_)
              obtain ⟨rfl, hg126⟩ := h9 _ rfl
              refine lv_iload hx hb dX12_settler_131 (lv_at hl 0 rfl) ?_
              refine lv_iload_n hx hb dX12_settler_133 rfl (lv_at hl 4 rfl) ?_
              refine tw_iast (i := x104) (x := p2) hx hb hK hT hG hS hg126 shm_34 rfl (vin_t (a := x104.toInt) rfl (by omega) (by omega)) (gi_all _) dX12_settler_134 (fun H locs hT oq m127 oi hS => ?_)
              have hF := hF.ast hg126 skm_34 oq (by decide)
              refine lv_aload_n hx hb dX12_settler_135 rfl (lv_at hl 1 rfl) ?_
              refine tw_get hx hb hts bF_X12 hown hK hT hr_o0 shm_0 rfl 34 (by decide) (ht_at hts 15 rfl) (fun _ h9 => h9) dX12_settler_136 (fun v9 m131 h9 => ?_)
              obtain ⟨rfl, hg132⟩ := h9 _ rfl
              refine lv_iload hx hb dX12_settler_139 (lv_at hl 0 rfl) ?_
              refine lv_iload hx hb dX12_settler_141 (lv_at hl 5 rfl) ?_
              refine tw_iast (i := x104) (x := p3) hx hb hK hT hG hS hg132 shm_35 rfl (vin_t (a := x104.toInt) rfl (by omega) (by omega)) (gi_all _) dX12_settler_143 (fun H locs hT oq m133 oi hS => ?_)
              have hF := hF.ast hg132 skm_35 oq (by decide)
              refine lv_aload_n hx hb dX12_settler_144 rfl (lv_at hl 1 rfl) ?_
              refine tw_get hx hb hts bF_X12 hown hK hT hr_o0 shm_0 rfl 35 (by decide) (ht_at hts 16 rfl) (fun _ h9 => h9) dX12_settler_145 (fun v9 m138 h9 => ?_)
              obtain ⟨rfl, hg139⟩ := h9 _ rfl
              refine lv_iload hx hb dX12_settler_148 (lv_at hl 0 rfl) ?_
              refine lv_iload hx hb dX12_settler_150 (lv_at hl 6 rfl) ?_
              refine tw_zast (i := x104) (x := p4) hx hb hK hT hG hS hg139 shm_36 rfl (vin_t (a := x104.toInt) rfl (by omega) (by omega)) (gi_z (by have q8 := ti_all p4; omega) (by decide) (by decide)) dX12_settler_152 (fun H locs hT oq m140 oi hS => ?_)
              have hF := hF.ast hg139 skm_36 oq (by decide)
              refine lv_aload_n hx hb dX12_settler_153 rfl (lv_at hl 1 rfl) ?_
              refine tw_get hx hb hts bF_X12 hown hK hT hr_o0 shm_0 rfl 36 (by decide) (ht_at hts 17 rfl) (fun _ h9 => h9) dX12_settler_154 (fun v9 m146 h9 => ?_)
              obtain ⟨rfl, hg147⟩ := h9 _ rfl
              refine lv_iload hx hb dX12_settler_157 (lv_at hl 0 rfl) ?_
              refine lv_iload hx hb dX12_settler_159 (lv_at hl 7 rfl) ?_
              refine tw_zast (i := x104) (x := p5) hx hb hK hT hG hS hg147 shm_37 rfl (vin_t (a := x104.toInt) rfl (by omega) (by omega)) (gi_z (by have q8 := ti_all p5; omega) (by decide) (by decide)) dX12_settler_161 (fun H locs hT oq m148 oi hS => ?_)
              have hF := hF.ast hg147 skm_37 oq (by decide)
              refine lv_aload_n hx hb dX12_settler_162 rfl (lv_at hl 1 rfl) ?_
              refine tw_get hx hb hts bF_X12 hown hK hT hr_o0 shm_0 rfl 37 (by decide) (ht_at hts 18 rfl) (fun _ h9 => h9) dX12_settler_163 (fun v9 m154 h9 => ?_)
              obtain ⟨rfl, hg155⟩ := h9 _ rfl
              refine lv_iload hx hb dX12_settler_166 (lv_at hl 0 rfl) ?_
              refine lv_iload hx hb dX12_settler_168 (lv_at hl 8 rfl) ?_
              refine tw_iast (i := x104) (x := p6) hx hb hK hT hG hS hg155 shm_38 rfl (vin_t (a := x104.toInt) rfl (by omega) (by omega)) (gi_all _) dX12_settler_170 (fun H locs hT oq m156 oi hS => ?_)
              have hF := hF.ast hg155 skm_38 oq (by decide)
              refine lv_aload_n hx hb dX12_settler_171 rfl (lv_at hl 1 rfl) ?_
              refine tw_get hx hb hts bF_X12 hown hK hT hr_o0 shm_0 rfl 38 (by decide) (ht_at hts 19 rfl) (fun _ h9 => h9) dX12_settler_172 (fun v9 m162 h9 => ?_)
              obtain ⟨rfl, hg163⟩ := h9 _ rfl
              refine lv_iload hx hb dX12_settler_175 (lv_at hl 0 rfl) ?_
              refine lv_iconst (v := (-1)) hx hb dX12_settler_177 (by decide) ?_
              refine tw_iast (i := x104) (x := (-1)) hx hb hK hT hG hS hg163 shm_39 rfl (vin_t (a := x104.toInt) rfl (by omega) (by omega)) (gi_of (show (-1 : Int32).toInt = (-1) from (by decide)) (by first | decide | omega) (by first | decide | omega)) dX12_settler_178 (fun H locs hT oq m164 oi hS => ?_)
              have hF := hF.ast hg163 skm_39 oq (by decide)
              refine lv_iload hx hb dX12_settler_179 (lv_at hl 0 rfl) ?_
              exact W.iret (v := x104) hx hb hr (fun t ht hW => ⟨⟨x104, (), rfl, (by exact (by have q8 := ti_all x104; omega)), by (try dsimp only); rw [ht]; exact ⟨hT, hF⟩⟩, hS.F ht⟩) hS.2.2 dX12_settler_181
            · have t171 : x104.toInt = 60 := ti_eq c105 rfl (by decide)
              refine lv_iconst (v := 1) hx hb dX12_settler_81 (by decide) ?_
              refine lv_goto (tgt := 86) hx hb dX12_settler_82 (by decide) ?_
              refine lv_iconst (v := 2) hx hb dX12_settler_86 (by decide) ?_
              have hFc := gA_free hG hA hS
              refine va_calli (va_runV (As := [.int 1, .int 2]) (rest := []) ⟨hx, hb, hml, hown, hts⟩ (s_throwsIf l dC dI kA adK adV G H q wZ wN wH wB wC wL wK wU wV PI im PM PT lS lB lE lN o0 1 2 hT hr_o0 (rg_t (a := 1) (by decide) (by first | decide | omega) (by first | decide | omega)) hgz hgn hgh hgb hgc hgi hgu) (cwV 2 hts (goodIn_app (goodIn_r _ [7, 8, 9, 5] rfl (by decide +kernel)) (goodIn_ca (goodIn_r _ [6, 1] rfl (by decide +kernel)) (bs_in _ _))) rfl rfl rfl (by decide +kernel) ⟨(Nat.le_of_ble_eq_true rfl), (Nat.le_of_ble_eq_true rfl)⟩) ⟨fun a U g mk q => by obtain ⟨q0, q1, qK, qE⟩ := q; exact ⟨q0, q1, va_K.moved (u := U) (U := U.calling g mk a) (Vm.Alike.refl U.vm) qK, EVS.blind g mk a qE⟩, gH_rc hK hT hr_o0 shm_0 rfl, fun U hU hW => ⟨rfl, hU, va_K.moved hW.alike hK, hE.call hS hFc hU hW⟩⟩ rfl rfl hl.1 rfl (lv_room (Nat.le_of_ble_eq_true rfl)) dX12_settler_87 ⟨(Nat.le_of_ble_eq_true rfl), (Nat.le_of_ble_eq_true rfl)⟩) hS (fun q _ h => hFc q h) hFc (fun r172 u t H locs ht hvm hw173 hB _ _ hS => ?_)
              obtain ⟨hT, hF1⟩ := hB
              rw [ht] at hT hF1
              have hF := hF.more hF1 (by decide)
              try dsimp only at hw173
              obtain ⟨h175, hd176⟩ := hw173
              obtain rfl : (1 : Int32) = r172 := hd176.symm
              refine lv_if_eq (tgt := 95) hx hb dX12_settler_90 (by decide) (fun c177 => absurd c177 (by decide)) (fun c177 => ?_)
              refine lv_iconst (v := 0) hx hb dX12_settler_93 (by decide) ?_
              exact W.iret (v := 0) hx hb hr (fun t ht hW => ⟨⟨0, (), rfl, (by exact (rg_t (a := 0) (by decide) (by first | decide | omega) (by first | decide | omega))), by (try dsimp only); rw [ht]; exact ⟨hT, hF⟩⟩, hS.F ht⟩) hS.2.2 dX12_settler_94
          · have t178 : r86.toInt = 0 := ti_eq c92 rfl (by decide)
            have t179 : (999999 : Int32).toInt = 999999 := by decide
            have t180 : (0 : Int32).toInt = 0 := by decide
            have t181 : p6.toInt < (0 : Int32).toInt ∨ (999999 : Int32).toInt < p6.toInt := hi91 c92
            refine lv_iconst (v := 1) hx hb dX12_settler_59 (by decide) ?_
            refine lv_goto (tgt := 64) hx hb dX12_settler_60 (by decide) ?_
            refine lv_iconst (v := 1) hx hb dX12_settler_64 (by decide) ?_
            have hFc := gA_free hG hA hS
            refine va_calli (va_runV (As := [.int 1, .int 1]) (rest := []) ⟨hx, hb, hml, hown, hts⟩ (s_throwsIf l dC dI kA adK adV G H q wZ wN wH wB wC wL wK wU wV PI im PM PT lS lB lE lN o0 1 1 hT hr_o0 (rg_t (a := 1) (by decide) (by first | decide | omega) (by first | decide | omega)) hgz hgn hgh hgb hgc hgi hgu) (cwV 2 hts (goodIn_app (goodIn_r _ [7, 8, 9, 5] rfl (by decide +kernel)) (goodIn_ca (goodIn_r _ [6, 1] rfl (by decide +kernel)) (bs_in _ _))) rfl rfl rfl (by decide +kernel) ⟨(Nat.le_of_ble_eq_true rfl), (Nat.le_of_ble_eq_true rfl)⟩) ⟨fun a U g mk q => by obtain ⟨q0, q1, qK, qE⟩ := q; exact ⟨q0, q1, va_K.moved (u := U) (U := U.calling g mk a) (Vm.Alike.refl U.vm) qK, EVS.blind g mk a qE⟩, gH_rc hK hT hr_o0 shm_0 rfl, fun U hU hW => ⟨rfl, hU, va_K.moved hW.alike hK, hE.call hS hFc hU hW⟩⟩ rfl rfl hl.1 rfl (lv_room (Nat.le_of_ble_eq_true rfl)) dX12_settler_65 ⟨(Nat.le_of_ble_eq_true rfl), (Nat.le_of_ble_eq_true rfl)⟩) hS (fun q _ h => hFc q h) hFc (fun r182 u t H locs ht hvm hw183 hB _ _ hS => ?_)
            obtain ⟨hT, hF1⟩ := hB
            rw [ht] at hT hF1
            have hF := hF.more hF1 (by decide)
            try dsimp only at hw183
            obtain ⟨h185, hd186⟩ := hw183
            obtain rfl : (1 : Int32) = r182 := hd186.symm
            refine lv_if_ne (tgt := 93) hx hb dX12_settler_68 (by decide) (fun c187 => ?_) (fun c187 => absurd c187 (by decide))
            refine lv_iconst (v := 0) hx hb dX12_settler_93 (by decide) ?_
            exact W.iret (v := 0) hx hb hr (fun t ht hW => ⟨⟨0, (), rfl, (by exact (rg_t (a := 0) (by decide) (by first | decide | omega) (by first | decide | omega))), by (try dsimp only); rw [ht]; exact ⟨hT, hF⟩⟩, hS.F ht⟩) hS.2.2 dX12_settler_94
def w_s_who : List Cond := .code yX12_who cX12_who 3 (some .int) :: (HAppend.hAppend (α := List Cond) (β := List Cond) (γ := List Cond) [.fieldLink RX12 194 "SeaLandModel" "thrown" "I", .code yX12_nobody cX12_nobody 2 (some .boolean), .fieldLink RX12 495 "SeaLandModel" "settlers" "I", .code yX12_in cX12_in 3 (some .boolean), .methodLink RX12 197 yX12_in, .static yX12_in, .initialized RX12, .methodLink RX12 486 yX12_nobody, .instanceMethod yX12_nobody, .selects RX12 yX12_nobody yX12_nobody, .code yX12_throwsIf cX12_throwsIf 3 (some .boolean), .methodLink RX12 224 yX12_throwsIf, .instanceMethod yX12_throwsIf, .selects RX12 yX12_throwsIf yX12_throwsIf, .fieldLink RX12 101 "SeaLandModel" "holds" "[I", .fieldLink RX12 85 "SeaLandModel" "coin" "[I", .fieldLink RX12 104 "SeaLandModel" "gain" "[I", .fieldLink RX12 107 "SeaLandModel" "owes" "[I", .code yX12_acres cX12_acres 4 (some .int), .fieldLink RX12 113 "SeaLandModel" "farmFrom" "[I", .fieldLink RX12 116 "SeaLandModel" "farmTo" "[I", .code yX12_isIn cX12_isIn 5 (some .boolean), .methodLink RX12 207 Lib.Math.min.name, .static Lib.Math.min.name, .initialized "java/lang/Math", .code Lib.Math.min.name Lib.Math.min.code 2 (some .int), .methodLink RX12 211 Lib.Math.max.name, .static Lib.Math.max.name, .code Lib.Math.max.name Lib.Math.max.code 2 (some .int), .methodLink RX12 232 yX12_isIn, .static yX12_isIn, .methodLink RX12 467 yX12_acres, .instanceMethod yX12_acres, .selects RX12 yX12_acres yX12_acres, .code yX12_near cX12_near 5 (some .int), .fieldLink RX12 9 "SeaLandModel" "world" "[I", .code yX12_isDike cX12_isDike 2 (some .boolean), .code yX12_of cX12_of 3 (some .int), .code yX12_at cX12_at 2 (some .int), .methodLink RX12 214 yX12_at, .static yX12_at, .methodLink RX12 217 yX12_of, .instanceMethod yX12_of, .selects RX12 yX12_of yX12_of, .methodLink RX12 272 yX12_isDike, .instanceMethod yX12_isDike, .selects RX12 yX12_isDike yX12_isDike, .code yX12_steps cX12_steps 2 (some .int), .methodLink RX12 201 Lib.Math.abs.name, .static Lib.Math.abs.name, .code Lib.Math.abs.name Lib.Math.abs.code 1 (some .int), .methodLink RX12 262 yX12_steps, .static yX12_steps, .methodLink RX12 469 yX12_near, .instanceMethod yX12_near, .selects RX12 yX12_near yX12_near] bs)
set_option maxHeartbeats 4000000 in
set_option maxRecDepth 100000 in
theorem s_who (l : Launch) (dC : Nat → ClassId) (dI : Nat → Nat → Nat) (kA : Nat → ClassId) (adK adV : Nat → Nat) (G : gT) (H0 : Heap) (q : Nat → Nat) (wZ wN : Nat → Int) (wH wB wC : Int) (wL wK : Nat → Prop) (wU wV : Nat → Nat) (PI : Nat → Int → Prop) (im : Int) (PM PT : Nat → Int → Prop) (lS lB lE : Nat → Nat → Int → Prop) (lN : Nat → Int) (o0 : Nat) (p0 : Int32) (p1 : Int32)  (hT : gH (dC, dI) kA (SHm q (wP wZ wN wH wB wC wL wK wU wV) PI im PM PT lS lB lE lN) G H0) (hr_o0 : G o0 = some 0) (hgz : ∀ i, 0 ≤ wZ i) (hgn : ∀ i, 6500000 ≤ wN i ∧ wN i ≤ 20200000) (hgh : 0 ≤ wH ∧ wH ≤ 40000) (hgb : 0 ≤ wB ∧ wB ≤ 3850000) (hgc : 0 ≤ wC ∧ wC ≤ 30) (hgi : 0 ≤ im ∧ im ≤ 1) (hgu : ∀ a t, G a = some (t + 1) → a = q t) : Met l yX12_who w_s_who ({ frames := 4, cells := 0, slots := 0, locals := 88 }) (va_Pc [.ref o0, .int p0, .int p1] (fun U => U.heap = H0 ∧ va_K (dC, dI) vwCl (tyl kA) U ∧ EVS adK adV (gA G H0.size) U U.heap)) (va_Qi (fun (r : Int32) (u : Unit) => True) (fun (_ : Unit) (t : State) => gH (dC, dI) kA (SHm q (wP wZ wN wH wB wC wL wK wU wV) PI im PM PT lS lB lE lN) G t.heap ∧ gF (dC, dI) SKm G ([(0, 0)] : List (Nat × Nat)) H0 t.heap) (gA G H0.size)) 0 0 (gA G H0.size) := by
  refine Met.ofW (cc := cX12_who) (maxL := 3) (ret := (some .int)) (by decide) rfl ?_
  intro p e s m args below meth c s₁ B hml hv
  obtain ⟨rfl, hH0, hK, hE⟩ := hv
  have hx := B.exec
  have hb := B.bytes
  have hr := B.returns
  have hts := atoms_spec (ws := w_s_who) B.pre
  have hown : s.vm.findClass RX12 = some m.cls := findClass_of_methodNamed B.named
  have hlocks := B.notSynchronized
  subst hH0
  generalize hAe : gA G s.heap.size = A at hE ⊢
  have hA : ∀ q : Nat, s.heap.size ≤ q → A q := fun q h => by rw [← hAe]; exact Or.inr h
  have hG := gA_of hAe
  have hS : va_S A s.heap s.heap [] := va_S.rf
  have hF : gF (dC, dI) SKm G ([(0, 0)] : List (Nat × Nat)) s.heap s.heap := gF.rf
  have hl := lv_entry ([.ref o0, .int p0, .int p1]) (n := 3) (Nat.le_of_ble_eq_true rfl)
  rw [lg_entry_eq]
  generalize (lg_sl ([.ref o0, .int p0, .int p1]) ++ List.replicate (3 - (lg_sl ([.ref o0, .int p0, .int p1])).length) Slot.unset).toArray = ls at hl ⊢
  have hl : lv_has ls 3 [(0, .ref o0), (1, .int p0), (2, .int p1)] := hl
  refine lv_aload_n hx hb dX12_who_0 rfl (lv_at hl 0 rfl) ?_
  refine lv_iconst (v := 0) hx hb dX12_who_1 (by decide) ?_
  refine tw_put (v := .int 0) (ty := .int) hx hb hts bF_X12 tyX12 tyX12_ok nmX12 hown hK hT hG hS hr_o0 shm_0 rfl 0 (by decide) (ht_at hts 0 rfl) (fun _ h9 => h9) rfl (by decide +kernel) rfl rfl (gl_at rfl (gi_all _)) dX12_who_2 (fun H locs hT oq m1 oj hS => ?_)
  have hF := hF.put hr_o0 skm_0 oq oj (by decide)
  refine lv_aload_n hx hb dX12_who_5 rfl (lv_at hl 0 rfl) ?_
  refine lv_aload_n hx hb dX12_who_6 rfl (lv_at hl 0 rfl) ?_
  refine lv_iload_n hx hb dX12_who_7 rfl (lv_at hl 1 rfl) ?_
  have hFc := gA_free hG hA hS
  refine va_calli (va_runV (As := [.int p0]) (rest := [.ref o0]) ⟨hx, hb, hml, hown, hts⟩ (s_nobody l dC dI kA adK adV G H q wZ wN wH wB wC wL wK wU wV PI im PM PT lS lB lE lN o0 p0 hT hr_o0 hgz hgn hgh hgb hgc hgi hgu) (cwV 1 hts (goodIn_app (goodIn_r _ [8, 9, 10, 7] rfl (by decide +kernel)) (goodIn_ca (goodIn_r _ [2, 3, 4, 5, 6, 7] rfl (by decide +kernel)) (bs_in _ _))) rfl rfl rfl (by decide +kernel) ⟨(Nat.le_of_ble_eq_true rfl), (Nat.le_of_ble_eq_true rfl)⟩) ⟨fun a U g mk q => by obtain ⟨q0, q1, qK, qE⟩ := q; exact ⟨q0, q1, va_K.moved (u := U) (U := U.calling g mk a) (Vm.Alike.refl U.vm) qK, EVS.blind g mk a qE⟩, gH_rc hK hT hr_o0 shm_0 rfl, fun U hU hW => ⟨rfl, hU, va_K.moved hW.alike hK, hE.call hS hFc hU hW⟩⟩ rfl rfl hl.1 rfl (lv_room (Nat.le_of_ble_eq_true rfl)) dX12_who_8 ⟨(Nat.le_of_ble_eq_true rfl), (Nat.le_of_ble_eq_true rfl)⟩) hS (fun q _ h => hFc q h) hFc (fun r2 u t H locs ht hvm hw3 hB _ _ hS => ?_)
  obtain ⟨hT, hF1⟩ := hB
  rw [ht] at hT hF1
  have hF := hF.more hF1 (by decide)
  try dsimp only at hw3
  obtain ⟨h5, hi6⟩ := hw3
  refine lv_iconst (v := 1) hx hb dX12_who_11 (by decide) ?_
  have hFc := gA_free hG hA hS
  refine va_calli (va_runV (As := [.int r2, .int 1]) (rest := []) ⟨hx, hb, hml, hown, hts⟩ (s_throwsIf l dC dI kA adK adV G H q wZ wN wH wB wC wL wK wU wV PI im PM PT lS lB lE lN o0 r2 1 hT hr_o0 (by have q8 := ti_all r2; omega) hgz hgn hgh hgb hgc hgi hgu) (cwV 2 hts (goodIn_app (goodIn_r _ [12, 13, 14, 7] rfl (by decide +kernel)) (goodIn_ca (goodIn_r _ [11, 1] rfl (by decide +kernel)) (bs_in _ _))) rfl rfl rfl (by decide +kernel) ⟨(Nat.le_of_ble_eq_true rfl), (Nat.le_of_ble_eq_true rfl)⟩) ⟨fun a U g mk q => by obtain ⟨q0, q1, qK, qE⟩ := q; exact ⟨q0, q1, va_K.moved (u := U) (U := U.calling g mk a) (Vm.Alike.refl U.vm) qK, EVS.blind g mk a qE⟩, gH_rc hK hT hr_o0 shm_0 rfl, fun U hU hW => ⟨rfl, hU, va_K.moved hW.alike hK, hE.call hS hFc hU hW⟩⟩ rfl rfl hl.1 rfl (lv_room (Nat.le_of_ble_eq_true rfl)) dX12_who_12 ⟨(Nat.le_of_ble_eq_true rfl), (Nat.le_of_ble_eq_true rfl)⟩) hS (fun q _ h => hFc q h) hFc (fun r7 u t H locs ht hvm hw8 hB _ _ hS => ?_)
  obtain ⟨hT, hF1⟩ := hB
  rw [ht] at hT hF1
  have hF := hF.more hF1 (by decide)
  try dsimp only at hw8
  obtain ⟨h10, hd11⟩ := hw8
  obtain rfl : r2 = r7 := hd11.symm
  refine lv_if_eq (tgt := 20) hx hb dX12_who_15 (by decide) (fun c12 => ?_) (fun c12 => ?_)
  · have t13 : r2.toInt = 0 := ti_eq c12 rfl (by decide)
    have t14 : 0 ≤ p0.toInt ∧ p0.toInt ≤ 59 := hi6 c12
    refine lv_iload_n hx hb dX12_who_20 rfl (lv_at hl 2 rfl) ?_
    by_cases hs15 : p1 = 0
    · subst hs15
      refine lv_tableIn (x := 0) (off := 39) (tgt := 60) hx hb dX12_who_21 (by decide) (by decide) (by decide) (by decide) ?_
      refine lv_aload_n hx hb dX12_who_60 rfl (lv_at hl 0 rfl) ?_
      refine tw_get hx hb hts bF_X12 hown hK hT hr_o0 shm_0 rfl 38 (by decide) (ht_at hts 14 rfl) (fun _ h9 => h9) dX12_who_61 (fun v9 m16 h9 => ?_)
      obtain ⟨rfl, hg17⟩ := h9 _ rfl
      refine lv_iload_n hx hb dX12_who_64 rfl (lv_at hl 1 rfl) ?_
      refine tw_iald (i := p0) hx hb hK hT hg17 shm_39 rfl (vin_t (a := p0.toInt) rfl (by omega) (by omega)) dX12_who_65 (fun v9 m18 h9 => ?_)
      obtain ⟨x19, rfl, gx19, kx19⟩ := h9
      exact W.iret (v := x19) hx hb hr (fun t ht hW => ⟨⟨x19, (), rfl, (by exact trivial), by (try dsimp only); rw [ht]; exact ⟨hT, hF⟩⟩, hS.F ht⟩) hS.2.2 dX12_who_66
    by_cases hs20 : p1 = 1
    · subst hs20
      refine lv_tableIn (x := 1) (off := 46) (tgt := 67) hx hb dX12_who_21 (by decide) (by decide) (by decide) (by decide) ?_
      refine lv_aload_n hx hb dX12_who_67 rfl (lv_at hl 0 rfl) ?_
      refine tw_get hx hb hts bF_X12 hown hK hT hr_o0 shm_0 rfl 33 (by decide) (ht_at hts 15 rfl) (fun _ h9 => h9) dX12_who_68 (fun v9 m21 h9 => ?_)
      obtain ⟨rfl, hg22⟩ := h9 _ rfl
      refine lv_iload_n hx hb dX12_who_71 rfl (lv_at hl 1 rfl) ?_
      refine tw_iald (i := p0) hx hb hK hT hg22 shm_34 rfl (vin_t (a := p0.toInt) rfl (by omega) (by omega)) dX12_who_72 (fun v9 m23 h9 => ?_)
      obtain ⟨x24, rfl, gx24, kx24⟩ := h9
      exact W.iret (v := x24) hx hb hr (fun t ht hW => ⟨⟨x24, (), rfl, (by exact trivial), by (try dsimp only); rw [ht]; exact ⟨hT, hF⟩⟩, hS.F ht⟩) hS.2.2 dX12_who_73
    by_cases hs25 : p1 = 2
    · subst hs25
      refine lv_tableIn (x := 2) (off := 53) (tgt := 74) hx hb dX12_who_21 (by decide) (by decide) (by decide) (by decide) ?_
      refine lv_aload_n hx hb dX12_who_74 rfl (lv_at hl 0 rfl) ?_
      refine tw_get hx hb hts bF_X12 hown hK hT hr_o0 shm_0 rfl 39 (by decide) (ht_at hts 16 rfl) (fun _ h9 => h9) dX12_who_75 (fun v9 m26 h9 => ?_)
      obtain ⟨rfl, hg27⟩ := h9 _ rfl
      refine lv_iload_n hx hb dX12_who_78 rfl (lv_at hl 1 rfl) ?_
      refine tw_iald (i := p0) hx hb hK hT hg27 shm_40 rfl (vin_t (a := p0.toInt) rfl (by omega) (by omega)) dX12_who_79 (fun v9 m28 h9 => ?_)
      obtain ⟨x29, rfl, gx29, kx29⟩ := h9
      exact W.iret (v := x29) hx hb hr (fun t ht hW => ⟨⟨x29, (), rfl, (by exact trivial), by (try dsimp only); rw [ht]; exact ⟨hT, hF⟩⟩, hS.F ht⟩) hS.2.2 dX12_who_80
    by_cases hs30 : p1 = 3
    · subst hs30
      refine lv_tableIn (x := 3) (off := 60) (tgt := 81) hx hb dX12_who_21 (by decide) (by decide) (by decide) (by decide) ?_
      refine lv_aload_n hx hb dX12_who_81 rfl (lv_at hl 0 rfl) ?_
      refine tw_get hx hb hts bF_X12 hown hK hT hr_o0 shm_0 rfl 40 (by decide) (ht_at hts 17 rfl) (fun _ h9 => h9) dX12_who_82 (fun v9 m31 h9 => ?_)
      obtain ⟨rfl, hg32⟩ := h9 _ rfl
      refine lv_iload_n hx hb dX12_who_85 rfl (lv_at hl 1 rfl) ?_
      refine tw_iald (i := p0) hx hb hK hT hg32 shm_41 rfl (vin_t (a := p0.toInt) rfl (by omega) (by omega)) dX12_who_86 (fun v9 m33 h9 => ?_)
      obtain ⟨x34, rfl, gx34, kx34⟩ := h9
      exact W.iret (v := x34) hx hb hr (fun t ht hW => ⟨⟨x34, (), rfl, (by exact trivial), by (try dsimp only); rw [ht]; exact ⟨hT, hF⟩⟩, hS.F ht⟩) hS.2.2 dX12_who_87
    by_cases hs35 : p1 = 4
    · subst hs35
      refine lv_tableIn (x := 4) (off := 67) (tgt := 88) hx hb dX12_who_21 (by decide) (by decide) (by decide) (by decide) ?_
      refine lv_aload_n hx hb dX12_who_88 rfl (lv_at hl 0 rfl) ?_
      refine lv_iload_n hx hb dX12_who_89 rfl (lv_at hl 1 rfl) ?_
      have hFc := gA_free hG hA hS
      refine va_calli (va_runV (As := [.int p0]) (rest := []) ⟨hx, hb, hml, hown, hts⟩ (s_acres l dC dI kA adK adV G H q wZ wN wH wB wC wL wK wU wV PI im PM PT lS lB lE lN o0 p0 hT hr_o0 (by have q8 := ti_all p0; omega) hgz hgn hgh hgb hgc hgi hgu) (cwV 1 hts (goodIn_app (goodIn_r _ [32, 33, 34, 7] rfl (by decide +kernel)) (goodIn_ca (goodIn_r _ [19, 15, 20, 21, 22, 23, 24, 25, 26, 27, 28, 29, 4, 5, 6, 7, 30, 31] rfl (by decide +kernel)) (bs_in _ _))) rfl rfl rfl (by decide +kernel) ⟨(Nat.le_of_ble_eq_true rfl), (Nat.le_of_ble_eq_true rfl)⟩) ⟨fun a U g mk q => by obtain ⟨q0, q1, qK, qE⟩ := q; exact ⟨q0, q1, va_K.moved (u := U) (U := U.calling g mk a) (Vm.Alike.refl U.vm) qK, EVS.blind g mk a qE⟩, gH_rc hK hT hr_o0 shm_0 rfl, fun U hU hW => ⟨rfl, hU, va_K.moved hW.alike hK, hE.call hS hFc hU hW⟩⟩ rfl rfl hl.1 rfl (lv_room (Nat.le_of_ble_eq_true rfl)) dX12_who_90 ⟨(Nat.le_of_ble_eq_true rfl), (Nat.le_of_ble_eq_true rfl)⟩) hS (fun q _ h => hFc q h) hFc (fun r36 u t H locs ht hvm hw37 hB _ _ hS => ?_)
      obtain ⟨hT, hF1⟩ := hB
      rw [ht] at hT hF1
      have hF := hF.more hF1 (by decide)
      try dsimp only at hw37
      exact W.iret (v := r36) hx hb hr (fun t ht hW => ⟨⟨r36, (), rfl, (by exact trivial), by (try dsimp only); rw [ht]; exact ⟨hT, hF⟩⟩, hS.F ht⟩) hS.2.2 dX12_who_93
    by_cases hs38 : p1 = 5
    · subst hs38
      refine lv_tableIn (x := 5) (off := 73) (tgt := 94) hx hb dX12_who_21 (by decide) (by decide) (by decide) (by decide) ?_
      refine lv_aload_n hx hb dX12_who_94 rfl (lv_at hl 0 rfl) ?_
      refine lv_iload_n hx hb dX12_who_95 rfl (lv_at hl 1 rfl) ?_
      have hFc := gA_free hG hA hS
      refine va_calli (va_runV (As := [.int p0]) (rest := []) ⟨hx, hb, hml, hown, hts⟩ (s_near l dC dI kA adK adV G H q wZ wN wH wB wC wL wK wU wV PI im PM PT lS lB lE lN o0 p0 hT hr_o0 (by have q8 := ti_all p0; omega) hgz hgn hgh hgb hgc hgi hgu) (cwV 1 hts (goodIn_app (goodIn_r _ [54, 55, 56, 7] rfl (by decide +kernel)) (goodIn_ca (goodIn_r _ [35, 15, 20, 21, 22, 23, 24, 25, 26, 27, 28, 29, 4, 5, 6, 7, 30, 31, 36, 37, 38, 39, 40, 41, 42, 43, 44, 45, 46, 47, 48, 49, 50, 51, 52, 53] rfl (by decide +kernel)) (bs_in _ _))) rfl rfl rfl (by decide +kernel) ⟨(Nat.le_of_ble_eq_true rfl), (Nat.le_of_ble_eq_true rfl)⟩) ⟨fun a U g mk q => by obtain ⟨q0, q1, qK, qE⟩ := q; exact ⟨q0, q1, va_K.moved (u := U) (U := U.calling g mk a) (Vm.Alike.refl U.vm) qK, EVS.blind g mk a qE⟩, gH_rc hK hT hr_o0 shm_0 rfl, fun U hU hW => ⟨rfl, hU, va_K.moved hW.alike hK, hE.call hS hFc hU hW⟩⟩ rfl rfl hl.1 rfl (lv_room (Nat.le_of_ble_eq_true rfl)) dX12_who_96 ⟨(Nat.le_of_ble_eq_true rfl), (Nat.le_of_ble_eq_true rfl)⟩) hS (fun q _ h => hFc q h) hFc (fun r39 u t H locs ht hvm hw40 hB _ _ hS => ?_)
      obtain ⟨hT, hF1⟩ := hB
      rw [ht] at hT hF1
      have hF := hF.more hF1 (by decide)
      try dsimp only at hw40
      have h41 := hw40
      exact W.iret (v := r39) hx hb hr (fun t ht hW => ⟨⟨r39, (), rfl, (by exact trivial), by (try dsimp only); rw [ht]; exact ⟨hT, hF⟩⟩, hS.F ht⟩) hS.2.2 dX12_who_99
    have ho42 : p1.toInt < 0 ∨ 5 < p1.toInt := by
      by_cases hz9 : p1.toInt < 0
      · exact Or.inl hz9
      have u9 : (0 : Int) ≤ p1.toInt := Int.not_lt.mp hz9
      have u9 := ll_nx (k1 := 1) u9 hs15 (by decide) (by decide)
      have u9 := ll_nx (k1 := 2) u9 hs20 (by decide) (by decide)
      have u9 := ll_nx (k1 := 3) u9 hs25 (by decide) (by decide)
      have u9 := ll_nx (k1 := 4) u9 hs30 (by decide) (by decide)
      have u9 := ll_nx (k1 := 5) u9 hs35 (by decide) (by decide)
      have u9 := ll_nx (k1 := 6) u9 hs38 (by decide) (by decide)
      exact Or.inr (Int.lt_of_lt_of_le (by decide) u9)
    refine lv_tableOut (tgt := 100) hx hb dX12_who_21 ho42 (by decide) ?_
    refine lv_aload_n hx hb dX12_who_100 rfl (lv_at hl 0 rfl) ?_
    refine lv_iconst (v := 2) hx hb dX12_who_101 (by decide) ?_
    refine tw_put (v := .int 2) (ty := .int) hx hb hts bF_X12 tyX12 tyX12_ok nmX12 hown hK hT hG hS hr_o0 shm_0 rfl 0 (by decide) (ht_at hts 0 rfl) (fun _ h9 => h9) rfl (by decide +kernel) rfl rfl (gl_at rfl (gi_all _)) dX12_who_102 (fun H locs hT oq m43 oj hS => ?_)
    have hF := hF.put hr_o0 skm_0 oq oj (by decide)
    refine lv_iconst (v := 0) hx hb dX12_who_105 (by decide) ?_
    exact W.iret (v := 0) hx hb hr (fun t ht hW => ⟨⟨0, (), rfl, (by exact trivial), by (try dsimp only); rw [ht]; exact ⟨hT, hF⟩⟩, hS.F ht⟩) hS.2.2 dX12_who_106
  · have t44 : r2.toInt ≠ 0 := ti_ne c12 rfl (by decide)
    refine lv_iconst (v := 0) hx hb dX12_who_18 (by decide) ?_
    exact W.iret (v := 0) hx hb hr (fun t ht hW => ⟨⟨0, (), rfl, (by exact trivial), by (try dsimp only); rw [ht]; exact ⟨hT, hF⟩⟩, hS.F ht⟩) hS.2.2 dX12_who_19
def w_s_coin : List Cond := .code yX12_coin cX12_coin 2 (some .int) :: (HAppend.hAppend (α := List Cond) (β := List Cond) (γ := List Cond) [.fieldLink RX12 194 "SeaLandModel" "thrown" "I", .constant RX12 536 1000000, .code yX12_in cX12_in 3 (some .boolean), .methodLink RX12 197 yX12_in, .static yX12_in, .initialized RX12, .code yX12_throwsIf cX12_throwsIf 3 (some .boolean), .methodLink RX12 224 yX12_throwsIf, .instanceMethod yX12_throwsIf, .selects RX12 yX12_throwsIf yX12_throwsIf, .fieldLink RX12 519 "SeaLandModel" "board" "I", .constant RX12 537 2000000000] bs)
set_option maxHeartbeats 4000000 in
set_option maxRecDepth 100000 in
theorem s_coin (l : Launch) (dC : Nat → ClassId) (dI : Nat → Nat → Nat) (kA : Nat → ClassId) (adK adV : Nat → Nat) (G : gT) (H0 : Heap) (q : Nat → Nat) (wZ wN : Nat → Int) (wH wB wC : Int) (wL wK : Nat → Prop) (wU wV : Nat → Nat) (PI : Nat → Int → Prop) (im : Int) (PM PT : Nat → Int → Prop) (lS lB lE : Nat → Nat → Int → Prop) (lN : Nat → Int) (o0 : Nat) (p0 : Int32)  (hT : gH (dC, dI) kA (SHm q (wP wZ wN wH wB wC wL wK wU wV) PI im PM PT lS lB lE lN) G H0) (hr_o0 : G o0 = some 0) (hgz : ∀ i, 0 ≤ wZ i) (hgn : ∀ i, 6500000 ≤ wN i ∧ wN i ≤ 20200000) (hgh : 0 ≤ wH ∧ wH ≤ 40000) (hgb : 0 ≤ wB ∧ wB ≤ 3850000) (hgc : 0 ≤ wC ∧ wC ≤ 30) (hgi : 0 ≤ im ∧ im ≤ 1) (hgu : ∀ a t, G a = some (t + 1) → a = q t) : Met l yX12_coin w_s_coin ({ frames := 1, cells := 0, slots := 0, locals := 22 }) (va_Pc [.ref o0, .int p0] (fun U => U.heap = H0 ∧ va_K (dC, dI) vwCl (tyl kA) U ∧ EVS adK adV (gA G H0.size) U U.heap)) (va_Qi (fun (r : Int32) (u : Unit) => (-2147483648 ≤ r.toInt ∧ r.toInt ≤ 2001000000)) (fun (_ : Unit) (t : State) => gH (dC, dI) kA (SHm q (wP wZ wN wH wB wC wL wK wU wV) PI im PM PT lS lB lE lN) G t.heap ∧ gF (dC, dI) SKm G ([(0, 0), (0, 48)] : List (Nat × Nat)) H0 t.heap) (gA G H0.size)) 0 0 (gA G H0.size) := by
  refine Met.ofW (cc := cX12_coin) (maxL := 2) (ret := (some .int)) (by decide) rfl ?_
  intro p e s m args below meth c s₁ B hml hv
  obtain ⟨rfl, hH0, hK, hE⟩ := hv
  have hx := B.exec
  have hb := B.bytes
  have hr := B.returns
  have hts := atoms_spec (ws := w_s_coin) B.pre
  have hown : s.vm.findClass RX12 = some m.cls := findClass_of_methodNamed B.named
  have hlocks := B.notSynchronized
  subst hH0
  generalize hAe : gA G s.heap.size = A at hE ⊢
  have hA : ∀ q : Nat, s.heap.size ≤ q → A q := fun q h => by rw [← hAe]; exact Or.inr h
  have hG := gA_of hAe
  have hS : va_S A s.heap s.heap [] := va_S.rf
  have hF : gF (dC, dI) SKm G ([(0, 0), (0, 48)] : List (Nat × Nat)) s.heap s.heap := gF.rf
  have hl := lv_entry ([.ref o0, .int p0]) (n := 2) (Nat.le_of_ble_eq_true rfl)
  rw [lg_entry_eq]
  generalize (lg_sl ([.ref o0, .int p0]) ++ List.replicate (2 - (lg_sl ([.ref o0, .int p0])).length) Slot.unset).toArray = ls at hl ⊢
  have hl : lv_has ls 2 [(0, .ref o0), (1, .int p0)] := hl
  refine lv_aload_n hx hb dX12_coin_0 rfl (lv_at hl 0 rfl) ?_
  refine lv_iconst (v := 0) hx hb dX12_coin_1 (by decide) ?_
  refine tw_put (v := .int 0) (ty := .int) hx hb hts bF_X12 tyX12 tyX12_ok nmX12 hown hK hT hG hS hr_o0 shm_0 rfl 0 (by decide) (ht_at hts 0 rfl) (fun _ h9 => h9) rfl (by decide +kernel) rfl rfl (gl_at rfl (gi_all _)) dX12_coin_2 (fun H locs hT oq m1 oj hS => ?_)
  have hF := hF.put hr_o0 skm_0 oq oj (by decide)
  refine lv_aload_n hx hb dX12_coin_5 rfl (lv_at hl 0 rfl) ?_
  refine lv_iload_n hx hb dX12_coin_6 rfl (lv_at hl 1 rfl) ?_
  refine lv_iconst (v := 0) hx hb dX12_coin_7 (by decide) ?_
  refine lv_ldcw (v := 1000000) hx hb hown (ht_at hts 1 rfl) dX12_coin_8 ?_
  have hFc := gA_free hG hA hS
  refine va_calli (va_runS (As := [.int p0, .int 0, .int 1000000]) (rest := [.ref o0]) ⟨hx, hb, hml, hown, hts⟩ (s_in l dC dI kA adK adV G H q wZ wN wH wB wC wL wK wU wV PI im PM PT lS lB lE lN p0 0 1000000 hT hgz hgn hgh hgb hgc hgi hgu) (va_cwS 3 hts (goodIn_app (goodIn_r _ [4, 5, 6] rfl (by decide +kernel)) (goodIn_ca (goodIn_r _ [3] rfl (by decide +kernel)) (bs_in _ _))) rfl rfl rfl (by decide +kernel) ⟨(Nat.le_of_ble_eq_true rfl), (Nat.le_of_ble_eq_true rfl)⟩) ⟨fun a U g mk q => by obtain ⟨q0, q1, qK, qE⟩ := q; exact ⟨q0, q1, va_K.moved (u := U) (U := U.calling g mk a) (Vm.Alike.refl U.vm) qK, EVS.blind g mk a qE⟩, fun U hU hW => ⟨rfl, hU, va_K.moved hW.alike hK, hE.call hS hFc hU hW⟩⟩ rfl rfl hl.1 rfl (lv_room (Nat.le_of_ble_eq_true rfl)) dX12_coin_11 ⟨(Nat.le_of_ble_eq_true rfl), (Nat.le_of_ble_eq_true rfl)⟩) hS (fun q _ h => hFc q h) hFc (fun r2 u t H locs ht hvm hw3 hB _ _ hS => ?_)
  obtain ⟨hT, hF1⟩ := hB
  rw [ht] at hT hF1
  have hF := hF.more hF1 (by decide)
  try dsimp only at hw3
  obtain ⟨h5, hi6, hi7⟩ := hw3
  refine lv_if_eq (tgt := 29) hx hb dX12_coin_14 (by decide) (fun c8 => ?_) (fun c8 => ?_)
  · have t9 : r2.toInt = 0 := ti_eq c8 rfl (by decide)
    have t10 : (1000000 : Int32).toInt = 1000000 := by decide
    have t11 : (0 : Int32).toInt = 0 := by decide
    have t12 : p0.toInt < (0 : Int32).toInt ∨ (1000000 : Int32).toInt < p0.toInt := hi7 c8
    refine lv_iconst (v := 1) hx hb dX12_coin_29 (by decide) ?_
    refine lv_goto (tgt := 34) hx hb dX12_coin_30 (by decide) ?_
    refine lv_iconst (v := 1) hx hb dX12_coin_34 (by decide) ?_
    have hFc := gA_free hG hA hS
    refine va_calli (va_runV (As := [.int 1, .int 1]) (rest := []) ⟨hx, hb, hml, hown, hts⟩ (s_throwsIf l dC dI kA adK adV G H q wZ wN wH wB wC wL wK wU wV PI im PM PT lS lB lE lN o0 1 1 hT hr_o0 (rg_t (a := 1) (by decide) (by first | decide | omega) (by first | decide | omega)) hgz hgn hgh hgb hgc hgi hgu) (cwV 2 hts (goodIn_app (goodIn_r _ [8, 9, 10, 6] rfl (by decide +kernel)) (goodIn_ca (goodIn_r _ [7, 1] rfl (by decide +kernel)) (bs_in _ _))) rfl rfl rfl (by decide +kernel) ⟨(Nat.le_of_ble_eq_true rfl), (Nat.le_of_ble_eq_true rfl)⟩) ⟨fun a U g mk q => by obtain ⟨q0, q1, qK, qE⟩ := q; exact ⟨q0, q1, va_K.moved (u := U) (U := U.calling g mk a) (Vm.Alike.refl U.vm) qK, EVS.blind g mk a qE⟩, gH_rc hK hT hr_o0 shm_0 rfl, fun U hU hW => ⟨rfl, hU, va_K.moved hW.alike hK, hE.call hS hFc hU hW⟩⟩ rfl rfl hl.1 rfl (lv_room (Nat.le_of_ble_eq_true rfl)) dX12_coin_35 ⟨(Nat.le_of_ble_eq_true rfl), (Nat.le_of_ble_eq_true rfl)⟩) hS (fun q _ h => hFc q h) hFc (fun r13 u t H locs ht hvm hw14 hB _ _ hS => ?_)
    obtain ⟨hT, hF1⟩ := hB
    rw [ht] at hT hF1
    have hF := hF.more hF1 (by decide)
    try dsimp only at hw14
    obtain ⟨h16, hd17⟩ := hw14
    obtain rfl : (1 : Int32) = r13 := hd17.symm
    refine lv_if_eq (tgt := 43) hx hb dX12_coin_38 (by decide) (fun c18 => absurd c18 (by decide)) (fun c18 => ?_)
    refine lv_iconst (v := 0) hx hb dX12_coin_41 (by decide) ?_
    exact W.iret (v := 0) hx hb hr (fun t ht hW => ⟨⟨0, (), rfl, (by exact (rg_t (a := 0) (by decide) (by first | decide | omega) (by first | decide | omega))), by (try dsimp only); rw [ht]; exact ⟨hT, hF⟩⟩, hS.F ht⟩) hS.2.2 dX12_coin_42
  · have t19 : r2.toInt ≠ 0 := ti_ne c8 rfl (by decide)
    have t20 : (1000000 : Int32).toInt = 1000000 := by decide
    have t21 : (0 : Int32).toInt = 0 := by decide
    have t22 : (0 : Int32).toInt ≤ p0.toInt ∧ p0.toInt ≤ (1000000 : Int32).toInt := hi6 ((bit_of ⟨by omega, by omega⟩).resolve_left c8)
    refine lv_aload_n hx hb dX12_coin_17 rfl (lv_at hl 0 rfl) ?_
    refine tw_get hx hb hts bF_X12 hown hK hT hr_o0 shm_0 rfl 48 (by decide) (ht_at hts 10 rfl) (fun _ h9 => h9) dX12_coin_18 (fun v9 m23 h9 => ?_)
    obtain ⟨x24, rfl, gx24, kx24⟩ := h9 _ rfl
    refine lv_ldcw (v := 2000000000) hx hb hown (ht_at hts 11 rfl) dX12_coin_21 ?_
    refine lv_iload_n hx hb dX12_coin_24 rfl (lv_at hl 1 rfl) ?_
    refine lv_isub hx hb dX12_coin_25 ?_
    refine lv_topi (fun x25 ex25 => ?_)
    have t26 : x25.toInt = 2000000000 - p0.toInt := ti_sub ex25 (by decide) rfl (by omega) (by omega)
    refine lv_icmp_le (tgt := 33) hx hb dX12_coin_26 (by decide) (fun c27 => ?_) (fun c27 => ?_)
    · have t28 : x24.toInt ≤ x25.toInt := ti_le c27 rfl rfl
      refine lv_iconst (v := 0) hx hb dX12_coin_33 (by decide) ?_
      refine lv_iconst (v := 1) hx hb dX12_coin_34 (by decide) ?_
      have hFc := gA_free hG hA hS
      refine va_calli (va_runV (As := [.int 0, .int 1]) (rest := []) ⟨hx, hb, hml, hown, hts⟩ (s_throwsIf l dC dI kA adK adV G H q wZ wN wH wB wC wL wK wU wV PI im PM PT lS lB lE lN o0 0 1 hT hr_o0 (rg_t (a := 0) (by decide) (by first | decide | omega) (by first | decide | omega)) hgz hgn hgh hgb hgc hgi hgu) (cwV 2 hts (goodIn_app (goodIn_r _ [8, 9, 10, 6] rfl (by decide +kernel)) (goodIn_ca (goodIn_r _ [7, 1] rfl (by decide +kernel)) (bs_in _ _))) rfl rfl rfl (by decide +kernel) ⟨(Nat.le_of_ble_eq_true rfl), (Nat.le_of_ble_eq_true rfl)⟩) ⟨fun a U g mk q => by obtain ⟨q0, q1, qK, qE⟩ := q; exact ⟨q0, q1, va_K.moved (u := U) (U := U.calling g mk a) (Vm.Alike.refl U.vm) qK, EVS.blind g mk a qE⟩, gH_rc hK hT hr_o0 shm_0 rfl, fun U hU hW => ⟨rfl, hU, va_K.moved hW.alike hK, hE.call hS hFc hU hW⟩⟩ rfl rfl hl.1 rfl (lv_room (Nat.le_of_ble_eq_true rfl)) dX12_coin_35 ⟨(Nat.le_of_ble_eq_true rfl), (Nat.le_of_ble_eq_true rfl)⟩) hS (fun q _ h => hFc q h) hFc (fun r29 u t H locs ht hvm hw30 hB _ _ hS => ?_)
      obtain ⟨hT, hF1⟩ := hB
      rw [ht] at hT hF1
      have m32 := (hF1.fld hr_o0 skm_0 (k := 48) (by decide) (by decide)).trans m23
      have hF := hF.more hF1 (by decide)
      try dsimp only at hw30
      obtain ⟨h33, hd34⟩ := hw30
      obtain rfl : (0 : Int32) = r29 := hd34.symm
      refine lv_if_eq (tgt := 43) hx hb dX12_coin_38 (by decide) (fun c35 => ?_) (fun c35 => absurd c35 (by decide))
      refine lv_aload_n hx hb dX12_coin_43 rfl (lv_at hl 0 rfl) ?_
      refine lv_dup hx hb dX12_coin_44 rfl ?_
      refine tw_getM (v := .int x24) hx hb hts bF_X12 hown hK hT hr_o0 shm_0 rfl 48 (by decide) (ht_at hts 10 rfl) (fun _ h9 => h9) m32 dX12_coin_45 ?_
      refine lv_iload_n hx hb dX12_coin_48 rfl (lv_at hl 1 rfl) ?_
      refine lv_iadd hx hb dX12_coin_49 ?_
      refine lv_topi (fun x36 ex36 => ?_)
      have t37 : -2147483648 ≤ x24.toInt ∧ x24.toInt ≤ 2147483647 := ti_all x24
      have t38 : x36.toInt = x24.toInt + p0.toInt := ti_add ex36 rfl rfl (by omega) (by omega)
      refine tw_put (v := .int x36) (ty := .int) hx hb hts bF_X12 tyX12 tyX12_ok nmX12 hown hK hT hG hS hr_o0 shm_0 rfl 48 (by decide) (ht_at hts 10 rfl) (fun _ h9 => h9) rfl (by decide +kernel) rfl rfl (gl_at rfl (gi_all _)) dX12_coin_50 (fun H locs hT oq m39 oj hS => ?_)
      have hF := hF.put hr_o0 skm_0 oq oj (by decide)
      refine lv_aload_n hx hb dX12_coin_53 rfl (lv_at hl 0 rfl) ?_
      refine tw_getM (v := .int x36) hx hb hts bF_X12 hown hK hT hr_o0 shm_0 rfl 48 (by decide) (ht_at hts 10 rfl) (fun _ h9 => h9) m39 dX12_coin_54 ?_
      exact W.iret (v := x36) hx hb hr (fun t ht hW => ⟨⟨x36, (), rfl, (by exact (by have q8 := ti_all x36; omega)), by (try dsimp only); rw [ht]; exact ⟨hT, hF⟩⟩, hS.F ht⟩) hS.2.2 dX12_coin_57
    · have t40 : x25.toInt < x24.toInt := ti_nle c27 rfl rfl
      refine lv_iconst (v := 1) hx hb dX12_coin_29 (by decide) ?_
      refine lv_goto (tgt := 34) hx hb dX12_coin_30 (by decide) ?_
      refine lv_iconst (v := 1) hx hb dX12_coin_34 (by decide) ?_
      have hFc := gA_free hG hA hS
      refine va_calli (va_runV (As := [.int 1, .int 1]) (rest := []) ⟨hx, hb, hml, hown, hts⟩ (s_throwsIf l dC dI kA adK adV G H q wZ wN wH wB wC wL wK wU wV PI im PM PT lS lB lE lN o0 1 1 hT hr_o0 (rg_t (a := 1) (by decide) (by first | decide | omega) (by first | decide | omega)) hgz hgn hgh hgb hgc hgi hgu) (cwV 2 hts (goodIn_app (goodIn_r _ [8, 9, 10, 6] rfl (by decide +kernel)) (goodIn_ca (goodIn_r _ [7, 1] rfl (by decide +kernel)) (bs_in _ _))) rfl rfl rfl (by decide +kernel) ⟨(Nat.le_of_ble_eq_true rfl), (Nat.le_of_ble_eq_true rfl)⟩) ⟨fun a U g mk q => by obtain ⟨q0, q1, qK, qE⟩ := q; exact ⟨q0, q1, va_K.moved (u := U) (U := U.calling g mk a) (Vm.Alike.refl U.vm) qK, EVS.blind g mk a qE⟩, gH_rc hK hT hr_o0 shm_0 rfl, fun U hU hW => ⟨rfl, hU, va_K.moved hW.alike hK, hE.call hS hFc hU hW⟩⟩ rfl rfl hl.1 rfl (lv_room (Nat.le_of_ble_eq_true rfl)) dX12_coin_35 ⟨(Nat.le_of_ble_eq_true rfl), (Nat.le_of_ble_eq_true rfl)⟩) hS (fun q _ h => hFc q h) hFc (fun r41 u t H locs ht hvm hw42 hB _ _ hS => ?_)
      obtain ⟨hT, hF1⟩ := hB
      rw [ht] at hT hF1
      have hF := hF.more hF1 (by decide)
      try dsimp only at hw42
      obtain ⟨h45, hd46⟩ := hw42
      obtain rfl : (1 : Int32) = r41 := hd46.symm
      refine lv_if_eq (tgt := 43) hx hb dX12_coin_38 (by decide) (fun c47 => absurd c47 (by decide)) (fun c47 => ?_)
      refine lv_iconst (v := 0) hx hb dX12_coin_41 (by decide) ?_
      exact W.iret (v := 0) hx hb hr (fun t ht hW => ⟨⟨0, (), rfl, (by exact (rg_t (a := 0) (by decide) (by first | decide | omega) (by first | decide | omega))), by (try dsimp only); rw [ht]; exact ⟨hT, hF⟩⟩, hS.F ht⟩) hS.2.2 dX12_coin_42
def w_s_contract : List Cond := .code yX12_contract cX12_contract 5 (some .int) :: (HAppend.hAppend (α := List Cond) (β := List Cond) (γ := List Cond) [.fieldLink RX12 194 "SeaLandModel" "thrown" "I", .code yX12_noWork cX12_noWork 2 (some .boolean), .fieldLink RX12 9 "SeaLandModel" "world" "[I", .code yX12_in cX12_in 3 (some .boolean), .methodLink RX12 197 yX12_in, .static yX12_in, .initialized RX12, .methodLink RX12 269 yX12_noWork, .instanceMethod yX12_noWork, .selects RX12 yX12_noWork yX12_noWork, .code yX12_throwsIf cX12_throwsIf 3 (some .boolean), .methodLink RX12 224 yX12_throwsIf, .instanceMethod yX12_throwsIf, .selects RX12 yX12_throwsIf yX12_throwsIf, .code yX12_isDike cX12_isDike 2 (some .boolean), .code yX12_of cX12_of 3 (some .int), .code yX12_at cX12_at 2 (some .int), .methodLink RX12 214 yX12_at, .static yX12_at, .methodLink RX12 217 yX12_of, .instanceMethod yX12_of, .selects RX12 yX12_of yX12_of, .methodLink RX12 272 yX12_isDike, .instanceMethod yX12_isDike, .selects RX12 yX12_isDike yX12_isDike, .fieldLink RX12 533 "SeaLandModel" "contracts" "I", .fieldLink RX12 137 "SeaLandModel" "kWork" "[I", .fieldLink RX12 140 "SeaLandModel" "kClay" "[I", .fieldLink RX12 143 "SeaLandModel" "kPrice" "[I", .fieldLink RX12 146 "SeaLandModel" "kBound" "[I", .fieldLink RX12 152 "SeaLandModel" "kHigh" "[I", .constant RX12 538 1000000000] bs)
set_option maxHeartbeats 4000000 in
set_option maxRecDepth 100000 in
theorem s_contract (l : Launch) (dC : Nat → ClassId) (dI : Nat → Nat → Nat) (kA : Nat → ClassId) (adK adV : Nat → Nat) (G : gT) (H0 : Heap) (q : Nat → Nat) (wZ wN : Nat → Int) (wH wB wC : Int) (wL wK : Nat → Prop) (wU wV : Nat → Nat) (PI : Nat → Int → Prop) (im : Int) (PM PT : Nat → Int → Prop) (lS lB lE : Nat → Nat → Int → Prop) (lN : Nat → Int) (o0 : Nat) (p0 : Int32) (p1 : Int32) (p2 : Int32) (p3 : Int32)  (hT : gH (dC, dI) kA (SHm q (wP wZ wN wH wB wC wL wK wU wV) PI im PM PT lS lB lE lN) G H0) (hr_o0 : G o0 = some 0) (hgz : ∀ i, 0 ≤ wZ i) (hgn : ∀ i, 6500000 ≤ wN i ∧ wN i ≤ 20200000) (hgh : 0 ≤ wH ∧ wH ≤ 40000) (hgb : 0 ≤ wB ∧ wB ≤ 3850000) (hgc : 0 ≤ wC ∧ wC ≤ 30) (hgi : 0 ≤ im ∧ im ≤ 1) (hgu : ∀ a t, G a = some (t + 1) → a = q t) : Met l yX12_contract w_s_contract ({ frames := 3, cells := 0, slots := 0, locals := 64 }) (va_Pc [.ref o0, .int p0, .int p1, .int p2, .int p3] (fun U => U.heap = H0 ∧ va_K (dC, dI) vwCl (tyl kA) U ∧ EVS adK adV (gA G H0.size) U U.heap)) (va_Qi (fun (r : Int32) (u : Unit) => (-1 ≤ r.toInt ∧ r.toInt ≤ 39)) (fun (_ : Unit) (t : State) => gH (dC, dI) kA (SHm q (wP wZ wN wH wB wC wL wK wU wV) PI im PM PT lS lB lE lN) G t.heap ∧ gF (dC, dI) SKm G ([(0, 0), (0, 64), (57, 0), (58, 0), (59, 0), (60, 0), (62, 0)] : List (Nat × Nat)) H0 t.heap) (gA G H0.size)) 0 0 (gA G H0.size) := by
  refine Met.ofW (cc := cX12_contract) (maxL := 5) (ret := (some .int)) (by decide) rfl ?_
  intro p e s m args below meth c s₁ B hml hv
  obtain ⟨rfl, hH0, hK, hE⟩ := hv
  have hx := B.exec
  have hb := B.bytes
  have hr := B.returns
  have hts := atoms_spec (ws := w_s_contract) B.pre
  have hown : s.vm.findClass RX12 = some m.cls := findClass_of_methodNamed B.named
  have hlocks := B.notSynchronized
  subst hH0
  generalize hAe : gA G s.heap.size = A at hE ⊢
  have hA : ∀ q : Nat, s.heap.size ≤ q → A q := fun q h => by rw [← hAe]; exact Or.inr h
  have hG := gA_of hAe
  have hS : va_S A s.heap s.heap [] := va_S.rf
  have hF : gF (dC, dI) SKm G ([(0, 0), (0, 64), (57, 0), (58, 0), (59, 0), (60, 0), (62, 0)] : List (Nat × Nat)) s.heap s.heap := gF.rf
  have hl := lv_entry ([.ref o0, .int p0, .int p1, .int p2, .int p3]) (n := 5) (Nat.le_of_ble_eq_true rfl)
  rw [lg_entry_eq]
  generalize (lg_sl ([.ref o0, .int p0, .int p1, .int p2, .int p3]) ++ List.replicate (5 - (lg_sl ([.ref o0, .int p0, .int p1, .int p2, .int p3])).length) Slot.unset).toArray = ls at hl ⊢
  have hl : lv_has ls 5 [(0, .ref o0), (1, .int p0), (2, .int p1), (3, .int p2), (4, .int p3)] := hl
  refine lv_aload_n hx hb dX12_contract_0 rfl (lv_at hl 0 rfl) ?_
  refine lv_iconst (v := 0) hx hb dX12_contract_1 (by decide) ?_
  refine tw_put (v := .int 0) (ty := .int) hx hb hts bF_X12 tyX12 tyX12_ok nmX12 hown hK hT hG hS hr_o0 shm_0 rfl 0 (by decide) (ht_at hts 0 rfl) (fun _ h9 => h9) rfl (by decide +kernel) rfl rfl (gl_at rfl (gi_all _)) dX12_contract_2 (fun H locs hT oq m1 oj hS => ?_)
  have hF := hF.put hr_o0 skm_0 oq oj (by decide)
  refine lv_aload_n hx hb dX12_contract_5 rfl (lv_at hl 0 rfl) ?_
  refine lv_aload_n hx hb dX12_contract_6 rfl (lv_at hl 0 rfl) ?_
  refine lv_iload_n hx hb dX12_contract_7 rfl (lv_at hl 1 rfl) ?_
  have hFc := gA_free hG hA hS
  refine va_calli (va_runV (As := [.int p0]) (rest := [.ref o0]) ⟨hx, hb, hml, hown, hts⟩ (s_noWork l dC dI kA adK adV G H q wZ wN wH wB wC wL wK wU wV PI im PM PT lS lB lE lN o0 p0 hT hr_o0 hgz hgn hgh hgb hgc hgi hgu) (cwV 1 hts (goodIn_app (goodIn_r _ [8, 9, 10, 7] rfl (by decide +kernel)) (goodIn_ca (goodIn_r _ [2, 3, 4, 5, 6, 7] rfl (by decide +kernel)) (bs_in _ _))) rfl rfl rfl (by decide +kernel) ⟨(Nat.le_of_ble_eq_true rfl), (Nat.le_of_ble_eq_true rfl)⟩) ⟨fun a U g mk q => by obtain ⟨q0, q1, qK, qE⟩ := q; exact ⟨q0, q1, va_K.moved (u := U) (U := U.calling g mk a) (Vm.Alike.refl U.vm) qK, EVS.blind g mk a qE⟩, gH_rc hK hT hr_o0 shm_0 rfl, fun U hU hW => ⟨rfl, hU, va_K.moved hW.alike hK, hE.call hS hFc hU hW⟩⟩ rfl rfl hl.1 rfl (lv_room (Nat.le_of_ble_eq_true rfl)) dX12_contract_8 ⟨(Nat.le_of_ble_eq_true rfl), (Nat.le_of_ble_eq_true rfl)⟩) hS (fun q _ h => hFc q h) hFc (fun r2 u t H locs ht hvm hw3 hB _ _ hS => ?_)
  obtain ⟨hT, hF1⟩ := hB
  rw [ht] at hT hF1
  have hF := hF.more hF1 (by decide)
  try dsimp only at hw3
  obtain ⟨h5, hi6⟩ := hw3
  refine lv_iconst (v := 1) hx hb dX12_contract_11 (by decide) ?_
  have hFc := gA_free hG hA hS
  refine va_calli (va_runV (As := [.int r2, .int 1]) (rest := []) ⟨hx, hb, hml, hown, hts⟩ (s_throwsIf l dC dI kA adK adV G H q wZ wN wH wB wC wL wK wU wV PI im PM PT lS lB lE lN o0 r2 1 hT hr_o0 (by have q8 := ti_all r2; omega) hgz hgn hgh hgb hgc hgi hgu) (cwV 2 hts (goodIn_app (goodIn_r _ [12, 13, 14, 7] rfl (by decide +kernel)) (goodIn_ca (goodIn_r _ [11, 1] rfl (by decide +kernel)) (bs_in _ _))) rfl rfl rfl (by decide +kernel) ⟨(Nat.le_of_ble_eq_true rfl), (Nat.le_of_ble_eq_true rfl)⟩) ⟨fun a U g mk q => by obtain ⟨q0, q1, qK, qE⟩ := q; exact ⟨q0, q1, va_K.moved (u := U) (U := U.calling g mk a) (Vm.Alike.refl U.vm) qK, EVS.blind g mk a qE⟩, gH_rc hK hT hr_o0 shm_0 rfl, fun U hU hW => ⟨rfl, hU, va_K.moved hW.alike hK, hE.call hS hFc hU hW⟩⟩ rfl rfl hl.1 rfl (lv_room (Nat.le_of_ble_eq_true rfl)) dX12_contract_12 ⟨(Nat.le_of_ble_eq_true rfl), (Nat.le_of_ble_eq_true rfl)⟩) hS (fun q _ h => hFc q h) hFc (fun r7 u t H locs ht hvm hw8 hB _ _ hS => ?_)
  obtain ⟨hT, hF1⟩ := hB
  rw [ht] at hT hF1
  have hF := hF.more hF1 (by decide)
  try dsimp only at hw8
  obtain ⟨h10, hd11⟩ := hw8
  obtain rfl : r2 = r7 := hd11.symm
  refine lv_if_ne (tgt := 85) hx hb dX12_contract_15 (by decide) (fun c12 => ?_) (fun c12 => ?_)
  · have t13 : r2.toInt ≠ 0 := ti_ne c12 rfl (by decide)
    refine lv_iconst (v := 0) hx hb dX12_contract_85 (by decide) ?_
    exact W.iret (v := 0) hx hb hr (fun t ht hW => ⟨⟨0, (), rfl, (by exact (rg_t (a := 0) (by decide) (by first | decide | omega) (by first | decide | omega))), by (try dsimp only); rw [ht]; exact ⟨hT, hF⟩⟩, hS.F ht⟩) hS.2.2 dX12_contract_86
  · have t14 : r2.toInt = 0 := ti_eq c12 rfl (by decide)
    have t15 : 0 ≤ p0.toInt ∧ p0.toInt ≤ 29 ∧ p0.toInt < wC := hi6 c12
    refine lv_aload_n hx hb dX12_contract_18 rfl (lv_at hl 0 rfl) ?_
    refine lv_iload_n hx hb dX12_contract_19 rfl (lv_at hl 2 rfl) ?_
    refine lv_iconst (v := 0) hx hb dX12_contract_20 (by decide) ?_
    refine lv_bipush (v := 9) hx hb dX12_contract_21 (by decide) ?_
    have hFc := gA_free hG hA hS
    refine va_calli (va_runS (As := [.int p1, .int 0, .int 9]) (rest := [.ref o0]) ⟨hx, hb, hml, hown, hts⟩ (s_in l dC dI kA adK adV G H q wZ wN wH wB wC wL wK wU wV PI im PM PT lS lB lE lN p1 0 9 hT hgz hgn hgh hgb hgc hgi hgu) (va_cwS 3 hts (goodIn_app (goodIn_r _ [5, 6, 7] rfl (by decide +kernel)) (goodIn_ca (goodIn_r _ [4] rfl (by decide +kernel)) (bs_in _ _))) rfl rfl rfl (by decide +kernel) ⟨(Nat.le_of_ble_eq_true rfl), (Nat.le_of_ble_eq_true rfl)⟩) ⟨fun a U g mk q => by obtain ⟨q0, q1, qK, qE⟩ := q; exact ⟨q0, q1, va_K.moved (u := U) (U := U.calling g mk a) (Vm.Alike.refl U.vm) qK, EVS.blind g mk a qE⟩, fun U hU hW => ⟨rfl, hU, va_K.moved hW.alike hK, hE.call hS hFc hU hW⟩⟩ rfl rfl hl.1 rfl (lv_room (Nat.le_of_ble_eq_true rfl)) dX12_contract_23 ⟨(Nat.le_of_ble_eq_true rfl), (Nat.le_of_ble_eq_true rfl)⟩) hS (fun q _ h => hFc q h) hFc (fun r16 u t H locs ht hvm hw17 hB _ _ hS => ?_)
    obtain ⟨hT, hF1⟩ := hB
    rw [ht] at hT hF1
    have hF := hF.more hF1 (by decide)
    try dsimp only at hw17
    obtain ⟨h18, hi19, hi20⟩ := hw17
    refine lv_if_eq (tgt := 52) hx hb dX12_contract_26 (by decide) (fun c21 => ?_) (fun c21 => ?_)
    · have t22 : r16.toInt = 0 := ti_eq c21 rfl (by decide)
      have t23 : (9 : Int32).toInt = 9 := by decide
      have t24 : (0 : Int32).toInt = 0 := by decide
      have t25 : p1.toInt < (0 : Int32).toInt ∨ (9 : Int32).toInt < p1.toInt := hi20 c21
      refine lv_iconst (v := 1) hx hb dX12_contract_52 (by decide) ?_
      refine lv_goto (tgt := 57) hx hb dX12_contract_53 (by decide) ?_
      refine lv_iconst (v := 2) hx hb dX12_contract_57 (by decide) ?_
      have hFc := gA_free hG hA hS
      refine va_calli (va_runV (As := [.int 1, .int 2]) (rest := []) ⟨hx, hb, hml, hown, hts⟩ (s_throwsIf l dC dI kA adK adV G H q wZ wN wH wB wC wL wK wU wV PI im PM PT lS lB lE lN o0 1 2 hT hr_o0 (rg_t (a := 1) (by decide) (by first | decide | omega) (by first | decide | omega)) hgz hgn hgh hgb hgc hgi hgu) (cwV 2 hts (goodIn_app (goodIn_r _ [12, 13, 14, 7] rfl (by decide +kernel)) (goodIn_ca (goodIn_r _ [11, 1] rfl (by decide +kernel)) (bs_in _ _))) rfl rfl rfl (by decide +kernel) ⟨(Nat.le_of_ble_eq_true rfl), (Nat.le_of_ble_eq_true rfl)⟩) ⟨fun a U g mk q => by obtain ⟨q0, q1, qK, qE⟩ := q; exact ⟨q0, q1, va_K.moved (u := U) (U := U.calling g mk a) (Vm.Alike.refl U.vm) qK, EVS.blind g mk a qE⟩, gH_rc hK hT hr_o0 shm_0 rfl, fun U hU hW => ⟨rfl, hU, va_K.moved hW.alike hK, hE.call hS hFc hU hW⟩⟩ rfl rfl hl.1 rfl (lv_room (Nat.le_of_ble_eq_true rfl)) dX12_contract_58 ⟨(Nat.le_of_ble_eq_true rfl), (Nat.le_of_ble_eq_true rfl)⟩) hS (fun q _ h => hFc q h) hFc (fun r26 u t H locs ht hvm hw27 hB _ _ hS => ?_)
      obtain ⟨hT, hF1⟩ := hB
      rw [ht] at hT hF1
      have hF := hF.more hF1 (by decide)
      try dsimp only at hw27
      obtain ⟨h28, hd29⟩ := hw27
      obtain rfl : (1 : Int32) = r26 := hd29.symm
      refine lv_if_ne (tgt := 85) hx hb dX12_contract_61 (by decide) (fun c30 => ?_) (fun c30 => absurd c30 (by decide))
      refine lv_iconst (v := 0) hx hb dX12_contract_85 (by decide) ?_
      exact W.iret (v := 0) hx hb hr (fun t ht hW => ⟨⟨0, (), rfl, (by exact (rg_t (a := 0) (by decide) (by first | decide | omega) (by first | decide | omega))), by (try dsimp only); rw [ht]; exact ⟨hT, hF⟩⟩, hS.F ht⟩) hS.2.2 dX12_contract_86
    · have t31 : r16.toInt ≠ 0 := ti_ne c21 rfl (by decide)
      have t32 : (9 : Int32).toInt = 9 := by decide
      have t33 : (0 : Int32).toInt = 0 := by decide
      have t34 : (0 : Int32).toInt ≤ p1.toInt ∧ p1.toInt ≤ (9 : Int32).toInt := hi19 ((bit_of ⟨by omega, by omega⟩).resolve_left c21)
      refine lv_iload_n hx hb dX12_contract_29 rfl (lv_at hl 3 rfl) ?_
      refine lv_iconst (v := 1) hx hb dX12_contract_30 (by decide) ?_
      refine lv_sipush (v := 1000) hx hb dX12_contract_31 (by decide) ?_
      have hFc := gA_free hG hA hS
      refine va_calli (va_runS (As := [.int p2, .int 1, .int 1000]) (rest := [.ref o0]) ⟨hx, hb, hml, hown, hts⟩ (s_in l dC dI kA adK adV G H q wZ wN wH wB wC wL wK wU wV PI im PM PT lS lB lE lN p2 1 1000 hT hgz hgn hgh hgb hgc hgi hgu) (va_cwS 3 hts (goodIn_app (goodIn_r _ [5, 6, 7] rfl (by decide +kernel)) (goodIn_ca (goodIn_r _ [4] rfl (by decide +kernel)) (bs_in _ _))) rfl rfl rfl (by decide +kernel) ⟨(Nat.le_of_ble_eq_true rfl), (Nat.le_of_ble_eq_true rfl)⟩) ⟨fun a U g mk q => by obtain ⟨q0, q1, qK, qE⟩ := q; exact ⟨q0, q1, va_K.moved (u := U) (U := U.calling g mk a) (Vm.Alike.refl U.vm) qK, EVS.blind g mk a qE⟩, fun U hU hW => ⟨rfl, hU, va_K.moved hW.alike hK, hE.call hS hFc hU hW⟩⟩ rfl rfl hl.1 rfl (lv_room (Nat.le_of_ble_eq_true rfl)) dX12_contract_34 ⟨(Nat.le_of_ble_eq_true rfl), (Nat.le_of_ble_eq_true rfl)⟩) hS (fun q _ h => hFc q h) hFc (fun r35 u t H locs ht hvm hw36 hB _ _ hS => ?_)
      obtain ⟨hT, hF1⟩ := hB
      rw [ht] at hT hF1
      have hF := hF.more hF1 (by decide)
      try dsimp only at hw36
      obtain ⟨h37, hi38, hi39⟩ := hw36
      refine lv_if_eq (tgt := 52) hx hb dX12_contract_37 (by decide) (fun c40 => ?_) (fun c40 => ?_)
      · have t41 : r35.toInt = 0 := ti_eq c40 rfl (by decide)
        have t42 : (1000 : Int32).toInt = 1000 := by decide
        have t43 : (1 : Int32).toInt = 1 := by decide
        have t44 : p2.toInt < (1 : Int32).toInt ∨ (1000 : Int32).toInt < p2.toInt := hi39 c40
        refine lv_iconst (v := 1) hx hb dX12_contract_52 (by decide) ?_
        refine lv_goto (tgt := 57) hx hb dX12_contract_53 (by decide) ?_
        refine lv_iconst (v := 2) hx hb dX12_contract_57 (by decide) ?_
        have hFc := gA_free hG hA hS
        refine va_calli (va_runV (As := [.int 1, .int 2]) (rest := []) ⟨hx, hb, hml, hown, hts⟩ (s_throwsIf l dC dI kA adK adV G H q wZ wN wH wB wC wL wK wU wV PI im PM PT lS lB lE lN o0 1 2 hT hr_o0 (rg_t (a := 1) (by decide) (by first | decide | omega) (by first | decide | omega)) hgz hgn hgh hgb hgc hgi hgu) (cwV 2 hts (goodIn_app (goodIn_r _ [12, 13, 14, 7] rfl (by decide +kernel)) (goodIn_ca (goodIn_r _ [11, 1] rfl (by decide +kernel)) (bs_in _ _))) rfl rfl rfl (by decide +kernel) ⟨(Nat.le_of_ble_eq_true rfl), (Nat.le_of_ble_eq_true rfl)⟩) ⟨fun a U g mk q => by obtain ⟨q0, q1, qK, qE⟩ := q; exact ⟨q0, q1, va_K.moved (u := U) (U := U.calling g mk a) (Vm.Alike.refl U.vm) qK, EVS.blind g mk a qE⟩, gH_rc hK hT hr_o0 shm_0 rfl, fun U hU hW => ⟨rfl, hU, va_K.moved hW.alike hK, hE.call hS hFc hU hW⟩⟩ rfl rfl hl.1 rfl (lv_room (Nat.le_of_ble_eq_true rfl)) dX12_contract_58 ⟨(Nat.le_of_ble_eq_true rfl), (Nat.le_of_ble_eq_true rfl)⟩) hS (fun q _ h => hFc q h) hFc (fun r45 u t H locs ht hvm hw46 hB _ _ hS => ?_)
        obtain ⟨hT, hF1⟩ := hB
        rw [ht] at hT hF1
        have hF := hF.more hF1 (by decide)
        try dsimp only at hw46
        obtain ⟨h47, hd48⟩ := hw46
        obtain rfl : (1 : Int32) = r45 := hd48.symm
        refine lv_if_ne (tgt := 85) hx hb dX12_contract_61 (by decide) (fun c49 => ?_) (fun c49 => absurd c49 (by decide))
        refine lv_iconst (v := 0) hx hb dX12_contract_85 (by decide) ?_
        exact W.iret (v := 0) hx hb hr (fun t ht hW => ⟨⟨0, (), rfl, (by exact (rg_t (a := 0) (by decide) (by first | decide | omega) (by first | decide | omega))), by (try dsimp only); rw [ht]; exact ⟨hT, hF⟩⟩, hS.F ht⟩) hS.2.2 dX12_contract_86
      · have t50 : r35.toInt ≠ 0 := ti_ne c40 rfl (by decide)
        have t51 : (1000 : Int32).toInt = 1000 := by decide
        have t52 : (1 : Int32).toInt = 1 := by decide
        have t53 : (1 : Int32).toInt ≤ p2.toInt ∧ p2.toInt ≤ (1000 : Int32).toInt := hi38 ((bit_of ⟨by omega, by omega⟩).resolve_left c40)
        refine lv_iload hx hb dX12_contract_40 (lv_at hl 4 rfl) ?_
        refine lv_iconst (v := 0) hx hb dX12_contract_42 (by decide) ?_
        refine lv_sipush (v := 200) hx hb dX12_contract_43 (by decide) ?_
        have hFc := gA_free hG hA hS
        refine va_calli (va_runS (As := [.int p3, .int 0, .int 200]) (rest := [.ref o0]) ⟨hx, hb, hml, hown, hts⟩ (s_in l dC dI kA adK adV G H q wZ wN wH wB wC wL wK wU wV PI im PM PT lS lB lE lN p3 0 200 hT hgz hgn hgh hgb hgc hgi hgu) (va_cwS 3 hts (goodIn_app (goodIn_r _ [5, 6, 7] rfl (by decide +kernel)) (goodIn_ca (goodIn_r _ [4] rfl (by decide +kernel)) (bs_in _ _))) rfl rfl rfl (by decide +kernel) ⟨(Nat.le_of_ble_eq_true rfl), (Nat.le_of_ble_eq_true rfl)⟩) ⟨fun a U g mk q => by obtain ⟨q0, q1, qK, qE⟩ := q; exact ⟨q0, q1, va_K.moved (u := U) (U := U.calling g mk a) (Vm.Alike.refl U.vm) qK, EVS.blind g mk a qE⟩, fun U hU hW => ⟨rfl, hU, va_K.moved hW.alike hK, hE.call hS hFc hU hW⟩⟩ rfl rfl hl.1 rfl (lv_room (Nat.le_of_ble_eq_true rfl)) dX12_contract_46 ⟨(Nat.le_of_ble_eq_true rfl), (Nat.le_of_ble_eq_true rfl)⟩) hS (fun q _ h => hFc q h) hFc (fun r54 u t H locs ht hvm hw55 hB _ _ hS => ?_)
        obtain ⟨hT, hF1⟩ := hB
        rw [ht] at hT hF1
        have hF := hF.more hF1 (by decide)
        try dsimp only at hw55
        obtain ⟨h56, hi57, hi58⟩ := hw55
        refine lv_if_ne (tgt := 56) hx hb dX12_contract_49 (by decide) (fun c59 => ?_) (fun c59 => ?_)
        · have t60 : r54.toInt ≠ 0 := ti_ne c59 rfl (by decide)
          have t61 : (200 : Int32).toInt = 200 := by decide
          have t62 : (0 : Int32).toInt = 0 := by decide
          have t63 : (0 : Int32).toInt ≤ p3.toInt ∧ p3.toInt ≤ (200 : Int32).toInt := hi57 ((bit_of ⟨by omega, by omega⟩).resolve_left c59)
          refine lv_iconst (v := 0) hx hb dX12_contract_56 (by decide) ?_
          refine lv_iconst (v := 2) hx hb dX12_contract_57 (by decide) ?_
          have hFc := gA_free hG hA hS
          refine va_calli (va_runV (As := [.int 0, .int 2]) (rest := []) ⟨hx, hb, hml, hown, hts⟩ (s_throwsIf l dC dI kA adK adV G H q wZ wN wH wB wC wL wK wU wV PI im PM PT lS lB lE lN o0 0 2 hT hr_o0 (rg_t (a := 0) (by decide) (by first | decide | omega) (by first | decide | omega)) hgz hgn hgh hgb hgc hgi hgu) (cwV 2 hts (goodIn_app (goodIn_r _ [12, 13, 14, 7] rfl (by decide +kernel)) (goodIn_ca (goodIn_r _ [11, 1] rfl (by decide +kernel)) (bs_in _ _))) rfl rfl rfl (by decide +kernel) ⟨(Nat.le_of_ble_eq_true rfl), (Nat.le_of_ble_eq_true rfl)⟩) ⟨fun a U g mk q => by obtain ⟨q0, q1, qK, qE⟩ := q; exact ⟨q0, q1, va_K.moved (u := U) (U := U.calling g mk a) (Vm.Alike.refl U.vm) qK, EVS.blind g mk a qE⟩, gH_rc hK hT hr_o0 shm_0 rfl, fun U hU hW => ⟨rfl, hU, va_K.moved hW.alike hK, hE.call hS hFc hU hW⟩⟩ rfl rfl hl.1 rfl (lv_room (Nat.le_of_ble_eq_true rfl)) dX12_contract_58 ⟨(Nat.le_of_ble_eq_true rfl), (Nat.le_of_ble_eq_true rfl)⟩) hS (fun q _ h => hFc q h) hFc (fun r64 u t H locs ht hvm hw65 hB _ _ hS => ?_)
          obtain ⟨hT, hF1⟩ := hB
          rw [ht] at hT hF1
          have hF := hF.more hF1 (by decide)
          try dsimp only at hw65
          obtain ⟨h66, hd67⟩ := hw65
          obtain rfl : (0 : Int32) = r64 := hd67.symm
          refine lv_if_ne (tgt := 85) hx hb dX12_contract_61 (by decide) (fun c68 => absurd c68 (by decide)) (fun c68 => ?_)
          refine lv_aload_n hx hb dX12_contract_64 rfl (lv_at hl 0 rfl) ?_
          refine lv_aload_n hx hb dX12_contract_65 rfl (lv_at hl 0 rfl) ?_
          refine lv_iload_n hx hb dX12_contract_66 rfl (lv_at hl 1 rfl) ?_
          have hFc := gA_free hG hA hS
          refine va_calli (va_runV (As := [.int p0]) (rest := [.ref o0]) ⟨hx, hb, hml, hown, hts⟩ (s_isDike l dC dI kA adK adV G H q wZ wN wH wB wC wL wK wU wV PI im PM PT lS lB lE lN o0 p0 hT hr_o0 (by have q8 := ti_all p0; omega) hgz hgn hgh hgb hgc hgi hgu) (cwV 1 hts (goodIn_app (goodIn_r _ [23, 24, 25, 7] rfl (by decide +kernel)) (goodIn_ca (goodIn_r _ [15, 16, 3, 17, 18, 19, 7, 20, 21, 22] rfl (by decide +kernel)) (bs_in _ _))) rfl rfl rfl (by decide +kernel) ⟨(Nat.le_of_ble_eq_true rfl), (Nat.le_of_ble_eq_true rfl)⟩) ⟨fun a U g mk q => by obtain ⟨q0, q1, qK, qE⟩ := q; exact ⟨q0, q1, va_K.moved (u := U) (U := U.calling g mk a) (Vm.Alike.refl U.vm) qK, EVS.blind g mk a qE⟩, gH_rc hK hT hr_o0 shm_0 rfl, fun U hU hW => ⟨rfl, hU, va_K.moved hW.alike hK, hE.call hS hFc hU hW⟩⟩ rfl rfl hl.1 rfl (lv_room (Nat.le_of_ble_eq_true rfl)) dX12_contract_67 ⟨(Nat.le_of_ble_eq_true rfl), (Nat.le_of_ble_eq_true rfl)⟩) hS (fun q _ h => hFc q h) hFc (fun r69 u t H locs ht hvm hw70 hB _ _ hS => ?_)
          obtain ⟨hT, hF1⟩ := hB
          rw [ht] at hT hF1
          have hF := hF.more hF1 (by decide)
          try dsimp only at hw70
          obtain ⟨h71, hi72⟩ := hw70
          refine lv_if_ne (tgt := 77) hx hb dX12_contract_70 (by decide) (fun c73 => ?_) (fun c73 => ?_)
          · have t74 : r69.toInt ≠ 0 := ti_ne c73 rfl (by decide)
            have t75 : p0.toInt < wC → wK p0.toNatClampNeg := hi72 ((bit_of ⟨by omega, by omega⟩).resolve_left c73)
            refine lv_iconst (v := 0) hx hb dX12_contract_77 (by decide) ?_
            refine lv_iconst (v := 3) hx hb dX12_contract_78 (by decide) ?_
            have hFc := gA_free hG hA hS
            refine va_calli (va_runV (As := [.int 0, .int 3]) (rest := []) ⟨hx, hb, hml, hown, hts⟩ (s_throwsIf l dC dI kA adK adV G H q wZ wN wH wB wC wL wK wU wV PI im PM PT lS lB lE lN o0 0 3 hT hr_o0 (rg_t (a := 0) (by decide) (by first | decide | omega) (by first | decide | omega)) hgz hgn hgh hgb hgc hgi hgu) (cwV 2 hts (goodIn_app (goodIn_r _ [12, 13, 14, 7] rfl (by decide +kernel)) (goodIn_ca (goodIn_r _ [11, 1] rfl (by decide +kernel)) (bs_in _ _))) rfl rfl rfl (by decide +kernel) ⟨(Nat.le_of_ble_eq_true rfl), (Nat.le_of_ble_eq_true rfl)⟩) ⟨fun a U g mk q => by obtain ⟨q0, q1, qK, qE⟩ := q; exact ⟨q0, q1, va_K.moved (u := U) (U := U.calling g mk a) (Vm.Alike.refl U.vm) qK, EVS.blind g mk a qE⟩, gH_rc hK hT hr_o0 shm_0 rfl, fun U hU hW => ⟨rfl, hU, va_K.moved hW.alike hK, hE.call hS hFc hU hW⟩⟩ rfl rfl hl.1 rfl (lv_room (Nat.le_of_ble_eq_true rfl)) dX12_contract_79 ⟨(Nat.le_of_ble_eq_true rfl), (Nat.le_of_ble_eq_true rfl)⟩) hS (fun q _ h => hFc q h) hFc (fun r76 u t H locs ht hvm hw77 hB _ _ hS => ?_)
            obtain ⟨hT, hF1⟩ := hB
            rw [ht] at hT hF1
            have hF := hF.more hF1 (by decide)
            try dsimp only at hw77
            obtain ⟨h78, hd79⟩ := hw77
            obtain rfl : (0 : Int32) = r76 := hd79.symm
            refine lv_if_eq (tgt := 87) hx hb dX12_contract_82 (by decide) (fun c80 => ?_) (fun c80 => absurd c80 (by decide))
            refine lv_aload_n hx hb dX12_contract_87 rfl (lv_at hl 0 rfl) ?_
            refine tw_get hx hb hts bF_X12 hown hK hT hr_o0 shm_0 rfl 64 (by decide) (ht_at hts 25 rfl) (fun _ h9 => h9) dX12_contract_88 (fun v9 m81 h9 => ?_)
            obtain ⟨x82, rfl, gx82, kx82⟩ := h9 _ rfl
            refine lv_bipush (v := 40) hx hb dX12_contract_91 (by decide) ?_
            refine lv_icmp_ne (tgt := 98) hx hb dX12_contract_93 (by decide) (fun c83 => ?_) (fun c83 => ?_)
            · have t84 : x82.toInt ≠ 40 := ti_ne c83 rfl (by decide)
              refine lv_aload_n hx hb dX12_contract_98 rfl (lv_at hl 0 rfl) ?_
              refine tw_get hx hb hts bF_X12 hown hK hT hr_o0 shm_0 rfl 56 (by decide) (ht_at hts 26 rfl) (fun _ h9 => h9) dX12_contract_99 (fun v9 m85 h9 => ?_)
              obtain ⟨rfl, hg86⟩ := h9 _ rfl
              refine lv_aload_n hx hb dX12_contract_102 rfl (lv_at hl 0 rfl) ?_
              refine tw_getM (v := .int x82) hx hb hts bF_X12 hown hK hT hr_o0 shm_0 rfl 64 (by decide) (ht_at hts 25 rfl) (fun _ h9 => h9) m81 dX12_contract_103 ?_
              refine lv_iload_n hx hb dX12_contract_106 rfl (lv_at hl 1 rfl) ?_
              refine tw_iast (i := x82) (x := p0) hx hb hK hT hG hS hg86 shm_57 rfl (vin_t (a := x82.toInt) rfl (by omega) (by omega)) (gi_all _) dX12_contract_107 (fun H locs hT oq m87 oi hS => ?_)
              have hF := hF.ast hg86 skm_57 oq (by decide)
              have m88 := (el_kept (oq _ (gne hr_o0 hg86 (by decide)))).trans m81
              refine lv_aload_n hx hb dX12_contract_108 rfl (lv_at hl 0 rfl) ?_
              refine tw_get hx hb hts bF_X12 hown hK hT hr_o0 shm_0 rfl 57 (by decide) (ht_at hts 27 rfl) (fun _ h9 => h9) dX12_contract_109 (fun v9 m89 h9 => ?_)
              obtain ⟨rfl, hg90⟩ := h9 _ rfl
              refine lv_aload_n hx hb dX12_contract_112 rfl (lv_at hl 0 rfl) ?_
              refine tw_getM (v := .int x82) hx hb hts bF_X12 hown hK hT hr_o0 shm_0 rfl 64 (by decide) (ht_at hts 25 rfl) (fun _ h9 => h9) m88 dX12_contract_113 ?_
              refine lv_iload_n hx hb dX12_contract_116 rfl (lv_at hl 2 rfl) ?_
              refine tw_iast (i := x82) (x := p1) hx hb hK hT hG hS hg90 shm_58 rfl (vin_t (a := x82.toInt) rfl (by omega) (by omega)) (gi_of (show p1.toInt = p1.toInt from rfl) (by omega) (by omega)) dX12_contract_117 (fun H locs hT oq m91 oi hS => ?_)
              have hF := hF.ast hg90 skm_58 oq (by decide)
              have m92 := (el_kept (oq _ (gne hr_o0 hg90 (by decide)))).trans m88
              refine lv_aload_n hx hb dX12_contract_118 rfl (lv_at hl 0 rfl) ?_
              refine tw_get hx hb hts bF_X12 hown hK hT hr_o0 shm_0 rfl 58 (by decide) (ht_at hts 28 rfl) (fun _ h9 => h9) dX12_contract_119 (fun v9 m94 h9 => ?_)
              obtain ⟨rfl, hg95⟩ := h9 _ rfl
              refine lv_aload_n hx hb dX12_contract_122 rfl (lv_at hl 0 rfl) ?_
              refine tw_getM (v := .int x82) hx hb hts bF_X12 hown hK hT hr_o0 shm_0 rfl 64 (by decide) (ht_at hts 25 rfl) (fun _ h9 => h9) m92 dX12_contract_123 ?_
              refine lv_iload_n hx hb dX12_contract_126 rfl (lv_at hl 3 rfl) ?_
              refine tw_iast (i := x82) (x := p2) hx hb hK hT hG hS hg95 shm_59 rfl (vin_t (a := x82.toInt) rfl (by omega) (by omega)) (gi_all _) dX12_contract_127 (fun H locs hT oq m96 oi hS => ?_)
              have hF := hF.ast hg95 skm_59 oq (by decide)
              have m97 := (el_kept (oq _ (gne hr_o0 hg95 (by decide)))).trans m92
              refine lv_aload_n hx hb dX12_contract_128 rfl (lv_at hl 0 rfl) ?_
              refine tw_get hx hb hts bF_X12 hown hK hT hr_o0 shm_0 rfl 59 (by decide) (ht_at hts 29 rfl) (fun _ h9 => h9) dX12_contract_129 (fun v9 m100 h9 => ?_)
              obtain ⟨rfl, hg101⟩ := h9 _ rfl
              refine lv_aload_n hx hb dX12_contract_132 rfl (lv_at hl 0 rfl) ?_
              refine tw_getM (v := .int x82) hx hb hts bF_X12 hown hK hT hr_o0 shm_0 rfl 64 (by decide) (ht_at hts 25 rfl) (fun _ h9 => h9) m97 dX12_contract_133 ?_
              refine lv_iload hx hb dX12_contract_136 (lv_at hl 4 rfl) ?_
              refine tw_iast (i := x82) (x := p3) hx hb hK hT hG hS hg101 shm_60 rfl (vin_t (a := x82.toInt) rfl (by omega) (by omega)) (gi_all _) dX12_contract_138 (fun H locs hT oq m102 oi hS => ?_)
              have hF := hF.ast hg101 skm_60 oq (by decide)
              have m103 := (el_kept (oq _ (gne hr_o0 hg101 (by decide)))).trans m97
              refine lv_aload_n hx hb dX12_contract_139 rfl (lv_at hl 0 rfl) ?_
              refine tw_get hx hb hts bF_X12 hown hK hT hr_o0 shm_0 rfl 61 (by decide) (ht_at hts 30 rfl) (fun _ h9 => h9) dX12_contract_140 (fun v9 m107 h9 => ?_)
              obtain ⟨rfl, hg108⟩ := h9 _ rfl
              refine lv_aload_n hx hb dX12_contract_143 rfl (lv_at hl 0 rfl) ?_
              refine tw_getM (v := .int x82) hx hb hts bF_X12 hown hK hT hr_o0 shm_0 rfl 64 (by decide) (ht_at hts 25 rfl) (fun _ h9 => h9) m103 dX12_contract_144 ?_
              refine lv_ldcw (v := 1000000000) hx hb hown (ht_at hts 31 rfl) dX12_contract_147 ?_
              refine tw_iast (i := x82) (x := 1000000000) hx hb hK hT hG hS hg108 shm_62 rfl (vin_t (a := x82.toInt) rfl (by omega) (by omega)) (gi_all _) dX12_contract_150 (fun H locs hT oq m109 oi hS => ?_)
              have hF := hF.ast hg108 skm_62 oq (by decide)
              have m110 := (el_kept (oq _ (gne hr_o0 hg108 (by decide)))).trans m103
              refine lv_aload_n hx hb dX12_contract_151 rfl (lv_at hl 0 rfl) ?_
              refine lv_dup hx hb dX12_contract_152 rfl ?_
              refine tw_getM (v := .int x82) hx hb hts bF_X12 hown hK hT hr_o0 shm_0 rfl 64 (by decide) (ht_at hts 25 rfl) (fun _ h9 => h9) m110 dX12_contract_153 ?_
              refine lv_iconst (v := 1) hx hb dX12_contract_156 (by decide) ?_
              refine lv_iadd hx hb dX12_contract_157 ?_
              refine lv_topi (fun x115 ex115 => ?_)
              have t116 : x115.toInt = x82.toInt + 1 := ti_add ex115 rfl (by decide) (by omega) (by omega)
              refine tw_put (v := .int x115) (ty := .int) hx hb hts bF_X12 tyX12 tyX12_ok nmX12 hown hK hT hG hS hr_o0 shm_0 rfl 64 (by decide) (ht_at hts 25 rfl) (fun _ h9 => h9) rfl (by decide +kernel) rfl rfl (gl_at rfl (gi_of (show x115.toInt = x115.toInt from rfl) (by omega) (by omega))) dX12_contract_158 (fun H locs hT oq m117 oj hS => ?_)
              have hF := hF.put hr_o0 skm_0 oq oj (by decide)
              refine lv_aload_n hx hb dX12_contract_161 rfl (lv_at hl 0 rfl) ?_
              refine tw_getM (v := .int x115) hx hb hts bF_X12 hown hK hT hr_o0 shm_0 rfl 64 (by decide) (ht_at hts 25 rfl) (fun _ h9 => h9) m117 dX12_contract_162 ?_
              refine lv_iconst (v := 1) hx hb dX12_contract_165 (by decide) ?_
              refine lv_isub hx hb dX12_contract_166 ?_
              refine lv_topi (fun x123 ex123 => ?_)
              have t124 : x123.toInt = x115.toInt - 1 := ti_sub ex123 rfl (by decide) (by omega) (by omega)
              exact W.iret (v := x123) hx hb hr (fun t ht hW => ⟨⟨x123, (), rfl, (by exact (by have q8 := ti_all x123; omega)), by (try dsimp only); rw [ht]; exact ⟨hT, hF⟩⟩, hS.F ht⟩) hS.2.2 dX12_contract_167
            · have t125 : x82.toInt = 40 := ti_eq c83 rfl (by decide)
              refine lv_iconst (v := (-1)) hx hb dX12_contract_96 (by decide) ?_
              exact W.iret (v := (-1)) hx hb hr (fun t ht hW => ⟨⟨(-1), (), rfl, (by exact (rg_t (a := (-1)) (by decide) (by first | decide | omega) (by first | decide | omega))), by (try dsimp only); rw [ht]; exact ⟨hT, hF⟩⟩, hS.F ht⟩) hS.2.2 dX12_contract_97
          · have t126 : r69.toInt = 0 := ti_eq c73 rfl (by decide)
            refine lv_iconst (v := 1) hx hb dX12_contract_73 (by decide) ?_
            refine lv_goto (tgt := 78) hx hb dX12_contract_74 (by decide) ?_
            refine lv_iconst (v := 3) hx hb dX12_contract_78 (by decide) ?_
            have hFc := gA_free hG hA hS
            refine va_calli (va_runV (As := [.int 1, .int 3]) (rest := []) ⟨hx, hb, hml, hown, hts⟩ (s_throwsIf l dC dI kA adK adV G H q wZ wN wH wB wC wL wK wU wV PI im PM PT lS lB lE lN o0 1 3 hT hr_o0 (rg_t (a := 1) (by decide) (by first | decide | omega) (by first | decide | omega)) hgz hgn hgh hgb hgc hgi hgu) (cwV 2 hts (goodIn_app (goodIn_r _ [12, 13, 14, 7] rfl (by decide +kernel)) (goodIn_ca (goodIn_r _ [11, 1] rfl (by decide +kernel)) (bs_in _ _))) rfl rfl rfl (by decide +kernel) ⟨(Nat.le_of_ble_eq_true rfl), (Nat.le_of_ble_eq_true rfl)⟩) ⟨fun a U g mk q => by obtain ⟨q0, q1, qK, qE⟩ := q; exact ⟨q0, q1, va_K.moved (u := U) (U := U.calling g mk a) (Vm.Alike.refl U.vm) qK, EVS.blind g mk a qE⟩, gH_rc hK hT hr_o0 shm_0 rfl, fun U hU hW => ⟨rfl, hU, va_K.moved hW.alike hK, hE.call hS hFc hU hW⟩⟩ rfl rfl hl.1 rfl (lv_room (Nat.le_of_ble_eq_true rfl)) dX12_contract_79 ⟨(Nat.le_of_ble_eq_true rfl), (Nat.le_of_ble_eq_true rfl)⟩) hS (fun q _ h => hFc q h) hFc (fun r127 u t H locs ht hvm hw128 hB _ _ hS => ?_)
            obtain ⟨hT, hF1⟩ := hB
            rw [ht] at hT hF1
            have hF := hF.more hF1 (by decide)
            try dsimp only at hw128
            obtain ⟨h129, hd130⟩ := hw128
            obtain rfl : (1 : Int32) = r127 := hd130.symm
            refine lv_if_eq (tgt := 87) hx hb dX12_contract_82 (by decide) (fun c131 => absurd c131 (by decide)) (fun c131 => ?_)
            refine lv_iconst (v := 0) hx hb dX12_contract_85 (by decide) ?_
            exact W.iret (v := 0) hx hb hr (fun t ht hW => ⟨⟨0, (), rfl, (by exact (rg_t (a := 0) (by decide) (by first | decide | omega) (by first | decide | omega))), by (try dsimp only); rw [ht]; exact ⟨hT, hF⟩⟩, hS.F ht⟩) hS.2.2 dX12_contract_86
        · have t132 : r54.toInt = 0 := ti_eq c59 rfl (by decide)
          have t133 : (200 : Int32).toInt = 200 := by decide
          have t134 : (0 : Int32).toInt = 0 := by decide
          have t135 : p3.toInt < (0 : Int32).toInt ∨ (200 : Int32).toInt < p3.toInt := hi58 c59
          refine lv_iconst (v := 1) hx hb dX12_contract_52 (by decide) ?_
          refine lv_goto (tgt := 57) hx hb dX12_contract_53 (by decide) ?_
          refine lv_iconst (v := 2) hx hb dX12_contract_57 (by decide) ?_
          have hFc := gA_free hG hA hS
          refine va_calli (va_runV (As := [.int 1, .int 2]) (rest := []) ⟨hx, hb, hml, hown, hts⟩ (s_throwsIf l dC dI kA adK adV G H q wZ wN wH wB wC wL wK wU wV PI im PM PT lS lB lE lN o0 1 2 hT hr_o0 (rg_t (a := 1) (by decide) (by first | decide | omega) (by first | decide | omega)) hgz hgn hgh hgb hgc hgi hgu) (cwV 2 hts (goodIn_app (goodIn_r _ [12, 13, 14, 7] rfl (by decide +kernel)) (goodIn_ca (goodIn_r _ [11, 1] rfl (by decide +kernel)) (bs_in _ _))) rfl rfl rfl (by decide +kernel) ⟨(Nat.le_of_ble_eq_true rfl), (Nat.le_of_ble_eq_true rfl)⟩) ⟨fun a U g mk q => by obtain ⟨q0, q1, qK, qE⟩ := q; exact ⟨q0, q1, va_K.moved (u := U) (U := U.calling g mk a) (Vm.Alike.refl U.vm) qK, EVS.blind g mk a qE⟩, gH_rc hK hT hr_o0 shm_0 rfl, fun U hU hW => ⟨rfl, hU, va_K.moved hW.alike hK, hE.call hS hFc hU hW⟩⟩ rfl rfl hl.1 rfl (lv_room (Nat.le_of_ble_eq_true rfl)) dX12_contract_58 ⟨(Nat.le_of_ble_eq_true rfl), (Nat.le_of_ble_eq_true rfl)⟩) hS (fun q _ h => hFc q h) hFc (fun r136 u t H locs ht hvm hw137 hB _ _ hS => ?_)
          obtain ⟨hT, hF1⟩ := hB
          rw [ht] at hT hF1
          have hF := hF.more hF1 (by decide)
          try dsimp only at hw137
          obtain ⟨h138, hd139⟩ := hw137
          obtain rfl : (1 : Int32) = r136 := hd139.symm
          refine lv_if_ne (tgt := 85) hx hb dX12_contract_61 (by decide) (fun c140 => ?_) (fun c140 => absurd c140 (by decide))
          refine lv_iconst (v := 0) hx hb dX12_contract_85 (by decide) ?_
          exact W.iret (v := 0) hx hb hr (fun t ht hW => ⟨⟨0, (), rfl, (by exact (rg_t (a := 0) (by decide) (by first | decide | omega) (by first | decide | omega))), by (try dsimp only); rw [ht]; exact ⟨hT, hF⟩⟩, hS.F ht⟩) hS.2.2 dX12_contract_86
