def w_c_readAtom6 : List Cond := .code yX4_readAtom cX4_readAtom 4 (some .boolean) :: (HAppend.hAppend (α := List Cond) (β := List Cond) (γ := List Cond) [.fieldLink RX4 11 "SeaLand$Law" "things" "[I", .fieldLink RX4 56 "SeaLand$Law" "at" "I", .code yX4_readComparison cX4_readComparison 3 (some .boolean), .code yX4_readSum cX4_readSum 3 (some .boolean), .code yX4_readPart cX4_readPart 2 (some .boolean), .code yX4_addStep cX4_addStep 2 none, .fieldLink RX4 63 "SeaLand$Law" "stepped" "I", .fieldLink RX4 39 "SeaLand$Law" "steps" "[I", .methodLink RX4 179 yX4_addStep, .instanceMethod yX4_addStep, .selects RX4 yX4_addStep yX4_addStep, .initialized RX4, .methodLink RX4 192 yX4_readPart, .instanceMethod yX4_readPart, .selects RX4 yX4_readPart yX4_readPart, .code yX4_take cX4_take 2 (some .boolean), .methodLink RX4 70 yX4_take, .instanceMethod yX4_take, .selects RX4 yX4_take yX4_take, .methodLink RX4 189 yX4_readSum, .instanceMethod yX4_readSum, .selects RX4 yX4_readSum yX4_readSum, .methodLink RX4 186 yX4_readComparison, .instanceMethod yX4_readComparison, .selects RX4 yX4_readComparison yX4_readComparison] bs2)
set_option maxHeartbeats 4000000 in
set_option maxRecDepth 100000 in
theorem c_readAtom6 (l : Launch) (dC : Nat → ClassId) (dI : Nat → Nat → Nat) (kA : Nat → ClassId) (adK adV : Nat → Nat) (G : gT) (H0 : Heap) (nC nS : Int) (o0 : Nat) (th : Nat) (a0 : Int32) (tv ix_tv : Int32) (tn : Int32) (hT : gH (dC, dI) kA (SHc nC nS) G H0) (hr_o0 : G o0 = some 7) (hm_th : el H0 o0 (dI 7 0) = some (.ref th)) (hr_th : G th = some 40) (hm_a0 : el H0 o0 (dI 7 13) = some (.int a0)) (hq0 : 0 ≤ tn.toInt ∧ tn.toInt ≤ 400) (hq1 : 0 ≤ a0.toInt ∧ a0.toInt ≤ 400) (hat : a0.toInt ≤ tn.toInt) (hx_tv : ix_tv.toInt = tn.toInt) (hm_tv : el H0 th ix_tv.toNatClampNeg = some (.int tv)) (hv_tv : 21 ≤ tv.toInt ∧ tv.toInt ≤ 21) (hgC : 0 ≤ nC ∧ nC ≤ 40) (hgS : 0 ≤ nS ∧ nS ≤ 60) : Met l yX4_readAtom w_c_readAtom6 ({ frames := 4, cells := 0, slots := 0, locals := 86 }) (va_Pc [.ref o0, .int 6] (fun U => U.heap = H0 ∧ va_K (dC, dI) vwCl (tyl kA) U ∧ EVC adK adV (gA G H0.size) U U.heap)) (va_Qi (fun (r : Int32) (u : Int32) => (0 ≤ u.toInt ∧ u.toInt ≤ 400) ∧ (0 ≤ r.toInt ∧ r.toInt ≤ 1) ∧ (a0.toInt ≤ u.toInt ∧ u.toInt ≤ tn.toInt)) (fun (a1 : Int32) (t : State) => gH (dC, dI) kA (SHc nC nS) G t.heap ∧ gF (dC, dI) SKc G ([(7, 12), (7, 13), (49, 0)] : List (Nat × Nat)) H0 t.heap ∧ el t.heap o0 (dI 7 13) = some (.int a1)) (gA G H0.size)) 0 0 (gA G H0.size) := by
  refine Met.ofW (cc := cX4_readAtom) (maxL := 4) (ret := (some .boolean)) (by decide) rfl ?_
  intro p e s m args below meth c s₁ B hml hv
  obtain ⟨rfl, hH0, hK, hE⟩ := hv
  have hx := B.exec
  have hb := B.bytes
  have hr := B.returns
  have hts := atoms_spec (ws := w_c_readAtom6) B.pre
  have hown : s.vm.findClass RX4 = some m.cls := findClass_of_methodNamed B.named
  have hlocks := B.notSynchronized
  subst hH0
  generalize hAe : gA G s.heap.size = A at hE ⊢
  have hA : ∀ q : Nat, s.heap.size ≤ q → A q := fun q h => by rw [← hAe]; exact Or.inr h
  have hG := gA_of hAe
  have hS : va_S A s.heap s.heap [] := va_S.rf
  have hF : gF (dC, dI) SKc G ([(7, 12), (7, 13), (49, 0)] : List (Nat × Nat)) s.heap s.heap := gF.rf
  have hl := lv_entry ([.ref o0, .int 6]) (n := 4) (Nat.le_of_ble_eq_true rfl)
  rw [lg_entry_eq]
  generalize (lg_sl ([.ref o0, .int 6]) ++ List.replicate (4 - (lg_sl ([.ref o0, .int 6])).length) Slot.unset).toArray = ls at hl ⊢
  have hl : lv_has ls 4 [(0, .ref o0), (1, .int 6)] := hl
  refine lv_aload_n hx hb dX4_readAtom_0 rfl (lv_at hl 0 rfl) ?_
  refine tw_getM (v := .ref th) hx hb hts bF2_X4 hown hK hT hr_o0 shc_7 rfl 0 (by decide) (ht_at2 hts 0 rfl) (fun _ h9 => h9) hm_th dX4_readAtom_1 ?_
  refine lv_aload_n hx hb dX4_readAtom_4 rfl (lv_at hl 0 rfl) ?_
  refine tw_getM (v := .int a0) hx hb hts bF2_X4 hown hK hT hr_o0 shc_7 rfl 13 (by decide) (ht_at2 hts 1 rfl) (fun _ h9 => h9) hm_a0 dX4_readAtom_5 ?_
  refine tw_iald (i := a0) hx hb hK hT hr_th shc_40 rfl (vin_t (a := a0.toInt) rfl (by omega) (by omega)) dX4_readAtom_8 (fun v9 m1 h9 => ?_)
  obtain ⟨x2, rfl, gx2, kx2⟩ := h9
  have t3 : a0.toInt = ix_tv.toInt → x2.toInt = tv.toInt := fun h8 => congrArg Int32.toInt (el_same m1 hm_tv h8)
  refine lv_bipush (v := 13) hx hb dX4_readAtom_9 (by decide) ?_
  have t4 : -2147483648 ≤ x2.toInt ∧ x2.toInt ≤ 2147483647 := ti_all x2
  refine lv_icmp_ne (tgt := 18) hx hb dX4_readAtom_11 (by decide) (fun c5 => ?_) (fun c5 => ?_)
  · have t6 : x2.toInt ≠ 13 := ti_ne c5 rfl (by decide)
    refine lv_iconst (v := 0) hx hb dX4_readAtom_18 (by decide) ?_
    refine lv_istore_n (lv' := [(2, .int 0), (0, .ref o0), (1, .int 6)]) hx hb dX4_readAtom_19 rfl hl (by decide) rfl (fun ls hl => ?_)
    refine lv_iload_n hx hb dX4_readAtom_20 rfl (lv_at hl 0 rfl) ?_
    refine lv_if_ne (tgt := 43) hx hb dX4_readAtom_21 (by decide) (fun c7 => absurd c7 (by decide)) (fun c7 => ?_)
    refine lv_aload_n hx hb dX4_readAtom_24 rfl (lv_at hl 1 rfl) ?_
    refine tw_getM (v := .ref th) hx hb hts bF2_X4 hown hK hT hr_o0 shc_7 rfl 0 (by decide) (ht_at2 hts 0 rfl) (fun _ h9 => h9) hm_th dX4_readAtom_25 ?_
    refine lv_aload_n hx hb dX4_readAtom_28 rfl (lv_at hl 1 rfl) ?_
    refine tw_getM (v := .int a0) hx hb hts bF2_X4 hown hK hT hr_o0 shc_7 rfl 13 (by decide) (ht_at2 hts 1 rfl) (fun _ h9 => h9) hm_a0 dX4_readAtom_29 ?_
    refine tw_iald (i := a0) hx hb hK hT hr_th shc_40 rfl (vin_t (a := a0.toInt) rfl (by omega) (by omega)) dX4_readAtom_32 (fun v9 m8 h9 => ?_)
    obtain ⟨x9, rfl, gx9, kx9⟩ := h9
    have t10 : a0.toInt = ix_tv.toInt → x9.toInt = tv.toInt := fun h8 => congrArg Int32.toInt (el_same m8 hm_tv h8)
    obtain rfl : x2 = x9 := (el_same m8 m1 rfl).symm
    refine lv_bipush (v := 16) hx hb dX4_readAtom_33 (by decide) ?_
    refine lv_icmp_eq (tgt := 43) hx hb dX4_readAtom_35 (by decide) (fun c11 => ?_) (fun c11 => ?_)
    · have t12 : x2.toInt = 16 := ti_eq c11 rfl (by decide)
      refine lv_iload_n hx hb dX4_readAtom_43 rfl (lv_at hl 2 rfl) ?_
      refine lv_bipush (v := 6) hx hb dX4_readAtom_44 (by decide) ?_
      refine lv_icmp_lt (tgt := 51) hx hb dX4_readAtom_46 (by decide) (fun c13 => absurd c13 (by decide)) (fun c13 => ?_)
      refine lv_iconst (v := 0) hx hb dX4_readAtom_49 (by decide) ?_
      exact W.zret (v := 0) hx hb hr (by decide) (fun t ht hW => ⟨⟨0, a0, rfl, (by exact ⟨(by have q8 := ti_all a0; omega), (rg_t (a := 0) (by decide) (by first | decide | omega) (by first | decide | omega)), (by omega)⟩), by (try dsimp only); rw [ht]; exact ⟨hT, hF, hm_a0⟩⟩, hS.F ht⟩) hS.2.2 dX4_readAtom_50
    · have t14 : x2.toInt ≠ 16 := ti_ne c11 rfl (by decide)
      refine lv_aload_n hx hb dX4_readAtom_38 rfl (lv_at hl 1 rfl) ?_
      have hFc := gA_free hG hA hS
      refine va_calli (va_runV (As := []) (rest := []) ⟨hx, hb, hml, hown, hts⟩ (c_readComparison l dC dI kA adK adV G s.heap nC nS o0 th a0 tv ix_tv ix_tv hT hr_o0 hm_th hr_th hm_a0 (by have q8 := ti_all ix_tv; omega) (by have q8 := ti_all a0; omega) (by have := (show a0.toInt = a0.toInt from rfl); have := (show ix_tv.toInt = ix_tv.toInt from rfl); omega) (by have q9 := (show ix_tv.toInt = ix_tv.toInt from rfl); have := (show ix_tv.toInt = ix_tv.toInt from rfl); omega) hm_tv (by have q8 := ti_all tv; omega) (by omega) (by omega)) (cwV 0 hts (goodIn_app (goodIn_r _ [23, 24, 25, 12] rfl (by decide +kernel)) (goodIn_ca (goodIn_r _ [3, 4, 5, 1, 2, 6, 7, 8, 9, 10, 11, 12, 13, 14, 15, 16, 17, 18, 19, 20, 21, 22] rfl (by decide +kernel)) (bs2_in _ _))) rfl rfl rfl (by decide +kernel) ⟨(Nat.le_of_ble_eq_true rfl), (Nat.le_of_ble_eq_true rfl)⟩) ⟨fun a U g mk q => by obtain ⟨q0, q1, qK, qE⟩ := q; exact ⟨q0, q1, va_K.moved (u := U) (U := U.calling g mk a) (Vm.Alike.refl U.vm) qK, EVC.blind g mk a qE⟩, gH_rc hK hT hr_o0 shc_7 rfl, fun U hU hW => ⟨rfl, hU, va_K.moved hW.alike hK, hE.call hS hFc hU hW⟩⟩ rfl rfl hl.1 rfl (lv_room (Nat.le_of_ble_eq_true rfl)) dX4_readAtom_39 ⟨(Nat.le_of_ble_eq_true rfl), (Nat.le_of_ble_eq_true rfl)⟩) hS (fun q _ h => hFc q h) hFc (fun r15 u t H locs ht hvm hw16 hB _ _ hS => ?_)
      obtain ⟨u17, rfl⟩ : ∃ z, z = u := ⟨_, rfl⟩
      obtain ⟨hT, hF1, m18⟩ := hB
      rw [ht] at hT hF1 m18
      have hF := hF.more hF1 (by decide)
      try dsimp only at hw16
      obtain ⟨h23, h24, hf25⟩ := hw16
      exact W.zret (v := r15) hx hb hr (nar_b (by have q8 := ti_all r15; omega)) (fun t ht hW => ⟨⟨r15, u17, rfl, (by exact ⟨(by have q8 := ti_all u17; omega), (by have q8 := ti_all r15; omega), (by omega)⟩), by (try dsimp only); rw [ht]; exact ⟨hT, hF, m18⟩⟩, hS.F ht⟩) hS.2.2 dX4_readAtom_42
  · have t26 : x2.toInt = 13 := ti_eq c5 rfl (by decide)
    refine lv_iconst (v := 1) hx hb dX4_readAtom_14 (by decide) ?_
    refine lv_goto (tgt := 19) hx hb dX4_readAtom_15 (by decide) ?_
    refine lv_istore_n (lv' := [(2, .int 1), (0, .ref o0), (1, .int 6)]) hx hb dX4_readAtom_19 rfl hl (by decide) rfl (fun ls hl => ?_)
    refine lv_iload_n hx hb dX4_readAtom_20 rfl (lv_at hl 0 rfl) ?_
    refine lv_if_ne (tgt := 43) hx hb dX4_readAtom_21 (by decide) (fun c27 => ?_) (fun c27 => absurd c27 (by decide))
    refine lv_iload_n hx hb dX4_readAtom_43 rfl (lv_at hl 2 rfl) ?_
    refine lv_bipush (v := 6) hx hb dX4_readAtom_44 (by decide) ?_
    refine lv_icmp_lt (tgt := 51) hx hb dX4_readAtom_46 (by decide) (fun c28 => absurd c28 (by decide)) (fun c28 => ?_)
    refine lv_iconst (v := 0) hx hb dX4_readAtom_49 (by decide) ?_
    exact W.zret (v := 0) hx hb hr (by decide) (fun t ht hW => ⟨⟨0, a0, rfl, (by exact ⟨(by have q8 := ti_all a0; omega), (rg_t (a := 0) (by decide) (by first | decide | omega) (by first | decide | omega)), (by omega)⟩), by (try dsimp only); rw [ht]; exact ⟨hT, hF, hm_a0⟩⟩, hS.F ht⟩) hS.2.2 dX4_readAtom_50
def w_c_readAll6 : List Cond := .code yX4_readAll cX4_readAll 4 (some .boolean) :: (HAppend.hAppend (α := List Cond) (β := List Cond) (γ := List Cond) [.code yX4_readAtom cX4_readAtom 4 (some .boolean), .fieldLink RX4 11 "SeaLand$Law" "things" "[I", .fieldLink RX4 56 "SeaLand$Law" "at" "I", .code yX4_readComparison cX4_readComparison 3 (some .boolean), .code yX4_readSum cX4_readSum 3 (some .boolean), .code yX4_readPart cX4_readPart 2 (some .boolean), .code yX4_addStep cX4_addStep 2 none, .fieldLink RX4 63 "SeaLand$Law" "stepped" "I", .fieldLink RX4 39 "SeaLand$Law" "steps" "[I", .methodLink RX4 179 yX4_addStep, .instanceMethod yX4_addStep, .selects RX4 yX4_addStep yX4_addStep, .initialized RX4, .methodLink RX4 192 yX4_readPart, .instanceMethod yX4_readPart, .selects RX4 yX4_readPart yX4_readPart, .code yX4_take cX4_take 2 (some .boolean), .methodLink RX4 70 yX4_take, .instanceMethod yX4_take, .selects RX4 yX4_take yX4_take, .methodLink RX4 189 yX4_readSum, .instanceMethod yX4_readSum, .selects RX4 yX4_readSum yX4_readSum, .methodLink RX4 186 yX4_readComparison, .instanceMethod yX4_readComparison, .selects RX4 yX4_readComparison yX4_readComparison, .methodLink RX4 183 yX4_readAtom, .instanceMethod yX4_readAtom, .selects RX4 yX4_readAtom yX4_readAtom] bs2)
set_option maxHeartbeats 4000000 in
set_option maxRecDepth 100000 in
theorem c_readAll6 (l : Launch) (dC : Nat → ClassId) (dI : Nat → Nat → Nat) (kA : Nat → ClassId) (adK adV : Nat → Nat) (G : gT) (H0 : Heap) (nC nS : Int) (o0 : Nat) (th : Nat) (a0 : Int32) (tv ix_tv : Int32) (tn : Int32) (hT : gH (dC, dI) kA (SHc nC nS) G H0) (hr_o0 : G o0 = some 7) (hm_th : el H0 o0 (dI 7 0) = some (.ref th)) (hr_th : G th = some 40) (hm_a0 : el H0 o0 (dI 7 13) = some (.int a0)) (hq0 : 0 ≤ tn.toInt ∧ tn.toInt ≤ 400) (hq1 : 0 ≤ a0.toInt ∧ a0.toInt ≤ 400) (hat : a0.toInt ≤ tn.toInt) (hx_tv : ix_tv.toInt = tn.toInt) (hm_tv : el H0 th ix_tv.toNatClampNeg = some (.int tv)) (hv_tv : 21 ≤ tv.toInt ∧ tv.toInt ≤ 21) (hgC : 0 ≤ nC ∧ nC ≤ 40) (hgS : 0 ≤ nS ∧ nS ≤ 60) : Met l yX4_readAll w_c_readAll6 ({ frames := 5, cells := 0, slots := 0, locals := 109 }) (va_Pc [.ref o0, .int 6] (fun U => U.heap = H0 ∧ va_K (dC, dI) vwCl (tyl kA) U ∧ EVC adK adV (gA G H0.size) U U.heap)) (va_Qi (fun (r : Int32) (u : Int32) => (0 ≤ u.toInt ∧ u.toInt ≤ 400) ∧ (0 ≤ r.toInt ∧ r.toInt ≤ 1) ∧ (a0.toInt ≤ u.toInt ∧ u.toInt ≤ tn.toInt)) (fun (a1 : Int32) (t : State) => gH (dC, dI) kA (SHc nC nS) G t.heap ∧ gF (dC, dI) SKc G ([(7, 12), (7, 13), (49, 0)] : List (Nat × Nat)) H0 t.heap ∧ el t.heap o0 (dI 7 13) = some (.int a1)) (gA G H0.size)) 0 0 (gA G H0.size) := by
  refine Met.ofW (cc := cX4_readAll) (maxL := 4) (ret := (some .boolean)) (by decide) rfl ?_
  intro p e s m args below meth c s₁ B hml hv
  obtain ⟨rfl, hH0, hK, hE⟩ := hv
  have hx := B.exec
  have hb := B.bytes
  have hr := B.returns
  have hts := atoms_spec (ws := w_c_readAll6) B.pre
  have hown : s.vm.findClass RX4 = some m.cls := findClass_of_methodNamed B.named
  have hlocks := B.notSynchronized
  subst hH0
  generalize hAe : gA G s.heap.size = A at hE ⊢
  have hA : ∀ q : Nat, s.heap.size ≤ q → A q := fun q h => by rw [← hAe]; exact Or.inr h
  have hG := gA_of hAe
  have hS : va_S A s.heap s.heap [] := va_S.rf
  have hF : gF (dC, dI) SKc G ([(7, 12), (7, 13), (49, 0)] : List (Nat × Nat)) s.heap s.heap := gF.rf
  have hl := lv_entry ([.ref o0, .int 6]) (n := 4) (Nat.le_of_ble_eq_true rfl)
  rw [lg_entry_eq]
  generalize (lg_sl ([.ref o0, .int 6]) ++ List.replicate (4 - (lg_sl ([.ref o0, .int 6])).length) Slot.unset).toArray = ls at hl ⊢
  have hl : lv_has ls 4 [(0, .ref o0), (1, .int 6)] := hl
  refine lv_aload_n hx hb dX4_readAll_0 rfl (lv_at hl 0 rfl) ?_
  refine lv_iload_n hx hb dX4_readAll_1 rfl (lv_at hl 1 rfl) ?_
  have hFc := gA_free hG hA hS
  refine va_calli (va_runV (As := [.int 6]) (rest := []) ⟨hx, hb, hml, hown, hts⟩ (c_readAtom6 l dC dI kA adK adV G s.heap nC nS o0 th a0 tv ix_tv ix_tv hT hr_o0 hm_th hr_th hm_a0 (by have q8 := ti_all ix_tv; omega) (by have q8 := ti_all a0; omega) (by have := (show a0.toInt = a0.toInt from rfl); have := (show ix_tv.toInt = ix_tv.toInt from rfl); omega) (by have q9 := (show ix_tv.toInt = ix_tv.toInt from rfl); have := (show ix_tv.toInt = ix_tv.toInt from rfl); omega) hm_tv (by have q8 := ti_all tv; omega) (by omega) (by omega)) (cwV 1 hts (goodIn_app (goodIn_r _ [27, 28, 29, 13] rfl (by decide +kernel)) (goodIn_ca (goodIn_r _ [1, 2, 3, 4, 5, 6, 7, 8, 9, 10, 11, 12, 13, 14, 15, 16, 17, 18, 19, 20, 21, 22, 23, 24, 25, 26] rfl (by decide +kernel)) (bs2_in _ _))) rfl rfl rfl (by decide +kernel) ⟨(Nat.le_of_ble_eq_true rfl), (Nat.le_of_ble_eq_true rfl)⟩) ⟨fun a U g mk q => by obtain ⟨q0, q1, qK, qE⟩ := q; exact ⟨q0, q1, va_K.moved (u := U) (U := U.calling g mk a) (Vm.Alike.refl U.vm) qK, EVC.blind g mk a qE⟩, gH_rc hK hT hr_o0 shc_7 rfl, fun U hU hW => ⟨rfl, hU, va_K.moved hW.alike hK, hE.call hS hFc hU hW⟩⟩ rfl rfl hl.1 rfl (lv_room (Nat.le_of_ble_eq_true rfl)) dX4_readAll_2 ⟨(Nat.le_of_ble_eq_true rfl), (Nat.le_of_ble_eq_true rfl)⟩) hS (fun q _ h => hFc q h) hFc (fun r1 u t H locs ht hvm hw2 hB _ _ hS => ?_)
  obtain ⟨u3, rfl⟩ : ∃ z, z = u := ⟨_, rfl⟩
  obtain ⟨hT, hF1, m4⟩ := hB
  rw [ht] at hT hF1 m4
  have m5 := (hF1.fld hr_o0 skc_7 (k := 0) (by decide) (by decide)).trans hm_th
  have m7 := (el_kept (hF1.arr hr_th skc_40 (by decide))).trans hm_tv
  have hF := hF.more hF1 (by decide)
  try dsimp only at hw2
  obtain ⟨h8, h9, hf10⟩ := hw2
  refine lv_istore_n (lv' := [(2, .int r1), (0, .ref o0), (1, .int 6)]) hx hb dX4_readAll_5 rfl hl (by decide) rfl (fun ls hl => ?_)
  refine lv_iconst (v := 0) hx hb dX4_readAll_6 (by decide) ?_
  refine lv_istore_n (lv' := [(3, .int 0), (2, .int r1), (0, .ref o0), (1, .int 6)]) hx hb dX4_readAll_7 rfl hl (by decide) rfl (fun ls hl => ?_)
  have key53 : ∀ (n53 i11 : Nat), i11 + n53 = 400 → 0 ≤ i11 → ∀ (z12 : Int32), ∀ (z16 : Int32), ((0 ≤ z12.toInt ∧ z12.toInt ≤ 1) ∧ (0 ≤ z16.toInt ∧ z16.toInt ≤ 400) ∧ (a0.toInt ≤ z16.toInt ∧ z16.toInt ≤ tn.toInt)) → ∀ (H : Heap) (locs : List Loc), gH (dC, dI) kA (SHc nC nS) G H → gF (dC, dI) SKc G ([(7, 12), (7, 13), (49, 0)] : List (Nat × Nat)) s.heap H → va_S A s.heap H locs → el H o0 (dI 7 0) = some (.ref th) → el H th ix_tv.toNatClampNeg = some (.int tv) → el H o0 (dI 7 13) = some (.int z16) → ∀ ls : Array Slot, lv_has ls 4 [(3, .int (nI i11)), (2, .int z12), (0, .ref o0), (1, .int 6)] → W p l e (headSpec w_c_readAll6 ({ frames := 5, cells := 0, slots := 0, locals := 109 })).room s m #[.ref o0, .int 6] below meth c H locs 0 0 (MQ below (va_Qi (fun (r : Int32) (u : Int32) => (0 ≤ u.toInt ∧ u.toInt ≤ 400) ∧ (0 ≤ r.toInt ∧ r.toInt ≤ 1) ∧ (a0.toInt ≤ u.toInt ∧ u.toInt ≤ tn.toInt)) (fun (a1 : Int32) (t : State) => gH (dC, dI) kA (SHc nC nS) G t.heap ∧ gF (dC, dI) SKc G ([(7, 12), (7, 13), (49, 0)] : List (Nat × Nat)) s.heap t.heap ∧ el t.heap o0 (dI 7 13) = some (.int a1)) A) #[.ref o0, .int 6] s 0 0 A) (F0 m 8 ls []) := by
    intro n53
    induction n53 with
    | zero =>
      intro i11 hn53 hlo54 z12 z16 ⟨h13, h17, hj19⟩ H locs hT hF hS m14 m15 m18 ls hl
      obtain rfl : 400 = i11 := by omega
      refine lv_iload_n hx hb dX4_readAll_8 rfl (lv_at hl 0 rfl) ?_
      refine lv_sipush (v := 400) hx hb dX4_readAll_9 (by decide) ?_
      refine lv_icmp_ge (tgt := 46) hx hb dX4_readAll_12 (by decide) (fun c55 => ?_) (fun c55 => (by exfalso; have q9 : ((400 : Nat) : Int) < 400 := ti_nle c55 (by decide) (nI_toInt (by omega)); omega))
      have t56 : 400 ≤ ((400 : Nat) : Int) := ti_le c55 (by decide) (nI_toInt (by omega))
      refine lv_iload_n hx hb dX4_readAll_46 rfl (lv_at hl 1 rfl) ?_
      exact W.zret (v := z12) hx hb hr (nar_b (by have q8 := ti_all z12; omega)) (fun t ht hW => ⟨⟨z12, z16, rfl, (by exact ⟨(by have q8 := ti_all z16; omega), (by have q8 := ti_all z12; omega), (by omega)⟩), by (try dsimp only); rw [ht]; exact ⟨hT, hF, m18⟩⟩, hS.F ht⟩) hS.2.2 dX4_readAll_47
    | succ n53 ih53 =>
      intro i11 hn53 hlo54 z12 z16 ⟨h13, h17, hj19⟩ H locs hT hF hS m14 m15 m18 ls hl
      have hlt56 : i11 < 400 := by omega
      refine lv_iload_n hx hb dX4_readAll_8 rfl (lv_at hl 0 rfl) ?_
      refine lv_sipush (v := 400) hx hb dX4_readAll_9 (by decide) ?_
      refine lv_icmp_ge (tgt := 46) hx hb dX4_readAll_12 (by decide) (fun c57 => (by exfalso; have q9 : 400 ≤ ((i11 : Nat) : Int) := ti_le c57 (by decide) (nI_toInt (by omega)); omega)) (fun c57 => ?_)
      have t58 : ((i11 : Nat) : Int) < 400 := ti_nle c57 (by decide) (nI_toInt (by omega))
      refine lv_iload_n hx hb dX4_readAll_15 rfl (lv_at hl 1 rfl) ?_
      refine lv_if_eq (tgt := 46) hx hb dX4_readAll_16 (by decide) (fun c59 => ?_) (fun c59 => ?_)
      · have t60 : z12.toInt = 0 := ti_eq c59 rfl (by decide)
        refine lv_iload_n hx hb dX4_readAll_46 rfl (lv_at hl 1 rfl) ?_
        exact W.zret (v := z12) hx hb hr (nar_b (by have q8 := ti_all z12; omega)) (fun t ht hW => ⟨⟨z12, z16, rfl, (by exact ⟨(by have q8 := ti_all z16; omega), (by have q8 := ti_all z12; omega), (by omega)⟩), by (try dsimp only); rw [ht]; exact ⟨hT, hF, m18⟩⟩, hS.F ht⟩) hS.2.2 dX4_readAll_47
      · have t61 : z12.toInt ≠ 0 := ti_ne c59 rfl (by decide)
        refine lv_aload_n hx hb dX4_readAll_19 rfl (lv_at hl 2 rfl) ?_
        refine lv_bipush (v := 14) hx hb dX4_readAll_20 (by decide) ?_
        have hFc := gA_free hG hA hS
        refine va_calli (va_runV (As := [.int 14]) (rest := []) ⟨hx, hb, hml, hown, hts⟩ (c_take l dC dI kA adK adV G H nC nS o0 14 th z16 tv ix_tv ix_tv hT hr_o0 m14 hr_th m18 (by have q8 := ti_all ix_tv; omega) (by have q8 := ti_all z16; omega) (by have := (show z16.toInt = z16.toInt from rfl); have := (show ix_tv.toInt = ix_tv.toInt from rfl); omega) (by have := (show (14 : Int32).toInt = 14 from (by decide)); omega) (by have q9 := (show ix_tv.toInt = ix_tv.toInt from rfl); have := (show ix_tv.toInt = ix_tv.toInt from rfl); omega) m15 (by have q8 := ti_all tv; omega) (by omega) (by omega)) (cwV 1 hts (goodIn_app (goodIn_r _ [18, 19, 20, 13] rfl (by decide +kernel)) (goodIn_ca (goodIn_r _ [17, 2, 3] rfl (by decide +kernel)) (bs2_in _ _))) rfl rfl rfl (by decide +kernel) ⟨(Nat.le_of_ble_eq_true rfl), (Nat.le_of_ble_eq_true rfl)⟩) ⟨fun a U g mk q => by obtain ⟨q0, q1, qK, qE⟩ := q; exact ⟨q0, q1, va_K.moved (u := U) (U := U.calling g mk a) (Vm.Alike.refl U.vm) qK, EVC.blind g mk a qE⟩, gH_rc hK hT hr_o0 shc_7 rfl, fun U hU hW => ⟨rfl, hU, va_K.moved hW.alike hK, hE.call hS hFc hU hW⟩⟩ rfl rfl hl.1 rfl (lv_room (Nat.le_of_ble_eq_true rfl)) dX4_readAll_22 ⟨(Nat.le_of_ble_eq_true rfl), (Nat.le_of_ble_eq_true rfl)⟩) hS (fun q _ h => hFc q h) hFc (fun r62 u t H locs ht hvm hw63 hB _ _ hS => ?_)
        obtain ⟨u64, rfl⟩ : ∃ z, z = u := ⟨_, rfl⟩
        obtain ⟨hT, hF1, m65⟩ := hB
        rw [ht] at hT hF1 m65
        have m66 := (hF1.fld hr_o0 skc_7 (k := 0) (by decide) (by decide)).trans m14
        have m67 := (el_kept (hF1.arr hr_th skc_40 (by decide))).trans m15
        have hF := hF.more hF1 (by decide)
        try dsimp only at hw63
        obtain ⟨h69, h70, hf71⟩ := hw63
        refine lv_if_eq (tgt := 46) hx hb dX4_readAll_25 (by decide) (fun c72 => ?_) (fun c72 => ?_)
        · have t73 : r62.toInt = 0 := ti_eq c72 rfl (by decide)
          refine lv_iload_n hx hb dX4_readAll_46 rfl (lv_at hl 1 rfl) ?_
          exact W.zret (v := z12) hx hb hr (nar_b (by have q8 := ti_all z12; omega)) (fun t ht hW => ⟨⟨z12, u64, rfl, (by exact ⟨(by have q8 := ti_all u64; omega), (by have q8 := ti_all z12; omega), (by omega)⟩), by (try dsimp only); rw [ht]; exact ⟨hT, hF, m65⟩⟩, hS.F ht⟩) hS.2.2 dX4_readAll_47
        · have t74 : r62.toInt ≠ 0 := ti_ne c72 rfl (by decide)
          refine lv_aload_n hx hb dX4_readAll_28 rfl (lv_at hl 2 rfl) ?_
          refine lv_iload_n hx hb dX4_readAll_29 rfl (lv_at hl 3 rfl) ?_
          have hFc := gA_free hG hA hS
          refine va_calli (va_runV (As := [.int 6]) (rest := []) ⟨hx, hb, hml, hown, hts⟩ (c_readAtom6 l dC dI kA adK adV G H nC nS o0 th u64 tv ix_tv ix_tv hT hr_o0 m66 hr_th m65 (by have q8 := ti_all ix_tv; omega) (by have q8 := ti_all u64; omega) (by have := (show u64.toInt = u64.toInt from rfl); have := (show ix_tv.toInt = ix_tv.toInt from rfl); omega) (by have q9 := (show ix_tv.toInt = ix_tv.toInt from rfl); have := (show ix_tv.toInt = ix_tv.toInt from rfl); omega) m67 (by have q8 := ti_all tv; omega) (by omega) (by omega)) (cwV 1 hts (goodIn_app (goodIn_r _ [27, 28, 29, 13] rfl (by decide +kernel)) (goodIn_ca (goodIn_r _ [1, 2, 3, 4, 5, 6, 7, 8, 9, 10, 11, 12, 13, 14, 15, 16, 17, 18, 19, 20, 21, 22, 23, 24, 25, 26] rfl (by decide +kernel)) (bs2_in _ _))) rfl rfl rfl (by decide +kernel) ⟨(Nat.le_of_ble_eq_true rfl), (Nat.le_of_ble_eq_true rfl)⟩) ⟨fun a U g mk q => by obtain ⟨q0, q1, qK, qE⟩ := q; exact ⟨q0, q1, va_K.moved (u := U) (U := U.calling g mk a) (Vm.Alike.refl U.vm) qK, EVC.blind g mk a qE⟩, gH_rc hK hT hr_o0 shc_7 rfl, fun U hU hW => ⟨rfl, hU, va_K.moved hW.alike hK, hE.call hS hFc hU hW⟩⟩ rfl rfl hl.1 rfl (lv_room (Nat.le_of_ble_eq_true rfl)) dX4_readAll_30 ⟨(Nat.le_of_ble_eq_true rfl), (Nat.le_of_ble_eq_true rfl)⟩) hS (fun q _ h => hFc q h) hFc (fun r75 u t H locs ht hvm hw76 hB _ _ hS => ?_)
          obtain ⟨u77, rfl⟩ : ∃ z, z = u := ⟨_, rfl⟩
          obtain ⟨hT, hF1, m78⟩ := hB
          rw [ht] at hT hF1 m78
          have m79 := (hF1.fld hr_o0 skc_7 (k := 0) (by decide) (by decide)).trans m66
          have m80 := (el_kept (hF1.arr hr_th skc_40 (by decide))).trans m67
          have hF := hF.more hF1 (by decide)
          try dsimp only at hw76
          obtain ⟨h82, h83, hf84⟩ := hw76
          refine lv_istore_n (lv' := [(2, .int r75), (3, .int (nI i11)), (0, .ref o0), (1, .int 6)]) hx hb dX4_readAll_33 rfl hl (by decide) rfl (fun ls hl => ?_)
          refine lv_aload_n hx hb dX4_readAll_34 rfl (lv_at hl 2 rfl) ?_
          refine lv_bipush (v := 14) hx hb dX4_readAll_35 (by decide) ?_
          have hFc := gA_free hG hA hS
          refine va_callv (va_runV (As := [.int 14]) (rest := []) ⟨hx, hb, hml, hown, hts⟩ (c_addStep l dC dI kA adK adV G H nC nS o0 14 hT hr_o0 (rg_t (a := 14) (by decide) (by first | decide | omega) (by first | decide | omega)) (by omega) (by omega)) (cwV 1 hts (goodIn_app (goodIn_r _ [10, 11, 12, 13] rfl (by decide +kernel)) (goodIn_ca (goodIn_r _ [7, 8, 9] rfl (by decide +kernel)) (bs2_in _ _))) rfl rfl rfl (by decide +kernel) ⟨(Nat.le_of_ble_eq_true rfl), (Nat.le_of_ble_eq_true rfl)⟩) ⟨fun a U g mk q => by obtain ⟨q0, q1, qK, qE⟩ := q; exact ⟨q0, q1, va_K.moved (u := U) (U := U.calling g mk a) (Vm.Alike.refl U.vm) qK, EVC.blind g mk a qE⟩, gH_rc hK hT hr_o0 shc_7 rfl, fun U hU hW => ⟨rfl, hU, va_K.moved hW.alike hK, hE.call hS hFc hU hW⟩⟩ rfl rfl hl.1 rfl (lv_room (Nat.le_of_ble_eq_true rfl)) dX4_readAll_37 ⟨(Nat.le_of_ble_eq_true rfl), (Nat.le_of_ble_eq_true rfl)⟩) hS (fun q _ h => hFc q h) hFc (fun u t H locs ht hvm hw86 hB _ _ hS => ?_)
          obtain ⟨hT, hF1⟩ := hB
          rw [ht] at hT hF1
          have m87 := (hF1.fld hr_o0 skc_7 (k := 0) (by decide) (by decide)).trans m79
          have m88 := (el_kept (hF1.arr hr_th skc_40 (by decide))).trans m80
          have m89 := (hF1.fld hr_o0 skc_7 (k := 13) (by decide) (by decide)).trans m78
          have hF := hF.more hF1 (by decide)
          try dsimp only at hw86
          refine lv_iinc (v := nI (i11 + 1)) (lv' := [(3, .int (nI (i11 + 1))), (2, .int r75), (0, .ref o0), (1, .int 6)]) hx hb dX4_readAll_40 hl (k := 1) rfl (nI_add i11 1) (by decide) rfl (fun ls hl => ?_)
          refine lv_goto (tgt := 8) hx hb dX4_readAll_43 (by decide) ?_
          exact ih53 (i11 + 1) (by omega) (by omega) r75 u77 ⟨(by have q8 := ti_all r75; omega), (by have q8 := ti_all u77; omega), (by have := hx_tv; have := (show u77.toInt = u77.toInt from rfl); omega)⟩ _ _ hT hF hS m87 m88 m89 ls (lv_sub hl [0, 1, 2, 3] rfl)
  exact key53 (400 - 0) 0 (by omega) (Nat.le_refl _) r1 u3 ⟨(by have q8 := ti_all r1; omega), (by have q8 := ti_all u3; omega), (by have := hx_tv; have := (show u3.toInt = u3.toInt from rfl); omega)⟩ _ _ hT hF hS m5 m7 m4 ls (lv_sub hl [0, 1, 2, 3] rfl)
def w_c_readAny6 : List Cond := .code yX4_readAny cX4_readAny 4 (some .boolean) :: (HAppend.hAppend (α := List Cond) (β := List Cond) (γ := List Cond) [.code yX4_readAll cX4_readAll 4 (some .boolean), .code yX4_readAtom cX4_readAtom 4 (some .boolean), .fieldLink RX4 11 "SeaLand$Law" "things" "[I", .fieldLink RX4 56 "SeaLand$Law" "at" "I", .code yX4_readComparison cX4_readComparison 3 (some .boolean), .code yX4_readSum cX4_readSum 3 (some .boolean), .code yX4_readPart cX4_readPart 2 (some .boolean), .code yX4_addStep cX4_addStep 2 none, .fieldLink RX4 63 "SeaLand$Law" "stepped" "I", .fieldLink RX4 39 "SeaLand$Law" "steps" "[I", .methodLink RX4 179 yX4_addStep, .instanceMethod yX4_addStep, .selects RX4 yX4_addStep yX4_addStep, .initialized RX4, .methodLink RX4 192 yX4_readPart, .instanceMethod yX4_readPart, .selects RX4 yX4_readPart yX4_readPart, .code yX4_take cX4_take 2 (some .boolean), .methodLink RX4 70 yX4_take, .instanceMethod yX4_take, .selects RX4 yX4_take yX4_take, .methodLink RX4 189 yX4_readSum, .instanceMethod yX4_readSum, .selects RX4 yX4_readSum yX4_readSum, .methodLink RX4 186 yX4_readComparison, .instanceMethod yX4_readComparison, .selects RX4 yX4_readComparison yX4_readComparison, .methodLink RX4 183 yX4_readAtom, .instanceMethod yX4_readAtom, .selects RX4 yX4_readAtom yX4_readAtom, .methodLink RX4 176 yX4_readAll, .instanceMethod yX4_readAll, .selects RX4 yX4_readAll yX4_readAll] bs2)
set_option maxHeartbeats 4000000 in
set_option maxRecDepth 100000 in
theorem c_readAny6 (l : Launch) (dC : Nat → ClassId) (dI : Nat → Nat → Nat) (kA : Nat → ClassId) (adK adV : Nat → Nat) (G : gT) (H0 : Heap) (nC nS : Int) (o0 : Nat) (th : Nat) (a0 : Int32) (tv ix_tv : Int32) (tn : Int32) (hT : gH (dC, dI) kA (SHc nC nS) G H0) (hr_o0 : G o0 = some 7) (hm_th : el H0 o0 (dI 7 0) = some (.ref th)) (hr_th : G th = some 40) (hm_a0 : el H0 o0 (dI 7 13) = some (.int a0)) (hq0 : 0 ≤ tn.toInt ∧ tn.toInt ≤ 400) (hq1 : 0 ≤ a0.toInt ∧ a0.toInt ≤ 400) (hat : a0.toInt ≤ tn.toInt) (hx_tv : ix_tv.toInt = tn.toInt) (hm_tv : el H0 th ix_tv.toNatClampNeg = some (.int tv)) (hv_tv : 21 ≤ tv.toInt ∧ tv.toInt ≤ 21) (hgC : 0 ≤ nC ∧ nC ≤ 40) (hgS : 0 ≤ nS ∧ nS ≤ 60) : Met l yX4_readAny w_c_readAny6 ({ frames := 6, cells := 0, slots := 0, locals := 132 }) (va_Pc [.ref o0, .int 6] (fun U => U.heap = H0 ∧ va_K (dC, dI) vwCl (tyl kA) U ∧ EVC adK adV (gA G H0.size) U U.heap)) (va_Qi (fun (r : Int32) (u : Int32) => (0 ≤ u.toInt ∧ u.toInt ≤ 400) ∧ (0 ≤ r.toInt ∧ r.toInt ≤ 1) ∧ (a0.toInt ≤ u.toInt ∧ u.toInt ≤ tn.toInt)) (fun (a1 : Int32) (t : State) => gH (dC, dI) kA (SHc nC nS) G t.heap ∧ gF (dC, dI) SKc G ([(7, 12), (7, 13), (49, 0)] : List (Nat × Nat)) H0 t.heap ∧ el t.heap o0 (dI 7 13) = some (.int a1)) (gA G H0.size)) 0 0 (gA G H0.size) := by
  refine Met.ofW (cc := cX4_readAny) (maxL := 4) (ret := (some .boolean)) (by decide) rfl ?_
  intro p e s m args below meth c s₁ B hml hv
  obtain ⟨rfl, hH0, hK, hE⟩ := hv
  have hx := B.exec
  have hb := B.bytes
  have hr := B.returns
  have hts := atoms_spec (ws := w_c_readAny6) B.pre
  have hown : s.vm.findClass RX4 = some m.cls := findClass_of_methodNamed B.named
  have hlocks := B.notSynchronized
  subst hH0
  generalize hAe : gA G s.heap.size = A at hE ⊢
  have hA : ∀ q : Nat, s.heap.size ≤ q → A q := fun q h => by rw [← hAe]; exact Or.inr h
  have hG := gA_of hAe
  have hS : va_S A s.heap s.heap [] := va_S.rf
  have hF : gF (dC, dI) SKc G ([(7, 12), (7, 13), (49, 0)] : List (Nat × Nat)) s.heap s.heap := gF.rf
  have hl := lv_entry ([.ref o0, .int 6]) (n := 4) (Nat.le_of_ble_eq_true rfl)
  rw [lg_entry_eq]
  generalize (lg_sl ([.ref o0, .int 6]) ++ List.replicate (4 - (lg_sl ([.ref o0, .int 6])).length) Slot.unset).toArray = ls at hl ⊢
  have hl : lv_has ls 4 [(0, .ref o0), (1, .int 6)] := hl
  refine lv_aload_n hx hb dX4_readAny_0 rfl (lv_at hl 0 rfl) ?_
  refine lv_iload_n hx hb dX4_readAny_1 rfl (lv_at hl 1 rfl) ?_
  have hFc := gA_free hG hA hS
  refine va_calli (va_runV (As := [.int 6]) (rest := []) ⟨hx, hb, hml, hown, hts⟩ (c_readAll6 l dC dI kA adK adV G s.heap nC nS o0 th a0 tv ix_tv ix_tv hT hr_o0 hm_th hr_th hm_a0 (by have q8 := ti_all ix_tv; omega) (by have q8 := ti_all a0; omega) (by have := (show a0.toInt = a0.toInt from rfl); have := (show ix_tv.toInt = ix_tv.toInt from rfl); omega) (by have q9 := (show ix_tv.toInt = ix_tv.toInt from rfl); have := (show ix_tv.toInt = ix_tv.toInt from rfl); omega) hm_tv (by have q8 := ti_all tv; omega) (by omega) (by omega)) (cwV 1 hts (goodIn_app (goodIn_r _ [31, 32, 33, 14] rfl (by decide +kernel)) (goodIn_ca (goodIn_r _ [1, 2, 3, 4, 5, 6, 7, 8, 9, 10, 11, 12, 13, 14, 15, 16, 17, 18, 19, 20, 21, 22, 23, 24, 25, 26, 27, 28, 29, 30] rfl (by decide +kernel)) (bs2_in _ _))) rfl rfl rfl (by decide +kernel) ⟨(Nat.le_of_ble_eq_true rfl), (Nat.le_of_ble_eq_true rfl)⟩) ⟨fun a U g mk q => by obtain ⟨q0, q1, qK, qE⟩ := q; exact ⟨q0, q1, va_K.moved (u := U) (U := U.calling g mk a) (Vm.Alike.refl U.vm) qK, EVC.blind g mk a qE⟩, gH_rc hK hT hr_o0 shc_7 rfl, fun U hU hW => ⟨rfl, hU, va_K.moved hW.alike hK, hE.call hS hFc hU hW⟩⟩ rfl rfl hl.1 rfl (lv_room (Nat.le_of_ble_eq_true rfl)) dX4_readAny_2 ⟨(Nat.le_of_ble_eq_true rfl), (Nat.le_of_ble_eq_true rfl)⟩) hS (fun q _ h => hFc q h) hFc (fun r1 u t H locs ht hvm hw2 hB _ _ hS => ?_)
  obtain ⟨u3, rfl⟩ : ∃ z, z = u := ⟨_, rfl⟩
  obtain ⟨hT, hF1, m4⟩ := hB
  rw [ht] at hT hF1 m4
  have m5 := (hF1.fld hr_o0 skc_7 (k := 0) (by decide) (by decide)).trans hm_th
  have m7 := (el_kept (hF1.arr hr_th skc_40 (by decide))).trans hm_tv
  have hF := hF.more hF1 (by decide)
  try dsimp only at hw2
  obtain ⟨h8, h9, hf10⟩ := hw2
  refine lv_istore_n (lv' := [(2, .int r1), (0, .ref o0), (1, .int 6)]) hx hb dX4_readAny_5 rfl hl (by decide) rfl (fun ls hl => ?_)
  refine lv_iconst (v := 0) hx hb dX4_readAny_6 (by decide) ?_
  refine lv_istore_n (lv' := [(3, .int 0), (2, .int r1), (0, .ref o0), (1, .int 6)]) hx hb dX4_readAny_7 rfl hl (by decide) rfl (fun ls hl => ?_)
  have key53 : ∀ (n53 i11 : Nat), i11 + n53 = 400 → 0 ≤ i11 → ∀ (z12 : Int32), ∀ (z16 : Int32), ((0 ≤ z12.toInt ∧ z12.toInt ≤ 1) ∧ (0 ≤ z16.toInt ∧ z16.toInt ≤ 400) ∧ (a0.toInt ≤ z16.toInt ∧ z16.toInt ≤ tn.toInt)) → ∀ (H : Heap) (locs : List Loc), gH (dC, dI) kA (SHc nC nS) G H → gF (dC, dI) SKc G ([(7, 12), (7, 13), (49, 0)] : List (Nat × Nat)) s.heap H → va_S A s.heap H locs → el H o0 (dI 7 0) = some (.ref th) → el H th ix_tv.toNatClampNeg = some (.int tv) → el H o0 (dI 7 13) = some (.int z16) → ∀ ls : Array Slot, lv_has ls 4 [(3, .int (nI i11)), (2, .int z12), (0, .ref o0), (1, .int 6)] → W p l e (headSpec w_c_readAny6 ({ frames := 6, cells := 0, slots := 0, locals := 132 })).room s m #[.ref o0, .int 6] below meth c H locs 0 0 (MQ below (va_Qi (fun (r : Int32) (u : Int32) => (0 ≤ u.toInt ∧ u.toInt ≤ 400) ∧ (0 ≤ r.toInt ∧ r.toInt ≤ 1) ∧ (a0.toInt ≤ u.toInt ∧ u.toInt ≤ tn.toInt)) (fun (a1 : Int32) (t : State) => gH (dC, dI) kA (SHc nC nS) G t.heap ∧ gF (dC, dI) SKc G ([(7, 12), (7, 13), (49, 0)] : List (Nat × Nat)) s.heap t.heap ∧ el t.heap o0 (dI 7 13) = some (.int a1)) A) #[.ref o0, .int 6] s 0 0 A) (F0 m 8 ls []) := by
    intro n53
    induction n53 with
    | zero =>
      intro i11 hn53 hlo54 z12 z16 ⟨h13, h17, hj19⟩ H locs hT hF hS m14 m15 m18 ls hl
      obtain rfl : 400 = i11 := by omega
      refine lv_iload_n hx hb dX4_readAny_8 rfl (lv_at hl 0 rfl) ?_
      refine lv_sipush (v := 400) hx hb dX4_readAny_9 (by decide) ?_
      refine lv_icmp_ge (tgt := 46) hx hb dX4_readAny_12 (by decide) (fun c55 => ?_) (fun c55 => (by exfalso; have q9 : ((400 : Nat) : Int) < 400 := ti_nle c55 (by decide) (nI_toInt (by omega)); omega))
      have t56 : 400 ≤ ((400 : Nat) : Int) := ti_le c55 (by decide) (nI_toInt (by omega))
      refine lv_iload_n hx hb dX4_readAny_46 rfl (lv_at hl 1 rfl) ?_
      exact W.zret (v := z12) hx hb hr (nar_b (by have q8 := ti_all z12; omega)) (fun t ht hW => ⟨⟨z12, z16, rfl, (by exact ⟨(by have q8 := ti_all z16; omega), (by have q8 := ti_all z12; omega), (by omega)⟩), by (try dsimp only); rw [ht]; exact ⟨hT, hF, m18⟩⟩, hS.F ht⟩) hS.2.2 dX4_readAny_47
    | succ n53 ih53 =>
      intro i11 hn53 hlo54 z12 z16 ⟨h13, h17, hj19⟩ H locs hT hF hS m14 m15 m18 ls hl
      have hlt56 : i11 < 400 := by omega
      refine lv_iload_n hx hb dX4_readAny_8 rfl (lv_at hl 0 rfl) ?_
      refine lv_sipush (v := 400) hx hb dX4_readAny_9 (by decide) ?_
      refine lv_icmp_ge (tgt := 46) hx hb dX4_readAny_12 (by decide) (fun c57 => (by exfalso; have q9 : 400 ≤ ((i11 : Nat) : Int) := ti_le c57 (by decide) (nI_toInt (by omega)); omega)) (fun c57 => ?_)
      have t58 : ((i11 : Nat) : Int) < 400 := ti_nle c57 (by decide) (nI_toInt (by omega))
      refine lv_iload_n hx hb dX4_readAny_15 rfl (lv_at hl 1 rfl) ?_
      refine lv_if_eq (tgt := 46) hx hb dX4_readAny_16 (by decide) (fun c59 => ?_) (fun c59 => ?_)
      · have t60 : z12.toInt = 0 := ti_eq c59 rfl (by decide)
        refine lv_iload_n hx hb dX4_readAny_46 rfl (lv_at hl 1 rfl) ?_
        exact W.zret (v := z12) hx hb hr (nar_b (by have q8 := ti_all z12; omega)) (fun t ht hW => ⟨⟨z12, z16, rfl, (by exact ⟨(by have q8 := ti_all z16; omega), (by have q8 := ti_all z12; omega), (by omega)⟩), by (try dsimp only); rw [ht]; exact ⟨hT, hF, m18⟩⟩, hS.F ht⟩) hS.2.2 dX4_readAny_47
      · have t61 : z12.toInt ≠ 0 := ti_ne c59 rfl (by decide)
        refine lv_aload_n hx hb dX4_readAny_19 rfl (lv_at hl 2 rfl) ?_
        refine lv_bipush (v := 15) hx hb dX4_readAny_20 (by decide) ?_
        have hFc := gA_free hG hA hS
        refine va_calli (va_runV (As := [.int 15]) (rest := []) ⟨hx, hb, hml, hown, hts⟩ (c_take l dC dI kA adK adV G H nC nS o0 15 th z16 tv ix_tv ix_tv hT hr_o0 m14 hr_th m18 (by have q8 := ti_all ix_tv; omega) (by have q8 := ti_all z16; omega) (by have := (show z16.toInt = z16.toInt from rfl); have := (show ix_tv.toInt = ix_tv.toInt from rfl); omega) (by have := (show (15 : Int32).toInt = 15 from (by decide)); omega) (by have q9 := (show ix_tv.toInt = ix_tv.toInt from rfl); have := (show ix_tv.toInt = ix_tv.toInt from rfl); omega) m15 (by have q8 := ti_all tv; omega) (by omega) (by omega)) (cwV 1 hts (goodIn_app (goodIn_r _ [19, 20, 21, 14] rfl (by decide +kernel)) (goodIn_ca (goodIn_r _ [18, 3, 4] rfl (by decide +kernel)) (bs2_in _ _))) rfl rfl rfl (by decide +kernel) ⟨(Nat.le_of_ble_eq_true rfl), (Nat.le_of_ble_eq_true rfl)⟩) ⟨fun a U g mk q => by obtain ⟨q0, q1, qK, qE⟩ := q; exact ⟨q0, q1, va_K.moved (u := U) (U := U.calling g mk a) (Vm.Alike.refl U.vm) qK, EVC.blind g mk a qE⟩, gH_rc hK hT hr_o0 shc_7 rfl, fun U hU hW => ⟨rfl, hU, va_K.moved hW.alike hK, hE.call hS hFc hU hW⟩⟩ rfl rfl hl.1 rfl (lv_room (Nat.le_of_ble_eq_true rfl)) dX4_readAny_22 ⟨(Nat.le_of_ble_eq_true rfl), (Nat.le_of_ble_eq_true rfl)⟩) hS (fun q _ h => hFc q h) hFc (fun r62 u t H locs ht hvm hw63 hB _ _ hS => ?_)
        obtain ⟨u64, rfl⟩ : ∃ z, z = u := ⟨_, rfl⟩
        obtain ⟨hT, hF1, m65⟩ := hB
        rw [ht] at hT hF1 m65
        have m66 := (hF1.fld hr_o0 skc_7 (k := 0) (by decide) (by decide)).trans m14
        have m67 := (el_kept (hF1.arr hr_th skc_40 (by decide))).trans m15
        have hF := hF.more hF1 (by decide)
        try dsimp only at hw63
        obtain ⟨h69, h70, hf71⟩ := hw63
        refine lv_if_eq (tgt := 46) hx hb dX4_readAny_25 (by decide) (fun c72 => ?_) (fun c72 => ?_)
        · have t73 : r62.toInt = 0 := ti_eq c72 rfl (by decide)
          refine lv_iload_n hx hb dX4_readAny_46 rfl (lv_at hl 1 rfl) ?_
          exact W.zret (v := z12) hx hb hr (nar_b (by have q8 := ti_all z12; omega)) (fun t ht hW => ⟨⟨z12, u64, rfl, (by exact ⟨(by have q8 := ti_all u64; omega), (by have q8 := ti_all z12; omega), (by omega)⟩), by (try dsimp only); rw [ht]; exact ⟨hT, hF, m65⟩⟩, hS.F ht⟩) hS.2.2 dX4_readAny_47
        · have t74 : r62.toInt ≠ 0 := ti_ne c72 rfl (by decide)
          refine lv_aload_n hx hb dX4_readAny_28 rfl (lv_at hl 2 rfl) ?_
          refine lv_iload_n hx hb dX4_readAny_29 rfl (lv_at hl 3 rfl) ?_
          have hFc := gA_free hG hA hS
          refine va_calli (va_runV (As := [.int 6]) (rest := []) ⟨hx, hb, hml, hown, hts⟩ (c_readAll6 l dC dI kA adK adV G H nC nS o0 th u64 tv ix_tv ix_tv hT hr_o0 m66 hr_th m65 (by have q8 := ti_all ix_tv; omega) (by have q8 := ti_all u64; omega) (by have := (show u64.toInt = u64.toInt from rfl); have := (show ix_tv.toInt = ix_tv.toInt from rfl); omega) (by have q9 := (show ix_tv.toInt = ix_tv.toInt from rfl); have := (show ix_tv.toInt = ix_tv.toInt from rfl); omega) m67 (by have q8 := ti_all tv; omega) (by omega) (by omega)) (cwV 1 hts (goodIn_app (goodIn_r _ [31, 32, 33, 14] rfl (by decide +kernel)) (goodIn_ca (goodIn_r _ [1, 2, 3, 4, 5, 6, 7, 8, 9, 10, 11, 12, 13, 14, 15, 16, 17, 18, 19, 20, 21, 22, 23, 24, 25, 26, 27, 28, 29, 30] rfl (by decide +kernel)) (bs2_in _ _))) rfl rfl rfl (by decide +kernel) ⟨(Nat.le_of_ble_eq_true rfl), (Nat.le_of_ble_eq_true rfl)⟩) ⟨fun a U g mk q => by obtain ⟨q0, q1, qK, qE⟩ := q; exact ⟨q0, q1, va_K.moved (u := U) (U := U.calling g mk a) (Vm.Alike.refl U.vm) qK, EVC.blind g mk a qE⟩, gH_rc hK hT hr_o0 shc_7 rfl, fun U hU hW => ⟨rfl, hU, va_K.moved hW.alike hK, hE.call hS hFc hU hW⟩⟩ rfl rfl hl.1 rfl (lv_room (Nat.le_of_ble_eq_true rfl)) dX4_readAny_30 ⟨(Nat.le_of_ble_eq_true rfl), (Nat.le_of_ble_eq_true rfl)⟩) hS (fun q _ h => hFc q h) hFc (fun r75 u t H locs ht hvm hw76 hB _ _ hS => ?_)
          obtain ⟨u77, rfl⟩ : ∃ z, z = u := ⟨_, rfl⟩
          obtain ⟨hT, hF1, m78⟩ := hB
          rw [ht] at hT hF1 m78
          have m79 := (hF1.fld hr_o0 skc_7 (k := 0) (by decide) (by decide)).trans m66
          have m80 := (el_kept (hF1.arr hr_th skc_40 (by decide))).trans m67
          have hF := hF.more hF1 (by decide)
          try dsimp only at hw76
          obtain ⟨h82, h83, hf84⟩ := hw76
          refine lv_istore_n (lv' := [(2, .int r75), (3, .int (nI i11)), (0, .ref o0), (1, .int 6)]) hx hb dX4_readAny_33 rfl hl (by decide) rfl (fun ls hl => ?_)
          refine lv_aload_n hx hb dX4_readAny_34 rfl (lv_at hl 2 rfl) ?_
          refine lv_bipush (v := 15) hx hb dX4_readAny_35 (by decide) ?_
          have hFc := gA_free hG hA hS
          refine va_callv (va_runV (As := [.int 15]) (rest := []) ⟨hx, hb, hml, hown, hts⟩ (c_addStep l dC dI kA adK adV G H nC nS o0 15 hT hr_o0 (rg_t (a := 15) (by decide) (by first | decide | omega) (by first | decide | omega)) (by omega) (by omega)) (cwV 1 hts (goodIn_app (goodIn_r _ [11, 12, 13, 14] rfl (by decide +kernel)) (goodIn_ca (goodIn_r _ [8, 9, 10] rfl (by decide +kernel)) (bs2_in _ _))) rfl rfl rfl (by decide +kernel) ⟨(Nat.le_of_ble_eq_true rfl), (Nat.le_of_ble_eq_true rfl)⟩) ⟨fun a U g mk q => by obtain ⟨q0, q1, qK, qE⟩ := q; exact ⟨q0, q1, va_K.moved (u := U) (U := U.calling g mk a) (Vm.Alike.refl U.vm) qK, EVC.blind g mk a qE⟩, gH_rc hK hT hr_o0 shc_7 rfl, fun U hU hW => ⟨rfl, hU, va_K.moved hW.alike hK, hE.call hS hFc hU hW⟩⟩ rfl rfl hl.1 rfl (lv_room (Nat.le_of_ble_eq_true rfl)) dX4_readAny_37 ⟨(Nat.le_of_ble_eq_true rfl), (Nat.le_of_ble_eq_true rfl)⟩) hS (fun q _ h => hFc q h) hFc (fun u t H locs ht hvm hw86 hB _ _ hS => ?_)
          obtain ⟨hT, hF1⟩ := hB
          rw [ht] at hT hF1
          have m87 := (hF1.fld hr_o0 skc_7 (k := 0) (by decide) (by decide)).trans m79
          have m88 := (el_kept (hF1.arr hr_th skc_40 (by decide))).trans m80
          have m89 := (hF1.fld hr_o0 skc_7 (k := 13) (by decide) (by decide)).trans m78
          have hF := hF.more hF1 (by decide)
          try dsimp only at hw86
          refine lv_iinc (v := nI (i11 + 1)) (lv' := [(3, .int (nI (i11 + 1))), (2, .int r75), (0, .ref o0), (1, .int 6)]) hx hb dX4_readAny_40 hl (k := 1) rfl (nI_add i11 1) (by decide) rfl (fun ls hl => ?_)
          refine lv_goto (tgt := 8) hx hb dX4_readAny_43 (by decide) ?_
          exact ih53 (i11 + 1) (by omega) (by omega) r75 u77 ⟨(by have q8 := ti_all r75; omega), (by have q8 := ti_all u77; omega), (by have := hx_tv; have := (show u77.toInt = u77.toInt from rfl); omega)⟩ _ _ hT hF hS m87 m88 m89 ls (lv_sub hl [0, 1, 2, 3] rfl)
  exact key53 (400 - 0) 0 (by omega) (Nat.le_refl _) r1 u3 ⟨(by have q8 := ti_all r1; omega), (by have q8 := ti_all u3; omega), (by have := hx_tv; have := (show u3.toInt = u3.toInt from rfl); omega)⟩ _ _ hT hF hS m5 m7 m4 ls (lv_sub hl [0, 1, 2, 3] rfl)
def w_c_readAtom5 : List Cond := .code yX4_readAtom cX4_readAtom 4 (some .boolean) :: (HAppend.hAppend (α := List Cond) (β := List Cond) (γ := List Cond) [.fieldLink RX4 11 "SeaLand$Law" "things" "[I", .fieldLink RX4 56 "SeaLand$Law" "at" "I", .code yX4_readAny cX4_readAny 4 (some .boolean), .code yX4_readAll cX4_readAll 4 (some .boolean), .code yX4_readAtom cX4_readAtom 4 (some .boolean), .code yX4_readComparison cX4_readComparison 3 (some .boolean), .code yX4_readSum cX4_readSum 3 (some .boolean), .code yX4_readPart cX4_readPart 2 (some .boolean), .code yX4_addStep cX4_addStep 2 none, .fieldLink RX4 63 "SeaLand$Law" "stepped" "I", .fieldLink RX4 39 "SeaLand$Law" "steps" "[I", .methodLink RX4 179 yX4_addStep, .instanceMethod yX4_addStep, .selects RX4 yX4_addStep yX4_addStep, .initialized RX4, .methodLink RX4 192 yX4_readPart, .instanceMethod yX4_readPart, .selects RX4 yX4_readPart yX4_readPart, .code yX4_take cX4_take 2 (some .boolean), .methodLink RX4 70 yX4_take, .instanceMethod yX4_take, .selects RX4 yX4_take yX4_take, .methodLink RX4 189 yX4_readSum, .instanceMethod yX4_readSum, .selects RX4 yX4_readSum yX4_readSum, .methodLink RX4 186 yX4_readComparison, .instanceMethod yX4_readComparison, .selects RX4 yX4_readComparison yX4_readComparison, .methodLink RX4 183 yX4_readAtom, .instanceMethod yX4_readAtom, .selects RX4 yX4_readAtom yX4_readAtom, .methodLink RX4 176 yX4_readAll, .instanceMethod yX4_readAll, .selects RX4 yX4_readAll yX4_readAll, .methodLink RX4 173 yX4_readAny, .instanceMethod yX4_readAny, .selects RX4 yX4_readAny yX4_readAny] bs2)
set_option maxHeartbeats 4000000 in
set_option maxRecDepth 100000 in
theorem c_readAtom5 (l : Launch) (dC : Nat → ClassId) (dI : Nat → Nat → Nat) (kA : Nat → ClassId) (adK adV : Nat → Nat) (G : gT) (H0 : Heap) (nC nS : Int) (o0 : Nat) (th : Nat) (a0 : Int32) (tv ix_tv : Int32) (tn : Int32) (hT : gH (dC, dI) kA (SHc nC nS) G H0) (hr_o0 : G o0 = some 7) (hm_th : el H0 o0 (dI 7 0) = some (.ref th)) (hr_th : G th = some 40) (hm_a0 : el H0 o0 (dI 7 13) = some (.int a0)) (hq0 : 0 ≤ tn.toInt ∧ tn.toInt ≤ 400) (hq1 : 0 ≤ a0.toInt ∧ a0.toInt ≤ 400) (hat : a0.toInt ≤ tn.toInt) (hx_tv : ix_tv.toInt = tn.toInt) (hm_tv : el H0 th ix_tv.toNatClampNeg = some (.int tv)) (hv_tv : 21 ≤ tv.toInt ∧ tv.toInt ≤ 21) (hgC : 0 ≤ nC ∧ nC ≤ 40) (hgS : 0 ≤ nS ∧ nS ≤ 60) : Met l yX4_readAtom w_c_readAtom5 ({ frames := 7, cells := 0, slots := 0, locals := 155 }) (va_Pc [.ref o0, .int 5] (fun U => U.heap = H0 ∧ va_K (dC, dI) vwCl (tyl kA) U ∧ EVC adK adV (gA G H0.size) U U.heap)) (va_Qi (fun (r : Int32) (u : Int32) => (0 ≤ u.toInt ∧ u.toInt ≤ 400) ∧ (0 ≤ r.toInt ∧ r.toInt ≤ 1) ∧ (a0.toInt ≤ u.toInt ∧ u.toInt ≤ tn.toInt)) (fun (a1 : Int32) (t : State) => gH (dC, dI) kA (SHc nC nS) G t.heap ∧ gF (dC, dI) SKc G ([(7, 12), (7, 13), (49, 0)] : List (Nat × Nat)) H0 t.heap ∧ el t.heap o0 (dI 7 13) = some (.int a1)) (gA G H0.size)) 0 0 (gA G H0.size) := by
  refine Met.ofW (cc := cX4_readAtom) (maxL := 4) (ret := (some .boolean)) (by decide) rfl ?_
  intro p e s m args below meth c s₁ B hml hv
  obtain ⟨rfl, hH0, hK, hE⟩ := hv
  have hx := B.exec
  have hb := B.bytes
  have hr := B.returns
  have hts := atoms_spec (ws := w_c_readAtom5) B.pre
  have hown : s.vm.findClass RX4 = some m.cls := findClass_of_methodNamed B.named
  have hlocks := B.notSynchronized
  subst hH0
  generalize hAe : gA G s.heap.size = A at hE ⊢
  have hA : ∀ q : Nat, s.heap.size ≤ q → A q := fun q h => by rw [← hAe]; exact Or.inr h
  have hG := gA_of hAe
  have hS : va_S A s.heap s.heap [] := va_S.rf
  have hF : gF (dC, dI) SKc G ([(7, 12), (7, 13), (49, 0)] : List (Nat × Nat)) s.heap s.heap := gF.rf
  have hl := lv_entry ([.ref o0, .int 5]) (n := 4) (Nat.le_of_ble_eq_true rfl)
  rw [lg_entry_eq]
  generalize (lg_sl ([.ref o0, .int 5]) ++ List.replicate (4 - (lg_sl ([.ref o0, .int 5])).length) Slot.unset).toArray = ls at hl ⊢
  have hl : lv_has ls 4 [(0, .ref o0), (1, .int 5)] := hl
  refine lv_aload_n hx hb dX4_readAtom_0 rfl (lv_at hl 0 rfl) ?_
  refine tw_getM (v := .ref th) hx hb hts bF2_X4 hown hK hT hr_o0 shc_7 rfl 0 (by decide) (ht_at2 hts 0 rfl) (fun _ h9 => h9) hm_th dX4_readAtom_1 ?_
  refine lv_aload_n hx hb dX4_readAtom_4 rfl (lv_at hl 0 rfl) ?_
  refine tw_getM (v := .int a0) hx hb hts bF2_X4 hown hK hT hr_o0 shc_7 rfl 13 (by decide) (ht_at2 hts 1 rfl) (fun _ h9 => h9) hm_a0 dX4_readAtom_5 ?_
  refine tw_iald (i := a0) hx hb hK hT hr_th shc_40 rfl (vin_t (a := a0.toInt) rfl (by omega) (by omega)) dX4_readAtom_8 (fun v9 m1 h9 => ?_)
  obtain ⟨x2, rfl, gx2, kx2⟩ := h9
  have t3 : a0.toInt = ix_tv.toInt → x2.toInt = tv.toInt := fun h8 => congrArg Int32.toInt (el_same m1 hm_tv h8)
  refine lv_bipush (v := 13) hx hb dX4_readAtom_9 (by decide) ?_
  have t4 : -2147483648 ≤ x2.toInt ∧ x2.toInt ≤ 2147483647 := ti_all x2
  refine lv_icmp_ne (tgt := 18) hx hb dX4_readAtom_11 (by decide) (fun c5 => ?_) (fun c5 => ?_)
  · have t6 : x2.toInt ≠ 13 := ti_ne c5 rfl (by decide)
    refine lv_iconst (v := 0) hx hb dX4_readAtom_18 (by decide) ?_
    refine lv_istore_n (lv' := [(2, .int 0), (0, .ref o0), (1, .int 5)]) hx hb dX4_readAtom_19 rfl hl (by decide) rfl (fun ls hl => ?_)
    refine lv_iload_n hx hb dX4_readAtom_20 rfl (lv_at hl 0 rfl) ?_
    refine lv_if_ne (tgt := 43) hx hb dX4_readAtom_21 (by decide) (fun c7 => absurd c7 (by decide)) (fun c7 => ?_)
    refine lv_aload_n hx hb dX4_readAtom_24 rfl (lv_at hl 1 rfl) ?_
    refine tw_getM (v := .ref th) hx hb hts bF2_X4 hown hK hT hr_o0 shc_7 rfl 0 (by decide) (ht_at2 hts 0 rfl) (fun _ h9 => h9) hm_th dX4_readAtom_25 ?_
    refine lv_aload_n hx hb dX4_readAtom_28 rfl (lv_at hl 1 rfl) ?_
    refine tw_getM (v := .int a0) hx hb hts bF2_X4 hown hK hT hr_o0 shc_7 rfl 13 (by decide) (ht_at2 hts 1 rfl) (fun _ h9 => h9) hm_a0 dX4_readAtom_29 ?_
    refine tw_iald (i := a0) hx hb hK hT hr_th shc_40 rfl (vin_t (a := a0.toInt) rfl (by omega) (by omega)) dX4_readAtom_32 (fun v9 m8 h9 => ?_)
    obtain ⟨x9, rfl, gx9, kx9⟩ := h9
    have t10 : a0.toInt = ix_tv.toInt → x9.toInt = tv.toInt := fun h8 => congrArg Int32.toInt (el_same m8 hm_tv h8)
    obtain rfl : x2 = x9 := (el_same m8 m1 rfl).symm
    refine lv_bipush (v := 16) hx hb dX4_readAtom_33 (by decide) ?_
    refine lv_icmp_eq (tgt := 43) hx hb dX4_readAtom_35 (by decide) (fun c11 => ?_) (fun c11 => ?_)
    · have t12 : x2.toInt = 16 := ti_eq c11 rfl (by decide)
      refine lv_iload_n hx hb dX4_readAtom_43 rfl (lv_at hl 2 rfl) ?_
      refine lv_bipush (v := 6) hx hb dX4_readAtom_44 (by decide) ?_
      refine lv_icmp_lt (tgt := 51) hx hb dX4_readAtom_46 (by decide) (fun c13 => ?_) (fun c13 => absurd c13 (by decide))
      refine lv_aload_n hx hb dX4_readAtom_51 rfl (lv_at hl 1 rfl) ?_
      refine lv_dup hx hb dX4_readAtom_52 rfl ?_
      refine tw_getM (v := .int a0) hx hb hts bF2_X4 hown hK hT hr_o0 shc_7 rfl 13 (by decide) (ht_at2 hts 1 rfl) (fun _ h9 => h9) hm_a0 dX4_readAtom_53 ?_
      refine lv_iconst (v := 1) hx hb dX4_readAtom_56 (by decide) ?_
      refine lv_iadd hx hb dX4_readAtom_57 ?_
      refine lv_topi (fun x14 ex14 => ?_)
      have t15 : x14.toInt = a0.toInt + 1 := ti_add ex14 rfl (by decide) (by omega) (by omega)
      refine tw_put (v := .int x14) (ty := .int) hx hb hts bF2_X4 tyX4 tyX4_ok nmX4 hown hK hT hG hS hr_o0 shc_7 rfl 13 (by decide) (ht_at2 hts 1 rfl) (fun _ h9 => h9) rfl (by decide +kernel) rfl rfl (gl_at rfl (gi_of (show x14.toInt = x14.toInt from rfl) (by omega) (by omega))) dX4_readAtom_58 (fun H locs hT oq m16 oj hS => ?_)
      have hF := hF.put hr_o0 skc_7 oq oj (by decide)
      have m17 := (oj 0 (by decide) (by decide)).trans hm_th
      have m18 := (el_kept (oq _ (gne hr_th hr_o0 (by decide)))).trans hm_tv
      refine lv_iload_n hx hb dX4_readAtom_61 rfl (lv_at hl 0 rfl) ?_
      refine lv_if_eq (tgt := 81) hx hb dX4_readAtom_62 (by decide) (fun c20 => ?_) (fun c20 => absurd c20 (by decide))
      refine lv_aload_n hx hb dX4_readAtom_81 rfl (lv_at hl 1 rfl) ?_
      refine lv_iload_n hx hb dX4_readAtom_82 rfl (lv_at hl 2 rfl) ?_
      refine lv_iconst (v := 1) hx hb dX4_readAtom_83 (by decide) ?_
      refine lv_iadd hx hb dX4_readAtom_84 ?_
      refine lv_topi (fun x21 ex21 => ?_)
      obtain rfl : x21 = 6 := ex21.trans (by decide)
      have hFc := gA_free hG hA hS
      refine va_calli (va_runV (As := [.int 6]) (rest := []) ⟨hx, hb, hml, hown, hts⟩ (c_readAny6 l dC dI kA adK adV G H nC nS o0 th x14 tv ix_tv ix_tv hT hr_o0 m17 hr_th m16 (by have q8 := ti_all ix_tv; omega) (by have q8 := ti_all x14; omega) (by have := (show x14.toInt = x14.toInt from rfl); have := (show ix_tv.toInt = ix_tv.toInt from rfl); omega) (by have q9 := (show ix_tv.toInt = ix_tv.toInt from rfl); have := (show ix_tv.toInt = ix_tv.toInt from rfl); omega) m18 (by have q8 := ti_all tv; omega) (by omega) (by omega)) (cwV 1 hts (goodIn_app (goodIn_r _ [35, 36, 37, 15] rfl (by decide +kernel)) (goodIn_ca (goodIn_r _ [3, 4, 5, 1, 2, 6, 7, 8, 9, 10, 11, 12, 13, 14, 15, 16, 17, 18, 19, 20, 21, 22, 23, 24, 25, 26, 27, 28, 29, 30, 31, 32, 33, 34] rfl (by decide +kernel)) (bs2_in _ _))) rfl rfl rfl (by decide +kernel) ⟨(Nat.le_of_ble_eq_true rfl), (Nat.le_of_ble_eq_true rfl)⟩) ⟨fun a U g mk q => by obtain ⟨q0, q1, qK, qE⟩ := q; exact ⟨q0, q1, va_K.moved (u := U) (U := U.calling g mk a) (Vm.Alike.refl U.vm) qK, EVC.blind g mk a qE⟩, gH_rc hK hT hr_o0 shc_7 rfl, fun U hU hW => ⟨rfl, hU, va_K.moved hW.alike hK, hE.call hS hFc hU hW⟩⟩ rfl rfl hl.1 rfl (lv_room (Nat.le_of_ble_eq_true rfl)) dX4_readAtom_85 ⟨(Nat.le_of_ble_eq_true rfl), (Nat.le_of_ble_eq_true rfl)⟩) hS (fun q _ h => hFc q h) hFc (fun r22 u t H locs ht hvm hw23 hB _ _ hS => ?_)
      obtain ⟨u24, rfl⟩ : ∃ z, z = u := ⟨_, rfl⟩
      obtain ⟨hT, hF1, m25⟩ := hB
      rw [ht] at hT hF1 m25
      have m26 := (hF1.fld hr_o0 skc_7 (k := 0) (by decide) (by decide)).trans m17
      have m27 := (el_kept (hF1.arr hr_th skc_40 (by decide))).trans m18
      have hF := hF.more hF1 (by decide)
      try dsimp only at hw23
      obtain ⟨h30, h31, hf32⟩ := hw23
      refine lv_if_eq (tgt := 104) hx hb dX4_readAtom_88 (by decide) (fun c33 => ?_) (fun c33 => ?_)
      · have t34 : r22.toInt = 0 := ti_eq c33 rfl (by decide)
        refine lv_iconst (v := 0) hx hb dX4_readAtom_104 (by decide) ?_
        exact W.zret (v := 0) hx hb hr (by decide) (fun t ht hW => ⟨⟨0, u24, rfl, (by exact ⟨(by have q8 := ti_all u24; omega), (rg_t (a := 0) (by decide) (by first | decide | omega) (by first | decide | omega)), (by omega)⟩), by (try dsimp only); rw [ht]; exact ⟨hT, hF, m25⟩⟩, hS.F ht⟩) hS.2.2 dX4_readAtom_105
      · have t35 : r22.toInt ≠ 0 := ti_ne c33 rfl (by decide)
        refine lv_aload_n hx hb dX4_readAtom_91 rfl (lv_at hl 1 rfl) ?_
        refine lv_bipush (v := 17) hx hb dX4_readAtom_92 (by decide) ?_
        have hFc := gA_free hG hA hS
        refine va_calli (va_runV (As := [.int 17]) (rest := []) ⟨hx, hb, hml, hown, hts⟩ (c_take l dC dI kA adK adV G H nC nS o0 17 th u24 tv ix_tv ix_tv hT hr_o0 m26 hr_th m25 (by have q8 := ti_all ix_tv; omega) (by have q8 := ti_all u24; omega) (by have := (show u24.toInt = u24.toInt from rfl); have := (show ix_tv.toInt = ix_tv.toInt from rfl); omega) (by have := (show (17 : Int32).toInt = 17 from (by decide)); omega) (by have q9 := (show ix_tv.toInt = ix_tv.toInt from rfl); have := (show ix_tv.toInt = ix_tv.toInt from rfl); omega) m27 (by have q8 := ti_all tv; omega) (by omega) (by omega)) (cwV 1 hts (goodIn_app (goodIn_r _ [20, 21, 22, 15] rfl (by decide +kernel)) (goodIn_ca (goodIn_r _ [19, 1, 2] rfl (by decide +kernel)) (bs2_in _ _))) rfl rfl rfl (by decide +kernel) ⟨(Nat.le_of_ble_eq_true rfl), (Nat.le_of_ble_eq_true rfl)⟩) ⟨fun a U g mk q => by obtain ⟨q0, q1, qK, qE⟩ := q; exact ⟨q0, q1, va_K.moved (u := U) (U := U.calling g mk a) (Vm.Alike.refl U.vm) qK, EVC.blind g mk a qE⟩, gH_rc hK hT hr_o0 shc_7 rfl, fun U hU hW => ⟨rfl, hU, va_K.moved hW.alike hK, hE.call hS hFc hU hW⟩⟩ rfl rfl hl.1 rfl (lv_room (Nat.le_of_ble_eq_true rfl)) dX4_readAtom_94 ⟨(Nat.le_of_ble_eq_true rfl), (Nat.le_of_ble_eq_true rfl)⟩) hS (fun q _ h => hFc q h) hFc (fun r36 u t H locs ht hvm hw37 hB _ _ hS => ?_)
        obtain ⟨u38, rfl⟩ : ∃ z, z = u := ⟨_, rfl⟩
        obtain ⟨hT, hF1, m39⟩ := hB
        rw [ht] at hT hF1 m39
        have hF := hF.more hF1 (by decide)
        try dsimp only at hw37
        obtain ⟨h44, h45, hf46⟩ := hw37
        refine lv_if_eq (tgt := 104) hx hb dX4_readAtom_97 (by decide) (fun c47 => ?_) (fun c47 => ?_)
        · have t48 : r36.toInt = 0 := ti_eq c47 rfl (by decide)
          refine lv_iconst (v := 0) hx hb dX4_readAtom_104 (by decide) ?_
          exact W.zret (v := 0) hx hb hr (by decide) (fun t ht hW => ⟨⟨0, u38, rfl, (by exact ⟨(by have q8 := ti_all u38; omega), (rg_t (a := 0) (by decide) (by first | decide | omega) (by first | decide | omega)), (by omega)⟩), by (try dsimp only); rw [ht]; exact ⟨hT, hF, m39⟩⟩, hS.F ht⟩) hS.2.2 dX4_readAtom_105
        · have t49 : r36.toInt ≠ 0 := ti_ne c47 rfl (by decide)
          refine lv_iconst (v := 1) hx hb dX4_readAtom_100 (by decide) ?_
          refine lv_goto (tgt := 105) hx hb dX4_readAtom_101 (by decide) ?_
          exact W.zret (v := 1) hx hb hr (by decide) (fun t ht hW => ⟨⟨1, u38, rfl, (by exact ⟨(by have q8 := ti_all u38; omega), (rg_t (a := 1) (by decide) (by first | decide | omega) (by first | decide | omega)), (by omega)⟩), by (try dsimp only); rw [ht]; exact ⟨hT, hF, m39⟩⟩, hS.F ht⟩) hS.2.2 dX4_readAtom_105
    · have t50 : x2.toInt ≠ 16 := ti_ne c11 rfl (by decide)
      refine lv_aload_n hx hb dX4_readAtom_38 rfl (lv_at hl 1 rfl) ?_
      have hFc := gA_free hG hA hS
      refine va_calli (va_runV (As := []) (rest := []) ⟨hx, hb, hml, hown, hts⟩ (c_readComparison l dC dI kA adK adV G s.heap nC nS o0 th a0 tv ix_tv ix_tv hT hr_o0 hm_th hr_th hm_a0 (by have q8 := ti_all ix_tv; omega) (by have q8 := ti_all a0; omega) (by have := (show a0.toInt = a0.toInt from rfl); have := (show ix_tv.toInt = ix_tv.toInt from rfl); omega) (by have q9 := (show ix_tv.toInt = ix_tv.toInt from rfl); have := (show ix_tv.toInt = ix_tv.toInt from rfl); omega) hm_tv (by have q8 := ti_all tv; omega) (by omega) (by omega)) (cwV 0 hts (goodIn_app (goodIn_r _ [26, 27, 28, 15] rfl (by decide +kernel)) (goodIn_ca (goodIn_r _ [6, 7, 8, 1, 2, 9, 10, 11, 12, 13, 14, 15, 16, 17, 18, 19, 20, 21, 22, 23, 24, 25] rfl (by decide +kernel)) (bs2_in _ _))) rfl rfl rfl (by decide +kernel) ⟨(Nat.le_of_ble_eq_true rfl), (Nat.le_of_ble_eq_true rfl)⟩) ⟨fun a U g mk q => by obtain ⟨q0, q1, qK, qE⟩ := q; exact ⟨q0, q1, va_K.moved (u := U) (U := U.calling g mk a) (Vm.Alike.refl U.vm) qK, EVC.blind g mk a qE⟩, gH_rc hK hT hr_o0 shc_7 rfl, fun U hU hW => ⟨rfl, hU, va_K.moved hW.alike hK, hE.call hS hFc hU hW⟩⟩ rfl rfl hl.1 rfl (lv_room (Nat.le_of_ble_eq_true rfl)) dX4_readAtom_39 ⟨(Nat.le_of_ble_eq_true rfl), (Nat.le_of_ble_eq_true rfl)⟩) hS (fun q _ h => hFc q h) hFc (fun r51 u t H locs ht hvm hw52 hB _ _ hS => ?_)
      obtain ⟨u53, rfl⟩ : ∃ z, z = u := ⟨_, rfl⟩
      obtain ⟨hT, hF1, m54⟩ := hB
      rw [ht] at hT hF1 m54
      have hF := hF.more hF1 (by decide)
      try dsimp only at hw52
      obtain ⟨h59, h60, hf61⟩ := hw52
      exact W.zret (v := r51) hx hb hr (nar_b (by have q8 := ti_all r51; omega)) (fun t ht hW => ⟨⟨r51, u53, rfl, (by exact ⟨(by have q8 := ti_all u53; omega), (by have q8 := ti_all r51; omega), (by omega)⟩), by (try dsimp only); rw [ht]; exact ⟨hT, hF, m54⟩⟩, hS.F ht⟩) hS.2.2 dX4_readAtom_42
  · have t62 : x2.toInt = 13 := ti_eq c5 rfl (by decide)
    refine lv_iconst (v := 1) hx hb dX4_readAtom_14 (by decide) ?_
    refine lv_goto (tgt := 19) hx hb dX4_readAtom_15 (by decide) ?_
    refine lv_istore_n (lv' := [(2, .int 1), (0, .ref o0), (1, .int 5)]) hx hb dX4_readAtom_19 rfl hl (by decide) rfl (fun ls hl => ?_)
    refine lv_iload_n hx hb dX4_readAtom_20 rfl (lv_at hl 0 rfl) ?_
    refine lv_if_ne (tgt := 43) hx hb dX4_readAtom_21 (by decide) (fun c63 => ?_) (fun c63 => absurd c63 (by decide))
    refine lv_iload_n hx hb dX4_readAtom_43 rfl (lv_at hl 2 rfl) ?_
    refine lv_bipush (v := 6) hx hb dX4_readAtom_44 (by decide) ?_
    refine lv_icmp_lt (tgt := 51) hx hb dX4_readAtom_46 (by decide) (fun c64 => ?_) (fun c64 => absurd c64 (by decide))
    refine lv_aload_n hx hb dX4_readAtom_51 rfl (lv_at hl 1 rfl) ?_
    refine lv_dup hx hb dX4_readAtom_52 rfl ?_
    refine tw_getM (v := .int a0) hx hb hts bF2_X4 hown hK hT hr_o0 shc_7 rfl 13 (by decide) (ht_at2 hts 1 rfl) (fun _ h9 => h9) hm_a0 dX4_readAtom_53 ?_
    refine lv_iconst (v := 1) hx hb dX4_readAtom_56 (by decide) ?_
    refine lv_iadd hx hb dX4_readAtom_57 ?_
    refine lv_topi (fun x65 ex65 => ?_)
    have t66 : x65.toInt = a0.toInt + 1 := ti_add ex65 rfl (by decide) (by omega) (by omega)
    refine tw_put (v := .int x65) (ty := .int) hx hb hts bF2_X4 tyX4 tyX4_ok nmX4 hown hK hT hG hS hr_o0 shc_7 rfl 13 (by decide) (ht_at2 hts 1 rfl) (fun _ h9 => h9) rfl (by decide +kernel) rfl rfl (gl_at rfl (gi_of (show x65.toInt = x65.toInt from rfl) (by omega) (by omega))) dX4_readAtom_58 (fun H locs hT oq m67 oj hS => ?_)
    have hF := hF.put hr_o0 skc_7 oq oj (by decide)
    have m68 := (oj 0 (by decide) (by decide)).trans hm_th
    have m69 := (el_kept (oq _ (gne hr_th hr_o0 (by decide)))).trans hm_tv
    refine lv_iload_n hx hb dX4_readAtom_61 rfl (lv_at hl 0 rfl) ?_
    refine lv_if_eq (tgt := 81) hx hb dX4_readAtom_62 (by decide) (fun c71 => absurd c71 (by decide)) (fun c71 => ?_)
    refine lv_aload_n hx hb dX4_readAtom_65 rfl (lv_at hl 1 rfl) ?_
    refine lv_iload_n hx hb dX4_readAtom_66 rfl (lv_at hl 2 rfl) ?_
    refine lv_iconst (v := 1) hx hb dX4_readAtom_67 (by decide) ?_
    refine lv_iadd hx hb dX4_readAtom_68 ?_
    refine lv_topi (fun x72 ex72 => ?_)
    obtain rfl : x72 = 6 := ex72.trans (by decide)
    have hFc := gA_free hG hA hS
    refine va_calli (va_runV (As := [.int 6]) (rest := []) ⟨hx, hb, hml, hown, hts⟩ (c_readAtom6 l dC dI kA adK adV G H nC nS o0 th x65 tv ix_tv ix_tv hT hr_o0 m68 hr_th m67 (by have q8 := ti_all ix_tv; omega) (by have q8 := ti_all x65; omega) (by have := (show x65.toInt = x65.toInt from rfl); have := (show ix_tv.toInt = ix_tv.toInt from rfl); omega) (by have q9 := (show ix_tv.toInt = ix_tv.toInt from rfl); have := (show ix_tv.toInt = ix_tv.toInt from rfl); omega) m69 (by have q8 := ti_all tv; omega) (by omega) (by omega)) (cwV 1 hts (goodIn_app (goodIn_r _ [29, 30, 31, 15] rfl (by decide +kernel)) (goodIn_ca (goodIn_r _ [5, 1, 2, 6, 7, 8, 9, 10, 11, 12, 13, 14, 15, 16, 17, 18, 19, 20, 21, 22, 23, 24, 25, 26, 27, 28] rfl (by decide +kernel)) (bs2_in _ _))) rfl rfl rfl (by decide +kernel) ⟨(Nat.le_of_ble_eq_true rfl), (Nat.le_of_ble_eq_true rfl)⟩) ⟨fun a U g mk q => by obtain ⟨q0, q1, qK, qE⟩ := q; exact ⟨q0, q1, va_K.moved (u := U) (U := U.calling g mk a) (Vm.Alike.refl U.vm) qK, EVC.blind g mk a qE⟩, gH_rc hK hT hr_o0 shc_7 rfl, fun U hU hW => ⟨rfl, hU, va_K.moved hW.alike hK, hE.call hS hFc hU hW⟩⟩ rfl rfl hl.1 rfl (lv_room (Nat.le_of_ble_eq_true rfl)) dX4_readAtom_69 ⟨(Nat.le_of_ble_eq_true rfl), (Nat.le_of_ble_eq_true rfl)⟩) hS (fun q _ h => hFc q h) hFc (fun r73 u t H locs ht hvm hw74 hB _ _ hS => ?_)
    obtain ⟨u75, rfl⟩ : ∃ z, z = u := ⟨_, rfl⟩
    obtain ⟨hT, hF1, m76⟩ := hB
    rw [ht] at hT hF1 m76
    have hF := hF.more hF1 (by decide)
    try dsimp only at hw74
    obtain ⟨h81, h82, hf83⟩ := hw74
    refine lv_istore_n (lv' := [(3, .int r73), (2, .int 1), (0, .ref o0), (1, .int 5)]) hx hb dX4_readAtom_72 rfl hl (by decide) rfl (fun ls hl => ?_)
    refine lv_aload_n hx hb dX4_readAtom_73 rfl (lv_at hl 2 rfl) ?_
    refine lv_bipush (v := 13) hx hb dX4_readAtom_74 (by decide) ?_
    have hFc := gA_free hG hA hS
    refine va_callv (va_runV (As := [.int 13]) (rest := []) ⟨hx, hb, hml, hown, hts⟩ (c_addStep l dC dI kA adK adV G H nC nS o0 13 hT hr_o0 (rg_t (a := 13) (by decide) (by first | decide | omega) (by first | decide | omega)) (by omega) (by omega)) (cwV 1 hts (goodIn_app (goodIn_r _ [12, 13, 14, 15] rfl (by decide +kernel)) (goodIn_ca (goodIn_r _ [9, 10, 11] rfl (by decide +kernel)) (bs2_in _ _))) rfl rfl rfl (by decide +kernel) ⟨(Nat.le_of_ble_eq_true rfl), (Nat.le_of_ble_eq_true rfl)⟩) ⟨fun a U g mk q => by obtain ⟨q0, q1, qK, qE⟩ := q; exact ⟨q0, q1, va_K.moved (u := U) (U := U.calling g mk a) (Vm.Alike.refl U.vm) qK, EVC.blind g mk a qE⟩, gH_rc hK hT hr_o0 shc_7 rfl, fun U hU hW => ⟨rfl, hU, va_K.moved hW.alike hK, hE.call hS hFc hU hW⟩⟩ rfl rfl hl.1 rfl (lv_room (Nat.le_of_ble_eq_true rfl)) dX4_readAtom_76 ⟨(Nat.le_of_ble_eq_true rfl), (Nat.le_of_ble_eq_true rfl)⟩) hS (fun q _ h => hFc q h) hFc (fun u t H locs ht hvm hw85 hB _ _ hS => ?_)
    obtain ⟨hT, hF1⟩ := hB
    rw [ht] at hT hF1
    have m89 := (hF1.fld hr_o0 skc_7 (k := 13) (by decide) (by decide)).trans m76
    have hF := hF.more hF1 (by decide)
    try dsimp only at hw85
    refine lv_iload_n hx hb dX4_readAtom_79 rfl (lv_at hl 0 rfl) ?_
    exact W.zret (v := r73) hx hb hr (nar_b (by have q8 := ti_all r73; omega)) (fun t ht hW => ⟨⟨r73, u75, rfl, (by exact ⟨(by have q8 := ti_all u75; omega), (by have q8 := ti_all r73; omega), (by omega)⟩), by (try dsimp only); rw [ht]; exact ⟨hT, hF, m89⟩⟩, hS.F ht⟩) hS.2.2 dX4_readAtom_80
def w_c_readAll5 : List Cond := .code yX4_readAll cX4_readAll 4 (some .boolean) :: (HAppend.hAppend (α := List Cond) (β := List Cond) (γ := List Cond) [.code yX4_readAtom cX4_readAtom 4 (some .boolean), .fieldLink RX4 11 "SeaLand$Law" "things" "[I", .fieldLink RX4 56 "SeaLand$Law" "at" "I", .code yX4_readAny cX4_readAny 4 (some .boolean), .code yX4_readAll cX4_readAll 4 (some .boolean), .code yX4_readComparison cX4_readComparison 3 (some .boolean), .code yX4_readSum cX4_readSum 3 (some .boolean), .code yX4_readPart cX4_readPart 2 (some .boolean), .code yX4_addStep cX4_addStep 2 none, .fieldLink RX4 63 "SeaLand$Law" "stepped" "I", .fieldLink RX4 39 "SeaLand$Law" "steps" "[I", .methodLink RX4 179 yX4_addStep, .instanceMethod yX4_addStep, .selects RX4 yX4_addStep yX4_addStep, .initialized RX4, .methodLink RX4 192 yX4_readPart, .instanceMethod yX4_readPart, .selects RX4 yX4_readPart yX4_readPart, .code yX4_take cX4_take 2 (some .boolean), .methodLink RX4 70 yX4_take, .instanceMethod yX4_take, .selects RX4 yX4_take yX4_take, .methodLink RX4 189 yX4_readSum, .instanceMethod yX4_readSum, .selects RX4 yX4_readSum yX4_readSum, .methodLink RX4 186 yX4_readComparison, .instanceMethod yX4_readComparison, .selects RX4 yX4_readComparison yX4_readComparison, .methodLink RX4 183 yX4_readAtom, .instanceMethod yX4_readAtom, .selects RX4 yX4_readAtom yX4_readAtom, .methodLink RX4 176 yX4_readAll, .instanceMethod yX4_readAll, .selects RX4 yX4_readAll yX4_readAll, .methodLink RX4 173 yX4_readAny, .instanceMethod yX4_readAny, .selects RX4 yX4_readAny yX4_readAny] bs2)
set_option maxHeartbeats 4000000 in
set_option maxRecDepth 100000 in
theorem c_readAll5 (l : Launch) (dC : Nat → ClassId) (dI : Nat → Nat → Nat) (kA : Nat → ClassId) (adK adV : Nat → Nat) (G : gT) (H0 : Heap) (nC nS : Int) (o0 : Nat) (th : Nat) (a0 : Int32) (tv ix_tv : Int32) (tn : Int32) (hT : gH (dC, dI) kA (SHc nC nS) G H0) (hr_o0 : G o0 = some 7) (hm_th : el H0 o0 (dI 7 0) = some (.ref th)) (hr_th : G th = some 40) (hm_a0 : el H0 o0 (dI 7 13) = some (.int a0)) (hq0 : 0 ≤ tn.toInt ∧ tn.toInt ≤ 400) (hq1 : 0 ≤ a0.toInt ∧ a0.toInt ≤ 400) (hat : a0.toInt ≤ tn.toInt) (hx_tv : ix_tv.toInt = tn.toInt) (hm_tv : el H0 th ix_tv.toNatClampNeg = some (.int tv)) (hv_tv : 21 ≤ tv.toInt ∧ tv.toInt ≤ 21) (hgC : 0 ≤ nC ∧ nC ≤ 40) (hgS : 0 ≤ nS ∧ nS ≤ 60) : Met l yX4_readAll w_c_readAll5 ({ frames := 8, cells := 0, slots := 0, locals := 178 }) (va_Pc [.ref o0, .int 5] (fun U => U.heap = H0 ∧ va_K (dC, dI) vwCl (tyl kA) U ∧ EVC adK adV (gA G H0.size) U U.heap)) (va_Qi (fun (r : Int32) (u : Int32) => (0 ≤ u.toInt ∧ u.toInt ≤ 400) ∧ (0 ≤ r.toInt ∧ r.toInt ≤ 1) ∧ (a0.toInt ≤ u.toInt ∧ u.toInt ≤ tn.toInt)) (fun (a1 : Int32) (t : State) => gH (dC, dI) kA (SHc nC nS) G t.heap ∧ gF (dC, dI) SKc G ([(7, 12), (7, 13), (49, 0)] : List (Nat × Nat)) H0 t.heap ∧ el t.heap o0 (dI 7 13) = some (.int a1)) (gA G H0.size)) 0 0 (gA G H0.size) := by
  refine Met.ofW (cc := cX4_readAll) (maxL := 4) (ret := (some .boolean)) (by decide) rfl ?_
  intro p e s m args below meth c s₁ B hml hv
  obtain ⟨rfl, hH0, hK, hE⟩ := hv
  have hx := B.exec
  have hb := B.bytes
  have hr := B.returns
  have hts := atoms_spec (ws := w_c_readAll5) B.pre
  have hown : s.vm.findClass RX4 = some m.cls := findClass_of_methodNamed B.named
  have hlocks := B.notSynchronized
  subst hH0
  generalize hAe : gA G s.heap.size = A at hE ⊢
  have hA : ∀ q : Nat, s.heap.size ≤ q → A q := fun q h => by rw [← hAe]; exact Or.inr h
  have hG := gA_of hAe
  have hS : va_S A s.heap s.heap [] := va_S.rf
  have hF : gF (dC, dI) SKc G ([(7, 12), (7, 13), (49, 0)] : List (Nat × Nat)) s.heap s.heap := gF.rf
  have hl := lv_entry ([.ref o0, .int 5]) (n := 4) (Nat.le_of_ble_eq_true rfl)
  rw [lg_entry_eq]
  generalize (lg_sl ([.ref o0, .int 5]) ++ List.replicate (4 - (lg_sl ([.ref o0, .int 5])).length) Slot.unset).toArray = ls at hl ⊢
  have hl : lv_has ls 4 [(0, .ref o0), (1, .int 5)] := hl
  refine lv_aload_n hx hb dX4_readAll_0 rfl (lv_at hl 0 rfl) ?_
  refine lv_iload_n hx hb dX4_readAll_1 rfl (lv_at hl 1 rfl) ?_
  have hFc := gA_free hG hA hS
  refine va_calli (va_runV (As := [.int 5]) (rest := []) ⟨hx, hb, hml, hown, hts⟩ (c_readAtom5 l dC dI kA adK adV G s.heap nC nS o0 th a0 tv ix_tv ix_tv hT hr_o0 hm_th hr_th hm_a0 (by have q8 := ti_all ix_tv; omega) (by have q8 := ti_all a0; omega) (by have := (show a0.toInt = a0.toInt from rfl); have := (show ix_tv.toInt = ix_tv.toInt from rfl); omega) (by have q9 := (show ix_tv.toInt = ix_tv.toInt from rfl); have := (show ix_tv.toInt = ix_tv.toInt from rfl); omega) hm_tv (by have q8 := ti_all tv; omega) (by omega) (by omega)) (cwV 1 hts (goodIn_app (goodIn_r _ [29, 30, 31, 15] rfl (by decide +kernel)) (goodIn_ca (goodIn_r _ [1, 2, 3, 4, 5, 1, 6, 7, 8, 9, 10, 11, 12, 13, 14, 15, 16, 17, 18, 19, 20, 21, 22, 23, 24, 25, 26, 27, 28, 29, 30, 31, 32, 33, 34, 35, 36, 37] rfl (by decide +kernel)) (bs2_in _ _))) rfl rfl rfl (by decide +kernel) ⟨(Nat.le_of_ble_eq_true rfl), (Nat.le_of_ble_eq_true rfl)⟩) ⟨fun a U g mk q => by obtain ⟨q0, q1, qK, qE⟩ := q; exact ⟨q0, q1, va_K.moved (u := U) (U := U.calling g mk a) (Vm.Alike.refl U.vm) qK, EVC.blind g mk a qE⟩, gH_rc hK hT hr_o0 shc_7 rfl, fun U hU hW => ⟨rfl, hU, va_K.moved hW.alike hK, hE.call hS hFc hU hW⟩⟩ rfl rfl hl.1 rfl (lv_room (Nat.le_of_ble_eq_true rfl)) dX4_readAll_2 ⟨(Nat.le_of_ble_eq_true rfl), (Nat.le_of_ble_eq_true rfl)⟩) hS (fun q _ h => hFc q h) hFc (fun r1 u t H locs ht hvm hw2 hB _ _ hS => ?_)
  obtain ⟨u3, rfl⟩ : ∃ z, z = u := ⟨_, rfl⟩
  obtain ⟨hT, hF1, m4⟩ := hB
  rw [ht] at hT hF1 m4
  have m5 := (hF1.fld hr_o0 skc_7 (k := 0) (by decide) (by decide)).trans hm_th
  have m7 := (el_kept (hF1.arr hr_th skc_40 (by decide))).trans hm_tv
  have hF := hF.more hF1 (by decide)
  try dsimp only at hw2
  obtain ⟨h8, h9, hf10⟩ := hw2
  refine lv_istore_n (lv' := [(2, .int r1), (0, .ref o0), (1, .int 5)]) hx hb dX4_readAll_5 rfl hl (by decide) rfl (fun ls hl => ?_)
  refine lv_iconst (v := 0) hx hb dX4_readAll_6 (by decide) ?_
  refine lv_istore_n (lv' := [(3, .int 0), (2, .int r1), (0, .ref o0), (1, .int 5)]) hx hb dX4_readAll_7 rfl hl (by decide) rfl (fun ls hl => ?_)
  have key53 : ∀ (n53 i11 : Nat), i11 + n53 = 400 → 0 ≤ i11 → ∀ (z12 : Int32), ∀ (z16 : Int32), ((0 ≤ z12.toInt ∧ z12.toInt ≤ 1) ∧ (0 ≤ z16.toInt ∧ z16.toInt ≤ 400) ∧ (a0.toInt ≤ z16.toInt ∧ z16.toInt ≤ tn.toInt)) → ∀ (H : Heap) (locs : List Loc), gH (dC, dI) kA (SHc nC nS) G H → gF (dC, dI) SKc G ([(7, 12), (7, 13), (49, 0)] : List (Nat × Nat)) s.heap H → va_S A s.heap H locs → el H o0 (dI 7 0) = some (.ref th) → el H th ix_tv.toNatClampNeg = some (.int tv) → el H o0 (dI 7 13) = some (.int z16) → ∀ ls : Array Slot, lv_has ls 4 [(3, .int (nI i11)), (2, .int z12), (0, .ref o0), (1, .int 5)] → W p l e (headSpec w_c_readAll5 ({ frames := 8, cells := 0, slots := 0, locals := 178 })).room s m #[.ref o0, .int 5] below meth c H locs 0 0 (MQ below (va_Qi (fun (r : Int32) (u : Int32) => (0 ≤ u.toInt ∧ u.toInt ≤ 400) ∧ (0 ≤ r.toInt ∧ r.toInt ≤ 1) ∧ (a0.toInt ≤ u.toInt ∧ u.toInt ≤ tn.toInt)) (fun (a1 : Int32) (t : State) => gH (dC, dI) kA (SHc nC nS) G t.heap ∧ gF (dC, dI) SKc G ([(7, 12), (7, 13), (49, 0)] : List (Nat × Nat)) s.heap t.heap ∧ el t.heap o0 (dI 7 13) = some (.int a1)) A) #[.ref o0, .int 5] s 0 0 A) (F0 m 8 ls []) := by
    intro n53
    induction n53 with
    | zero =>
      intro i11 hn53 hlo54 z12 z16 ⟨h13, h17, hj19⟩ H locs hT hF hS m14 m15 m18 ls hl
      obtain rfl : 400 = i11 := by omega
      refine lv_iload_n hx hb dX4_readAll_8 rfl (lv_at hl 0 rfl) ?_
      refine lv_sipush (v := 400) hx hb dX4_readAll_9 (by decide) ?_
      refine lv_icmp_ge (tgt := 46) hx hb dX4_readAll_12 (by decide) (fun c55 => ?_) (fun c55 => (by exfalso; have q9 : ((400 : Nat) : Int) < 400 := ti_nle c55 (by decide) (nI_toInt (by omega)); omega))
      have t56 : 400 ≤ ((400 : Nat) : Int) := ti_le c55 (by decide) (nI_toInt (by omega))
      refine lv_iload_n hx hb dX4_readAll_46 rfl (lv_at hl 1 rfl) ?_
      exact W.zret (v := z12) hx hb hr (nar_b (by have q8 := ti_all z12; omega)) (fun t ht hW => ⟨⟨z12, z16, rfl, (by exact ⟨(by have q8 := ti_all z16; omega), (by have q8 := ti_all z12; omega), (by omega)⟩), by (try dsimp only); rw [ht]; exact ⟨hT, hF, m18⟩⟩, hS.F ht⟩) hS.2.2 dX4_readAll_47
    | succ n53 ih53 =>
      intro i11 hn53 hlo54 z12 z16 ⟨h13, h17, hj19⟩ H locs hT hF hS m14 m15 m18 ls hl
      have hlt56 : i11 < 400 := by omega
      refine lv_iload_n hx hb dX4_readAll_8 rfl (lv_at hl 0 rfl) ?_
      refine lv_sipush (v := 400) hx hb dX4_readAll_9 (by decide) ?_
      refine lv_icmp_ge (tgt := 46) hx hb dX4_readAll_12 (by decide) (fun c57 => (by exfalso; have q9 : 400 ≤ ((i11 : Nat) : Int) := ti_le c57 (by decide) (nI_toInt (by omega)); omega)) (fun c57 => ?_)
      have t58 : ((i11 : Nat) : Int) < 400 := ti_nle c57 (by decide) (nI_toInt (by omega))
      refine lv_iload_n hx hb dX4_readAll_15 rfl (lv_at hl 1 rfl) ?_
      refine lv_if_eq (tgt := 46) hx hb dX4_readAll_16 (by decide) (fun c59 => ?_) (fun c59 => ?_)
      · have t60 : z12.toInt = 0 := ti_eq c59 rfl (by decide)
        refine lv_iload_n hx hb dX4_readAll_46 rfl (lv_at hl 1 rfl) ?_
        exact W.zret (v := z12) hx hb hr (nar_b (by have q8 := ti_all z12; omega)) (fun t ht hW => ⟨⟨z12, z16, rfl, (by exact ⟨(by have q8 := ti_all z16; omega), (by have q8 := ti_all z12; omega), (by omega)⟩), by (try dsimp only); rw [ht]; exact ⟨hT, hF, m18⟩⟩, hS.F ht⟩) hS.2.2 dX4_readAll_47
      · have t61 : z12.toInt ≠ 0 := ti_ne c59 rfl (by decide)
        refine lv_aload_n hx hb dX4_readAll_19 rfl (lv_at hl 2 rfl) ?_
        refine lv_bipush (v := 14) hx hb dX4_readAll_20 (by decide) ?_
        have hFc := gA_free hG hA hS
        refine va_calli (va_runV (As := [.int 14]) (rest := []) ⟨hx, hb, hml, hown, hts⟩ (c_take l dC dI kA adK adV G H nC nS o0 14 th z16 tv ix_tv ix_tv hT hr_o0 m14 hr_th m18 (by have q8 := ti_all ix_tv; omega) (by have q8 := ti_all z16; omega) (by have := (show z16.toInt = z16.toInt from rfl); have := (show ix_tv.toInt = ix_tv.toInt from rfl); omega) (by have := (show (14 : Int32).toInt = 14 from (by decide)); omega) (by have q9 := (show ix_tv.toInt = ix_tv.toInt from rfl); have := (show ix_tv.toInt = ix_tv.toInt from rfl); omega) m15 (by have q8 := ti_all tv; omega) (by omega) (by omega)) (cwV 1 hts (goodIn_app (goodIn_r _ [20, 21, 22, 15] rfl (by decide +kernel)) (goodIn_ca (goodIn_r _ [19, 2, 3] rfl (by decide +kernel)) (bs2_in _ _))) rfl rfl rfl (by decide +kernel) ⟨(Nat.le_of_ble_eq_true rfl), (Nat.le_of_ble_eq_true rfl)⟩) ⟨fun a U g mk q => by obtain ⟨q0, q1, qK, qE⟩ := q; exact ⟨q0, q1, va_K.moved (u := U) (U := U.calling g mk a) (Vm.Alike.refl U.vm) qK, EVC.blind g mk a qE⟩, gH_rc hK hT hr_o0 shc_7 rfl, fun U hU hW => ⟨rfl, hU, va_K.moved hW.alike hK, hE.call hS hFc hU hW⟩⟩ rfl rfl hl.1 rfl (lv_room (Nat.le_of_ble_eq_true rfl)) dX4_readAll_22 ⟨(Nat.le_of_ble_eq_true rfl), (Nat.le_of_ble_eq_true rfl)⟩) hS (fun q _ h => hFc q h) hFc (fun r62 u t H locs ht hvm hw63 hB _ _ hS => ?_)
        obtain ⟨u64, rfl⟩ : ∃ z, z = u := ⟨_, rfl⟩
        obtain ⟨hT, hF1, m65⟩ := hB
        rw [ht] at hT hF1 m65
        have m66 := (hF1.fld hr_o0 skc_7 (k := 0) (by decide) (by decide)).trans m14
        have m67 := (el_kept (hF1.arr hr_th skc_40 (by decide))).trans m15
        have hF := hF.more hF1 (by decide)
        try dsimp only at hw63
        obtain ⟨h69, h70, hf71⟩ := hw63
        refine lv_if_eq (tgt := 46) hx hb dX4_readAll_25 (by decide) (fun c72 => ?_) (fun c72 => ?_)
        · have t73 : r62.toInt = 0 := ti_eq c72 rfl (by decide)
          refine lv_iload_n hx hb dX4_readAll_46 rfl (lv_at hl 1 rfl) ?_
          exact W.zret (v := z12) hx hb hr (nar_b (by have q8 := ti_all z12; omega)) (fun t ht hW => ⟨⟨z12, u64, rfl, (by exact ⟨(by have q8 := ti_all u64; omega), (by have q8 := ti_all z12; omega), (by omega)⟩), by (try dsimp only); rw [ht]; exact ⟨hT, hF, m65⟩⟩, hS.F ht⟩) hS.2.2 dX4_readAll_47
        · have t74 : r62.toInt ≠ 0 := ti_ne c72 rfl (by decide)
          refine lv_aload_n hx hb dX4_readAll_28 rfl (lv_at hl 2 rfl) ?_
          refine lv_iload_n hx hb dX4_readAll_29 rfl (lv_at hl 3 rfl) ?_
          have hFc := gA_free hG hA hS
          refine va_calli (va_runV (As := [.int 5]) (rest := []) ⟨hx, hb, hml, hown, hts⟩ (c_readAtom5 l dC dI kA adK adV G H nC nS o0 th u64 tv ix_tv ix_tv hT hr_o0 m66 hr_th m65 (by have q8 := ti_all ix_tv; omega) (by have q8 := ti_all u64; omega) (by have := (show u64.toInt = u64.toInt from rfl); have := (show ix_tv.toInt = ix_tv.toInt from rfl); omega) (by have q9 := (show ix_tv.toInt = ix_tv.toInt from rfl); have := (show ix_tv.toInt = ix_tv.toInt from rfl); omega) m67 (by have q8 := ti_all tv; omega) (by omega) (by omega)) (cwV 1 hts (goodIn_app (goodIn_r _ [29, 30, 31, 15] rfl (by decide +kernel)) (goodIn_ca (goodIn_r _ [1, 2, 3, 4, 5, 1, 6, 7, 8, 9, 10, 11, 12, 13, 14, 15, 16, 17, 18, 19, 20, 21, 22, 23, 24, 25, 26, 27, 28, 29, 30, 31, 32, 33, 34, 35, 36, 37] rfl (by decide +kernel)) (bs2_in _ _))) rfl rfl rfl (by decide +kernel) ⟨(Nat.le_of_ble_eq_true rfl), (Nat.le_of_ble_eq_true rfl)⟩) ⟨fun a U g mk q => by obtain ⟨q0, q1, qK, qE⟩ := q; exact ⟨q0, q1, va_K.moved (u := U) (U := U.calling g mk a) (Vm.Alike.refl U.vm) qK, EVC.blind g mk a qE⟩, gH_rc hK hT hr_o0 shc_7 rfl, fun U hU hW => ⟨rfl, hU, va_K.moved hW.alike hK, hE.call hS hFc hU hW⟩⟩ rfl rfl hl.1 rfl (lv_room (Nat.le_of_ble_eq_true rfl)) dX4_readAll_30 ⟨(Nat.le_of_ble_eq_true rfl), (Nat.le_of_ble_eq_true rfl)⟩) hS (fun q _ h => hFc q h) hFc (fun r75 u t H locs ht hvm hw76 hB _ _ hS => ?_)
          obtain ⟨u77, rfl⟩ : ∃ z, z = u := ⟨_, rfl⟩
          obtain ⟨hT, hF1, m78⟩ := hB
          rw [ht] at hT hF1 m78
          have m79 := (hF1.fld hr_o0 skc_7 (k := 0) (by decide) (by decide)).trans m66
          have m80 := (el_kept (hF1.arr hr_th skc_40 (by decide))).trans m67
          have hF := hF.more hF1 (by decide)
          try dsimp only at hw76
          obtain ⟨h82, h83, hf84⟩ := hw76
          refine lv_istore_n (lv' := [(2, .int r75), (3, .int (nI i11)), (0, .ref o0), (1, .int 5)]) hx hb dX4_readAll_33 rfl hl (by decide) rfl (fun ls hl => ?_)
          refine lv_aload_n hx hb dX4_readAll_34 rfl (lv_at hl 2 rfl) ?_
          refine lv_bipush (v := 14) hx hb dX4_readAll_35 (by decide) ?_
          have hFc := gA_free hG hA hS
          refine va_callv (va_runV (As := [.int 14]) (rest := []) ⟨hx, hb, hml, hown, hts⟩ (c_addStep l dC dI kA adK adV G H nC nS o0 14 hT hr_o0 (rg_t (a := 14) (by decide) (by first | decide | omega) (by first | decide | omega)) (by omega) (by omega)) (cwV 1 hts (goodIn_app (goodIn_r _ [12, 13, 14, 15] rfl (by decide +kernel)) (goodIn_ca (goodIn_r _ [9, 10, 11] rfl (by decide +kernel)) (bs2_in _ _))) rfl rfl rfl (by decide +kernel) ⟨(Nat.le_of_ble_eq_true rfl), (Nat.le_of_ble_eq_true rfl)⟩) ⟨fun a U g mk q => by obtain ⟨q0, q1, qK, qE⟩ := q; exact ⟨q0, q1, va_K.moved (u := U) (U := U.calling g mk a) (Vm.Alike.refl U.vm) qK, EVC.blind g mk a qE⟩, gH_rc hK hT hr_o0 shc_7 rfl, fun U hU hW => ⟨rfl, hU, va_K.moved hW.alike hK, hE.call hS hFc hU hW⟩⟩ rfl rfl hl.1 rfl (lv_room (Nat.le_of_ble_eq_true rfl)) dX4_readAll_37 ⟨(Nat.le_of_ble_eq_true rfl), (Nat.le_of_ble_eq_true rfl)⟩) hS (fun q _ h => hFc q h) hFc (fun u t H locs ht hvm hw86 hB _ _ hS => ?_)
          obtain ⟨hT, hF1⟩ := hB
          rw [ht] at hT hF1
          have m87 := (hF1.fld hr_o0 skc_7 (k := 0) (by decide) (by decide)).trans m79
          have m88 := (el_kept (hF1.arr hr_th skc_40 (by decide))).trans m80
          have m89 := (hF1.fld hr_o0 skc_7 (k := 13) (by decide) (by decide)).trans m78
          have hF := hF.more hF1 (by decide)
          try dsimp only at hw86
          refine lv_iinc (v := nI (i11 + 1)) (lv' := [(3, .int (nI (i11 + 1))), (2, .int r75), (0, .ref o0), (1, .int 5)]) hx hb dX4_readAll_40 hl (k := 1) rfl (nI_add i11 1) (by decide) rfl (fun ls hl => ?_)
          refine lv_goto (tgt := 8) hx hb dX4_readAll_43 (by decide) ?_
          exact ih53 (i11 + 1) (by omega) (by omega) r75 u77 ⟨(by have q8 := ti_all r75; omega), (by have q8 := ti_all u77; omega), (by have := hx_tv; have := (show u77.toInt = u77.toInt from rfl); omega)⟩ _ _ hT hF hS m87 m88 m89 ls (lv_sub hl [0, 1, 2, 3] rfl)
  exact key53 (400 - 0) 0 (by omega) (Nat.le_refl _) r1 u3 ⟨(by have q8 := ti_all r1; omega), (by have q8 := ti_all u3; omega), (by have := hx_tv; have := (show u3.toInt = u3.toInt from rfl); omega)⟩ _ _ hT hF hS m5 m7 m4 ls (lv_sub hl [0, 1, 2, 3] rfl)
def w_c_readAny5 : List Cond := .code yX4_readAny cX4_readAny 4 (some .boolean) :: (HAppend.hAppend (α := List Cond) (β := List Cond) (γ := List Cond) [.code yX4_readAll cX4_readAll 4 (some .boolean), .code yX4_readAtom cX4_readAtom 4 (some .boolean), .fieldLink RX4 11 "SeaLand$Law" "things" "[I", .fieldLink RX4 56 "SeaLand$Law" "at" "I", .code yX4_readAny cX4_readAny 4 (some .boolean), .code yX4_readComparison cX4_readComparison 3 (some .boolean), .code yX4_readSum cX4_readSum 3 (some .boolean), .code yX4_readPart cX4_readPart 2 (some .boolean), .code yX4_addStep cX4_addStep 2 none, .fieldLink RX4 63 "SeaLand$Law" "stepped" "I", .fieldLink RX4 39 "SeaLand$Law" "steps" "[I", .methodLink RX4 179 yX4_addStep, .instanceMethod yX4_addStep, .selects RX4 yX4_addStep yX4_addStep, .initialized RX4, .methodLink RX4 192 yX4_readPart, .instanceMethod yX4_readPart, .selects RX4 yX4_readPart yX4_readPart, .code yX4_take cX4_take 2 (some .boolean), .methodLink RX4 70 yX4_take, .instanceMethod yX4_take, .selects RX4 yX4_take yX4_take, .methodLink RX4 189 yX4_readSum, .instanceMethod yX4_readSum, .selects RX4 yX4_readSum yX4_readSum, .methodLink RX4 186 yX4_readComparison, .instanceMethod yX4_readComparison, .selects RX4 yX4_readComparison yX4_readComparison, .methodLink RX4 183 yX4_readAtom, .instanceMethod yX4_readAtom, .selects RX4 yX4_readAtom yX4_readAtom, .methodLink RX4 176 yX4_readAll, .instanceMethod yX4_readAll, .selects RX4 yX4_readAll yX4_readAll, .methodLink RX4 173 yX4_readAny, .instanceMethod yX4_readAny, .selects RX4 yX4_readAny yX4_readAny] bs2)
set_option maxHeartbeats 4000000 in
set_option maxRecDepth 100000 in
theorem c_readAny5 (l : Launch) (dC : Nat → ClassId) (dI : Nat → Nat → Nat) (kA : Nat → ClassId) (adK adV : Nat → Nat) (G : gT) (H0 : Heap) (nC nS : Int) (o0 : Nat) (th : Nat) (a0 : Int32) (tv ix_tv : Int32) (tn : Int32) (hT : gH (dC, dI) kA (SHc nC nS) G H0) (hr_o0 : G o0 = some 7) (hm_th : el H0 o0 (dI 7 0) = some (.ref th)) (hr_th : G th = some 40) (hm_a0 : el H0 o0 (dI 7 13) = some (.int a0)) (hq0 : 0 ≤ tn.toInt ∧ tn.toInt ≤ 400) (hq1 : 0 ≤ a0.toInt ∧ a0.toInt ≤ 400) (hat : a0.toInt ≤ tn.toInt) (hx_tv : ix_tv.toInt = tn.toInt) (hm_tv : el H0 th ix_tv.toNatClampNeg = some (.int tv)) (hv_tv : 21 ≤ tv.toInt ∧ tv.toInt ≤ 21) (hgC : 0 ≤ nC ∧ nC ≤ 40) (hgS : 0 ≤ nS ∧ nS ≤ 60) : Met l yX4_readAny w_c_readAny5 ({ frames := 9, cells := 0, slots := 0, locals := 201 }) (va_Pc [.ref o0, .int 5] (fun U => U.heap = H0 ∧ va_K (dC, dI) vwCl (tyl kA) U ∧ EVC adK adV (gA G H0.size) U U.heap)) (va_Qi (fun (r : Int32) (u : Int32) => (0 ≤ u.toInt ∧ u.toInt ≤ 400) ∧ (0 ≤ r.toInt ∧ r.toInt ≤ 1) ∧ (a0.toInt ≤ u.toInt ∧ u.toInt ≤ tn.toInt)) (fun (a1 : Int32) (t : State) => gH (dC, dI) kA (SHc nC nS) G t.heap ∧ gF (dC, dI) SKc G ([(7, 12), (7, 13), (49, 0)] : List (Nat × Nat)) H0 t.heap ∧ el t.heap o0 (dI 7 13) = some (.int a1)) (gA G H0.size)) 0 0 (gA G H0.size) := by
  refine Met.ofW (cc := cX4_readAny) (maxL := 4) (ret := (some .boolean)) (by decide) rfl ?_
  intro p e s m args below meth c s₁ B hml hv
  obtain ⟨rfl, hH0, hK, hE⟩ := hv
  have hx := B.exec
  have hb := B.bytes
  have hr := B.returns
  have hts := atoms_spec (ws := w_c_readAny5) B.pre
  have hown : s.vm.findClass RX4 = some m.cls := findClass_of_methodNamed B.named
  have hlocks := B.notSynchronized
  subst hH0
  generalize hAe : gA G s.heap.size = A at hE ⊢
  have hA : ∀ q : Nat, s.heap.size ≤ q → A q := fun q h => by rw [← hAe]; exact Or.inr h
  have hG := gA_of hAe
  have hS : va_S A s.heap s.heap [] := va_S.rf
  have hF : gF (dC, dI) SKc G ([(7, 12), (7, 13), (49, 0)] : List (Nat × Nat)) s.heap s.heap := gF.rf
  have hl := lv_entry ([.ref o0, .int 5]) (n := 4) (Nat.le_of_ble_eq_true rfl)
  rw [lg_entry_eq]
  generalize (lg_sl ([.ref o0, .int 5]) ++ List.replicate (4 - (lg_sl ([.ref o0, .int 5])).length) Slot.unset).toArray = ls at hl ⊢
  have hl : lv_has ls 4 [(0, .ref o0), (1, .int 5)] := hl
  refine lv_aload_n hx hb dX4_readAny_0 rfl (lv_at hl 0 rfl) ?_
  refine lv_iload_n hx hb dX4_readAny_1 rfl (lv_at hl 1 rfl) ?_
  have hFc := gA_free hG hA hS
  refine va_calli (va_runV (As := [.int 5]) (rest := []) ⟨hx, hb, hml, hown, hts⟩ (c_readAll5 l dC dI kA adK adV G s.heap nC nS o0 th a0 tv ix_tv ix_tv hT hr_o0 hm_th hr_th hm_a0 (by have q8 := ti_all ix_tv; omega) (by have q8 := ti_all a0; omega) (by have := (show a0.toInt = a0.toInt from rfl); have := (show ix_tv.toInt = ix_tv.toInt from rfl); omega) (by have q9 := (show ix_tv.toInt = ix_tv.toInt from rfl); have := (show ix_tv.toInt = ix_tv.toInt from rfl); omega) hm_tv (by have q8 := ti_all tv; omega) (by omega) (by omega)) (cwV 1 hts (goodIn_app (goodIn_r _ [32, 33, 34, 15] rfl (by decide +kernel)) (goodIn_ca (goodIn_r _ [1, 2, 3, 4, 5, 1, 6, 7, 8, 9, 10, 11, 12, 13, 14, 15, 16, 17, 18, 19, 20, 21, 22, 23, 24, 25, 26, 27, 28, 29, 30, 31, 32, 33, 34, 35, 36, 37] rfl (by decide +kernel)) (bs2_in _ _))) rfl rfl rfl (by decide +kernel) ⟨(Nat.le_of_ble_eq_true rfl), (Nat.le_of_ble_eq_true rfl)⟩) ⟨fun a U g mk q => by obtain ⟨q0, q1, qK, qE⟩ := q; exact ⟨q0, q1, va_K.moved (u := U) (U := U.calling g mk a) (Vm.Alike.refl U.vm) qK, EVC.blind g mk a qE⟩, gH_rc hK hT hr_o0 shc_7 rfl, fun U hU hW => ⟨rfl, hU, va_K.moved hW.alike hK, hE.call hS hFc hU hW⟩⟩ rfl rfl hl.1 rfl (lv_room (Nat.le_of_ble_eq_true rfl)) dX4_readAny_2 ⟨(Nat.le_of_ble_eq_true rfl), (Nat.le_of_ble_eq_true rfl)⟩) hS (fun q _ h => hFc q h) hFc (fun r1 u t H locs ht hvm hw2 hB _ _ hS => ?_)
  obtain ⟨u3, rfl⟩ : ∃ z, z = u := ⟨_, rfl⟩
  obtain ⟨hT, hF1, m4⟩ := hB
  rw [ht] at hT hF1 m4
  have m5 := (hF1.fld hr_o0 skc_7 (k := 0) (by decide) (by decide)).trans hm_th
  have m7 := (el_kept (hF1.arr hr_th skc_40 (by decide))).trans hm_tv
  have hF := hF.more hF1 (by decide)
  try dsimp only at hw2
  obtain ⟨h8, h9, hf10⟩ := hw2
  refine lv_istore_n (lv' := [(2, .int r1), (0, .ref o0), (1, .int 5)]) hx hb dX4_readAny_5 rfl hl (by decide) rfl (fun ls hl => ?_)
  refine lv_iconst (v := 0) hx hb dX4_readAny_6 (by decide) ?_
  refine lv_istore_n (lv' := [(3, .int 0), (2, .int r1), (0, .ref o0), (1, .int 5)]) hx hb dX4_readAny_7 rfl hl (by decide) rfl (fun ls hl => ?_)
  have key53 : ∀ (n53 i11 : Nat), i11 + n53 = 400 → 0 ≤ i11 → ∀ (z12 : Int32), ∀ (z16 : Int32), ((0 ≤ z12.toInt ∧ z12.toInt ≤ 1) ∧ (0 ≤ z16.toInt ∧ z16.toInt ≤ 400) ∧ (a0.toInt ≤ z16.toInt ∧ z16.toInt ≤ tn.toInt)) → ∀ (H : Heap) (locs : List Loc), gH (dC, dI) kA (SHc nC nS) G H → gF (dC, dI) SKc G ([(7, 12), (7, 13), (49, 0)] : List (Nat × Nat)) s.heap H → va_S A s.heap H locs → el H o0 (dI 7 0) = some (.ref th) → el H th ix_tv.toNatClampNeg = some (.int tv) → el H o0 (dI 7 13) = some (.int z16) → ∀ ls : Array Slot, lv_has ls 4 [(3, .int (nI i11)), (2, .int z12), (0, .ref o0), (1, .int 5)] → W p l e (headSpec w_c_readAny5 ({ frames := 9, cells := 0, slots := 0, locals := 201 })).room s m #[.ref o0, .int 5] below meth c H locs 0 0 (MQ below (va_Qi (fun (r : Int32) (u : Int32) => (0 ≤ u.toInt ∧ u.toInt ≤ 400) ∧ (0 ≤ r.toInt ∧ r.toInt ≤ 1) ∧ (a0.toInt ≤ u.toInt ∧ u.toInt ≤ tn.toInt)) (fun (a1 : Int32) (t : State) => gH (dC, dI) kA (SHc nC nS) G t.heap ∧ gF (dC, dI) SKc G ([(7, 12), (7, 13), (49, 0)] : List (Nat × Nat)) s.heap t.heap ∧ el t.heap o0 (dI 7 13) = some (.int a1)) A) #[.ref o0, .int 5] s 0 0 A) (F0 m 8 ls []) := by
    intro n53
    induction n53 with
    | zero =>
      intro i11 hn53 hlo54 z12 z16 ⟨h13, h17, hj19⟩ H locs hT hF hS m14 m15 m18 ls hl
      obtain rfl : 400 = i11 := by omega
      refine lv_iload_n hx hb dX4_readAny_8 rfl (lv_at hl 0 rfl) ?_
      refine lv_sipush (v := 400) hx hb dX4_readAny_9 (by decide) ?_
      refine lv_icmp_ge (tgt := 46) hx hb dX4_readAny_12 (by decide) (fun c55 => ?_) (fun c55 => (by exfalso; have q9 : ((400 : Nat) : Int) < 400 := ti_nle c55 (by decide) (nI_toInt (by omega)); omega))
      have t56 : 400 ≤ ((400 : Nat) : Int) := ti_le c55 (by decide) (nI_toInt (by omega))
      refine lv_iload_n hx hb dX4_readAny_46 rfl (lv_at hl 1 rfl) ?_
      exact W.zret (v := z12) hx hb hr (nar_b (by have q8 := ti_all z12; omega)) (fun t ht hW => ⟨⟨z12, z16, rfl, (by exact ⟨(by have q8 := ti_all z16; omega), (by have q8 := ti_all z12; omega), (by omega)⟩), by (try dsimp only); rw [ht]; exact ⟨hT, hF, m18⟩⟩, hS.F ht⟩) hS.2.2 dX4_readAny_47
    | succ n53 ih53 =>
      intro i11 hn53 hlo54 z12 z16 ⟨h13, h17, hj19⟩ H locs hT hF hS m14 m15 m18 ls hl
      have hlt56 : i11 < 400 := by omega
      refine lv_iload_n hx hb dX4_readAny_8 rfl (lv_at hl 0 rfl) ?_
      refine lv_sipush (v := 400) hx hb dX4_readAny_9 (by decide) ?_
      refine lv_icmp_ge (tgt := 46) hx hb dX4_readAny_12 (by decide) (fun c57 => (by exfalso; have q9 : 400 ≤ ((i11 : Nat) : Int) := ti_le c57 (by decide) (nI_toInt (by omega)); omega)) (fun c57 => ?_)
      have t58 : ((i11 : Nat) : Int) < 400 := ti_nle c57 (by decide) (nI_toInt (by omega))
      refine lv_iload_n hx hb dX4_readAny_15 rfl (lv_at hl 1 rfl) ?_
      refine lv_if_eq (tgt := 46) hx hb dX4_readAny_16 (by decide) (fun c59 => ?_) (fun c59 => ?_)
      · have t60 : z12.toInt = 0 := ti_eq c59 rfl (by decide)
        refine lv_iload_n hx hb dX4_readAny_46 rfl (lv_at hl 1 rfl) ?_
        exact W.zret (v := z12) hx hb hr (nar_b (by have q8 := ti_all z12; omega)) (fun t ht hW => ⟨⟨z12, z16, rfl, (by exact ⟨(by have q8 := ti_all z16; omega), (by have q8 := ti_all z12; omega), (by omega)⟩), by (try dsimp only); rw [ht]; exact ⟨hT, hF, m18⟩⟩, hS.F ht⟩) hS.2.2 dX4_readAny_47
      · have t61 : z12.toInt ≠ 0 := ti_ne c59 rfl (by decide)
        refine lv_aload_n hx hb dX4_readAny_19 rfl (lv_at hl 2 rfl) ?_
        refine lv_bipush (v := 15) hx hb dX4_readAny_20 (by decide) ?_
        have hFc := gA_free hG hA hS
        refine va_calli (va_runV (As := [.int 15]) (rest := []) ⟨hx, hb, hml, hown, hts⟩ (c_take l dC dI kA adK adV G H nC nS o0 15 th z16 tv ix_tv ix_tv hT hr_o0 m14 hr_th m18 (by have q8 := ti_all ix_tv; omega) (by have q8 := ti_all z16; omega) (by have := (show z16.toInt = z16.toInt from rfl); have := (show ix_tv.toInt = ix_tv.toInt from rfl); omega) (by have := (show (15 : Int32).toInt = 15 from (by decide)); omega) (by have q9 := (show ix_tv.toInt = ix_tv.toInt from rfl); have := (show ix_tv.toInt = ix_tv.toInt from rfl); omega) m15 (by have q8 := ti_all tv; omega) (by omega) (by omega)) (cwV 1 hts (goodIn_app (goodIn_r _ [20, 21, 22, 15] rfl (by decide +kernel)) (goodIn_ca (goodIn_r _ [19, 3, 4] rfl (by decide +kernel)) (bs2_in _ _))) rfl rfl rfl (by decide +kernel) ⟨(Nat.le_of_ble_eq_true rfl), (Nat.le_of_ble_eq_true rfl)⟩) ⟨fun a U g mk q => by obtain ⟨q0, q1, qK, qE⟩ := q; exact ⟨q0, q1, va_K.moved (u := U) (U := U.calling g mk a) (Vm.Alike.refl U.vm) qK, EVC.blind g mk a qE⟩, gH_rc hK hT hr_o0 shc_7 rfl, fun U hU hW => ⟨rfl, hU, va_K.moved hW.alike hK, hE.call hS hFc hU hW⟩⟩ rfl rfl hl.1 rfl (lv_room (Nat.le_of_ble_eq_true rfl)) dX4_readAny_22 ⟨(Nat.le_of_ble_eq_true rfl), (Nat.le_of_ble_eq_true rfl)⟩) hS (fun q _ h => hFc q h) hFc (fun r62 u t H locs ht hvm hw63 hB _ _ hS => ?_)
        obtain ⟨u64, rfl⟩ : ∃ z, z = u := ⟨_, rfl⟩
        obtain ⟨hT, hF1, m65⟩ := hB
        rw [ht] at hT hF1 m65
        have m66 := (hF1.fld hr_o0 skc_7 (k := 0) (by decide) (by decide)).trans m14
        have m67 := (el_kept (hF1.arr hr_th skc_40 (by decide))).trans m15
        have hF := hF.more hF1 (by decide)
        try dsimp only at hw63
        obtain ⟨h69, h70, hf71⟩ := hw63
        refine lv_if_eq (tgt := 46) hx hb dX4_readAny_25 (by decide) (fun c72 => ?_) (fun c72 => ?_)
        · have t73 : r62.toInt = 0 := ti_eq c72 rfl (by decide)
          refine lv_iload_n hx hb dX4_readAny_46 rfl (lv_at hl 1 rfl) ?_
          exact W.zret (v := z12) hx hb hr (nar_b (by have q8 := ti_all z12; omega)) (fun t ht hW => ⟨⟨z12, u64, rfl, (by exact ⟨(by have q8 := ti_all u64; omega), (by have q8 := ti_all z12; omega), (by omega)⟩), by (try dsimp only); rw [ht]; exact ⟨hT, hF, m65⟩⟩, hS.F ht⟩) hS.2.2 dX4_readAny_47
        · have t74 : r62.toInt ≠ 0 := ti_ne c72 rfl (by decide)
          refine lv_aload_n hx hb dX4_readAny_28 rfl (lv_at hl 2 rfl) ?_
          refine lv_iload_n hx hb dX4_readAny_29 rfl (lv_at hl 3 rfl) ?_
          have hFc := gA_free hG hA hS
          refine va_calli (va_runV (As := [.int 5]) (rest := []) ⟨hx, hb, hml, hown, hts⟩ (c_readAll5 l dC dI kA adK adV G H nC nS o0 th u64 tv ix_tv ix_tv hT hr_o0 m66 hr_th m65 (by have q8 := ti_all ix_tv; omega) (by have q8 := ti_all u64; omega) (by have := (show u64.toInt = u64.toInt from rfl); have := (show ix_tv.toInt = ix_tv.toInt from rfl); omega) (by have q9 := (show ix_tv.toInt = ix_tv.toInt from rfl); have := (show ix_tv.toInt = ix_tv.toInt from rfl); omega) m67 (by have q8 := ti_all tv; omega) (by omega) (by omega)) (cwV 1 hts (goodIn_app (goodIn_r _ [32, 33, 34, 15] rfl (by decide +kernel)) (goodIn_ca (goodIn_r _ [1, 2, 3, 4, 5, 1, 6, 7, 8, 9, 10, 11, 12, 13, 14, 15, 16, 17, 18, 19, 20, 21, 22, 23, 24, 25, 26, 27, 28, 29, 30, 31, 32, 33, 34, 35, 36, 37] rfl (by decide +kernel)) (bs2_in _ _))) rfl rfl rfl (by decide +kernel) ⟨(Nat.le_of_ble_eq_true rfl), (Nat.le_of_ble_eq_true rfl)⟩) ⟨fun a U g mk q => by obtain ⟨q0, q1, qK, qE⟩ := q; exact ⟨q0, q1, va_K.moved (u := U) (U := U.calling g mk a) (Vm.Alike.refl U.vm) qK, EVC.blind g mk a qE⟩, gH_rc hK hT hr_o0 shc_7 rfl, fun U hU hW => ⟨rfl, hU, va_K.moved hW.alike hK, hE.call hS hFc hU hW⟩⟩ rfl rfl hl.1 rfl (lv_room (Nat.le_of_ble_eq_true rfl)) dX4_readAny_30 ⟨(Nat.le_of_ble_eq_true rfl), (Nat.le_of_ble_eq_true rfl)⟩) hS (fun q _ h => hFc q h) hFc (fun r75 u t H locs ht hvm hw76 hB _ _ hS => ?_)
          obtain ⟨u77, rfl⟩ : ∃ z, z = u := ⟨_, rfl⟩
          obtain ⟨hT, hF1, m78⟩ := hB
          rw [ht] at hT hF1 m78
          have m79 := (hF1.fld hr_o0 skc_7 (k := 0) (by decide) (by decide)).trans m66
          have m80 := (el_kept (hF1.arr hr_th skc_40 (by decide))).trans m67
          have hF := hF.more hF1 (by decide)
          try dsimp only at hw76
          obtain ⟨h82, h83, hf84⟩ := hw76
          refine lv_istore_n (lv' := [(2, .int r75), (3, .int (nI i11)), (0, .ref o0), (1, .int 5)]) hx hb dX4_readAny_33 rfl hl (by decide) rfl (fun ls hl => ?_)
          refine lv_aload_n hx hb dX4_readAny_34 rfl (lv_at hl 2 rfl) ?_
          refine lv_bipush (v := 15) hx hb dX4_readAny_35 (by decide) ?_
          have hFc := gA_free hG hA hS
          refine va_callv (va_runV (As := [.int 15]) (rest := []) ⟨hx, hb, hml, hown, hts⟩ (c_addStep l dC dI kA adK adV G H nC nS o0 15 hT hr_o0 (rg_t (a := 15) (by decide) (by first | decide | omega) (by first | decide | omega)) (by omega) (by omega)) (cwV 1 hts (goodIn_app (goodIn_r _ [12, 13, 14, 15] rfl (by decide +kernel)) (goodIn_ca (goodIn_r _ [9, 10, 11] rfl (by decide +kernel)) (bs2_in _ _))) rfl rfl rfl (by decide +kernel) ⟨(Nat.le_of_ble_eq_true rfl), (Nat.le_of_ble_eq_true rfl)⟩) ⟨fun a U g mk q => by obtain ⟨q0, q1, qK, qE⟩ := q; exact ⟨q0, q1, va_K.moved (u := U) (U := U.calling g mk a) (Vm.Alike.refl U.vm) qK, EVC.blind g mk a qE⟩, gH_rc hK hT hr_o0 shc_7 rfl, fun U hU hW => ⟨rfl, hU, va_K.moved hW.alike hK, hE.call hS hFc hU hW⟩⟩ rfl rfl hl.1 rfl (lv_room (Nat.le_of_ble_eq_true rfl)) dX4_readAny_37 ⟨(Nat.le_of_ble_eq_true rfl), (Nat.le_of_ble_eq_true rfl)⟩) hS (fun q _ h => hFc q h) hFc (fun u t H locs ht hvm hw86 hB _ _ hS => ?_)
          obtain ⟨hT, hF1⟩ := hB
          rw [ht] at hT hF1
          have m87 := (hF1.fld hr_o0 skc_7 (k := 0) (by decide) (by decide)).trans m79
          have m88 := (el_kept (hF1.arr hr_th skc_40 (by decide))).trans m80
          have m89 := (hF1.fld hr_o0 skc_7 (k := 13) (by decide) (by decide)).trans m78
          have hF := hF.more hF1 (by decide)
          try dsimp only at hw86
          refine lv_iinc (v := nI (i11 + 1)) (lv' := [(3, .int (nI (i11 + 1))), (2, .int r75), (0, .ref o0), (1, .int 5)]) hx hb dX4_readAny_40 hl (k := 1) rfl (nI_add i11 1) (by decide) rfl (fun ls hl => ?_)
          refine lv_goto (tgt := 8) hx hb dX4_readAny_43 (by decide) ?_
          exact ih53 (i11 + 1) (by omega) (by omega) r75 u77 ⟨(by have q8 := ti_all r75; omega), (by have q8 := ti_all u77; omega), (by have := hx_tv; have := (show u77.toInt = u77.toInt from rfl); omega)⟩ _ _ hT hF hS m87 m88 m89 ls (lv_sub hl [0, 1, 2, 3] rfl)
  exact key53 (400 - 0) 0 (by omega) (Nat.le_refl _) r1 u3 ⟨(by have q8 := ti_all r1; omega), (by have q8 := ti_all u3; omega), (by have := hx_tv; have := (show u3.toInt = u3.toInt from rfl); omega)⟩ _ _ hT hF hS m5 m7 m4 ls (lv_sub hl [0, 1, 2, 3] rfl)
def w_c_readAtom4 : List Cond := .code yX4_readAtom cX4_readAtom 4 (some .boolean) :: (HAppend.hAppend (α := List Cond) (β := List Cond) (γ := List Cond) [.fieldLink RX4 11 "SeaLand$Law" "things" "[I", .fieldLink RX4 56 "SeaLand$Law" "at" "I", .code yX4_readAny cX4_readAny 4 (some .boolean), .code yX4_readAll cX4_readAll 4 (some .boolean), .code yX4_readAtom cX4_readAtom 4 (some .boolean), .code yX4_readComparison cX4_readComparison 3 (some .boolean), .code yX4_readSum cX4_readSum 3 (some .boolean), .code yX4_readPart cX4_readPart 2 (some .boolean), .code yX4_addStep cX4_addStep 2 none, .fieldLink RX4 63 "SeaLand$Law" "stepped" "I", .fieldLink RX4 39 "SeaLand$Law" "steps" "[I", .methodLink RX4 179 yX4_addStep, .instanceMethod yX4_addStep, .selects RX4 yX4_addStep yX4_addStep, .initialized RX4, .methodLink RX4 192 yX4_readPart, .instanceMethod yX4_readPart, .selects RX4 yX4_readPart yX4_readPart, .code yX4_take cX4_take 2 (some .boolean), .methodLink RX4 70 yX4_take, .instanceMethod yX4_take, .selects RX4 yX4_take yX4_take, .methodLink RX4 189 yX4_readSum, .instanceMethod yX4_readSum, .selects RX4 yX4_readSum yX4_readSum, .methodLink RX4 186 yX4_readComparison, .instanceMethod yX4_readComparison, .selects RX4 yX4_readComparison yX4_readComparison, .methodLink RX4 183 yX4_readAtom, .instanceMethod yX4_readAtom, .selects RX4 yX4_readAtom yX4_readAtom, .methodLink RX4 176 yX4_readAll, .instanceMethod yX4_readAll, .selects RX4 yX4_readAll yX4_readAll, .methodLink RX4 173 yX4_readAny, .instanceMethod yX4_readAny, .selects RX4 yX4_readAny yX4_readAny] bs2)
set_option maxHeartbeats 4000000 in
set_option maxRecDepth 100000 in
theorem c_readAtom4 (l : Launch) (dC : Nat → ClassId) (dI : Nat → Nat → Nat) (kA : Nat → ClassId) (adK adV : Nat → Nat) (G : gT) (H0 : Heap) (nC nS : Int) (o0 : Nat) (th : Nat) (a0 : Int32) (tv ix_tv : Int32) (tn : Int32) (hT : gH (dC, dI) kA (SHc nC nS) G H0) (hr_o0 : G o0 = some 7) (hm_th : el H0 o0 (dI 7 0) = some (.ref th)) (hr_th : G th = some 40) (hm_a0 : el H0 o0 (dI 7 13) = some (.int a0)) (hq0 : 0 ≤ tn.toInt ∧ tn.toInt ≤ 400) (hq1 : 0 ≤ a0.toInt ∧ a0.toInt ≤ 400) (hat : a0.toInt ≤ tn.toInt) (hx_tv : ix_tv.toInt = tn.toInt) (hm_tv : el H0 th ix_tv.toNatClampNeg = some (.int tv)) (hv_tv : 21 ≤ tv.toInt ∧ tv.toInt ≤ 21) (hgC : 0 ≤ nC ∧ nC ≤ 40) (hgS : 0 ≤ nS ∧ nS ≤ 60) : Met l yX4_readAtom w_c_readAtom4 ({ frames := 10, cells := 0, slots := 0, locals := 224 }) (va_Pc [.ref o0, .int 4] (fun U => U.heap = H0 ∧ va_K (dC, dI) vwCl (tyl kA) U ∧ EVC adK adV (gA G H0.size) U U.heap)) (va_Qi (fun (r : Int32) (u : Int32) => (0 ≤ u.toInt ∧ u.toInt ≤ 400) ∧ (0 ≤ r.toInt ∧ r.toInt ≤ 1) ∧ (a0.toInt ≤ u.toInt ∧ u.toInt ≤ tn.toInt)) (fun (a1 : Int32) (t : State) => gH (dC, dI) kA (SHc nC nS) G t.heap ∧ gF (dC, dI) SKc G ([(7, 12), (7, 13), (49, 0)] : List (Nat × Nat)) H0 t.heap ∧ el t.heap o0 (dI 7 13) = some (.int a1)) (gA G H0.size)) 0 0 (gA G H0.size) := by
  refine Met.ofW (cc := cX4_readAtom) (maxL := 4) (ret := (some .boolean)) (by decide) rfl ?_
  intro p e s m args below meth c s₁ B hml hv
  obtain ⟨rfl, hH0, hK, hE⟩ := hv
  have hx := B.exec
  have hb := B.bytes
  have hr := B.returns
  have hts := atoms_spec (ws := w_c_readAtom4) B.pre
  have hown : s.vm.findClass RX4 = some m.cls := findClass_of_methodNamed B.named
  have hlocks := B.notSynchronized
  subst hH0
  generalize hAe : gA G s.heap.size = A at hE ⊢
  have hA : ∀ q : Nat, s.heap.size ≤ q → A q := fun q h => by rw [← hAe]; exact Or.inr h
  have hG := gA_of hAe
  have hS : va_S A s.heap s.heap [] := va_S.rf
  have hF : gF (dC, dI) SKc G ([(7, 12), (7, 13), (49, 0)] : List (Nat × Nat)) s.heap s.heap := gF.rf
  have hl := lv_entry ([.ref o0, .int 4]) (n := 4) (Nat.le_of_ble_eq_true rfl)
  rw [lg_entry_eq]
  generalize (lg_sl ([.ref o0, .int 4]) ++ List.replicate (4 - (lg_sl ([.ref o0, .int 4])).length) Slot.unset).toArray = ls at hl ⊢
  have hl : lv_has ls 4 [(0, .ref o0), (1, .int 4)] := hl
  refine lv_aload_n hx hb dX4_readAtom_0 rfl (lv_at hl 0 rfl) ?_
  refine tw_getM (v := .ref th) hx hb hts bF2_X4 hown hK hT hr_o0 shc_7 rfl 0 (by decide) (ht_at2 hts 0 rfl) (fun _ h9 => h9) hm_th dX4_readAtom_1 ?_
  refine lv_aload_n hx hb dX4_readAtom_4 rfl (lv_at hl 0 rfl) ?_
  refine tw_getM (v := .int a0) hx hb hts bF2_X4 hown hK hT hr_o0 shc_7 rfl 13 (by decide) (ht_at2 hts 1 rfl) (fun _ h9 => h9) hm_a0 dX4_readAtom_5 ?_
  refine tw_iald (i := a0) hx hb hK hT hr_th shc_40 rfl (vin_t (a := a0.toInt) rfl (by omega) (by omega)) dX4_readAtom_8 (fun v9 m1 h9 => ?_)
  obtain ⟨x2, rfl, gx2, kx2⟩ := h9
  have t3 : a0.toInt = ix_tv.toInt → x2.toInt = tv.toInt := fun h8 => congrArg Int32.toInt (el_same m1 hm_tv h8)
  refine lv_bipush (v := 13) hx hb dX4_readAtom_9 (by decide) ?_
  have t4 : -2147483648 ≤ x2.toInt ∧ x2.toInt ≤ 2147483647 := ti_all x2
  refine lv_icmp_ne (tgt := 18) hx hb dX4_readAtom_11 (by decide) (fun c5 => ?_) (fun c5 => ?_)
  · have t6 : x2.toInt ≠ 13 := ti_ne c5 rfl (by decide)
    refine lv_iconst (v := 0) hx hb dX4_readAtom_18 (by decide) ?_
    refine lv_istore_n (lv' := [(2, .int 0), (0, .ref o0), (1, .int 4)]) hx hb dX4_readAtom_19 rfl hl (by decide) rfl (fun ls hl => ?_)
    refine lv_iload_n hx hb dX4_readAtom_20 rfl (lv_at hl 0 rfl) ?_
    refine lv_if_ne (tgt := 43) hx hb dX4_readAtom_21 (by decide) (fun c7 => absurd c7 (by decide)) (fun c7 => ?_)
    refine lv_aload_n hx hb dX4_readAtom_24 rfl (lv_at hl 1 rfl) ?_
    refine tw_getM (v := .ref th) hx hb hts bF2_X4 hown hK hT hr_o0 shc_7 rfl 0 (by decide) (ht_at2 hts 0 rfl) (fun _ h9 => h9) hm_th dX4_readAtom_25 ?_
    refine lv_aload_n hx hb dX4_readAtom_28 rfl (lv_at hl 1 rfl) ?_
    refine tw_getM (v := .int a0) hx hb hts bF2_X4 hown hK hT hr_o0 shc_7 rfl 13 (by decide) (ht_at2 hts 1 rfl) (fun _ h9 => h9) hm_a0 dX4_readAtom_29 ?_
    refine tw_iald (i := a0) hx hb hK hT hr_th shc_40 rfl (vin_t (a := a0.toInt) rfl (by omega) (by omega)) dX4_readAtom_32 (fun v9 m8 h9 => ?_)
    obtain ⟨x9, rfl, gx9, kx9⟩ := h9
    have t10 : a0.toInt = ix_tv.toInt → x9.toInt = tv.toInt := fun h8 => congrArg Int32.toInt (el_same m8 hm_tv h8)
    obtain rfl : x2 = x9 := (el_same m8 m1 rfl).symm
    refine lv_bipush (v := 16) hx hb dX4_readAtom_33 (by decide) ?_
    refine lv_icmp_eq (tgt := 43) hx hb dX4_readAtom_35 (by decide) (fun c11 => ?_) (fun c11 => ?_)
    · have t12 : x2.toInt = 16 := ti_eq c11 rfl (by decide)
      refine lv_iload_n hx hb dX4_readAtom_43 rfl (lv_at hl 2 rfl) ?_
      refine lv_bipush (v := 6) hx hb dX4_readAtom_44 (by decide) ?_
      refine lv_icmp_lt (tgt := 51) hx hb dX4_readAtom_46 (by decide) (fun c13 => ?_) (fun c13 => absurd c13 (by decide))
      refine lv_aload_n hx hb dX4_readAtom_51 rfl (lv_at hl 1 rfl) ?_
      refine lv_dup hx hb dX4_readAtom_52 rfl ?_
      refine tw_getM (v := .int a0) hx hb hts bF2_X4 hown hK hT hr_o0 shc_7 rfl 13 (by decide) (ht_at2 hts 1 rfl) (fun _ h9 => h9) hm_a0 dX4_readAtom_53 ?_
      refine lv_iconst (v := 1) hx hb dX4_readAtom_56 (by decide) ?_
      refine lv_iadd hx hb dX4_readAtom_57 ?_
      refine lv_topi (fun x14 ex14 => ?_)
      have t15 : x14.toInt = a0.toInt + 1 := ti_add ex14 rfl (by decide) (by omega) (by omega)
      refine tw_put (v := .int x14) (ty := .int) hx hb hts bF2_X4 tyX4 tyX4_ok nmX4 hown hK hT hG hS hr_o0 shc_7 rfl 13 (by decide) (ht_at2 hts 1 rfl) (fun _ h9 => h9) rfl (by decide +kernel) rfl rfl (gl_at rfl (gi_of (show x14.toInt = x14.toInt from rfl) (by omega) (by omega))) dX4_readAtom_58 (fun H locs hT oq m16 oj hS => ?_)
      have hF := hF.put hr_o0 skc_7 oq oj (by decide)
      have m17 := (oj 0 (by decide) (by decide)).trans hm_th
      have m18 := (el_kept (oq _ (gne hr_th hr_o0 (by decide)))).trans hm_tv
      refine lv_iload_n hx hb dX4_readAtom_61 rfl (lv_at hl 0 rfl) ?_
      refine lv_if_eq (tgt := 81) hx hb dX4_readAtom_62 (by decide) (fun c20 => ?_) (fun c20 => absurd c20 (by decide))
      refine lv_aload_n hx hb dX4_readAtom_81 rfl (lv_at hl 1 rfl) ?_
      refine lv_iload_n hx hb dX4_readAtom_82 rfl (lv_at hl 2 rfl) ?_
      refine lv_iconst (v := 1) hx hb dX4_readAtom_83 (by decide) ?_
      refine lv_iadd hx hb dX4_readAtom_84 ?_
      refine lv_topi (fun x21 ex21 => ?_)
      obtain rfl : x21 = 5 := ex21.trans (by decide)
      have hFc := gA_free hG hA hS
      refine va_calli (va_runV (As := [.int 5]) (rest := []) ⟨hx, hb, hml, hown, hts⟩ (c_readAny5 l dC dI kA adK adV G H nC nS o0 th x14 tv ix_tv ix_tv hT hr_o0 m17 hr_th m16 (by have q8 := ti_all ix_tv; omega) (by have q8 := ti_all x14; omega) (by have := (show x14.toInt = x14.toInt from rfl); have := (show ix_tv.toInt = ix_tv.toInt from rfl); omega) (by have q9 := (show ix_tv.toInt = ix_tv.toInt from rfl); have := (show ix_tv.toInt = ix_tv.toInt from rfl); omega) m18 (by have q8 := ti_all tv; omega) (by omega) (by omega)) (cwV 1 hts (goodIn_app (goodIn_r _ [35, 36, 37, 15] rfl (by decide +kernel)) (goodIn_ca (goodIn_r _ [3, 4, 5, 1, 2, 3, 6, 7, 8, 9, 10, 11, 12, 13, 14, 15, 16, 17, 18, 19, 20, 21, 22, 23, 24, 25, 26, 27, 28, 29, 30, 31, 32, 33, 34, 35, 36, 37] rfl (by decide +kernel)) (bs2_in _ _))) rfl rfl rfl (by decide +kernel) ⟨(Nat.le_of_ble_eq_true rfl), (Nat.le_of_ble_eq_true rfl)⟩) ⟨fun a U g mk q => by obtain ⟨q0, q1, qK, qE⟩ := q; exact ⟨q0, q1, va_K.moved (u := U) (U := U.calling g mk a) (Vm.Alike.refl U.vm) qK, EVC.blind g mk a qE⟩, gH_rc hK hT hr_o0 shc_7 rfl, fun U hU hW => ⟨rfl, hU, va_K.moved hW.alike hK, hE.call hS hFc hU hW⟩⟩ rfl rfl hl.1 rfl (lv_room (Nat.le_of_ble_eq_true rfl)) dX4_readAtom_85 ⟨(Nat.le_of_ble_eq_true rfl), (Nat.le_of_ble_eq_true rfl)⟩) hS (fun q _ h => hFc q h) hFc (fun r22 u t H locs ht hvm hw23 hB _ _ hS => ?_)
      obtain ⟨u24, rfl⟩ : ∃ z, z = u := ⟨_, rfl⟩
      obtain ⟨hT, hF1, m25⟩ := hB
      rw [ht] at hT hF1 m25
      have m26 := (hF1.fld hr_o0 skc_7 (k := 0) (by decide) (by decide)).trans m17
      have m27 := (el_kept (hF1.arr hr_th skc_40 (by decide))).trans m18
      have hF := hF.more hF1 (by decide)
      try dsimp only at hw23
      obtain ⟨h30, h31, hf32⟩ := hw23
      refine lv_if_eq (tgt := 104) hx hb dX4_readAtom_88 (by decide) (fun c33 => ?_) (fun c33 => ?_)
      · have t34 : r22.toInt = 0 := ti_eq c33 rfl (by decide)
        refine lv_iconst (v := 0) hx hb dX4_readAtom_104 (by decide) ?_
        exact W.zret (v := 0) hx hb hr (by decide) (fun t ht hW => ⟨⟨0, u24, rfl, (by exact ⟨(by have q8 := ti_all u24; omega), (rg_t (a := 0) (by decide) (by first | decide | omega) (by first | decide | omega)), (by omega)⟩), by (try dsimp only); rw [ht]; exact ⟨hT, hF, m25⟩⟩, hS.F ht⟩) hS.2.2 dX4_readAtom_105
      · have t35 : r22.toInt ≠ 0 := ti_ne c33 rfl (by decide)
        refine lv_aload_n hx hb dX4_readAtom_91 rfl (lv_at hl 1 rfl) ?_
        refine lv_bipush (v := 17) hx hb dX4_readAtom_92 (by decide) ?_
        have hFc := gA_free hG hA hS
        refine va_calli (va_runV (As := [.int 17]) (rest := []) ⟨hx, hb, hml, hown, hts⟩ (c_take l dC dI kA adK adV G H nC nS o0 17 th u24 tv ix_tv ix_tv hT hr_o0 m26 hr_th m25 (by have q8 := ti_all ix_tv; omega) (by have q8 := ti_all u24; omega) (by have := (show u24.toInt = u24.toInt from rfl); have := (show ix_tv.toInt = ix_tv.toInt from rfl); omega) (by have := (show (17 : Int32).toInt = 17 from (by decide)); omega) (by have q9 := (show ix_tv.toInt = ix_tv.toInt from rfl); have := (show ix_tv.toInt = ix_tv.toInt from rfl); omega) m27 (by have q8 := ti_all tv; omega) (by omega) (by omega)) (cwV 1 hts (goodIn_app (goodIn_r _ [20, 21, 22, 15] rfl (by decide +kernel)) (goodIn_ca (goodIn_r _ [19, 1, 2] rfl (by decide +kernel)) (bs2_in _ _))) rfl rfl rfl (by decide +kernel) ⟨(Nat.le_of_ble_eq_true rfl), (Nat.le_of_ble_eq_true rfl)⟩) ⟨fun a U g mk q => by obtain ⟨q0, q1, qK, qE⟩ := q; exact ⟨q0, q1, va_K.moved (u := U) (U := U.calling g mk a) (Vm.Alike.refl U.vm) qK, EVC.blind g mk a qE⟩, gH_rc hK hT hr_o0 shc_7 rfl, fun U hU hW => ⟨rfl, hU, va_K.moved hW.alike hK, hE.call hS hFc hU hW⟩⟩ rfl rfl hl.1 rfl (lv_room (Nat.le_of_ble_eq_true rfl)) dX4_readAtom_94 ⟨(Nat.le_of_ble_eq_true rfl), (Nat.le_of_ble_eq_true rfl)⟩) hS (fun q _ h => hFc q h) hFc (fun r36 u t H locs ht hvm hw37 hB _ _ hS => ?_)
        obtain ⟨u38, rfl⟩ : ∃ z, z = u := ⟨_, rfl⟩
        obtain ⟨hT, hF1, m39⟩ := hB
        rw [ht] at hT hF1 m39
        have hF := hF.more hF1 (by decide)
        try dsimp only at hw37
        obtain ⟨h44, h45, hf46⟩ := hw37
        refine lv_if_eq (tgt := 104) hx hb dX4_readAtom_97 (by decide) (fun c47 => ?_) (fun c47 => ?_)
        · have t48 : r36.toInt = 0 := ti_eq c47 rfl (by decide)
          refine lv_iconst (v := 0) hx hb dX4_readAtom_104 (by decide) ?_
          exact W.zret (v := 0) hx hb hr (by decide) (fun t ht hW => ⟨⟨0, u38, rfl, (by exact ⟨(by have q8 := ti_all u38; omega), (rg_t (a := 0) (by decide) (by first | decide | omega) (by first | decide | omega)), (by omega)⟩), by (try dsimp only); rw [ht]; exact ⟨hT, hF, m39⟩⟩, hS.F ht⟩) hS.2.2 dX4_readAtom_105
        · have t49 : r36.toInt ≠ 0 := ti_ne c47 rfl (by decide)
          refine lv_iconst (v := 1) hx hb dX4_readAtom_100 (by decide) ?_
          refine lv_goto (tgt := 105) hx hb dX4_readAtom_101 (by decide) ?_
          exact W.zret (v := 1) hx hb hr (by decide) (fun t ht hW => ⟨⟨1, u38, rfl, (by exact ⟨(by have q8 := ti_all u38; omega), (rg_t (a := 1) (by decide) (by first | decide | omega) (by first | decide | omega)), (by omega)⟩), by (try dsimp only); rw [ht]; exact ⟨hT, hF, m39⟩⟩, hS.F ht⟩) hS.2.2 dX4_readAtom_105
    · have t50 : x2.toInt ≠ 16 := ti_ne c11 rfl (by decide)
      refine lv_aload_n hx hb dX4_readAtom_38 rfl (lv_at hl 1 rfl) ?_
      have hFc := gA_free hG hA hS
      refine va_calli (va_runV (As := []) (rest := []) ⟨hx, hb, hml, hown, hts⟩ (c_readComparison l dC dI kA adK adV G s.heap nC nS o0 th a0 tv ix_tv ix_tv hT hr_o0 hm_th hr_th hm_a0 (by have q8 := ti_all ix_tv; omega) (by have q8 := ti_all a0; omega) (by have := (show a0.toInt = a0.toInt from rfl); have := (show ix_tv.toInt = ix_tv.toInt from rfl); omega) (by have q9 := (show ix_tv.toInt = ix_tv.toInt from rfl); have := (show ix_tv.toInt = ix_tv.toInt from rfl); omega) hm_tv (by have q8 := ti_all tv; omega) (by omega) (by omega)) (cwV 0 hts (goodIn_app (goodIn_r _ [26, 27, 28, 15] rfl (by decide +kernel)) (goodIn_ca (goodIn_r _ [6, 7, 8, 1, 2, 9, 10, 11, 12, 13, 14, 15, 16, 17, 18, 19, 20, 21, 22, 23, 24, 25] rfl (by decide +kernel)) (bs2_in _ _))) rfl rfl rfl (by decide +kernel) ⟨(Nat.le_of_ble_eq_true rfl), (Nat.le_of_ble_eq_true rfl)⟩) ⟨fun a U g mk q => by obtain ⟨q0, q1, qK, qE⟩ := q; exact ⟨q0, q1, va_K.moved (u := U) (U := U.calling g mk a) (Vm.Alike.refl U.vm) qK, EVC.blind g mk a qE⟩, gH_rc hK hT hr_o0 shc_7 rfl, fun U hU hW => ⟨rfl, hU, va_K.moved hW.alike hK, hE.call hS hFc hU hW⟩⟩ rfl rfl hl.1 rfl (lv_room (Nat.le_of_ble_eq_true rfl)) dX4_readAtom_39 ⟨(Nat.le_of_ble_eq_true rfl), (Nat.le_of_ble_eq_true rfl)⟩) hS (fun q _ h => hFc q h) hFc (fun r51 u t H locs ht hvm hw52 hB _ _ hS => ?_)
      obtain ⟨u53, rfl⟩ : ∃ z, z = u := ⟨_, rfl⟩
      obtain ⟨hT, hF1, m54⟩ := hB
      rw [ht] at hT hF1 m54
      have hF := hF.more hF1 (by decide)
      try dsimp only at hw52
      obtain ⟨h59, h60, hf61⟩ := hw52
      exact W.zret (v := r51) hx hb hr (nar_b (by have q8 := ti_all r51; omega)) (fun t ht hW => ⟨⟨r51, u53, rfl, (by exact ⟨(by have q8 := ti_all u53; omega), (by have q8 := ti_all r51; omega), (by omega)⟩), by (try dsimp only); rw [ht]; exact ⟨hT, hF, m54⟩⟩, hS.F ht⟩) hS.2.2 dX4_readAtom_42
  · have t62 : x2.toInt = 13 := ti_eq c5 rfl (by decide)
    refine lv_iconst (v := 1) hx hb dX4_readAtom_14 (by decide) ?_
    refine lv_goto (tgt := 19) hx hb dX4_readAtom_15 (by decide) ?_
    refine lv_istore_n (lv' := [(2, .int 1), (0, .ref o0), (1, .int 4)]) hx hb dX4_readAtom_19 rfl hl (by decide) rfl (fun ls hl => ?_)
    refine lv_iload_n hx hb dX4_readAtom_20 rfl (lv_at hl 0 rfl) ?_
    refine lv_if_ne (tgt := 43) hx hb dX4_readAtom_21 (by decide) (fun c63 => ?_) (fun c63 => absurd c63 (by decide))
    refine lv_iload_n hx hb dX4_readAtom_43 rfl (lv_at hl 2 rfl) ?_
    refine lv_bipush (v := 6) hx hb dX4_readAtom_44 (by decide) ?_
    refine lv_icmp_lt (tgt := 51) hx hb dX4_readAtom_46 (by decide) (fun c64 => ?_) (fun c64 => absurd c64 (by decide))
    refine lv_aload_n hx hb dX4_readAtom_51 rfl (lv_at hl 1 rfl) ?_
    refine lv_dup hx hb dX4_readAtom_52 rfl ?_
    refine tw_getM (v := .int a0) hx hb hts bF2_X4 hown hK hT hr_o0 shc_7 rfl 13 (by decide) (ht_at2 hts 1 rfl) (fun _ h9 => h9) hm_a0 dX4_readAtom_53 ?_
    refine lv_iconst (v := 1) hx hb dX4_readAtom_56 (by decide) ?_
    refine lv_iadd hx hb dX4_readAtom_57 ?_
    refine lv_topi (fun x65 ex65 => ?_)
    have t66 : x65.toInt = a0.toInt + 1 := ti_add ex65 rfl (by decide) (by omega) (by omega)
    refine tw_put (v := .int x65) (ty := .int) hx hb hts bF2_X4 tyX4 tyX4_ok nmX4 hown hK hT hG hS hr_o0 shc_7 rfl 13 (by decide) (ht_at2 hts 1 rfl) (fun _ h9 => h9) rfl (by decide +kernel) rfl rfl (gl_at rfl (gi_of (show x65.toInt = x65.toInt from rfl) (by omega) (by omega))) dX4_readAtom_58 (fun H locs hT oq m67 oj hS => ?_)
    have hF := hF.put hr_o0 skc_7 oq oj (by decide)
    have m68 := (oj 0 (by decide) (by decide)).trans hm_th
    have m69 := (el_kept (oq _ (gne hr_th hr_o0 (by decide)))).trans hm_tv
    refine lv_iload_n hx hb dX4_readAtom_61 rfl (lv_at hl 0 rfl) ?_
    refine lv_if_eq (tgt := 81) hx hb dX4_readAtom_62 (by decide) (fun c71 => absurd c71 (by decide)) (fun c71 => ?_)
    refine lv_aload_n hx hb dX4_readAtom_65 rfl (lv_at hl 1 rfl) ?_
    refine lv_iload_n hx hb dX4_readAtom_66 rfl (lv_at hl 2 rfl) ?_
    refine lv_iconst (v := 1) hx hb dX4_readAtom_67 (by decide) ?_
    refine lv_iadd hx hb dX4_readAtom_68 ?_
    refine lv_topi (fun x72 ex72 => ?_)
    obtain rfl : x72 = 5 := ex72.trans (by decide)
    have hFc := gA_free hG hA hS
    refine va_calli (va_runV (As := [.int 5]) (rest := []) ⟨hx, hb, hml, hown, hts⟩ (c_readAtom5 l dC dI kA adK adV G H nC nS o0 th x65 tv ix_tv ix_tv hT hr_o0 m68 hr_th m67 (by have q8 := ti_all ix_tv; omega) (by have q8 := ti_all x65; omega) (by have := (show x65.toInt = x65.toInt from rfl); have := (show ix_tv.toInt = ix_tv.toInt from rfl); omega) (by have q9 := (show ix_tv.toInt = ix_tv.toInt from rfl); have := (show ix_tv.toInt = ix_tv.toInt from rfl); omega) m69 (by have q8 := ti_all tv; omega) (by omega) (by omega)) (cwV 1 hts (goodIn_app (goodIn_r _ [29, 30, 31, 15] rfl (by decide +kernel)) (goodIn_ca (goodIn_r _ [5, 1, 2, 3, 4, 5, 6, 7, 8, 9, 10, 11, 12, 13, 14, 15, 16, 17, 18, 19, 20, 21, 22, 23, 24, 25, 26, 27, 28, 29, 30, 31, 32, 33, 34, 35, 36, 37] rfl (by decide +kernel)) (bs2_in _ _))) rfl rfl rfl (by decide +kernel) ⟨(Nat.le_of_ble_eq_true rfl), (Nat.le_of_ble_eq_true rfl)⟩) ⟨fun a U g mk q => by obtain ⟨q0, q1, qK, qE⟩ := q; exact ⟨q0, q1, va_K.moved (u := U) (U := U.calling g mk a) (Vm.Alike.refl U.vm) qK, EVC.blind g mk a qE⟩, gH_rc hK hT hr_o0 shc_7 rfl, fun U hU hW => ⟨rfl, hU, va_K.moved hW.alike hK, hE.call hS hFc hU hW⟩⟩ rfl rfl hl.1 rfl (lv_room (Nat.le_of_ble_eq_true rfl)) dX4_readAtom_69 ⟨(Nat.le_of_ble_eq_true rfl), (Nat.le_of_ble_eq_true rfl)⟩) hS (fun q _ h => hFc q h) hFc (fun r73 u t H locs ht hvm hw74 hB _ _ hS => ?_)
    obtain ⟨u75, rfl⟩ : ∃ z, z = u := ⟨_, rfl⟩
    obtain ⟨hT, hF1, m76⟩ := hB
    rw [ht] at hT hF1 m76
    have hF := hF.more hF1 (by decide)
    try dsimp only at hw74
    obtain ⟨h81, h82, hf83⟩ := hw74
    refine lv_istore_n (lv' := [(3, .int r73), (2, .int 1), (0, .ref o0), (1, .int 4)]) hx hb dX4_readAtom_72 rfl hl (by decide) rfl (fun ls hl => ?_)
    refine lv_aload_n hx hb dX4_readAtom_73 rfl (lv_at hl 2 rfl) ?_
    refine lv_bipush (v := 13) hx hb dX4_readAtom_74 (by decide) ?_
    have hFc := gA_free hG hA hS
    refine va_callv (va_runV (As := [.int 13]) (rest := []) ⟨hx, hb, hml, hown, hts⟩ (c_addStep l dC dI kA adK adV G H nC nS o0 13 hT hr_o0 (rg_t (a := 13) (by decide) (by first | decide | omega) (by first | decide | omega)) (by omega) (by omega)) (cwV 1 hts (goodIn_app (goodIn_r _ [12, 13, 14, 15] rfl (by decide +kernel)) (goodIn_ca (goodIn_r _ [9, 10, 11] rfl (by decide +kernel)) (bs2_in _ _))) rfl rfl rfl (by decide +kernel) ⟨(Nat.le_of_ble_eq_true rfl), (Nat.le_of_ble_eq_true rfl)⟩) ⟨fun a U g mk q => by obtain ⟨q0, q1, qK, qE⟩ := q; exact ⟨q0, q1, va_K.moved (u := U) (U := U.calling g mk a) (Vm.Alike.refl U.vm) qK, EVC.blind g mk a qE⟩, gH_rc hK hT hr_o0 shc_7 rfl, fun U hU hW => ⟨rfl, hU, va_K.moved hW.alike hK, hE.call hS hFc hU hW⟩⟩ rfl rfl hl.1 rfl (lv_room (Nat.le_of_ble_eq_true rfl)) dX4_readAtom_76 ⟨(Nat.le_of_ble_eq_true rfl), (Nat.le_of_ble_eq_true rfl)⟩) hS (fun q _ h => hFc q h) hFc (fun u t H locs ht hvm hw85 hB _ _ hS => ?_)
    obtain ⟨hT, hF1⟩ := hB
    rw [ht] at hT hF1
    have m89 := (hF1.fld hr_o0 skc_7 (k := 13) (by decide) (by decide)).trans m76
    have hF := hF.more hF1 (by decide)
    try dsimp only at hw85
    refine lv_iload_n hx hb dX4_readAtom_79 rfl (lv_at hl 0 rfl) ?_
    exact W.zret (v := r73) hx hb hr (nar_b (by have q8 := ti_all r73; omega)) (fun t ht hW => ⟨⟨r73, u75, rfl, (by exact ⟨(by have q8 := ti_all u75; omega), (by have q8 := ti_all r73; omega), (by omega)⟩), by (try dsimp only); rw [ht]; exact ⟨hT, hF, m89⟩⟩, hS.F ht⟩) hS.2.2 dX4_readAtom_80
def w_c_readAll4 : List Cond := .code yX4_readAll cX4_readAll 4 (some .boolean) :: (HAppend.hAppend (α := List Cond) (β := List Cond) (γ := List Cond) [.code yX4_readAtom cX4_readAtom 4 (some .boolean), .fieldLink RX4 11 "SeaLand$Law" "things" "[I", .fieldLink RX4 56 "SeaLand$Law" "at" "I", .code yX4_readAny cX4_readAny 4 (some .boolean), .code yX4_readAll cX4_readAll 4 (some .boolean), .code yX4_readComparison cX4_readComparison 3 (some .boolean), .code yX4_readSum cX4_readSum 3 (some .boolean), .code yX4_readPart cX4_readPart 2 (some .boolean), .code yX4_addStep cX4_addStep 2 none, .fieldLink RX4 63 "SeaLand$Law" "stepped" "I", .fieldLink RX4 39 "SeaLand$Law" "steps" "[I", .methodLink RX4 179 yX4_addStep, .instanceMethod yX4_addStep, .selects RX4 yX4_addStep yX4_addStep, .initialized RX4, .methodLink RX4 192 yX4_readPart, .instanceMethod yX4_readPart, .selects RX4 yX4_readPart yX4_readPart, .code yX4_take cX4_take 2 (some .boolean), .methodLink RX4 70 yX4_take, .instanceMethod yX4_take, .selects RX4 yX4_take yX4_take, .methodLink RX4 189 yX4_readSum, .instanceMethod yX4_readSum, .selects RX4 yX4_readSum yX4_readSum, .methodLink RX4 186 yX4_readComparison, .instanceMethod yX4_readComparison, .selects RX4 yX4_readComparison yX4_readComparison, .methodLink RX4 183 yX4_readAtom, .instanceMethod yX4_readAtom, .selects RX4 yX4_readAtom yX4_readAtom, .methodLink RX4 176 yX4_readAll, .instanceMethod yX4_readAll, .selects RX4 yX4_readAll yX4_readAll, .methodLink RX4 173 yX4_readAny, .instanceMethod yX4_readAny, .selects RX4 yX4_readAny yX4_readAny] bs2)
set_option maxHeartbeats 4000000 in
set_option maxRecDepth 100000 in
theorem c_readAll4 (l : Launch) (dC : Nat → ClassId) (dI : Nat → Nat → Nat) (kA : Nat → ClassId) (adK adV : Nat → Nat) (G : gT) (H0 : Heap) (nC nS : Int) (o0 : Nat) (th : Nat) (a0 : Int32) (tv ix_tv : Int32) (tn : Int32) (hT : gH (dC, dI) kA (SHc nC nS) G H0) (hr_o0 : G o0 = some 7) (hm_th : el H0 o0 (dI 7 0) = some (.ref th)) (hr_th : G th = some 40) (hm_a0 : el H0 o0 (dI 7 13) = some (.int a0)) (hq0 : 0 ≤ tn.toInt ∧ tn.toInt ≤ 400) (hq1 : 0 ≤ a0.toInt ∧ a0.toInt ≤ 400) (hat : a0.toInt ≤ tn.toInt) (hx_tv : ix_tv.toInt = tn.toInt) (hm_tv : el H0 th ix_tv.toNatClampNeg = some (.int tv)) (hv_tv : 21 ≤ tv.toInt ∧ tv.toInt ≤ 21) (hgC : 0 ≤ nC ∧ nC ≤ 40) (hgS : 0 ≤ nS ∧ nS ≤ 60) : Met l yX4_readAll w_c_readAll4 ({ frames := 11, cells := 0, slots := 0, locals := 247 }) (va_Pc [.ref o0, .int 4] (fun U => U.heap = H0 ∧ va_K (dC, dI) vwCl (tyl kA) U ∧ EVC adK adV (gA G H0.size) U U.heap)) (va_Qi (fun (r : Int32) (u : Int32) => (0 ≤ u.toInt ∧ u.toInt ≤ 400) ∧ (0 ≤ r.toInt ∧ r.toInt ≤ 1) ∧ (a0.toInt ≤ u.toInt ∧ u.toInt ≤ tn.toInt)) (fun (a1 : Int32) (t : State) => gH (dC, dI) kA (SHc nC nS) G t.heap ∧ gF (dC, dI) SKc G ([(7, 12), (7, 13), (49, 0)] : List (Nat × Nat)) H0 t.heap ∧ el t.heap o0 (dI 7 13) = some (.int a1)) (gA G H0.size)) 0 0 (gA G H0.size) := by
  refine Met.ofW (cc := cX4_readAll) (maxL := 4) (ret := (some .boolean)) (by decide) rfl ?_
  intro p e s m args below meth c s₁ B hml hv
  obtain ⟨rfl, hH0, hK, hE⟩ := hv
  have hx := B.exec
  have hb := B.bytes
  have hr := B.returns
  have hts := atoms_spec (ws := w_c_readAll4) B.pre
  have hown : s.vm.findClass RX4 = some m.cls := findClass_of_methodNamed B.named
  have hlocks := B.notSynchronized
  subst hH0
  generalize hAe : gA G s.heap.size = A at hE ⊢
  have hA : ∀ q : Nat, s.heap.size ≤ q → A q := fun q h => by rw [← hAe]; exact Or.inr h
  have hG := gA_of hAe
  have hS : va_S A s.heap s.heap [] := va_S.rf
  have hF : gF (dC, dI) SKc G ([(7, 12), (7, 13), (49, 0)] : List (Nat × Nat)) s.heap s.heap := gF.rf
  have hl := lv_entry ([.ref o0, .int 4]) (n := 4) (Nat.le_of_ble_eq_true rfl)
  rw [lg_entry_eq]
  generalize (lg_sl ([.ref o0, .int 4]) ++ List.replicate (4 - (lg_sl ([.ref o0, .int 4])).length) Slot.unset).toArray = ls at hl ⊢
  have hl : lv_has ls 4 [(0, .ref o0), (1, .int 4)] := hl
  refine lv_aload_n hx hb dX4_readAll_0 rfl (lv_at hl 0 rfl) ?_
  refine lv_iload_n hx hb dX4_readAll_1 rfl (lv_at hl 1 rfl) ?_
  have hFc := gA_free hG hA hS
  refine va_calli (va_runV (As := [.int 4]) (rest := []) ⟨hx, hb, hml, hown, hts⟩ (c_readAtom4 l dC dI kA adK adV G s.heap nC nS o0 th a0 tv ix_tv ix_tv hT hr_o0 hm_th hr_th hm_a0 (by have q8 := ti_all ix_tv; omega) (by have q8 := ti_all a0; omega) (by have := (show a0.toInt = a0.toInt from rfl); have := (show ix_tv.toInt = ix_tv.toInt from rfl); omega) (by have q9 := (show ix_tv.toInt = ix_tv.toInt from rfl); have := (show ix_tv.toInt = ix_tv.toInt from rfl); omega) hm_tv (by have q8 := ti_all tv; omega) (by omega) (by omega)) (cwV 1 hts (goodIn_app (goodIn_r _ [29, 30, 31, 15] rfl (by decide +kernel)) (goodIn_ca (goodIn_r _ [1, 2, 3, 4, 5, 1, 6, 7, 8, 9, 10, 11, 12, 13, 14, 15, 16, 17, 18, 19, 20, 21, 22, 23, 24, 25, 26, 27, 28, 29, 30, 31, 32, 33, 34, 35, 36, 37] rfl (by decide +kernel)) (bs2_in _ _))) rfl rfl rfl (by decide +kernel) ⟨(Nat.le_of_ble_eq_true rfl), (Nat.le_of_ble_eq_true rfl)⟩) ⟨fun a U g mk q => by obtain ⟨q0, q1, qK, qE⟩ := q; exact ⟨q0, q1, va_K.moved (u := U) (U := U.calling g mk a) (Vm.Alike.refl U.vm) qK, EVC.blind g mk a qE⟩, gH_rc hK hT hr_o0 shc_7 rfl, fun U hU hW => ⟨rfl, hU, va_K.moved hW.alike hK, hE.call hS hFc hU hW⟩⟩ rfl rfl hl.1 rfl (lv_room (Nat.le_of_ble_eq_true rfl)) dX4_readAll_2 ⟨(Nat.le_of_ble_eq_true rfl), (Nat.le_of_ble_eq_true rfl)⟩) hS (fun q _ h => hFc q h) hFc (fun r1 u t H locs ht hvm hw2 hB _ _ hS => ?_)
  obtain ⟨u3, rfl⟩ : ∃ z, z = u := ⟨_, rfl⟩
  obtain ⟨hT, hF1, m4⟩ := hB
  rw [ht] at hT hF1 m4
  have m5 := (hF1.fld hr_o0 skc_7 (k := 0) (by decide) (by decide)).trans hm_th
  have m7 := (el_kept (hF1.arr hr_th skc_40 (by decide))).trans hm_tv
  have hF := hF.more hF1 (by decide)
  try dsimp only at hw2
  obtain ⟨h8, h9, hf10⟩ := hw2
  refine lv_istore_n (lv' := [(2, .int r1), (0, .ref o0), (1, .int 4)]) hx hb dX4_readAll_5 rfl hl (by decide) rfl (fun ls hl => ?_)
  refine lv_iconst (v := 0) hx hb dX4_readAll_6 (by decide) ?_
  refine lv_istore_n (lv' := [(3, .int 0), (2, .int r1), (0, .ref o0), (1, .int 4)]) hx hb dX4_readAll_7 rfl hl (by decide) rfl (fun ls hl => ?_)
  have key53 : ∀ (n53 i11 : Nat), i11 + n53 = 400 → 0 ≤ i11 → ∀ (z12 : Int32), ∀ (z16 : Int32), ((0 ≤ z12.toInt ∧ z12.toInt ≤ 1) ∧ (0 ≤ z16.toInt ∧ z16.toInt ≤ 400) ∧ (a0.toInt ≤ z16.toInt ∧ z16.toInt ≤ tn.toInt)) → ∀ (H : Heap) (locs : List Loc), gH (dC, dI) kA (SHc nC nS) G H → gF (dC, dI) SKc G ([(7, 12), (7, 13), (49, 0)] : List (Nat × Nat)) s.heap H → va_S A s.heap H locs → el H o0 (dI 7 0) = some (.ref th) → el H th ix_tv.toNatClampNeg = some (.int tv) → el H o0 (dI 7 13) = some (.int z16) → ∀ ls : Array Slot, lv_has ls 4 [(3, .int (nI i11)), (2, .int z12), (0, .ref o0), (1, .int 4)] → W p l e (headSpec w_c_readAll4 ({ frames := 11, cells := 0, slots := 0, locals := 247 })).room s m #[.ref o0, .int 4] below meth c H locs 0 0 (MQ below (va_Qi (fun (r : Int32) (u : Int32) => (0 ≤ u.toInt ∧ u.toInt ≤ 400) ∧ (0 ≤ r.toInt ∧ r.toInt ≤ 1) ∧ (a0.toInt ≤ u.toInt ∧ u.toInt ≤ tn.toInt)) (fun (a1 : Int32) (t : State) => gH (dC, dI) kA (SHc nC nS) G t.heap ∧ gF (dC, dI) SKc G ([(7, 12), (7, 13), (49, 0)] : List (Nat × Nat)) s.heap t.heap ∧ el t.heap o0 (dI 7 13) = some (.int a1)) A) #[.ref o0, .int 4] s 0 0 A) (F0 m 8 ls []) := by
    intro n53
    induction n53 with
    | zero =>
      intro i11 hn53 hlo54 z12 z16 ⟨h13, h17, hj19⟩ H locs hT hF hS m14 m15 m18 ls hl
      obtain rfl : 400 = i11 := by omega
      refine lv_iload_n hx hb dX4_readAll_8 rfl (lv_at hl 0 rfl) ?_
      refine lv_sipush (v := 400) hx hb dX4_readAll_9 (by decide) ?_
      refine lv_icmp_ge (tgt := 46) hx hb dX4_readAll_12 (by decide) (fun c55 => ?_) (fun c55 => (by exfalso; have q9 : ((400 : Nat) : Int) < 400 := ti_nle c55 (by decide) (nI_toInt (by omega)); omega))
      have t56 : 400 ≤ ((400 : Nat) : Int) := ti_le c55 (by decide) (nI_toInt (by omega))
      refine lv_iload_n hx hb dX4_readAll_46 rfl (lv_at hl 1 rfl) ?_
      exact W.zret (v := z12) hx hb hr (nar_b (by have q8 := ti_all z12; omega)) (fun t ht hW => ⟨⟨z12, z16, rfl, (by exact ⟨(by have q8 := ti_all z16; omega), (by have q8 := ti_all z12; omega), (by omega)⟩), by (try dsimp only); rw [ht]; exact ⟨hT, hF, m18⟩⟩, hS.F ht⟩) hS.2.2 dX4_readAll_47
    | succ n53 ih53 =>
      intro i11 hn53 hlo54 z12 z16 ⟨h13, h17, hj19⟩ H locs hT hF hS m14 m15 m18 ls hl
      have hlt56 : i11 < 400 := by omega
      refine lv_iload_n hx hb dX4_readAll_8 rfl (lv_at hl 0 rfl) ?_
      refine lv_sipush (v := 400) hx hb dX4_readAll_9 (by decide) ?_
      refine lv_icmp_ge (tgt := 46) hx hb dX4_readAll_12 (by decide) (fun c57 => (by exfalso; have q9 : 400 ≤ ((i11 : Nat) : Int) := ti_le c57 (by decide) (nI_toInt (by omega)); omega)) (fun c57 => ?_)
      have t58 : ((i11 : Nat) : Int) < 400 := ti_nle c57 (by decide) (nI_toInt (by omega))
      refine lv_iload_n hx hb dX4_readAll_15 rfl (lv_at hl 1 rfl) ?_
      refine lv_if_eq (tgt := 46) hx hb dX4_readAll_16 (by decide) (fun c59 => ?_) (fun c59 => ?_)
      · have t60 : z12.toInt = 0 := ti_eq c59 rfl (by decide)
        refine lv_iload_n hx hb dX4_readAll_46 rfl (lv_at hl 1 rfl) ?_
        exact W.zret (v := z12) hx hb hr (nar_b (by have q8 := ti_all z12; omega)) (fun t ht hW => ⟨⟨z12, z16, rfl, (by exact ⟨(by have q8 := ti_all z16; omega), (by have q8 := ti_all z12; omega), (by omega)⟩), by (try dsimp only); rw [ht]; exact ⟨hT, hF, m18⟩⟩, hS.F ht⟩) hS.2.2 dX4_readAll_47
      · have t61 : z12.toInt ≠ 0 := ti_ne c59 rfl (by decide)
        refine lv_aload_n hx hb dX4_readAll_19 rfl (lv_at hl 2 rfl) ?_
        refine lv_bipush (v := 14) hx hb dX4_readAll_20 (by decide) ?_
        have hFc := gA_free hG hA hS
        refine va_calli (va_runV (As := [.int 14]) (rest := []) ⟨hx, hb, hml, hown, hts⟩ (c_take l dC dI kA adK adV G H nC nS o0 14 th z16 tv ix_tv ix_tv hT hr_o0 m14 hr_th m18 (by have q8 := ti_all ix_tv; omega) (by have q8 := ti_all z16; omega) (by have := (show z16.toInt = z16.toInt from rfl); have := (show ix_tv.toInt = ix_tv.toInt from rfl); omega) (by have := (show (14 : Int32).toInt = 14 from (by decide)); omega) (by have q9 := (show ix_tv.toInt = ix_tv.toInt from rfl); have := (show ix_tv.toInt = ix_tv.toInt from rfl); omega) m15 (by have q8 := ti_all tv; omega) (by omega) (by omega)) (cwV 1 hts (goodIn_app (goodIn_r _ [20, 21, 22, 15] rfl (by decide +kernel)) (goodIn_ca (goodIn_r _ [19, 2, 3] rfl (by decide +kernel)) (bs2_in _ _))) rfl rfl rfl (by decide +kernel) ⟨(Nat.le_of_ble_eq_true rfl), (Nat.le_of_ble_eq_true rfl)⟩) ⟨fun a U g mk q => by obtain ⟨q0, q1, qK, qE⟩ := q; exact ⟨q0, q1, va_K.moved (u := U) (U := U.calling g mk a) (Vm.Alike.refl U.vm) qK, EVC.blind g mk a qE⟩, gH_rc hK hT hr_o0 shc_7 rfl, fun U hU hW => ⟨rfl, hU, va_K.moved hW.alike hK, hE.call hS hFc hU hW⟩⟩ rfl rfl hl.1 rfl (lv_room (Nat.le_of_ble_eq_true rfl)) dX4_readAll_22 ⟨(Nat.le_of_ble_eq_true rfl), (Nat.le_of_ble_eq_true rfl)⟩) hS (fun q _ h => hFc q h) hFc (fun r62 u t H locs ht hvm hw63 hB _ _ hS => ?_)
        obtain ⟨u64, rfl⟩ : ∃ z, z = u := ⟨_, rfl⟩
        obtain ⟨hT, hF1, m65⟩ := hB
        rw [ht] at hT hF1 m65
        have m66 := (hF1.fld hr_o0 skc_7 (k := 0) (by decide) (by decide)).trans m14
        have m67 := (el_kept (hF1.arr hr_th skc_40 (by decide))).trans m15
        have hF := hF.more hF1 (by decide)
        try dsimp only at hw63
        obtain ⟨h69, h70, hf71⟩ := hw63
        refine lv_if_eq (tgt := 46) hx hb dX4_readAll_25 (by decide) (fun c72 => ?_) (fun c72 => ?_)
        · have t73 : r62.toInt = 0 := ti_eq c72 rfl (by decide)
          refine lv_iload_n hx hb dX4_readAll_46 rfl (lv_at hl 1 rfl) ?_
          exact W.zret (v := z12) hx hb hr (nar_b (by have q8 := ti_all z12; omega)) (fun t ht hW => ⟨⟨z12, u64, rfl, (by exact ⟨(by have q8 := ti_all u64; omega), (by have q8 := ti_all z12; omega), (by omega)⟩), by (try dsimp only); rw [ht]; exact ⟨hT, hF, m65⟩⟩, hS.F ht⟩) hS.2.2 dX4_readAll_47
        · have t74 : r62.toInt ≠ 0 := ti_ne c72 rfl (by decide)
          refine lv_aload_n hx hb dX4_readAll_28 rfl (lv_at hl 2 rfl) ?_
          refine lv_iload_n hx hb dX4_readAll_29 rfl (lv_at hl 3 rfl) ?_
          have hFc := gA_free hG hA hS
          refine va_calli (va_runV (As := [.int 4]) (rest := []) ⟨hx, hb, hml, hown, hts⟩ (c_readAtom4 l dC dI kA adK adV G H nC nS o0 th u64 tv ix_tv ix_tv hT hr_o0 m66 hr_th m65 (by have q8 := ti_all ix_tv; omega) (by have q8 := ti_all u64; omega) (by have := (show u64.toInt = u64.toInt from rfl); have := (show ix_tv.toInt = ix_tv.toInt from rfl); omega) (by have q9 := (show ix_tv.toInt = ix_tv.toInt from rfl); have := (show ix_tv.toInt = ix_tv.toInt from rfl); omega) m67 (by have q8 := ti_all tv; omega) (by omega) (by omega)) (cwV 1 hts (goodIn_app (goodIn_r _ [29, 30, 31, 15] rfl (by decide +kernel)) (goodIn_ca (goodIn_r _ [1, 2, 3, 4, 5, 1, 6, 7, 8, 9, 10, 11, 12, 13, 14, 15, 16, 17, 18, 19, 20, 21, 22, 23, 24, 25, 26, 27, 28, 29, 30, 31, 32, 33, 34, 35, 36, 37] rfl (by decide +kernel)) (bs2_in _ _))) rfl rfl rfl (by decide +kernel) ⟨(Nat.le_of_ble_eq_true rfl), (Nat.le_of_ble_eq_true rfl)⟩) ⟨fun a U g mk q => by obtain ⟨q0, q1, qK, qE⟩ := q; exact ⟨q0, q1, va_K.moved (u := U) (U := U.calling g mk a) (Vm.Alike.refl U.vm) qK, EVC.blind g mk a qE⟩, gH_rc hK hT hr_o0 shc_7 rfl, fun U hU hW => ⟨rfl, hU, va_K.moved hW.alike hK, hE.call hS hFc hU hW⟩⟩ rfl rfl hl.1 rfl (lv_room (Nat.le_of_ble_eq_true rfl)) dX4_readAll_30 ⟨(Nat.le_of_ble_eq_true rfl), (Nat.le_of_ble_eq_true rfl)⟩) hS (fun q _ h => hFc q h) hFc (fun r75 u t H locs ht hvm hw76 hB _ _ hS => ?_)
          obtain ⟨u77, rfl⟩ : ∃ z, z = u := ⟨_, rfl⟩
          obtain ⟨hT, hF1, m78⟩ := hB
          rw [ht] at hT hF1 m78
          have m79 := (hF1.fld hr_o0 skc_7 (k := 0) (by decide) (by decide)).trans m66
          have m80 := (el_kept (hF1.arr hr_th skc_40 (by decide))).trans m67
          have hF := hF.more hF1 (by decide)
          try dsimp only at hw76
          obtain ⟨h82, h83, hf84⟩ := hw76
          refine lv_istore_n (lv' := [(2, .int r75), (3, .int (nI i11)), (0, .ref o0), (1, .int 4)]) hx hb dX4_readAll_33 rfl hl (by decide) rfl (fun ls hl => ?_)
          refine lv_aload_n hx hb dX4_readAll_34 rfl (lv_at hl 2 rfl) ?_
          refine lv_bipush (v := 14) hx hb dX4_readAll_35 (by decide) ?_
          have hFc := gA_free hG hA hS
          refine va_callv (va_runV (As := [.int 14]) (rest := []) ⟨hx, hb, hml, hown, hts⟩ (c_addStep l dC dI kA adK adV G H nC nS o0 14 hT hr_o0 (rg_t (a := 14) (by decide) (by first | decide | omega) (by first | decide | omega)) (by omega) (by omega)) (cwV 1 hts (goodIn_app (goodIn_r _ [12, 13, 14, 15] rfl (by decide +kernel)) (goodIn_ca (goodIn_r _ [9, 10, 11] rfl (by decide +kernel)) (bs2_in _ _))) rfl rfl rfl (by decide +kernel) ⟨(Nat.le_of_ble_eq_true rfl), (Nat.le_of_ble_eq_true rfl)⟩) ⟨fun a U g mk q => by obtain ⟨q0, q1, qK, qE⟩ := q; exact ⟨q0, q1, va_K.moved (u := U) (U := U.calling g mk a) (Vm.Alike.refl U.vm) qK, EVC.blind g mk a qE⟩, gH_rc hK hT hr_o0 shc_7 rfl, fun U hU hW => ⟨rfl, hU, va_K.moved hW.alike hK, hE.call hS hFc hU hW⟩⟩ rfl rfl hl.1 rfl (lv_room (Nat.le_of_ble_eq_true rfl)) dX4_readAll_37 ⟨(Nat.le_of_ble_eq_true rfl), (Nat.le_of_ble_eq_true rfl)⟩) hS (fun q _ h => hFc q h) hFc (fun u t H locs ht hvm hw86 hB _ _ hS => ?_)
          obtain ⟨hT, hF1⟩ := hB
          rw [ht] at hT hF1
          have m87 := (hF1.fld hr_o0 skc_7 (k := 0) (by decide) (by decide)).trans m79
          have m88 := (el_kept (hF1.arr hr_th skc_40 (by decide))).trans m80
          have m89 := (hF1.fld hr_o0 skc_7 (k := 13) (by decide) (by decide)).trans m78
          have hF := hF.more hF1 (by decide)
          try dsimp only at hw86
          refine lv_iinc (v := nI (i11 + 1)) (lv' := [(3, .int (nI (i11 + 1))), (2, .int r75), (0, .ref o0), (1, .int 4)]) hx hb dX4_readAll_40 hl (k := 1) rfl (nI_add i11 1) (by decide) rfl (fun ls hl => ?_)
          refine lv_goto (tgt := 8) hx hb dX4_readAll_43 (by decide) ?_
          exact ih53 (i11 + 1) (by omega) (by omega) r75 u77 ⟨(by have q8 := ti_all r75; omega), (by have q8 := ti_all u77; omega), (by have := hx_tv; have := (show u77.toInt = u77.toInt from rfl); omega)⟩ _ _ hT hF hS m87 m88 m89 ls (lv_sub hl [0, 1, 2, 3] rfl)
  exact key53 (400 - 0) 0 (by omega) (Nat.le_refl _) r1 u3 ⟨(by have q8 := ti_all r1; omega), (by have q8 := ti_all u3; omega), (by have := hx_tv; have := (show u3.toInt = u3.toInt from rfl); omega)⟩ _ _ hT hF hS m5 m7 m4 ls (lv_sub hl [0, 1, 2, 3] rfl)
def w_c_readAny4 : List Cond := .code yX4_readAny cX4_readAny 4 (some .boolean) :: (HAppend.hAppend (α := List Cond) (β := List Cond) (γ := List Cond) [.code yX4_readAll cX4_readAll 4 (some .boolean), .code yX4_readAtom cX4_readAtom 4 (some .boolean), .fieldLink RX4 11 "SeaLand$Law" "things" "[I", .fieldLink RX4 56 "SeaLand$Law" "at" "I", .code yX4_readAny cX4_readAny 4 (some .boolean), .code yX4_readComparison cX4_readComparison 3 (some .boolean), .code yX4_readSum cX4_readSum 3 (some .boolean), .code yX4_readPart cX4_readPart 2 (some .boolean), .code yX4_addStep cX4_addStep 2 none, .fieldLink RX4 63 "SeaLand$Law" "stepped" "I", .fieldLink RX4 39 "SeaLand$Law" "steps" "[I", .methodLink RX4 179 yX4_addStep, .instanceMethod yX4_addStep, .selects RX4 yX4_addStep yX4_addStep, .initialized RX4, .methodLink RX4 192 yX4_readPart, .instanceMethod yX4_readPart, .selects RX4 yX4_readPart yX4_readPart, .code yX4_take cX4_take 2 (some .boolean), .methodLink RX4 70 yX4_take, .instanceMethod yX4_take, .selects RX4 yX4_take yX4_take, .methodLink RX4 189 yX4_readSum, .instanceMethod yX4_readSum, .selects RX4 yX4_readSum yX4_readSum, .methodLink RX4 186 yX4_readComparison, .instanceMethod yX4_readComparison, .selects RX4 yX4_readComparison yX4_readComparison, .methodLink RX4 183 yX4_readAtom, .instanceMethod yX4_readAtom, .selects RX4 yX4_readAtom yX4_readAtom, .methodLink RX4 176 yX4_readAll, .instanceMethod yX4_readAll, .selects RX4 yX4_readAll yX4_readAll, .methodLink RX4 173 yX4_readAny, .instanceMethod yX4_readAny, .selects RX4 yX4_readAny yX4_readAny] bs2)
set_option maxHeartbeats 4000000 in
set_option maxRecDepth 100000 in
theorem c_readAny4 (l : Launch) (dC : Nat → ClassId) (dI : Nat → Nat → Nat) (kA : Nat → ClassId) (adK adV : Nat → Nat) (G : gT) (H0 : Heap) (nC nS : Int) (o0 : Nat) (th : Nat) (a0 : Int32) (tv ix_tv : Int32) (tn : Int32) (hT : gH (dC, dI) kA (SHc nC nS) G H0) (hr_o0 : G o0 = some 7) (hm_th : el H0 o0 (dI 7 0) = some (.ref th)) (hr_th : G th = some 40) (hm_a0 : el H0 o0 (dI 7 13) = some (.int a0)) (hq0 : 0 ≤ tn.toInt ∧ tn.toInt ≤ 400) (hq1 : 0 ≤ a0.toInt ∧ a0.toInt ≤ 400) (hat : a0.toInt ≤ tn.toInt) (hx_tv : ix_tv.toInt = tn.toInt) (hm_tv : el H0 th ix_tv.toNatClampNeg = some (.int tv)) (hv_tv : 21 ≤ tv.toInt ∧ tv.toInt ≤ 21) (hgC : 0 ≤ nC ∧ nC ≤ 40) (hgS : 0 ≤ nS ∧ nS ≤ 60) : Met l yX4_readAny w_c_readAny4 ({ frames := 12, cells := 0, slots := 0, locals := 270 }) (va_Pc [.ref o0, .int 4] (fun U => U.heap = H0 ∧ va_K (dC, dI) vwCl (tyl kA) U ∧ EVC adK adV (gA G H0.size) U U.heap)) (va_Qi (fun (r : Int32) (u : Int32) => (0 ≤ u.toInt ∧ u.toInt ≤ 400) ∧ (0 ≤ r.toInt ∧ r.toInt ≤ 1) ∧ (a0.toInt ≤ u.toInt ∧ u.toInt ≤ tn.toInt)) (fun (a1 : Int32) (t : State) => gH (dC, dI) kA (SHc nC nS) G t.heap ∧ gF (dC, dI) SKc G ([(7, 12), (7, 13), (49, 0)] : List (Nat × Nat)) H0 t.heap ∧ el t.heap o0 (dI 7 13) = some (.int a1)) (gA G H0.size)) 0 0 (gA G H0.size) := by
  refine Met.ofW (cc := cX4_readAny) (maxL := 4) (ret := (some .boolean)) (by decide) rfl ?_
  intro p e s m args below meth c s₁ B hml hv
  obtain ⟨rfl, hH0, hK, hE⟩ := hv
  have hx := B.exec
  have hb := B.bytes
  have hr := B.returns
  have hts := atoms_spec (ws := w_c_readAny4) B.pre
  have hown : s.vm.findClass RX4 = some m.cls := findClass_of_methodNamed B.named
  have hlocks := B.notSynchronized
  subst hH0
  generalize hAe : gA G s.heap.size = A at hE ⊢
  have hA : ∀ q : Nat, s.heap.size ≤ q → A q := fun q h => by rw [← hAe]; exact Or.inr h
  have hG := gA_of hAe
  have hS : va_S A s.heap s.heap [] := va_S.rf
  have hF : gF (dC, dI) SKc G ([(7, 12), (7, 13), (49, 0)] : List (Nat × Nat)) s.heap s.heap := gF.rf
  have hl := lv_entry ([.ref o0, .int 4]) (n := 4) (Nat.le_of_ble_eq_true rfl)
  rw [lg_entry_eq]
  generalize (lg_sl ([.ref o0, .int 4]) ++ List.replicate (4 - (lg_sl ([.ref o0, .int 4])).length) Slot.unset).toArray = ls at hl ⊢
  have hl : lv_has ls 4 [(0, .ref o0), (1, .int 4)] := hl
  refine lv_aload_n hx hb dX4_readAny_0 rfl (lv_at hl 0 rfl) ?_
  refine lv_iload_n hx hb dX4_readAny_1 rfl (lv_at hl 1 rfl) ?_
  have hFc := gA_free hG hA hS
  refine va_calli (va_runV (As := [.int 4]) (rest := []) ⟨hx, hb, hml, hown, hts⟩ (c_readAll4 l dC dI kA adK adV G s.heap nC nS o0 th a0 tv ix_tv ix_tv hT hr_o0 hm_th hr_th hm_a0 (by have q8 := ti_all ix_tv; omega) (by have q8 := ti_all a0; omega) (by have := (show a0.toInt = a0.toInt from rfl); have := (show ix_tv.toInt = ix_tv.toInt from rfl); omega) (by have q9 := (show ix_tv.toInt = ix_tv.toInt from rfl); have := (show ix_tv.toInt = ix_tv.toInt from rfl); omega) hm_tv (by have q8 := ti_all tv; omega) (by omega) (by omega)) (cwV 1 hts (goodIn_app (goodIn_r _ [32, 33, 34, 15] rfl (by decide +kernel)) (goodIn_ca (goodIn_r _ [1, 2, 3, 4, 5, 1, 6, 7, 8, 9, 10, 11, 12, 13, 14, 15, 16, 17, 18, 19, 20, 21, 22, 23, 24, 25, 26, 27, 28, 29, 30, 31, 32, 33, 34, 35, 36, 37] rfl (by decide +kernel)) (bs2_in _ _))) rfl rfl rfl (by decide +kernel) ⟨(Nat.le_of_ble_eq_true rfl), (Nat.le_of_ble_eq_true rfl)⟩) ⟨fun a U g mk q => by obtain ⟨q0, q1, qK, qE⟩ := q; exact ⟨q0, q1, va_K.moved (u := U) (U := U.calling g mk a) (Vm.Alike.refl U.vm) qK, EVC.blind g mk a qE⟩, gH_rc hK hT hr_o0 shc_7 rfl, fun U hU hW => ⟨rfl, hU, va_K.moved hW.alike hK, hE.call hS hFc hU hW⟩⟩ rfl rfl hl.1 rfl (lv_room (Nat.le_of_ble_eq_true rfl)) dX4_readAny_2 ⟨(Nat.le_of_ble_eq_true rfl), (Nat.le_of_ble_eq_true rfl)⟩) hS (fun q _ h => hFc q h) hFc (fun r1 u t H locs ht hvm hw2 hB _ _ hS => ?_)
  obtain ⟨u3, rfl⟩ : ∃ z, z = u := ⟨_, rfl⟩
  obtain ⟨hT, hF1, m4⟩ := hB
  rw [ht] at hT hF1 m4
  have m5 := (hF1.fld hr_o0 skc_7 (k := 0) (by decide) (by decide)).trans hm_th
  have m7 := (el_kept (hF1.arr hr_th skc_40 (by decide))).trans hm_tv
  have hF := hF.more hF1 (by decide)
  try dsimp only at hw2
  obtain ⟨h8, h9, hf10⟩ := hw2
  refine lv_istore_n (lv' := [(2, .int r1), (0, .ref o0), (1, .int 4)]) hx hb dX4_readAny_5 rfl hl (by decide) rfl (fun ls hl => ?_)
  refine lv_iconst (v := 0) hx hb dX4_readAny_6 (by decide) ?_
  refine lv_istore_n (lv' := [(3, .int 0), (2, .int r1), (0, .ref o0), (1, .int 4)]) hx hb dX4_readAny_7 rfl hl (by decide) rfl (fun ls hl => ?_)
  have key53 : ∀ (n53 i11 : Nat), i11 + n53 = 400 → 0 ≤ i11 → ∀ (z12 : Int32), ∀ (z16 : Int32), ((0 ≤ z12.toInt ∧ z12.toInt ≤ 1) ∧ (0 ≤ z16.toInt ∧ z16.toInt ≤ 400) ∧ (a0.toInt ≤ z16.toInt ∧ z16.toInt ≤ tn.toInt)) → ∀ (H : Heap) (locs : List Loc), gH (dC, dI) kA (SHc nC nS) G H → gF (dC, dI) SKc G ([(7, 12), (7, 13), (49, 0)] : List (Nat × Nat)) s.heap H → va_S A s.heap H locs → el H o0 (dI 7 0) = some (.ref th) → el H th ix_tv.toNatClampNeg = some (.int tv) → el H o0 (dI 7 13) = some (.int z16) → ∀ ls : Array Slot, lv_has ls 4 [(3, .int (nI i11)), (2, .int z12), (0, .ref o0), (1, .int 4)] → W p l e (headSpec w_c_readAny4 ({ frames := 12, cells := 0, slots := 0, locals := 270 })).room s m #[.ref o0, .int 4] below meth c H locs 0 0 (MQ below (va_Qi (fun (r : Int32) (u : Int32) => (0 ≤ u.toInt ∧ u.toInt ≤ 400) ∧ (0 ≤ r.toInt ∧ r.toInt ≤ 1) ∧ (a0.toInt ≤ u.toInt ∧ u.toInt ≤ tn.toInt)) (fun (a1 : Int32) (t : State) => gH (dC, dI) kA (SHc nC nS) G t.heap ∧ gF (dC, dI) SKc G ([(7, 12), (7, 13), (49, 0)] : List (Nat × Nat)) s.heap t.heap ∧ el t.heap o0 (dI 7 13) = some (.int a1)) A) #[.ref o0, .int 4] s 0 0 A) (F0 m 8 ls []) := by
    intro n53
    induction n53 with
    | zero =>
      intro i11 hn53 hlo54 z12 z16 ⟨h13, h17, hj19⟩ H locs hT hF hS m14 m15 m18 ls hl
      obtain rfl : 400 = i11 := by omega
      refine lv_iload_n hx hb dX4_readAny_8 rfl (lv_at hl 0 rfl) ?_
      refine lv_sipush (v := 400) hx hb dX4_readAny_9 (by decide) ?_
      refine lv_icmp_ge (tgt := 46) hx hb dX4_readAny_12 (by decide) (fun c55 => ?_) (fun c55 => (by exfalso; have q9 : ((400 : Nat) : Int) < 400 := ti_nle c55 (by decide) (nI_toInt (by omega)); omega))
      have t56 : 400 ≤ ((400 : Nat) : Int) := ti_le c55 (by decide) (nI_toInt (by omega))
      refine lv_iload_n hx hb dX4_readAny_46 rfl (lv_at hl 1 rfl) ?_
      exact W.zret (v := z12) hx hb hr (nar_b (by have q8 := ti_all z12; omega)) (fun t ht hW => ⟨⟨z12, z16, rfl, (by exact ⟨(by have q8 := ti_all z16; omega), (by have q8 := ti_all z12; omega), (by omega)⟩), by (try dsimp only); rw [ht]; exact ⟨hT, hF, m18⟩⟩, hS.F ht⟩) hS.2.2 dX4_readAny_47
    | succ n53 ih53 =>
      intro i11 hn53 hlo54 z12 z16 ⟨h13, h17, hj19⟩ H locs hT hF hS m14 m15 m18 ls hl
      have hlt56 : i11 < 400 := by omega
      refine lv_iload_n hx hb dX4_readAny_8 rfl (lv_at hl 0 rfl) ?_
      refine lv_sipush (v := 400) hx hb dX4_readAny_9 (by decide) ?_
      refine lv_icmp_ge (tgt := 46) hx hb dX4_readAny_12 (by decide) (fun c57 => (by exfalso; have q9 : 400 ≤ ((i11 : Nat) : Int) := ti_le c57 (by decide) (nI_toInt (by omega)); omega)) (fun c57 => ?_)
      have t58 : ((i11 : Nat) : Int) < 400 := ti_nle c57 (by decide) (nI_toInt (by omega))
      refine lv_iload_n hx hb dX4_readAny_15 rfl (lv_at hl 1 rfl) ?_
      refine lv_if_eq (tgt := 46) hx hb dX4_readAny_16 (by decide) (fun c59 => ?_) (fun c59 => ?_)
      · have t60 : z12.toInt = 0 := ti_eq c59 rfl (by decide)
        refine lv_iload_n hx hb dX4_readAny_46 rfl (lv_at hl 1 rfl) ?_
        exact W.zret (v := z12) hx hb hr (nar_b (by have q8 := ti_all z12; omega)) (fun t ht hW => ⟨⟨z12, z16, rfl, (by exact ⟨(by have q8 := ti_all z16; omega), (by have q8 := ti_all z12; omega), (by omega)⟩), by (try dsimp only); rw [ht]; exact ⟨hT, hF, m18⟩⟩, hS.F ht⟩) hS.2.2 dX4_readAny_47
      · have t61 : z12.toInt ≠ 0 := ti_ne c59 rfl (by decide)
        refine lv_aload_n hx hb dX4_readAny_19 rfl (lv_at hl 2 rfl) ?_
        refine lv_bipush (v := 15) hx hb dX4_readAny_20 (by decide) ?_
        have hFc := gA_free hG hA hS
        refine va_calli (va_runV (As := [.int 15]) (rest := []) ⟨hx, hb, hml, hown, hts⟩ (c_take l dC dI kA adK adV G H nC nS o0 15 th z16 tv ix_tv ix_tv hT hr_o0 m14 hr_th m18 (by have q8 := ti_all ix_tv; omega) (by have q8 := ti_all z16; omega) (by have := (show z16.toInt = z16.toInt from rfl); have := (show ix_tv.toInt = ix_tv.toInt from rfl); omega) (by have := (show (15 : Int32).toInt = 15 from (by decide)); omega) (by have q9 := (show ix_tv.toInt = ix_tv.toInt from rfl); have := (show ix_tv.toInt = ix_tv.toInt from rfl); omega) m15 (by have q8 := ti_all tv; omega) (by omega) (by omega)) (cwV 1 hts (goodIn_app (goodIn_r _ [20, 21, 22, 15] rfl (by decide +kernel)) (goodIn_ca (goodIn_r _ [19, 3, 4] rfl (by decide +kernel)) (bs2_in _ _))) rfl rfl rfl (by decide +kernel) ⟨(Nat.le_of_ble_eq_true rfl), (Nat.le_of_ble_eq_true rfl)⟩) ⟨fun a U g mk q => by obtain ⟨q0, q1, qK, qE⟩ := q; exact ⟨q0, q1, va_K.moved (u := U) (U := U.calling g mk a) (Vm.Alike.refl U.vm) qK, EVC.blind g mk a qE⟩, gH_rc hK hT hr_o0 shc_7 rfl, fun U hU hW => ⟨rfl, hU, va_K.moved hW.alike hK, hE.call hS hFc hU hW⟩⟩ rfl rfl hl.1 rfl (lv_room (Nat.le_of_ble_eq_true rfl)) dX4_readAny_22 ⟨(Nat.le_of_ble_eq_true rfl), (Nat.le_of_ble_eq_true rfl)⟩) hS (fun q _ h => hFc q h) hFc (fun r62 u t H locs ht hvm hw63 hB _ _ hS => ?_)
        obtain ⟨u64, rfl⟩ : ∃ z, z = u := ⟨_, rfl⟩
        obtain ⟨hT, hF1, m65⟩ := hB
        rw [ht] at hT hF1 m65
        have m66 := (hF1.fld hr_o0 skc_7 (k := 0) (by decide) (by decide)).trans m14
        have m67 := (el_kept (hF1.arr hr_th skc_40 (by decide))).trans m15
        have hF := hF.more hF1 (by decide)
        try dsimp only at hw63
        obtain ⟨h69, h70, hf71⟩ := hw63
        refine lv_if_eq (tgt := 46) hx hb dX4_readAny_25 (by decide) (fun c72 => ?_) (fun c72 => ?_)
        · have t73 : r62.toInt = 0 := ti_eq c72 rfl (by decide)
          refine lv_iload_n hx hb dX4_readAny_46 rfl (lv_at hl 1 rfl) ?_
          exact W.zret (v := z12) hx hb hr (nar_b (by have q8 := ti_all z12; omega)) (fun t ht hW => ⟨⟨z12, u64, rfl, (by exact ⟨(by have q8 := ti_all u64; omega), (by have q8 := ti_all z12; omega), (by omega)⟩), by (try dsimp only); rw [ht]; exact ⟨hT, hF, m65⟩⟩, hS.F ht⟩) hS.2.2 dX4_readAny_47
        · have t74 : r62.toInt ≠ 0 := ti_ne c72 rfl (by decide)
          refine lv_aload_n hx hb dX4_readAny_28 rfl (lv_at hl 2 rfl) ?_
          refine lv_iload_n hx hb dX4_readAny_29 rfl (lv_at hl 3 rfl) ?_
          have hFc := gA_free hG hA hS
          refine va_calli (va_runV (As := [.int 4]) (rest := []) ⟨hx, hb, hml, hown, hts⟩ (c_readAll4 l dC dI kA adK adV G H nC nS o0 th u64 tv ix_tv ix_tv hT hr_o0 m66 hr_th m65 (by have q8 := ti_all ix_tv; omega) (by have q8 := ti_all u64; omega) (by have := (show u64.toInt = u64.toInt from rfl); have := (show ix_tv.toInt = ix_tv.toInt from rfl); omega) (by have q9 := (show ix_tv.toInt = ix_tv.toInt from rfl); have := (show ix_tv.toInt = ix_tv.toInt from rfl); omega) m67 (by have q8 := ti_all tv; omega) (by omega) (by omega)) (cwV 1 hts (goodIn_app (goodIn_r _ [32, 33, 34, 15] rfl (by decide +kernel)) (goodIn_ca (goodIn_r _ [1, 2, 3, 4, 5, 1, 6, 7, 8, 9, 10, 11, 12, 13, 14, 15, 16, 17, 18, 19, 20, 21, 22, 23, 24, 25, 26, 27, 28, 29, 30, 31, 32, 33, 34, 35, 36, 37] rfl (by decide +kernel)) (bs2_in _ _))) rfl rfl rfl (by decide +kernel) ⟨(Nat.le_of_ble_eq_true rfl), (Nat.le_of_ble_eq_true rfl)⟩) ⟨fun a U g mk q => by obtain ⟨q0, q1, qK, qE⟩ := q; exact ⟨q0, q1, va_K.moved (u := U) (U := U.calling g mk a) (Vm.Alike.refl U.vm) qK, EVC.blind g mk a qE⟩, gH_rc hK hT hr_o0 shc_7 rfl, fun U hU hW => ⟨rfl, hU, va_K.moved hW.alike hK, hE.call hS hFc hU hW⟩⟩ rfl rfl hl.1 rfl (lv_room (Nat.le_of_ble_eq_true rfl)) dX4_readAny_30 ⟨(Nat.le_of_ble_eq_true rfl), (Nat.le_of_ble_eq_true rfl)⟩) hS (fun q _ h => hFc q h) hFc (fun r75 u t H locs ht hvm hw76 hB _ _ hS => ?_)
          obtain ⟨u77, rfl⟩ : ∃ z, z = u := ⟨_, rfl⟩
          obtain ⟨hT, hF1, m78⟩ := hB
          rw [ht] at hT hF1 m78
          have m79 := (hF1.fld hr_o0 skc_7 (k := 0) (by decide) (by decide)).trans m66
          have m80 := (el_kept (hF1.arr hr_th skc_40 (by decide))).trans m67
          have hF := hF.more hF1 (by decide)
          try dsimp only at hw76
          obtain ⟨h82, h83, hf84⟩ := hw76
          refine lv_istore_n (lv' := [(2, .int r75), (3, .int (nI i11)), (0, .ref o0), (1, .int 4)]) hx hb dX4_readAny_33 rfl hl (by decide) rfl (fun ls hl => ?_)
          refine lv_aload_n hx hb dX4_readAny_34 rfl (lv_at hl 2 rfl) ?_
          refine lv_bipush (v := 15) hx hb dX4_readAny_35 (by decide) ?_
          have hFc := gA_free hG hA hS
          refine va_callv (va_runV (As := [.int 15]) (rest := []) ⟨hx, hb, hml, hown, hts⟩ (c_addStep l dC dI kA adK adV G H nC nS o0 15 hT hr_o0 (rg_t (a := 15) (by decide) (by first | decide | omega) (by first | decide | omega)) (by omega) (by omega)) (cwV 1 hts (goodIn_app (goodIn_r _ [12, 13, 14, 15] rfl (by decide +kernel)) (goodIn_ca (goodIn_r _ [9, 10, 11] rfl (by decide +kernel)) (bs2_in _ _))) rfl rfl rfl (by decide +kernel) ⟨(Nat.le_of_ble_eq_true rfl), (Nat.le_of_ble_eq_true rfl)⟩) ⟨fun a U g mk q => by obtain ⟨q0, q1, qK, qE⟩ := q; exact ⟨q0, q1, va_K.moved (u := U) (U := U.calling g mk a) (Vm.Alike.refl U.vm) qK, EVC.blind g mk a qE⟩, gH_rc hK hT hr_o0 shc_7 rfl, fun U hU hW => ⟨rfl, hU, va_K.moved hW.alike hK, hE.call hS hFc hU hW⟩⟩ rfl rfl hl.1 rfl (lv_room (Nat.le_of_ble_eq_true rfl)) dX4_readAny_37 ⟨(Nat.le_of_ble_eq_true rfl), (Nat.le_of_ble_eq_true rfl)⟩) hS (fun q _ h => hFc q h) hFc (fun u t H locs ht hvm hw86 hB _ _ hS => ?_)
          obtain ⟨hT, hF1⟩ := hB
          rw [ht] at hT hF1
          have m87 := (hF1.fld hr_o0 skc_7 (k := 0) (by decide) (by decide)).trans m79
          have m88 := (el_kept (hF1.arr hr_th skc_40 (by decide))).trans m80
          have m89 := (hF1.fld hr_o0 skc_7 (k := 13) (by decide) (by decide)).trans m78
          have hF := hF.more hF1 (by decide)
          try dsimp only at hw86
          refine lv_iinc (v := nI (i11 + 1)) (lv' := [(3, .int (nI (i11 + 1))), (2, .int r75), (0, .ref o0), (1, .int 4)]) hx hb dX4_readAny_40 hl (k := 1) rfl (nI_add i11 1) (by decide) rfl (fun ls hl => ?_)
          refine lv_goto (tgt := 8) hx hb dX4_readAny_43 (by decide) ?_
          exact ih53 (i11 + 1) (by omega) (by omega) r75 u77 ⟨(by have q8 := ti_all r75; omega), (by have q8 := ti_all u77; omega), (by have := hx_tv; have := (show u77.toInt = u77.toInt from rfl); omega)⟩ _ _ hT hF hS m87 m88 m89 ls (lv_sub hl [0, 1, 2, 3] rfl)
  exact key53 (400 - 0) 0 (by omega) (Nat.le_refl _) r1 u3 ⟨(by have q8 := ti_all r1; omega), (by have q8 := ti_all u3; omega), (by have := hx_tv; have := (show u3.toInt = u3.toInt from rfl); omega)⟩ _ _ hT hF hS m5 m7 m4 ls (lv_sub hl [0, 1, 2, 3] rfl)
def w_c_readAtom3 : List Cond := .code yX4_readAtom cX4_readAtom 4 (some .boolean) :: (HAppend.hAppend (α := List Cond) (β := List Cond) (γ := List Cond) [.fieldLink RX4 11 "SeaLand$Law" "things" "[I", .fieldLink RX4 56 "SeaLand$Law" "at" "I", .code yX4_readAny cX4_readAny 4 (some .boolean), .code yX4_readAll cX4_readAll 4 (some .boolean), .code yX4_readAtom cX4_readAtom 4 (some .boolean), .code yX4_readComparison cX4_readComparison 3 (some .boolean), .code yX4_readSum cX4_readSum 3 (some .boolean), .code yX4_readPart cX4_readPart 2 (some .boolean), .code yX4_addStep cX4_addStep 2 none, .fieldLink RX4 63 "SeaLand$Law" "stepped" "I", .fieldLink RX4 39 "SeaLand$Law" "steps" "[I", .methodLink RX4 179 yX4_addStep, .instanceMethod yX4_addStep, .selects RX4 yX4_addStep yX4_addStep, .initialized RX4, .methodLink RX4 192 yX4_readPart, .instanceMethod yX4_readPart, .selects RX4 yX4_readPart yX4_readPart, .code yX4_take cX4_take 2 (some .boolean), .methodLink RX4 70 yX4_take, .instanceMethod yX4_take, .selects RX4 yX4_take yX4_take, .methodLink RX4 189 yX4_readSum, .instanceMethod yX4_readSum, .selects RX4 yX4_readSum yX4_readSum, .methodLink RX4 186 yX4_readComparison, .instanceMethod yX4_readComparison, .selects RX4 yX4_readComparison yX4_readComparison, .methodLink RX4 183 yX4_readAtom, .instanceMethod yX4_readAtom, .selects RX4 yX4_readAtom yX4_readAtom, .methodLink RX4 176 yX4_readAll, .instanceMethod yX4_readAll, .selects RX4 yX4_readAll yX4_readAll, .methodLink RX4 173 yX4_readAny, .instanceMethod yX4_readAny, .selects RX4 yX4_readAny yX4_readAny] bs2)
set_option maxHeartbeats 4000000 in
set_option maxRecDepth 100000 in
theorem c_readAtom3 (l : Launch) (dC : Nat → ClassId) (dI : Nat → Nat → Nat) (kA : Nat → ClassId) (adK adV : Nat → Nat) (G : gT) (H0 : Heap) (nC nS : Int) (o0 : Nat) (th : Nat) (a0 : Int32) (tv ix_tv : Int32) (tn : Int32) (hT : gH (dC, dI) kA (SHc nC nS) G H0) (hr_o0 : G o0 = some 7) (hm_th : el H0 o0 (dI 7 0) = some (.ref th)) (hr_th : G th = some 40) (hm_a0 : el H0 o0 (dI 7 13) = some (.int a0)) (hq0 : 0 ≤ tn.toInt ∧ tn.toInt ≤ 400) (hq1 : 0 ≤ a0.toInt ∧ a0.toInt ≤ 400) (hat : a0.toInt ≤ tn.toInt) (hx_tv : ix_tv.toInt = tn.toInt) (hm_tv : el H0 th ix_tv.toNatClampNeg = some (.int tv)) (hv_tv : 21 ≤ tv.toInt ∧ tv.toInt ≤ 21) (hgC : 0 ≤ nC ∧ nC ≤ 40) (hgS : 0 ≤ nS ∧ nS ≤ 60) : Met l yX4_readAtom w_c_readAtom3 ({ frames := 13, cells := 0, slots := 0, locals := 293 }) (va_Pc [.ref o0, .int 3] (fun U => U.heap = H0 ∧ va_K (dC, dI) vwCl (tyl kA) U ∧ EVC adK adV (gA G H0.size) U U.heap)) (va_Qi (fun (r : Int32) (u : Int32) => (0 ≤ u.toInt ∧ u.toInt ≤ 400) ∧ (0 ≤ r.toInt ∧ r.toInt ≤ 1) ∧ (a0.toInt ≤ u.toInt ∧ u.toInt ≤ tn.toInt)) (fun (a1 : Int32) (t : State) => gH (dC, dI) kA (SHc nC nS) G t.heap ∧ gF (dC, dI) SKc G ([(7, 12), (7, 13), (49, 0)] : List (Nat × Nat)) H0 t.heap ∧ el t.heap o0 (dI 7 13) = some (.int a1)) (gA G H0.size)) 0 0 (gA G H0.size) := by
  refine Met.ofW (cc := cX4_readAtom) (maxL := 4) (ret := (some .boolean)) (by decide) rfl ?_
  intro p e s m args below meth c s₁ B hml hv
  obtain ⟨rfl, hH0, hK, hE⟩ := hv
  have hx := B.exec
  have hb := B.bytes
  have hr := B.returns
  have hts := atoms_spec (ws := w_c_readAtom3) B.pre
  have hown : s.vm.findClass RX4 = some m.cls := findClass_of_methodNamed B.named
  have hlocks := B.notSynchronized
  subst hH0
  generalize hAe : gA G s.heap.size = A at hE ⊢
  have hA : ∀ q : Nat, s.heap.size ≤ q → A q := fun q h => by rw [← hAe]; exact Or.inr h
  have hG := gA_of hAe
  have hS : va_S A s.heap s.heap [] := va_S.rf
  have hF : gF (dC, dI) SKc G ([(7, 12), (7, 13), (49, 0)] : List (Nat × Nat)) s.heap s.heap := gF.rf
  have hl := lv_entry ([.ref o0, .int 3]) (n := 4) (Nat.le_of_ble_eq_true rfl)
  rw [lg_entry_eq]
  generalize (lg_sl ([.ref o0, .int 3]) ++ List.replicate (4 - (lg_sl ([.ref o0, .int 3])).length) Slot.unset).toArray = ls at hl ⊢
  have hl : lv_has ls 4 [(0, .ref o0), (1, .int 3)] := hl
  refine lv_aload_n hx hb dX4_readAtom_0 rfl (lv_at hl 0 rfl) ?_
  refine tw_getM (v := .ref th) hx hb hts bF2_X4 hown hK hT hr_o0 shc_7 rfl 0 (by decide) (ht_at2 hts 0 rfl) (fun _ h9 => h9) hm_th dX4_readAtom_1 ?_
  refine lv_aload_n hx hb dX4_readAtom_4 rfl (lv_at hl 0 rfl) ?_
  refine tw_getM (v := .int a0) hx hb hts bF2_X4 hown hK hT hr_o0 shc_7 rfl 13 (by decide) (ht_at2 hts 1 rfl) (fun _ h9 => h9) hm_a0 dX4_readAtom_5 ?_
  refine tw_iald (i := a0) hx hb hK hT hr_th shc_40 rfl (vin_t (a := a0.toInt) rfl (by omega) (by omega)) dX4_readAtom_8 (fun v9 m1 h9 => ?_)
  obtain ⟨x2, rfl, gx2, kx2⟩ := h9
  have t3 : a0.toInt = ix_tv.toInt → x2.toInt = tv.toInt := fun h8 => congrArg Int32.toInt (el_same m1 hm_tv h8)
  refine lv_bipush (v := 13) hx hb dX4_readAtom_9 (by decide) ?_
  have t4 : -2147483648 ≤ x2.toInt ∧ x2.toInt ≤ 2147483647 := ti_all x2
  refine lv_icmp_ne (tgt := 18) hx hb dX4_readAtom_11 (by decide) (fun c5 => ?_) (fun c5 => ?_)
  · have t6 : x2.toInt ≠ 13 := ti_ne c5 rfl (by decide)
    refine lv_iconst (v := 0) hx hb dX4_readAtom_18 (by decide) ?_
    refine lv_istore_n (lv' := [(2, .int 0), (0, .ref o0), (1, .int 3)]) hx hb dX4_readAtom_19 rfl hl (by decide) rfl (fun ls hl => ?_)
    refine lv_iload_n hx hb dX4_readAtom_20 rfl (lv_at hl 0 rfl) ?_
    refine lv_if_ne (tgt := 43) hx hb dX4_readAtom_21 (by decide) (fun c7 => absurd c7 (by decide)) (fun c7 => ?_)
    refine lv_aload_n hx hb dX4_readAtom_24 rfl (lv_at hl 1 rfl) ?_
    refine tw_getM (v := .ref th) hx hb hts bF2_X4 hown hK hT hr_o0 shc_7 rfl 0 (by decide) (ht_at2 hts 0 rfl) (fun _ h9 => h9) hm_th dX4_readAtom_25 ?_
    refine lv_aload_n hx hb dX4_readAtom_28 rfl (lv_at hl 1 rfl) ?_
    refine tw_getM (v := .int a0) hx hb hts bF2_X4 hown hK hT hr_o0 shc_7 rfl 13 (by decide) (ht_at2 hts 1 rfl) (fun _ h9 => h9) hm_a0 dX4_readAtom_29 ?_
    refine tw_iald (i := a0) hx hb hK hT hr_th shc_40 rfl (vin_t (a := a0.toInt) rfl (by omega) (by omega)) dX4_readAtom_32 (fun v9 m8 h9 => ?_)
    obtain ⟨x9, rfl, gx9, kx9⟩ := h9
    have t10 : a0.toInt = ix_tv.toInt → x9.toInt = tv.toInt := fun h8 => congrArg Int32.toInt (el_same m8 hm_tv h8)
    obtain rfl : x2 = x9 := (el_same m8 m1 rfl).symm
    refine lv_bipush (v := 16) hx hb dX4_readAtom_33 (by decide) ?_
    refine lv_icmp_eq (tgt := 43) hx hb dX4_readAtom_35 (by decide) (fun c11 => ?_) (fun c11 => ?_)
    · have t12 : x2.toInt = 16 := ti_eq c11 rfl (by decide)
      refine lv_iload_n hx hb dX4_readAtom_43 rfl (lv_at hl 2 rfl) ?_
      refine lv_bipush (v := 6) hx hb dX4_readAtom_44 (by decide) ?_
      refine lv_icmp_lt (tgt := 51) hx hb dX4_readAtom_46 (by decide) (fun c13 => ?_) (fun c13 => absurd c13 (by decide))
      refine lv_aload_n hx hb dX4_readAtom_51 rfl (lv_at hl 1 rfl) ?_
      refine lv_dup hx hb dX4_readAtom_52 rfl ?_
      refine tw_getM (v := .int a0) hx hb hts bF2_X4 hown hK hT hr_o0 shc_7 rfl 13 (by decide) (ht_at2 hts 1 rfl) (fun _ h9 => h9) hm_a0 dX4_readAtom_53 ?_
      refine lv_iconst (v := 1) hx hb dX4_readAtom_56 (by decide) ?_
      refine lv_iadd hx hb dX4_readAtom_57 ?_
      refine lv_topi (fun x14 ex14 => ?_)
      have t15 : x14.toInt = a0.toInt + 1 := ti_add ex14 rfl (by decide) (by omega) (by omega)
      refine tw_put (v := .int x14) (ty := .int) hx hb hts bF2_X4 tyX4 tyX4_ok nmX4 hown hK hT hG hS hr_o0 shc_7 rfl 13 (by decide) (ht_at2 hts 1 rfl) (fun _ h9 => h9) rfl (by decide +kernel) rfl rfl (gl_at rfl (gi_of (show x14.toInt = x14.toInt from rfl) (by omega) (by omega))) dX4_readAtom_58 (fun H locs hT oq m16 oj hS => ?_)
      have hF := hF.put hr_o0 skc_7 oq oj (by decide)
      have m17 := (oj 0 (by decide) (by decide)).trans hm_th
      have m18 := (el_kept (oq _ (gne hr_th hr_o0 (by decide)))).trans hm_tv
      refine lv_iload_n hx hb dX4_readAtom_61 rfl (lv_at hl 0 rfl) ?_
      refine lv_if_eq (tgt := 81) hx hb dX4_readAtom_62 (by decide) (fun c20 => ?_) (fun c20 => absurd c20 (by decide))
      refine lv_aload_n hx hb dX4_readAtom_81 rfl (lv_at hl 1 rfl) ?_
      refine lv_iload_n hx hb dX4_readAtom_82 rfl (lv_at hl 2 rfl) ?_
      refine lv_iconst (v := 1) hx hb dX4_readAtom_83 (by decide) ?_
      refine lv_iadd hx hb dX4_readAtom_84 ?_
      refine lv_topi (fun x21 ex21 => ?_)
      obtain rfl : x21 = 4 := ex21.trans (by decide)
      have hFc := gA_free hG hA hS
      refine va_calli (va_runV (As := [.int 4]) (rest := []) ⟨hx, hb, hml, hown, hts⟩ (c_readAny4 l dC dI kA adK adV G H nC nS o0 th x14 tv ix_tv ix_tv hT hr_o0 m17 hr_th m16 (by have q8 := ti_all ix_tv; omega) (by have q8 := ti_all x14; omega) (by have := (show x14.toInt = x14.toInt from rfl); have := (show ix_tv.toInt = ix_tv.toInt from rfl); omega) (by have q9 := (show ix_tv.toInt = ix_tv.toInt from rfl); have := (show ix_tv.toInt = ix_tv.toInt from rfl); omega) m18 (by have q8 := ti_all tv; omega) (by omega) (by omega)) (cwV 1 hts (goodIn_app (goodIn_r _ [35, 36, 37, 15] rfl (by decide +kernel)) (goodIn_ca (goodIn_r _ [3, 4, 5, 1, 2, 3, 6, 7, 8, 9, 10, 11, 12, 13, 14, 15, 16, 17, 18, 19, 20, 21, 22, 23, 24, 25, 26, 27, 28, 29, 30, 31, 32, 33, 34, 35, 36, 37] rfl (by decide +kernel)) (bs2_in _ _))) rfl rfl rfl (by decide +kernel) ⟨(Nat.le_of_ble_eq_true rfl), (Nat.le_of_ble_eq_true rfl)⟩) ⟨fun a U g mk q => by obtain ⟨q0, q1, qK, qE⟩ := q; exact ⟨q0, q1, va_K.moved (u := U) (U := U.calling g mk a) (Vm.Alike.refl U.vm) qK, EVC.blind g mk a qE⟩, gH_rc hK hT hr_o0 shc_7 rfl, fun U hU hW => ⟨rfl, hU, va_K.moved hW.alike hK, hE.call hS hFc hU hW⟩⟩ rfl rfl hl.1 rfl (lv_room (Nat.le_of_ble_eq_true rfl)) dX4_readAtom_85 ⟨(Nat.le_of_ble_eq_true rfl), (Nat.le_of_ble_eq_true rfl)⟩) hS (fun q _ h => hFc q h) hFc (fun r22 u t H locs ht hvm hw23 hB _ _ hS => ?_)
      obtain ⟨u24, rfl⟩ : ∃ z, z = u := ⟨_, rfl⟩
      obtain ⟨hT, hF1, m25⟩ := hB
      rw [ht] at hT hF1 m25
      have m26 := (hF1.fld hr_o0 skc_7 (k := 0) (by decide) (by decide)).trans m17
      have m27 := (el_kept (hF1.arr hr_th skc_40 (by decide))).trans m18
      have hF := hF.more hF1 (by decide)
      try dsimp only at hw23
      obtain ⟨h30, h31, hf32⟩ := hw23
      refine lv_if_eq (tgt := 104) hx hb dX4_readAtom_88 (by decide) (fun c33 => ?_) (fun c33 => ?_)
      · have t34 : r22.toInt = 0 := ti_eq c33 rfl (by decide)
        refine lv_iconst (v := 0) hx hb dX4_readAtom_104 (by decide) ?_
        exact W.zret (v := 0) hx hb hr (by decide) (fun t ht hW => ⟨⟨0, u24, rfl, (by exact ⟨(by have q8 := ti_all u24; omega), (rg_t (a := 0) (by decide) (by first | decide | omega) (by first | decide | omega)), (by omega)⟩), by (try dsimp only); rw [ht]; exact ⟨hT, hF, m25⟩⟩, hS.F ht⟩) hS.2.2 dX4_readAtom_105
      · have t35 : r22.toInt ≠ 0 := ti_ne c33 rfl (by decide)
        refine lv_aload_n hx hb dX4_readAtom_91 rfl (lv_at hl 1 rfl) ?_
        refine lv_bipush (v := 17) hx hb dX4_readAtom_92 (by decide) ?_
        have hFc := gA_free hG hA hS
        refine va_calli (va_runV (As := [.int 17]) (rest := []) ⟨hx, hb, hml, hown, hts⟩ (c_take l dC dI kA adK adV G H nC nS o0 17 th u24 tv ix_tv ix_tv hT hr_o0 m26 hr_th m25 (by have q8 := ti_all ix_tv; omega) (by have q8 := ti_all u24; omega) (by have := (show u24.toInt = u24.toInt from rfl); have := (show ix_tv.toInt = ix_tv.toInt from rfl); omega) (by have := (show (17 : Int32).toInt = 17 from (by decide)); omega) (by have q9 := (show ix_tv.toInt = ix_tv.toInt from rfl); have := (show ix_tv.toInt = ix_tv.toInt from rfl); omega) m27 (by have q8 := ti_all tv; omega) (by omega) (by omega)) (cwV 1 hts (goodIn_app (goodIn_r _ [20, 21, 22, 15] rfl (by decide +kernel)) (goodIn_ca (goodIn_r _ [19, 1, 2] rfl (by decide +kernel)) (bs2_in _ _))) rfl rfl rfl (by decide +kernel) ⟨(Nat.le_of_ble_eq_true rfl), (Nat.le_of_ble_eq_true rfl)⟩) ⟨fun a U g mk q => by obtain ⟨q0, q1, qK, qE⟩ := q; exact ⟨q0, q1, va_K.moved (u := U) (U := U.calling g mk a) (Vm.Alike.refl U.vm) qK, EVC.blind g mk a qE⟩, gH_rc hK hT hr_o0 shc_7 rfl, fun U hU hW => ⟨rfl, hU, va_K.moved hW.alike hK, hE.call hS hFc hU hW⟩⟩ rfl rfl hl.1 rfl (lv_room (Nat.le_of_ble_eq_true rfl)) dX4_readAtom_94 ⟨(Nat.le_of_ble_eq_true rfl), (Nat.le_of_ble_eq_true rfl)⟩) hS (fun q _ h => hFc q h) hFc (fun r36 u t H locs ht hvm hw37 hB _ _ hS => ?_)
        obtain ⟨u38, rfl⟩ : ∃ z, z = u := ⟨_, rfl⟩
        obtain ⟨hT, hF1, m39⟩ := hB
        rw [ht] at hT hF1 m39
        have hF := hF.more hF1 (by decide)
        try dsimp only at hw37
        obtain ⟨h44, h45, hf46⟩ := hw37
        refine lv_if_eq (tgt := 104) hx hb dX4_readAtom_97 (by decide) (fun c47 => ?_) (fun c47 => ?_)
        · have t48 : r36.toInt = 0 := ti_eq c47 rfl (by decide)
          refine lv_iconst (v := 0) hx hb dX4_readAtom_104 (by decide) ?_
          exact W.zret (v := 0) hx hb hr (by decide) (fun t ht hW => ⟨⟨0, u38, rfl, (by exact ⟨(by have q8 := ti_all u38; omega), (rg_t (a := 0) (by decide) (by first | decide | omega) (by first | decide | omega)), (by omega)⟩), by (try dsimp only); rw [ht]; exact ⟨hT, hF, m39⟩⟩, hS.F ht⟩) hS.2.2 dX4_readAtom_105
        · have t49 : r36.toInt ≠ 0 := ti_ne c47 rfl (by decide)
          refine lv_iconst (v := 1) hx hb dX4_readAtom_100 (by decide) ?_
          refine lv_goto (tgt := 105) hx hb dX4_readAtom_101 (by decide) ?_
          exact W.zret (v := 1) hx hb hr (by decide) (fun t ht hW => ⟨⟨1, u38, rfl, (by exact ⟨(by have q8 := ti_all u38; omega), (rg_t (a := 1) (by decide) (by first | decide | omega) (by first | decide | omega)), (by omega)⟩), by (try dsimp only); rw [ht]; exact ⟨hT, hF, m39⟩⟩, hS.F ht⟩) hS.2.2 dX4_readAtom_105
    · have t50 : x2.toInt ≠ 16 := ti_ne c11 rfl (by decide)
      refine lv_aload_n hx hb dX4_readAtom_38 rfl (lv_at hl 1 rfl) ?_
      have hFc := gA_free hG hA hS
      refine va_calli (va_runV (As := []) (rest := []) ⟨hx, hb, hml, hown, hts⟩ (c_readComparison l dC dI kA adK adV G s.heap nC nS o0 th a0 tv ix_tv ix_tv hT hr_o0 hm_th hr_th hm_a0 (by have q8 := ti_all ix_tv; omega) (by have q8 := ti_all a0; omega) (by have := (show a0.toInt = a0.toInt from rfl); have := (show ix_tv.toInt = ix_tv.toInt from rfl); omega) (by have q9 := (show ix_tv.toInt = ix_tv.toInt from rfl); have := (show ix_tv.toInt = ix_tv.toInt from rfl); omega) hm_tv (by have q8 := ti_all tv; omega) (by omega) (by omega)) (cwV 0 hts (goodIn_app (goodIn_r _ [26, 27, 28, 15] rfl (by decide +kernel)) (goodIn_ca (goodIn_r _ [6, 7, 8, 1, 2, 9, 10, 11, 12, 13, 14, 15, 16, 17, 18, 19, 20, 21, 22, 23, 24, 25] rfl (by decide +kernel)) (bs2_in _ _))) rfl rfl rfl (by decide +kernel) ⟨(Nat.le_of_ble_eq_true rfl), (Nat.le_of_ble_eq_true rfl)⟩) ⟨fun a U g mk q => by obtain ⟨q0, q1, qK, qE⟩ := q; exact ⟨q0, q1, va_K.moved (u := U) (U := U.calling g mk a) (Vm.Alike.refl U.vm) qK, EVC.blind g mk a qE⟩, gH_rc hK hT hr_o0 shc_7 rfl, fun U hU hW => ⟨rfl, hU, va_K.moved hW.alike hK, hE.call hS hFc hU hW⟩⟩ rfl rfl hl.1 rfl (lv_room (Nat.le_of_ble_eq_true rfl)) dX4_readAtom_39 ⟨(Nat.le_of_ble_eq_true rfl), (Nat.le_of_ble_eq_true rfl)⟩) hS (fun q _ h => hFc q h) hFc (fun r51 u t H locs ht hvm hw52 hB _ _ hS => ?_)
      obtain ⟨u53, rfl⟩ : ∃ z, z = u := ⟨_, rfl⟩
      obtain ⟨hT, hF1, m54⟩ := hB
      rw [ht] at hT hF1 m54
      have hF := hF.more hF1 (by decide)
      try dsimp only at hw52
      obtain ⟨h59, h60, hf61⟩ := hw52
      exact W.zret (v := r51) hx hb hr (nar_b (by have q8 := ti_all r51; omega)) (fun t ht hW => ⟨⟨r51, u53, rfl, (by exact ⟨(by have q8 := ti_all u53; omega), (by have q8 := ti_all r51; omega), (by omega)⟩), by (try dsimp only); rw [ht]; exact ⟨hT, hF, m54⟩⟩, hS.F ht⟩) hS.2.2 dX4_readAtom_42
  · have t62 : x2.toInt = 13 := ti_eq c5 rfl (by decide)
    refine lv_iconst (v := 1) hx hb dX4_readAtom_14 (by decide) ?_
    refine lv_goto (tgt := 19) hx hb dX4_readAtom_15 (by decide) ?_
    refine lv_istore_n (lv' := [(2, .int 1), (0, .ref o0), (1, .int 3)]) hx hb dX4_readAtom_19 rfl hl (by decide) rfl (fun ls hl => ?_)
    refine lv_iload_n hx hb dX4_readAtom_20 rfl (lv_at hl 0 rfl) ?_
    refine lv_if_ne (tgt := 43) hx hb dX4_readAtom_21 (by decide) (fun c63 => ?_) (fun c63 => absurd c63 (by decide))
    refine lv_iload_n hx hb dX4_readAtom_43 rfl (lv_at hl 2 rfl) ?_
    refine lv_bipush (v := 6) hx hb dX4_readAtom_44 (by decide) ?_
    refine lv_icmp_lt (tgt := 51) hx hb dX4_readAtom_46 (by decide) (fun c64 => ?_) (fun c64 => absurd c64 (by decide))
    refine lv_aload_n hx hb dX4_readAtom_51 rfl (lv_at hl 1 rfl) ?_
    refine lv_dup hx hb dX4_readAtom_52 rfl ?_
    refine tw_getM (v := .int a0) hx hb hts bF2_X4 hown hK hT hr_o0 shc_7 rfl 13 (by decide) (ht_at2 hts 1 rfl) (fun _ h9 => h9) hm_a0 dX4_readAtom_53 ?_
    refine lv_iconst (v := 1) hx hb dX4_readAtom_56 (by decide) ?_
    refine lv_iadd hx hb dX4_readAtom_57 ?_
    refine lv_topi (fun x65 ex65 => ?_)
    have t66 : x65.toInt = a0.toInt + 1 := ti_add ex65 rfl (by decide) (by omega) (by omega)
    refine tw_put (v := .int x65) (ty := .int) hx hb hts bF2_X4 tyX4 tyX4_ok nmX4 hown hK hT hG hS hr_o0 shc_7 rfl 13 (by decide) (ht_at2 hts 1 rfl) (fun _ h9 => h9) rfl (by decide +kernel) rfl rfl (gl_at rfl (gi_of (show x65.toInt = x65.toInt from rfl) (by omega) (by omega))) dX4_readAtom_58 (fun H locs hT oq m67 oj hS => ?_)
    have hF := hF.put hr_o0 skc_7 oq oj (by decide)
    have m68 := (oj 0 (by decide) (by decide)).trans hm_th
    have m69 := (el_kept (oq _ (gne hr_th hr_o0 (by decide)))).trans hm_tv
    refine lv_iload_n hx hb dX4_readAtom_61 rfl (lv_at hl 0 rfl) ?_
    refine lv_if_eq (tgt := 81) hx hb dX4_readAtom_62 (by decide) (fun c71 => absurd c71 (by decide)) (fun c71 => ?_)
    refine lv_aload_n hx hb dX4_readAtom_65 rfl (lv_at hl 1 rfl) ?_
    refine lv_iload_n hx hb dX4_readAtom_66 rfl (lv_at hl 2 rfl) ?_
    refine lv_iconst (v := 1) hx hb dX4_readAtom_67 (by decide) ?_
    refine lv_iadd hx hb dX4_readAtom_68 ?_
    refine lv_topi (fun x72 ex72 => ?_)
    obtain rfl : x72 = 4 := ex72.trans (by decide)
    have hFc := gA_free hG hA hS
    refine va_calli (va_runV (As := [.int 4]) (rest := []) ⟨hx, hb, hml, hown, hts⟩ (c_readAtom4 l dC dI kA adK adV G H nC nS o0 th x65 tv ix_tv ix_tv hT hr_o0 m68 hr_th m67 (by have q8 := ti_all ix_tv; omega) (by have q8 := ti_all x65; omega) (by have := (show x65.toInt = x65.toInt from rfl); have := (show ix_tv.toInt = ix_tv.toInt from rfl); omega) (by have q9 := (show ix_tv.toInt = ix_tv.toInt from rfl); have := (show ix_tv.toInt = ix_tv.toInt from rfl); omega) m69 (by have q8 := ti_all tv; omega) (by omega) (by omega)) (cwV 1 hts (goodIn_app (goodIn_r _ [29, 30, 31, 15] rfl (by decide +kernel)) (goodIn_ca (goodIn_r _ [5, 1, 2, 3, 4, 5, 6, 7, 8, 9, 10, 11, 12, 13, 14, 15, 16, 17, 18, 19, 20, 21, 22, 23, 24, 25, 26, 27, 28, 29, 30, 31, 32, 33, 34, 35, 36, 37] rfl (by decide +kernel)) (bs2_in _ _))) rfl rfl rfl (by decide +kernel) ⟨(Nat.le_of_ble_eq_true rfl), (Nat.le_of_ble_eq_true rfl)⟩) ⟨fun a U g mk q => by obtain ⟨q0, q1, qK, qE⟩ := q; exact ⟨q0, q1, va_K.moved (u := U) (U := U.calling g mk a) (Vm.Alike.refl U.vm) qK, EVC.blind g mk a qE⟩, gH_rc hK hT hr_o0 shc_7 rfl, fun U hU hW => ⟨rfl, hU, va_K.moved hW.alike hK, hE.call hS hFc hU hW⟩⟩ rfl rfl hl.1 rfl (lv_room (Nat.le_of_ble_eq_true rfl)) dX4_readAtom_69 ⟨(Nat.le_of_ble_eq_true rfl), (Nat.le_of_ble_eq_true rfl)⟩) hS (fun q _ h => hFc q h) hFc (fun r73 u t H locs ht hvm hw74 hB _ _ hS => ?_)
    obtain ⟨u75, rfl⟩ : ∃ z, z = u := ⟨_, rfl⟩
    obtain ⟨hT, hF1, m76⟩ := hB
    rw [ht] at hT hF1 m76
    have hF := hF.more hF1 (by decide)
    try dsimp only at hw74
    obtain ⟨h81, h82, hf83⟩ := hw74
    refine lv_istore_n (lv' := [(3, .int r73), (2, .int 1), (0, .ref o0), (1, .int 3)]) hx hb dX4_readAtom_72 rfl hl (by decide) rfl (fun ls hl => ?_)
    refine lv_aload_n hx hb dX4_readAtom_73 rfl (lv_at hl 2 rfl) ?_
    refine lv_bipush (v := 13) hx hb dX4_readAtom_74 (by decide) ?_
    have hFc := gA_free hG hA hS
    refine va_callv (va_runV (As := [.int 13]) (rest := []) ⟨hx, hb, hml, hown, hts⟩ (c_addStep l dC dI kA adK adV G H nC nS o0 13 hT hr_o0 (rg_t (a := 13) (by decide) (by first | decide | omega) (by first | decide | omega)) (by omega) (by omega)) (cwV 1 hts (goodIn_app (goodIn_r _ [12, 13, 14, 15] rfl (by decide +kernel)) (goodIn_ca (goodIn_r _ [9, 10, 11] rfl (by decide +kernel)) (bs2_in _ _))) rfl rfl rfl (by decide +kernel) ⟨(Nat.le_of_ble_eq_true rfl), (Nat.le_of_ble_eq_true rfl)⟩) ⟨fun a U g mk q => by obtain ⟨q0, q1, qK, qE⟩ := q; exact ⟨q0, q1, va_K.moved (u := U) (U := U.calling g mk a) (Vm.Alike.refl U.vm) qK, EVC.blind g mk a qE⟩, gH_rc hK hT hr_o0 shc_7 rfl, fun U hU hW => ⟨rfl, hU, va_K.moved hW.alike hK, hE.call hS hFc hU hW⟩⟩ rfl rfl hl.1 rfl (lv_room (Nat.le_of_ble_eq_true rfl)) dX4_readAtom_76 ⟨(Nat.le_of_ble_eq_true rfl), (Nat.le_of_ble_eq_true rfl)⟩) hS (fun q _ h => hFc q h) hFc (fun u t H locs ht hvm hw85 hB _ _ hS => ?_)
    obtain ⟨hT, hF1⟩ := hB
    rw [ht] at hT hF1
    have m89 := (hF1.fld hr_o0 skc_7 (k := 13) (by decide) (by decide)).trans m76
    have hF := hF.more hF1 (by decide)
    try dsimp only at hw85
    refine lv_iload_n hx hb dX4_readAtom_79 rfl (lv_at hl 0 rfl) ?_
    exact W.zret (v := r73) hx hb hr (nar_b (by have q8 := ti_all r73; omega)) (fun t ht hW => ⟨⟨r73, u75, rfl, (by exact ⟨(by have q8 := ti_all u75; omega), (by have q8 := ti_all r73; omega), (by omega)⟩), by (try dsimp only); rw [ht]; exact ⟨hT, hF, m89⟩⟩, hS.F ht⟩) hS.2.2 dX4_readAtom_80
def w_c_readAll3 : List Cond := .code yX4_readAll cX4_readAll 4 (some .boolean) :: (HAppend.hAppend (α := List Cond) (β := List Cond) (γ := List Cond) [.code yX4_readAtom cX4_readAtom 4 (some .boolean), .fieldLink RX4 11 "SeaLand$Law" "things" "[I", .fieldLink RX4 56 "SeaLand$Law" "at" "I", .code yX4_readAny cX4_readAny 4 (some .boolean), .code yX4_readAll cX4_readAll 4 (some .boolean), .code yX4_readComparison cX4_readComparison 3 (some .boolean), .code yX4_readSum cX4_readSum 3 (some .boolean), .code yX4_readPart cX4_readPart 2 (some .boolean), .code yX4_addStep cX4_addStep 2 none, .fieldLink RX4 63 "SeaLand$Law" "stepped" "I", .fieldLink RX4 39 "SeaLand$Law" "steps" "[I", .methodLink RX4 179 yX4_addStep, .instanceMethod yX4_addStep, .selects RX4 yX4_addStep yX4_addStep, .initialized RX4, .methodLink RX4 192 yX4_readPart, .instanceMethod yX4_readPart, .selects RX4 yX4_readPart yX4_readPart, .code yX4_take cX4_take 2 (some .boolean), .methodLink RX4 70 yX4_take, .instanceMethod yX4_take, .selects RX4 yX4_take yX4_take, .methodLink RX4 189 yX4_readSum, .instanceMethod yX4_readSum, .selects RX4 yX4_readSum yX4_readSum, .methodLink RX4 186 yX4_readComparison, .instanceMethod yX4_readComparison, .selects RX4 yX4_readComparison yX4_readComparison, .methodLink RX4 183 yX4_readAtom, .instanceMethod yX4_readAtom, .selects RX4 yX4_readAtom yX4_readAtom, .methodLink RX4 176 yX4_readAll, .instanceMethod yX4_readAll, .selects RX4 yX4_readAll yX4_readAll, .methodLink RX4 173 yX4_readAny, .instanceMethod yX4_readAny, .selects RX4 yX4_readAny yX4_readAny] bs2)
set_option maxHeartbeats 4000000 in
set_option maxRecDepth 100000 in
theorem c_readAll3 (l : Launch) (dC : Nat → ClassId) (dI : Nat → Nat → Nat) (kA : Nat → ClassId) (adK adV : Nat → Nat) (G : gT) (H0 : Heap) (nC nS : Int) (o0 : Nat) (th : Nat) (a0 : Int32) (tv ix_tv : Int32) (tn : Int32) (hT : gH (dC, dI) kA (SHc nC nS) G H0) (hr_o0 : G o0 = some 7) (hm_th : el H0 o0 (dI 7 0) = some (.ref th)) (hr_th : G th = some 40) (hm_a0 : el H0 o0 (dI 7 13) = some (.int a0)) (hq0 : 0 ≤ tn.toInt ∧ tn.toInt ≤ 400) (hq1 : 0 ≤ a0.toInt ∧ a0.toInt ≤ 400) (hat : a0.toInt ≤ tn.toInt) (hx_tv : ix_tv.toInt = tn.toInt) (hm_tv : el H0 th ix_tv.toNatClampNeg = some (.int tv)) (hv_tv : 21 ≤ tv.toInt ∧ tv.toInt ≤ 21) (hgC : 0 ≤ nC ∧ nC ≤ 40) (hgS : 0 ≤ nS ∧ nS ≤ 60) : Met l yX4_readAll w_c_readAll3 ({ frames := 14, cells := 0, slots := 0, locals := 316 }) (va_Pc [.ref o0, .int 3] (fun U => U.heap = H0 ∧ va_K (dC, dI) vwCl (tyl kA) U ∧ EVC adK adV (gA G H0.size) U U.heap)) (va_Qi (fun (r : Int32) (u : Int32) => (0 ≤ u.toInt ∧ u.toInt ≤ 400) ∧ (0 ≤ r.toInt ∧ r.toInt ≤ 1) ∧ (a0.toInt ≤ u.toInt ∧ u.toInt ≤ tn.toInt)) (fun (a1 : Int32) (t : State) => gH (dC, dI) kA (SHc nC nS) G t.heap ∧ gF (dC, dI) SKc G ([(7, 12), (7, 13), (49, 0)] : List (Nat × Nat)) H0 t.heap ∧ el t.heap o0 (dI 7 13) = some (.int a1)) (gA G H0.size)) 0 0 (gA G H0.size) := by
  refine Met.ofW (cc := cX4_readAll) (maxL := 4) (ret := (some .boolean)) (by decide) rfl ?_
  intro p e s m args below meth c s₁ B hml hv
  obtain ⟨rfl, hH0, hK, hE⟩ := hv
  have hx := B.exec
  have hb := B.bytes
  have hr := B.returns
  have hts := atoms_spec (ws := w_c_readAll3) B.pre
  have hown : s.vm.findClass RX4 = some m.cls := findClass_of_methodNamed B.named
  have hlocks := B.notSynchronized
  subst hH0
  generalize hAe : gA G s.heap.size = A at hE ⊢
  have hA : ∀ q : Nat, s.heap.size ≤ q → A q := fun q h => by rw [← hAe]; exact Or.inr h
  have hG := gA_of hAe
  have hS : va_S A s.heap s.heap [] := va_S.rf
  have hF : gF (dC, dI) SKc G ([(7, 12), (7, 13), (49, 0)] : List (Nat × Nat)) s.heap s.heap := gF.rf
  have hl := lv_entry ([.ref o0, .int 3]) (n := 4) (Nat.le_of_ble_eq_true rfl)
  rw [lg_entry_eq]
  generalize (lg_sl ([.ref o0, .int 3]) ++ List.replicate (4 - (lg_sl ([.ref o0, .int 3])).length) Slot.unset).toArray = ls at hl ⊢
  have hl : lv_has ls 4 [(0, .ref o0), (1, .int 3)] := hl
  refine lv_aload_n hx hb dX4_readAll_0 rfl (lv_at hl 0 rfl) ?_
  refine lv_iload_n hx hb dX4_readAll_1 rfl (lv_at hl 1 rfl) ?_
  have hFc := gA_free hG hA hS
  refine va_calli (va_runV (As := [.int 3]) (rest := []) ⟨hx, hb, hml, hown, hts⟩ (c_readAtom3 l dC dI kA adK adV G s.heap nC nS o0 th a0 tv ix_tv ix_tv hT hr_o0 hm_th hr_th hm_a0 (by have q8 := ti_all ix_tv; omega) (by have q8 := ti_all a0; omega) (by have := (show a0.toInt = a0.toInt from rfl); have := (show ix_tv.toInt = ix_tv.toInt from rfl); omega) (by have q9 := (show ix_tv.toInt = ix_tv.toInt from rfl); have := (show ix_tv.toInt = ix_tv.toInt from rfl); omega) hm_tv (by have q8 := ti_all tv; omega) (by omega) (by omega)) (cwV 1 hts (goodIn_app (goodIn_r _ [29, 30, 31, 15] rfl (by decide +kernel)) (goodIn_ca (goodIn_r _ [1, 2, 3, 4, 5, 1, 6, 7, 8, 9, 10, 11, 12, 13, 14, 15, 16, 17, 18, 19, 20, 21, 22, 23, 24, 25, 26, 27, 28, 29, 30, 31, 32, 33, 34, 35, 36, 37] rfl (by decide +kernel)) (bs2_in _ _))) rfl rfl rfl (by decide +kernel) ⟨(Nat.le_of_ble_eq_true rfl), (Nat.le_of_ble_eq_true rfl)⟩) ⟨fun a U g mk q => by obtain ⟨q0, q1, qK, qE⟩ := q; exact ⟨q0, q1, va_K.moved (u := U) (U := U.calling g mk a) (Vm.Alike.refl U.vm) qK, EVC.blind g mk a qE⟩, gH_rc hK hT hr_o0 shc_7 rfl, fun U hU hW => ⟨rfl, hU, va_K.moved hW.alike hK, hE.call hS hFc hU hW⟩⟩ rfl rfl hl.1 rfl (lv_room (Nat.le_of_ble_eq_true rfl)) dX4_readAll_2 ⟨(Nat.le_of_ble_eq_true rfl), (Nat.le_of_ble_eq_true rfl)⟩) hS (fun q _ h => hFc q h) hFc (fun r1 u t H locs ht hvm hw2 hB _ _ hS => ?_)
  obtain ⟨u3, rfl⟩ : ∃ z, z = u := ⟨_, rfl⟩
  obtain ⟨hT, hF1, m4⟩ := hB
  rw [ht] at hT hF1 m4
  have m5 := (hF1.fld hr_o0 skc_7 (k := 0) (by decide) (by decide)).trans hm_th
  have m7 := (el_kept (hF1.arr hr_th skc_40 (by decide))).trans hm_tv
  have hF := hF.more hF1 (by decide)
  try dsimp only at hw2
  obtain ⟨h8, h9, hf10⟩ := hw2
  refine lv_istore_n (lv' := [(2, .int r1), (0, .ref o0), (1, .int 3)]) hx hb dX4_readAll_5 rfl hl (by decide) rfl (fun ls hl => ?_)
  refine lv_iconst (v := 0) hx hb dX4_readAll_6 (by decide) ?_
  refine lv_istore_n (lv' := [(3, .int 0), (2, .int r1), (0, .ref o0), (1, .int 3)]) hx hb dX4_readAll_7 rfl hl (by decide) rfl (fun ls hl => ?_)
  have key53 : ∀ (n53 i11 : Nat), i11 + n53 = 400 → 0 ≤ i11 → ∀ (z12 : Int32), ∀ (z16 : Int32), ((0 ≤ z12.toInt ∧ z12.toInt ≤ 1) ∧ (0 ≤ z16.toInt ∧ z16.toInt ≤ 400) ∧ (a0.toInt ≤ z16.toInt ∧ z16.toInt ≤ tn.toInt)) → ∀ (H : Heap) (locs : List Loc), gH (dC, dI) kA (SHc nC nS) G H → gF (dC, dI) SKc G ([(7, 12), (7, 13), (49, 0)] : List (Nat × Nat)) s.heap H → va_S A s.heap H locs → el H o0 (dI 7 0) = some (.ref th) → el H th ix_tv.toNatClampNeg = some (.int tv) → el H o0 (dI 7 13) = some (.int z16) → ∀ ls : Array Slot, lv_has ls 4 [(3, .int (nI i11)), (2, .int z12), (0, .ref o0), (1, .int 3)] → W p l e (headSpec w_c_readAll3 ({ frames := 14, cells := 0, slots := 0, locals := 316 })).room s m #[.ref o0, .int 3] below meth c H locs 0 0 (MQ below (va_Qi (fun (r : Int32) (u : Int32) => (0 ≤ u.toInt ∧ u.toInt ≤ 400) ∧ (0 ≤ r.toInt ∧ r.toInt ≤ 1) ∧ (a0.toInt ≤ u.toInt ∧ u.toInt ≤ tn.toInt)) (fun (a1 : Int32) (t : State) => gH (dC, dI) kA (SHc nC nS) G t.heap ∧ gF (dC, dI) SKc G ([(7, 12), (7, 13), (49, 0)] : List (Nat × Nat)) s.heap t.heap ∧ el t.heap o0 (dI 7 13) = some (.int a1)) A) #[.ref o0, .int 3] s 0 0 A) (F0 m 8 ls []) := by
    intro n53
    induction n53 with
    | zero =>
      intro i11 hn53 hlo54 z12 z16 ⟨h13, h17, hj19⟩ H locs hT hF hS m14 m15 m18 ls hl
      obtain rfl : 400 = i11 := by omega
      refine lv_iload_n hx hb dX4_readAll_8 rfl (lv_at hl 0 rfl) ?_
      refine lv_sipush (v := 400) hx hb dX4_readAll_9 (by decide) ?_
      refine lv_icmp_ge (tgt := 46) hx hb dX4_readAll_12 (by decide) (fun c55 => ?_) (fun c55 => (by exfalso; have q9 : ((400 : Nat) : Int) < 400 := ti_nle c55 (by decide) (nI_toInt (by omega)); omega))
      have t56 : 400 ≤ ((400 : Nat) : Int) := ti_le c55 (by decide) (nI_toInt (by omega))
      refine lv_iload_n hx hb dX4_readAll_46 rfl (lv_at hl 1 rfl) ?_
      exact W.zret (v := z12) hx hb hr (nar_b (by have q8 := ti_all z12; omega)) (fun t ht hW => ⟨⟨z12, z16, rfl, (by exact ⟨(by have q8 := ti_all z16; omega), (by have q8 := ti_all z12; omega), (by omega)⟩), by (try dsimp only); rw [ht]; exact ⟨hT, hF, m18⟩⟩, hS.F ht⟩) hS.2.2 dX4_readAll_47
    | succ n53 ih53 =>
      intro i11 hn53 hlo54 z12 z16 ⟨h13, h17, hj19⟩ H locs hT hF hS m14 m15 m18 ls hl
      have hlt56 : i11 < 400 := by omega
      refine lv_iload_n hx hb dX4_readAll_8 rfl (lv_at hl 0 rfl) ?_
      refine lv_sipush (v := 400) hx hb dX4_readAll_9 (by decide) ?_
      refine lv_icmp_ge (tgt := 46) hx hb dX4_readAll_12 (by decide) (fun c57 => (by exfalso; have q9 : 400 ≤ ((i11 : Nat) : Int) := ti_le c57 (by decide) (nI_toInt (by omega)); omega)) (fun c57 => ?_)
      have t58 : ((i11 : Nat) : Int) < 400 := ti_nle c57 (by decide) (nI_toInt (by omega))
      refine lv_iload_n hx hb dX4_readAll_15 rfl (lv_at hl 1 rfl) ?_
      refine lv_if_eq (tgt := 46) hx hb dX4_readAll_16 (by decide) (fun c59 => ?_) (fun c59 => ?_)
      · have t60 : z12.toInt = 0 := ti_eq c59 rfl (by decide)
        refine lv_iload_n hx hb dX4_readAll_46 rfl (lv_at hl 1 rfl) ?_
        exact W.zret (v := z12) hx hb hr (nar_b (by have q8 := ti_all z12; omega)) (fun t ht hW => ⟨⟨z12, z16, rfl, (by exact ⟨(by have q8 := ti_all z16; omega), (by have q8 := ti_all z12; omega), (by omega)⟩), by (try dsimp only); rw [ht]; exact ⟨hT, hF, m18⟩⟩, hS.F ht⟩) hS.2.2 dX4_readAll_47
      · have t61 : z12.toInt ≠ 0 := ti_ne c59 rfl (by decide)
        refine lv_aload_n hx hb dX4_readAll_19 rfl (lv_at hl 2 rfl) ?_
        refine lv_bipush (v := 14) hx hb dX4_readAll_20 (by decide) ?_
        have hFc := gA_free hG hA hS
        refine va_calli (va_runV (As := [.int 14]) (rest := []) ⟨hx, hb, hml, hown, hts⟩ (c_take l dC dI kA adK adV G H nC nS o0 14 th z16 tv ix_tv ix_tv hT hr_o0 m14 hr_th m18 (by have q8 := ti_all ix_tv; omega) (by have q8 := ti_all z16; omega) (by have := (show z16.toInt = z16.toInt from rfl); have := (show ix_tv.toInt = ix_tv.toInt from rfl); omega) (by have := (show (14 : Int32).toInt = 14 from (by decide)); omega) (by have q9 := (show ix_tv.toInt = ix_tv.toInt from rfl); have := (show ix_tv.toInt = ix_tv.toInt from rfl); omega) m15 (by have q8 := ti_all tv; omega) (by omega) (by omega)) (cwV 1 hts (goodIn_app (goodIn_r _ [20, 21, 22, 15] rfl (by decide +kernel)) (goodIn_ca (goodIn_r _ [19, 2, 3] rfl (by decide +kernel)) (bs2_in _ _))) rfl rfl rfl (by decide +kernel) ⟨(Nat.le_of_ble_eq_true rfl), (Nat.le_of_ble_eq_true rfl)⟩) ⟨fun a U g mk q => by obtain ⟨q0, q1, qK, qE⟩ := q; exact ⟨q0, q1, va_K.moved (u := U) (U := U.calling g mk a) (Vm.Alike.refl U.vm) qK, EVC.blind g mk a qE⟩, gH_rc hK hT hr_o0 shc_7 rfl, fun U hU hW => ⟨rfl, hU, va_K.moved hW.alike hK, hE.call hS hFc hU hW⟩⟩ rfl rfl hl.1 rfl (lv_room (Nat.le_of_ble_eq_true rfl)) dX4_readAll_22 ⟨(Nat.le_of_ble_eq_true rfl), (Nat.le_of_ble_eq_true rfl)⟩) hS (fun q _ h => hFc q h) hFc (fun r62 u t H locs ht hvm hw63 hB _ _ hS => ?_)
        obtain ⟨u64, rfl⟩ : ∃ z, z = u := ⟨_, rfl⟩
        obtain ⟨hT, hF1, m65⟩ := hB
        rw [ht] at hT hF1 m65
        have m66 := (hF1.fld hr_o0 skc_7 (k := 0) (by decide) (by decide)).trans m14
        have m67 := (el_kept (hF1.arr hr_th skc_40 (by decide))).trans m15
        have hF := hF.more hF1 (by decide)
        try dsimp only at hw63
        obtain ⟨h69, h70, hf71⟩ := hw63
        refine lv_if_eq (tgt := 46) hx hb dX4_readAll_25 (by decide) (fun c72 => ?_) (fun c72 => ?_)
        · have t73 : r62.toInt = 0 := ti_eq c72 rfl (by decide)
          refine lv_iload_n hx hb dX4_readAll_46 rfl (lv_at hl 1 rfl) ?_
          exact W.zret (v := z12) hx hb hr (nar_b (by have q8 := ti_all z12; omega)) (fun t ht hW => ⟨⟨z12, u64, rfl, (by exact ⟨(by have q8 := ti_all u64; omega), (by have q8 := ti_all z12; omega), (by omega)⟩), by (try dsimp only); rw [ht]; exact ⟨hT, hF, m65⟩⟩, hS.F ht⟩) hS.2.2 dX4_readAll_47
        · have t74 : r62.toInt ≠ 0 := ti_ne c72 rfl (by decide)
          refine lv_aload_n hx hb dX4_readAll_28 rfl (lv_at hl 2 rfl) ?_
          refine lv_iload_n hx hb dX4_readAll_29 rfl (lv_at hl 3 rfl) ?_
          have hFc := gA_free hG hA hS
          refine va_calli (va_runV (As := [.int 3]) (rest := []) ⟨hx, hb, hml, hown, hts⟩ (c_readAtom3 l dC dI kA adK adV G H nC nS o0 th u64 tv ix_tv ix_tv hT hr_o0 m66 hr_th m65 (by have q8 := ti_all ix_tv; omega) (by have q8 := ti_all u64; omega) (by have := (show u64.toInt = u64.toInt from rfl); have := (show ix_tv.toInt = ix_tv.toInt from rfl); omega) (by have q9 := (show ix_tv.toInt = ix_tv.toInt from rfl); have := (show ix_tv.toInt = ix_tv.toInt from rfl); omega) m67 (by have q8 := ti_all tv; omega) (by omega) (by omega)) (cwV 1 hts (goodIn_app (goodIn_r _ [29, 30, 31, 15] rfl (by decide +kernel)) (goodIn_ca (goodIn_r _ [1, 2, 3, 4, 5, 1, 6, 7, 8, 9, 10, 11, 12, 13, 14, 15, 16, 17, 18, 19, 20, 21, 22, 23, 24, 25, 26, 27, 28, 29, 30, 31, 32, 33, 34, 35, 36, 37] rfl (by decide +kernel)) (bs2_in _ _))) rfl rfl rfl (by decide +kernel) ⟨(Nat.le_of_ble_eq_true rfl), (Nat.le_of_ble_eq_true rfl)⟩) ⟨fun a U g mk q => by obtain ⟨q0, q1, qK, qE⟩ := q; exact ⟨q0, q1, va_K.moved (u := U) (U := U.calling g mk a) (Vm.Alike.refl U.vm) qK, EVC.blind g mk a qE⟩, gH_rc hK hT hr_o0 shc_7 rfl, fun U hU hW => ⟨rfl, hU, va_K.moved hW.alike hK, hE.call hS hFc hU hW⟩⟩ rfl rfl hl.1 rfl (lv_room (Nat.le_of_ble_eq_true rfl)) dX4_readAll_30 ⟨(Nat.le_of_ble_eq_true rfl), (Nat.le_of_ble_eq_true rfl)⟩) hS (fun q _ h => hFc q h) hFc (fun r75 u t H locs ht hvm hw76 hB _ _ hS => ?_)
          obtain ⟨u77, rfl⟩ : ∃ z, z = u := ⟨_, rfl⟩
          obtain ⟨hT, hF1, m78⟩ := hB
          rw [ht] at hT hF1 m78
          have m79 := (hF1.fld hr_o0 skc_7 (k := 0) (by decide) (by decide)).trans m66
          have m80 := (el_kept (hF1.arr hr_th skc_40 (by decide))).trans m67
          have hF := hF.more hF1 (by decide)
          try dsimp only at hw76
          obtain ⟨h82, h83, hf84⟩ := hw76
          refine lv_istore_n (lv' := [(2, .int r75), (3, .int (nI i11)), (0, .ref o0), (1, .int 3)]) hx hb dX4_readAll_33 rfl hl (by decide) rfl (fun ls hl => ?_)
          refine lv_aload_n hx hb dX4_readAll_34 rfl (lv_at hl 2 rfl) ?_
          refine lv_bipush (v := 14) hx hb dX4_readAll_35 (by decide) ?_
          have hFc := gA_free hG hA hS
          refine va_callv (va_runV (As := [.int 14]) (rest := []) ⟨hx, hb, hml, hown, hts⟩ (c_addStep l dC dI kA adK adV G H nC nS o0 14 hT hr_o0 (rg_t (a := 14) (by decide) (by first | decide | omega) (by first | decide | omega)) (by omega) (by omega)) (cwV 1 hts (goodIn_app (goodIn_r _ [12, 13, 14, 15] rfl (by decide +kernel)) (goodIn_ca (goodIn_r _ [9, 10, 11] rfl (by decide +kernel)) (bs2_in _ _))) rfl rfl rfl (by decide +kernel) ⟨(Nat.le_of_ble_eq_true rfl), (Nat.le_of_ble_eq_true rfl)⟩) ⟨fun a U g mk q => by obtain ⟨q0, q1, qK, qE⟩ := q; exact ⟨q0, q1, va_K.moved (u := U) (U := U.calling g mk a) (Vm.Alike.refl U.vm) qK, EVC.blind g mk a qE⟩, gH_rc hK hT hr_o0 shc_7 rfl, fun U hU hW => ⟨rfl, hU, va_K.moved hW.alike hK, hE.call hS hFc hU hW⟩⟩ rfl rfl hl.1 rfl (lv_room (Nat.le_of_ble_eq_true rfl)) dX4_readAll_37 ⟨(Nat.le_of_ble_eq_true rfl), (Nat.le_of_ble_eq_true rfl)⟩) hS (fun q _ h => hFc q h) hFc (fun u t H locs ht hvm hw86 hB _ _ hS => ?_)
          obtain ⟨hT, hF1⟩ := hB
          rw [ht] at hT hF1
          have m87 := (hF1.fld hr_o0 skc_7 (k := 0) (by decide) (by decide)).trans m79
          have m88 := (el_kept (hF1.arr hr_th skc_40 (by decide))).trans m80
          have m89 := (hF1.fld hr_o0 skc_7 (k := 13) (by decide) (by decide)).trans m78
          have hF := hF.more hF1 (by decide)
          try dsimp only at hw86
          refine lv_iinc (v := nI (i11 + 1)) (lv' := [(3, .int (nI (i11 + 1))), (2, .int r75), (0, .ref o0), (1, .int 3)]) hx hb dX4_readAll_40 hl (k := 1) rfl (nI_add i11 1) (by decide) rfl (fun ls hl => ?_)
          refine lv_goto (tgt := 8) hx hb dX4_readAll_43 (by decide) ?_
          exact ih53 (i11 + 1) (by omega) (by omega) r75 u77 ⟨(by have q8 := ti_all r75; omega), (by have q8 := ti_all u77; omega), (by have := hx_tv; have := (show u77.toInt = u77.toInt from rfl); omega)⟩ _ _ hT hF hS m87 m88 m89 ls (lv_sub hl [0, 1, 2, 3] rfl)
  exact key53 (400 - 0) 0 (by omega) (Nat.le_refl _) r1 u3 ⟨(by have q8 := ti_all r1; omega), (by have q8 := ti_all u3; omega), (by have := hx_tv; have := (show u3.toInt = u3.toInt from rfl); omega)⟩ _ _ hT hF hS m5 m7 m4 ls (lv_sub hl [0, 1, 2, 3] rfl)
def w_c_readAny3 : List Cond := .code yX4_readAny cX4_readAny 4 (some .boolean) :: (HAppend.hAppend (α := List Cond) (β := List Cond) (γ := List Cond) [.code yX4_readAll cX4_readAll 4 (some .boolean), .code yX4_readAtom cX4_readAtom 4 (some .boolean), .fieldLink RX4 11 "SeaLand$Law" "things" "[I", .fieldLink RX4 56 "SeaLand$Law" "at" "I", .code yX4_readAny cX4_readAny 4 (some .boolean), .code yX4_readComparison cX4_readComparison 3 (some .boolean), .code yX4_readSum cX4_readSum 3 (some .boolean), .code yX4_readPart cX4_readPart 2 (some .boolean), .code yX4_addStep cX4_addStep 2 none, .fieldLink RX4 63 "SeaLand$Law" "stepped" "I", .fieldLink RX4 39 "SeaLand$Law" "steps" "[I", .methodLink RX4 179 yX4_addStep, .instanceMethod yX4_addStep, .selects RX4 yX4_addStep yX4_addStep, .initialized RX4, .methodLink RX4 192 yX4_readPart, .instanceMethod yX4_readPart, .selects RX4 yX4_readPart yX4_readPart, .code yX4_take cX4_take 2 (some .boolean), .methodLink RX4 70 yX4_take, .instanceMethod yX4_take, .selects RX4 yX4_take yX4_take, .methodLink RX4 189 yX4_readSum, .instanceMethod yX4_readSum, .selects RX4 yX4_readSum yX4_readSum, .methodLink RX4 186 yX4_readComparison, .instanceMethod yX4_readComparison, .selects RX4 yX4_readComparison yX4_readComparison, .methodLink RX4 183 yX4_readAtom, .instanceMethod yX4_readAtom, .selects RX4 yX4_readAtom yX4_readAtom, .methodLink RX4 176 yX4_readAll, .instanceMethod yX4_readAll, .selects RX4 yX4_readAll yX4_readAll, .methodLink RX4 173 yX4_readAny, .instanceMethod yX4_readAny, .selects RX4 yX4_readAny yX4_readAny] bs2)
set_option maxHeartbeats 4000000 in
set_option maxRecDepth 100000 in
theorem c_readAny3 (l : Launch) (dC : Nat → ClassId) (dI : Nat → Nat → Nat) (kA : Nat → ClassId) (adK adV : Nat → Nat) (G : gT) (H0 : Heap) (nC nS : Int) (o0 : Nat) (th : Nat) (a0 : Int32) (tv ix_tv : Int32) (tn : Int32) (hT : gH (dC, dI) kA (SHc nC nS) G H0) (hr_o0 : G o0 = some 7) (hm_th : el H0 o0 (dI 7 0) = some (.ref th)) (hr_th : G th = some 40) (hm_a0 : el H0 o0 (dI 7 13) = some (.int a0)) (hq0 : 0 ≤ tn.toInt ∧ tn.toInt ≤ 400) (hq1 : 0 ≤ a0.toInt ∧ a0.toInt ≤ 400) (hat : a0.toInt ≤ tn.toInt) (hx_tv : ix_tv.toInt = tn.toInt) (hm_tv : el H0 th ix_tv.toNatClampNeg = some (.int tv)) (hv_tv : 21 ≤ tv.toInt ∧ tv.toInt ≤ 21) (hgC : 0 ≤ nC ∧ nC ≤ 40) (hgS : 0 ≤ nS ∧ nS ≤ 60) : Met l yX4_readAny w_c_readAny3 ({ frames := 15, cells := 0, slots := 0, locals := 339 }) (va_Pc [.ref o0, .int 3] (fun U => U.heap = H0 ∧ va_K (dC, dI) vwCl (tyl kA) U ∧ EVC adK adV (gA G H0.size) U U.heap)) (va_Qi (fun (r : Int32) (u : Int32) => (0 ≤ u.toInt ∧ u.toInt ≤ 400) ∧ (0 ≤ r.toInt ∧ r.toInt ≤ 1) ∧ (a0.toInt ≤ u.toInt ∧ u.toInt ≤ tn.toInt)) (fun (a1 : Int32) (t : State) => gH (dC, dI) kA (SHc nC nS) G t.heap ∧ gF (dC, dI) SKc G ([(7, 12), (7, 13), (49, 0)] : List (Nat × Nat)) H0 t.heap ∧ el t.heap o0 (dI 7 13) = some (.int a1)) (gA G H0.size)) 0 0 (gA G H0.size) := by
  refine Met.ofW (cc := cX4_readAny) (maxL := 4) (ret := (some .boolean)) (by decide) rfl ?_
  intro p e s m args below meth c s₁ B hml hv
  obtain ⟨rfl, hH0, hK, hE⟩ := hv
  have hx := B.exec
  have hb := B.bytes
  have hr := B.returns
  have hts := atoms_spec (ws := w_c_readAny3) B.pre
  have hown : s.vm.findClass RX4 = some m.cls := findClass_of_methodNamed B.named
  have hlocks := B.notSynchronized
  subst hH0
  generalize hAe : gA G s.heap.size = A at hE ⊢
  have hA : ∀ q : Nat, s.heap.size ≤ q → A q := fun q h => by rw [← hAe]; exact Or.inr h
  have hG := gA_of hAe
  have hS : va_S A s.heap s.heap [] := va_S.rf
  have hF : gF (dC, dI) SKc G ([(7, 12), (7, 13), (49, 0)] : List (Nat × Nat)) s.heap s.heap := gF.rf
  have hl := lv_entry ([.ref o0, .int 3]) (n := 4) (Nat.le_of_ble_eq_true rfl)
  rw [lg_entry_eq]
  generalize (lg_sl ([.ref o0, .int 3]) ++ List.replicate (4 - (lg_sl ([.ref o0, .int 3])).length) Slot.unset).toArray = ls at hl ⊢
  have hl : lv_has ls 4 [(0, .ref o0), (1, .int 3)] := hl
  refine lv_aload_n hx hb dX4_readAny_0 rfl (lv_at hl 0 rfl) ?_
  refine lv_iload_n hx hb dX4_readAny_1 rfl (lv_at hl 1 rfl) ?_
  have hFc := gA_free hG hA hS
  refine va_calli (va_runV (As := [.int 3]) (rest := []) ⟨hx, hb, hml, hown, hts⟩ (c_readAll3 l dC dI kA adK adV G s.heap nC nS o0 th a0 tv ix_tv ix_tv hT hr_o0 hm_th hr_th hm_a0 (by have q8 := ti_all ix_tv; omega) (by have q8 := ti_all a0; omega) (by have := (show a0.toInt = a0.toInt from rfl); have := (show ix_tv.toInt = ix_tv.toInt from rfl); omega) (by have q9 := (show ix_tv.toInt = ix_tv.toInt from rfl); have := (show ix_tv.toInt = ix_tv.toInt from rfl); omega) hm_tv (by have q8 := ti_all tv; omega) (by omega) (by omega)) (cwV 1 hts (goodIn_app (goodIn_r _ [32, 33, 34, 15] rfl (by decide +kernel)) (goodIn_ca (goodIn_r _ [1, 2, 3, 4, 5, 1, 6, 7, 8, 9, 10, 11, 12, 13, 14, 15, 16, 17, 18, 19, 20, 21, 22, 23, 24, 25, 26, 27, 28, 29, 30, 31, 32, 33, 34, 35, 36, 37] rfl (by decide +kernel)) (bs2_in _ _))) rfl rfl rfl (by decide +kernel) ⟨(Nat.le_of_ble_eq_true rfl), (Nat.le_of_ble_eq_true rfl)⟩) ⟨fun a U g mk q => by obtain ⟨q0, q1, qK, qE⟩ := q; exact ⟨q0, q1, va_K.moved (u := U) (U := U.calling g mk a) (Vm.Alike.refl U.vm) qK, EVC.blind g mk a qE⟩, gH_rc hK hT hr_o0 shc_7 rfl, fun U hU hW => ⟨rfl, hU, va_K.moved hW.alike hK, hE.call hS hFc hU hW⟩⟩ rfl rfl hl.1 rfl (lv_room (Nat.le_of_ble_eq_true rfl)) dX4_readAny_2 ⟨(Nat.le_of_ble_eq_true rfl), (Nat.le_of_ble_eq_true rfl)⟩) hS (fun q _ h => hFc q h) hFc (fun r1 u t H locs ht hvm hw2 hB _ _ hS => ?_)
  obtain ⟨u3, rfl⟩ : ∃ z, z = u := ⟨_, rfl⟩
  obtain ⟨hT, hF1, m4⟩ := hB
  rw [ht] at hT hF1 m4
  have m5 := (hF1.fld hr_o0 skc_7 (k := 0) (by decide) (by decide)).trans hm_th
  have m7 := (el_kept (hF1.arr hr_th skc_40 (by decide))).trans hm_tv
  have hF := hF.more hF1 (by decide)
  try dsimp only at hw2
  obtain ⟨h8, h9, hf10⟩ := hw2
  refine lv_istore_n (lv' := [(2, .int r1), (0, .ref o0), (1, .int 3)]) hx hb dX4_readAny_5 rfl hl (by decide) rfl (fun ls hl => ?_)
  refine lv_iconst (v := 0) hx hb dX4_readAny_6 (by decide) ?_
  refine lv_istore_n (lv' := [(3, .int 0), (2, .int r1), (0, .ref o0), (1, .int 3)]) hx hb dX4_readAny_7 rfl hl (by decide) rfl (fun ls hl => ?_)
  have key53 : ∀ (n53 i11 : Nat), i11 + n53 = 400 → 0 ≤ i11 → ∀ (z12 : Int32), ∀ (z16 : Int32), ((0 ≤ z12.toInt ∧ z12.toInt ≤ 1) ∧ (0 ≤ z16.toInt ∧ z16.toInt ≤ 400) ∧ (a0.toInt ≤ z16.toInt ∧ z16.toInt ≤ tn.toInt)) → ∀ (H : Heap) (locs : List Loc), gH (dC, dI) kA (SHc nC nS) G H → gF (dC, dI) SKc G ([(7, 12), (7, 13), (49, 0)] : List (Nat × Nat)) s.heap H → va_S A s.heap H locs → el H o0 (dI 7 0) = some (.ref th) → el H th ix_tv.toNatClampNeg = some (.int tv) → el H o0 (dI 7 13) = some (.int z16) → ∀ ls : Array Slot, lv_has ls 4 [(3, .int (nI i11)), (2, .int z12), (0, .ref o0), (1, .int 3)] → W p l e (headSpec w_c_readAny3 ({ frames := 15, cells := 0, slots := 0, locals := 339 })).room s m #[.ref o0, .int 3] below meth c H locs 0 0 (MQ below (va_Qi (fun (r : Int32) (u : Int32) => (0 ≤ u.toInt ∧ u.toInt ≤ 400) ∧ (0 ≤ r.toInt ∧ r.toInt ≤ 1) ∧ (a0.toInt ≤ u.toInt ∧ u.toInt ≤ tn.toInt)) (fun (a1 : Int32) (t : State) => gH (dC, dI) kA (SHc nC nS) G t.heap ∧ gF (dC, dI) SKc G ([(7, 12), (7, 13), (49, 0)] : List (Nat × Nat)) s.heap t.heap ∧ el t.heap o0 (dI 7 13) = some (.int a1)) A) #[.ref o0, .int 3] s 0 0 A) (F0 m 8 ls []) := by
    intro n53
    induction n53 with
    | zero =>
      intro i11 hn53 hlo54 z12 z16 ⟨h13, h17, hj19⟩ H locs hT hF hS m14 m15 m18 ls hl
      obtain rfl : 400 = i11 := by omega
      refine lv_iload_n hx hb dX4_readAny_8 rfl (lv_at hl 0 rfl) ?_
      refine lv_sipush (v := 400) hx hb dX4_readAny_9 (by decide) ?_
      refine lv_icmp_ge (tgt := 46) hx hb dX4_readAny_12 (by decide) (fun c55 => ?_) (fun c55 => (by exfalso; have q9 : ((400 : Nat) : Int) < 400 := ti_nle c55 (by decide) (nI_toInt (by omega)); omega))
      have t56 : 400 ≤ ((400 : Nat) : Int) := ti_le c55 (by decide) (nI_toInt (by omega))
      refine lv_iload_n hx hb dX4_readAny_46 rfl (lv_at hl 1 rfl) ?_
      exact W.zret (v := z12) hx hb hr (nar_b (by have q8 := ti_all z12; omega)) (fun t ht hW => ⟨⟨z12, z16, rfl, (by exact ⟨(by have q8 := ti_all z16; omega), (by have q8 := ti_all z12; omega), (by omega)⟩), by (try dsimp only); rw [ht]; exact ⟨hT, hF, m18⟩⟩, hS.F ht⟩) hS.2.2 dX4_readAny_47
    | succ n53 ih53 =>
      intro i11 hn53 hlo54 z12 z16 ⟨h13, h17, hj19⟩ H locs hT hF hS m14 m15 m18 ls hl
      have hlt56 : i11 < 400 := by omega
      refine lv_iload_n hx hb dX4_readAny_8 rfl (lv_at hl 0 rfl) ?_
      refine lv_sipush (v := 400) hx hb dX4_readAny_9 (by decide) ?_
      refine lv_icmp_ge (tgt := 46) hx hb dX4_readAny_12 (by decide) (fun c57 => (by exfalso; have q9 : 400 ≤ ((i11 : Nat) : Int) := ti_le c57 (by decide) (nI_toInt (by omega)); omega)) (fun c57 => ?_)
      have t58 : ((i11 : Nat) : Int) < 400 := ti_nle c57 (by decide) (nI_toInt (by omega))
      refine lv_iload_n hx hb dX4_readAny_15 rfl (lv_at hl 1 rfl) ?_
      refine lv_if_eq (tgt := 46) hx hb dX4_readAny_16 (by decide) (fun c59 => ?_) (fun c59 => ?_)
      · have t60 : z12.toInt = 0 := ti_eq c59 rfl (by decide)
        refine lv_iload_n hx hb dX4_readAny_46 rfl (lv_at hl 1 rfl) ?_
        exact W.zret (v := z12) hx hb hr (nar_b (by have q8 := ti_all z12; omega)) (fun t ht hW => ⟨⟨z12, z16, rfl, (by exact ⟨(by have q8 := ti_all z16; omega), (by have q8 := ti_all z12; omega), (by omega)⟩), by (try dsimp only); rw [ht]; exact ⟨hT, hF, m18⟩⟩, hS.F ht⟩) hS.2.2 dX4_readAny_47
      · have t61 : z12.toInt ≠ 0 := ti_ne c59 rfl (by decide)
        refine lv_aload_n hx hb dX4_readAny_19 rfl (lv_at hl 2 rfl) ?_
        refine lv_bipush (v := 15) hx hb dX4_readAny_20 (by decide) ?_
        have hFc := gA_free hG hA hS
        refine va_calli (va_runV (As := [.int 15]) (rest := []) ⟨hx, hb, hml, hown, hts⟩ (c_take l dC dI kA adK adV G H nC nS o0 15 th z16 tv ix_tv ix_tv hT hr_o0 m14 hr_th m18 (by have q8 := ti_all ix_tv; omega) (by have q8 := ti_all z16; omega) (by have := (show z16.toInt = z16.toInt from rfl); have := (show ix_tv.toInt = ix_tv.toInt from rfl); omega) (by have := (show (15 : Int32).toInt = 15 from (by decide)); omega) (by have q9 := (show ix_tv.toInt = ix_tv.toInt from rfl); have := (show ix_tv.toInt = ix_tv.toInt from rfl); omega) m15 (by have q8 := ti_all tv; omega) (by omega) (by omega)) (cwV 1 hts (goodIn_app (goodIn_r _ [20, 21, 22, 15] rfl (by decide +kernel)) (goodIn_ca (goodIn_r _ [19, 3, 4] rfl (by decide +kernel)) (bs2_in _ _))) rfl rfl rfl (by decide +kernel) ⟨(Nat.le_of_ble_eq_true rfl), (Nat.le_of_ble_eq_true rfl)⟩) ⟨fun a U g mk q => by obtain ⟨q0, q1, qK, qE⟩ := q; exact ⟨q0, q1, va_K.moved (u := U) (U := U.calling g mk a) (Vm.Alike.refl U.vm) qK, EVC.blind g mk a qE⟩, gH_rc hK hT hr_o0 shc_7 rfl, fun U hU hW => ⟨rfl, hU, va_K.moved hW.alike hK, hE.call hS hFc hU hW⟩⟩ rfl rfl hl.1 rfl (lv_room (Nat.le_of_ble_eq_true rfl)) dX4_readAny_22 ⟨(Nat.le_of_ble_eq_true rfl), (Nat.le_of_ble_eq_true rfl)⟩) hS (fun q _ h => hFc q h) hFc (fun r62 u t H locs ht hvm hw63 hB _ _ hS => ?_)
        obtain ⟨u64, rfl⟩ : ∃ z, z = u := ⟨_, rfl⟩
        obtain ⟨hT, hF1, m65⟩ := hB
        rw [ht] at hT hF1 m65
        have m66 := (hF1.fld hr_o0 skc_7 (k := 0) (by decide) (by decide)).trans m14
        have m67 := (el_kept (hF1.arr hr_th skc_40 (by decide))).trans m15
        have hF := hF.more hF1 (by decide)
        try dsimp only at hw63
        obtain ⟨h69, h70, hf71⟩ := hw63
        refine lv_if_eq (tgt := 46) hx hb dX4_readAny_25 (by decide) (fun c72 => ?_) (fun c72 => ?_)
        · have t73 : r62.toInt = 0 := ti_eq c72 rfl (by decide)
          refine lv_iload_n hx hb dX4_readAny_46 rfl (lv_at hl 1 rfl) ?_
          exact W.zret (v := z12) hx hb hr (nar_b (by have q8 := ti_all z12; omega)) (fun t ht hW => ⟨⟨z12, u64, rfl, (by exact ⟨(by have q8 := ti_all u64; omega), (by have q8 := ti_all z12; omega), (by omega)⟩), by (try dsimp only); rw [ht]; exact ⟨hT, hF, m65⟩⟩, hS.F ht⟩) hS.2.2 dX4_readAny_47
        · have t74 : r62.toInt ≠ 0 := ti_ne c72 rfl (by decide)
          refine lv_aload_n hx hb dX4_readAny_28 rfl (lv_at hl 2 rfl) ?_
          refine lv_iload_n hx hb dX4_readAny_29 rfl (lv_at hl 3 rfl) ?_
          have hFc := gA_free hG hA hS
          refine va_calli (va_runV (As := [.int 3]) (rest := []) ⟨hx, hb, hml, hown, hts⟩ (c_readAll3 l dC dI kA adK adV G H nC nS o0 th u64 tv ix_tv ix_tv hT hr_o0 m66 hr_th m65 (by have q8 := ti_all ix_tv; omega) (by have q8 := ti_all u64; omega) (by have := (show u64.toInt = u64.toInt from rfl); have := (show ix_tv.toInt = ix_tv.toInt from rfl); omega) (by have q9 := (show ix_tv.toInt = ix_tv.toInt from rfl); have := (show ix_tv.toInt = ix_tv.toInt from rfl); omega) m67 (by have q8 := ti_all tv; omega) (by omega) (by omega)) (cwV 1 hts (goodIn_app (goodIn_r _ [32, 33, 34, 15] rfl (by decide +kernel)) (goodIn_ca (goodIn_r _ [1, 2, 3, 4, 5, 1, 6, 7, 8, 9, 10, 11, 12, 13, 14, 15, 16, 17, 18, 19, 20, 21, 22, 23, 24, 25, 26, 27, 28, 29, 30, 31, 32, 33, 34, 35, 36, 37] rfl (by decide +kernel)) (bs2_in _ _))) rfl rfl rfl (by decide +kernel) ⟨(Nat.le_of_ble_eq_true rfl), (Nat.le_of_ble_eq_true rfl)⟩) ⟨fun a U g mk q => by obtain ⟨q0, q1, qK, qE⟩ := q; exact ⟨q0, q1, va_K.moved (u := U) (U := U.calling g mk a) (Vm.Alike.refl U.vm) qK, EVC.blind g mk a qE⟩, gH_rc hK hT hr_o0 shc_7 rfl, fun U hU hW => ⟨rfl, hU, va_K.moved hW.alike hK, hE.call hS hFc hU hW⟩⟩ rfl rfl hl.1 rfl (lv_room (Nat.le_of_ble_eq_true rfl)) dX4_readAny_30 ⟨(Nat.le_of_ble_eq_true rfl), (Nat.le_of_ble_eq_true rfl)⟩) hS (fun q _ h => hFc q h) hFc (fun r75 u t H locs ht hvm hw76 hB _ _ hS => ?_)
          obtain ⟨u77, rfl⟩ : ∃ z, z = u := ⟨_, rfl⟩
          obtain ⟨hT, hF1, m78⟩ := hB
          rw [ht] at hT hF1 m78
          have m79 := (hF1.fld hr_o0 skc_7 (k := 0) (by decide) (by decide)).trans m66
          have m80 := (el_kept (hF1.arr hr_th skc_40 (by decide))).trans m67
          have hF := hF.more hF1 (by decide)
          try dsimp only at hw76
          obtain ⟨h82, h83, hf84⟩ := hw76
          refine lv_istore_n (lv' := [(2, .int r75), (3, .int (nI i11)), (0, .ref o0), (1, .int 3)]) hx hb dX4_readAny_33 rfl hl (by decide) rfl (fun ls hl => ?_)
          refine lv_aload_n hx hb dX4_readAny_34 rfl (lv_at hl 2 rfl) ?_
          refine lv_bipush (v := 15) hx hb dX4_readAny_35 (by decide) ?_
          have hFc := gA_free hG hA hS
          refine va_callv (va_runV (As := [.int 15]) (rest := []) ⟨hx, hb, hml, hown, hts⟩ (c_addStep l dC dI kA adK adV G H nC nS o0 15 hT hr_o0 (rg_t (a := 15) (by decide) (by first | decide | omega) (by first | decide | omega)) (by omega) (by omega)) (cwV 1 hts (goodIn_app (goodIn_r _ [12, 13, 14, 15] rfl (by decide +kernel)) (goodIn_ca (goodIn_r _ [9, 10, 11] rfl (by decide +kernel)) (bs2_in _ _))) rfl rfl rfl (by decide +kernel) ⟨(Nat.le_of_ble_eq_true rfl), (Nat.le_of_ble_eq_true rfl)⟩) ⟨fun a U g mk q => by obtain ⟨q0, q1, qK, qE⟩ := q; exact ⟨q0, q1, va_K.moved (u := U) (U := U.calling g mk a) (Vm.Alike.refl U.vm) qK, EVC.blind g mk a qE⟩, gH_rc hK hT hr_o0 shc_7 rfl, fun U hU hW => ⟨rfl, hU, va_K.moved hW.alike hK, hE.call hS hFc hU hW⟩⟩ rfl rfl hl.1 rfl (lv_room (Nat.le_of_ble_eq_true rfl)) dX4_readAny_37 ⟨(Nat.le_of_ble_eq_true rfl), (Nat.le_of_ble_eq_true rfl)⟩) hS (fun q _ h => hFc q h) hFc (fun u t H locs ht hvm hw86 hB _ _ hS => ?_)
          obtain ⟨hT, hF1⟩ := hB
          rw [ht] at hT hF1
          have m87 := (hF1.fld hr_o0 skc_7 (k := 0) (by decide) (by decide)).trans m79
          have m88 := (el_kept (hF1.arr hr_th skc_40 (by decide))).trans m80
          have m89 := (hF1.fld hr_o0 skc_7 (k := 13) (by decide) (by decide)).trans m78
          have hF := hF.more hF1 (by decide)
          try dsimp only at hw86
          refine lv_iinc (v := nI (i11 + 1)) (lv' := [(3, .int (nI (i11 + 1))), (2, .int r75), (0, .ref o0), (1, .int 3)]) hx hb dX4_readAny_40 hl (k := 1) rfl (nI_add i11 1) (by decide) rfl (fun ls hl => ?_)
          refine lv_goto (tgt := 8) hx hb dX4_readAny_43 (by decide) ?_
          exact ih53 (i11 + 1) (by omega) (by omega) r75 u77 ⟨(by have q8 := ti_all r75; omega), (by have q8 := ti_all u77; omega), (by have := hx_tv; have := (show u77.toInt = u77.toInt from rfl); omega)⟩ _ _ hT hF hS m87 m88 m89 ls (lv_sub hl [0, 1, 2, 3] rfl)
  exact key53 (400 - 0) 0 (by omega) (Nat.le_refl _) r1 u3 ⟨(by have q8 := ti_all r1; omega), (by have q8 := ti_all u3; omega), (by have := hx_tv; have := (show u3.toInt = u3.toInt from rfl); omega)⟩ _ _ hT hF hS m5 m7 m4 ls (lv_sub hl [0, 1, 2, 3] rfl)
def w_c_readAtom2 : List Cond := .code yX4_readAtom cX4_readAtom 4 (some .boolean) :: (HAppend.hAppend (α := List Cond) (β := List Cond) (γ := List Cond) [.fieldLink RX4 11 "SeaLand$Law" "things" "[I", .fieldLink RX4 56 "SeaLand$Law" "at" "I", .code yX4_readAny cX4_readAny 4 (some .boolean), .code yX4_readAll cX4_readAll 4 (some .boolean), .code yX4_readAtom cX4_readAtom 4 (some .boolean), .code yX4_readComparison cX4_readComparison 3 (some .boolean), .code yX4_readSum cX4_readSum 3 (some .boolean), .code yX4_readPart cX4_readPart 2 (some .boolean), .code yX4_addStep cX4_addStep 2 none, .fieldLink RX4 63 "SeaLand$Law" "stepped" "I", .fieldLink RX4 39 "SeaLand$Law" "steps" "[I", .methodLink RX4 179 yX4_addStep, .instanceMethod yX4_addStep, .selects RX4 yX4_addStep yX4_addStep, .initialized RX4, .methodLink RX4 192 yX4_readPart, .instanceMethod yX4_readPart, .selects RX4 yX4_readPart yX4_readPart, .code yX4_take cX4_take 2 (some .boolean), .methodLink RX4 70 yX4_take, .instanceMethod yX4_take, .selects RX4 yX4_take yX4_take, .methodLink RX4 189 yX4_readSum, .instanceMethod yX4_readSum, .selects RX4 yX4_readSum yX4_readSum, .methodLink RX4 186 yX4_readComparison, .instanceMethod yX4_readComparison, .selects RX4 yX4_readComparison yX4_readComparison, .methodLink RX4 183 yX4_readAtom, .instanceMethod yX4_readAtom, .selects RX4 yX4_readAtom yX4_readAtom, .methodLink RX4 176 yX4_readAll, .instanceMethod yX4_readAll, .selects RX4 yX4_readAll yX4_readAll, .methodLink RX4 173 yX4_readAny, .instanceMethod yX4_readAny, .selects RX4 yX4_readAny yX4_readAny] bs2)
set_option maxHeartbeats 4000000 in
set_option maxRecDepth 100000 in
theorem c_readAtom2 (l : Launch) (dC : Nat → ClassId) (dI : Nat → Nat → Nat) (kA : Nat → ClassId) (adK adV : Nat → Nat) (G : gT) (H0 : Heap) (nC nS : Int) (o0 : Nat) (th : Nat) (a0 : Int32) (tv ix_tv : Int32) (tn : Int32) (hT : gH (dC, dI) kA (SHc nC nS) G H0) (hr_o0 : G o0 = some 7) (hm_th : el H0 o0 (dI 7 0) = some (.ref th)) (hr_th : G th = some 40) (hm_a0 : el H0 o0 (dI 7 13) = some (.int a0)) (hq0 : 0 ≤ tn.toInt ∧ tn.toInt ≤ 400) (hq1 : 0 ≤ a0.toInt ∧ a0.toInt ≤ 400) (hat : a0.toInt ≤ tn.toInt) (hx_tv : ix_tv.toInt = tn.toInt) (hm_tv : el H0 th ix_tv.toNatClampNeg = some (.int tv)) (hv_tv : 21 ≤ tv.toInt ∧ tv.toInt ≤ 21) (hgC : 0 ≤ nC ∧ nC ≤ 40) (hgS : 0 ≤ nS ∧ nS ≤ 60) : Met l yX4_readAtom w_c_readAtom2 ({ frames := 16, cells := 0, slots := 0, locals := 362 }) (va_Pc [.ref o0, .int 2] (fun U => U.heap = H0 ∧ va_K (dC, dI) vwCl (tyl kA) U ∧ EVC adK adV (gA G H0.size) U U.heap)) (va_Qi (fun (r : Int32) (u : Int32) => (0 ≤ u.toInt ∧ u.toInt ≤ 400) ∧ (0 ≤ r.toInt ∧ r.toInt ≤ 1) ∧ (a0.toInt ≤ u.toInt ∧ u.toInt ≤ tn.toInt)) (fun (a1 : Int32) (t : State) => gH (dC, dI) kA (SHc nC nS) G t.heap ∧ gF (dC, dI) SKc G ([(7, 12), (7, 13), (49, 0)] : List (Nat × Nat)) H0 t.heap ∧ el t.heap o0 (dI 7 13) = some (.int a1)) (gA G H0.size)) 0 0 (gA G H0.size) := by
  refine Met.ofW (cc := cX4_readAtom) (maxL := 4) (ret := (some .boolean)) (by decide) rfl ?_
  intro p e s m args below meth c s₁ B hml hv
  obtain ⟨rfl, hH0, hK, hE⟩ := hv
  have hx := B.exec
  have hb := B.bytes
  have hr := B.returns
  have hts := atoms_spec (ws := w_c_readAtom2) B.pre
  have hown : s.vm.findClass RX4 = some m.cls := findClass_of_methodNamed B.named
  have hlocks := B.notSynchronized
  subst hH0
  generalize hAe : gA G s.heap.size = A at hE ⊢
  have hA : ∀ q : Nat, s.heap.size ≤ q → A q := fun q h => by rw [← hAe]; exact Or.inr h
  have hG := gA_of hAe
  have hS : va_S A s.heap s.heap [] := va_S.rf
  have hF : gF (dC, dI) SKc G ([(7, 12), (7, 13), (49, 0)] : List (Nat × Nat)) s.heap s.heap := gF.rf
  have hl := lv_entry ([.ref o0, .int 2]) (n := 4) (Nat.le_of_ble_eq_true rfl)
  rw [lg_entry_eq]
  generalize (lg_sl ([.ref o0, .int 2]) ++ List.replicate (4 - (lg_sl ([.ref o0, .int 2])).length) Slot.unset).toArray = ls at hl ⊢
  have hl : lv_has ls 4 [(0, .ref o0), (1, .int 2)] := hl
  refine lv_aload_n hx hb dX4_readAtom_0 rfl (lv_at hl 0 rfl) ?_
  refine tw_getM (v := .ref th) hx hb hts bF2_X4 hown hK hT hr_o0 shc_7 rfl 0 (by decide) (ht_at2 hts 0 rfl) (fun _ h9 => h9) hm_th dX4_readAtom_1 ?_
  refine lv_aload_n hx hb dX4_readAtom_4 rfl (lv_at hl 0 rfl) ?_
  refine tw_getM (v := .int a0) hx hb hts bF2_X4 hown hK hT hr_o0 shc_7 rfl 13 (by decide) (ht_at2 hts 1 rfl) (fun _ h9 => h9) hm_a0 dX4_readAtom_5 ?_
  refine tw_iald (i := a0) hx hb hK hT hr_th shc_40 rfl (vin_t (a := a0.toInt) rfl (by omega) (by omega)) dX4_readAtom_8 (fun v9 m1 h9 => ?_)
  obtain ⟨x2, rfl, gx2, kx2⟩ := h9
  have t3 : a0.toInt = ix_tv.toInt → x2.toInt = tv.toInt := fun h8 => congrArg Int32.toInt (el_same m1 hm_tv h8)
  refine lv_bipush (v := 13) hx hb dX4_readAtom_9 (by decide) ?_
  have t4 : -2147483648 ≤ x2.toInt ∧ x2.toInt ≤ 2147483647 := ti_all x2
  refine lv_icmp_ne (tgt := 18) hx hb dX4_readAtom_11 (by decide) (fun c5 => ?_) (fun c5 => ?_)
  · have t6 : x2.toInt ≠ 13 := ti_ne c5 rfl (by decide)
    refine lv_iconst (v := 0) hx hb dX4_readAtom_18 (by decide) ?_
    refine lv_istore_n (lv' := [(2, .int 0), (0, .ref o0), (1, .int 2)]) hx hb dX4_readAtom_19 rfl hl (by decide) rfl (fun ls hl => ?_)
    refine lv_iload_n hx hb dX4_readAtom_20 rfl (lv_at hl 0 rfl) ?_
    refine lv_if_ne (tgt := 43) hx hb dX4_readAtom_21 (by decide) (fun c7 => absurd c7 (by decide)) (fun c7 => ?_)
    refine lv_aload_n hx hb dX4_readAtom_24 rfl (lv_at hl 1 rfl) ?_
    refine tw_getM (v := .ref th) hx hb hts bF2_X4 hown hK hT hr_o0 shc_7 rfl 0 (by decide) (ht_at2 hts 0 rfl) (fun _ h9 => h9) hm_th dX4_readAtom_25 ?_
    refine lv_aload_n hx hb dX4_readAtom_28 rfl (lv_at hl 1 rfl) ?_
    refine tw_getM (v := .int a0) hx hb hts bF2_X4 hown hK hT hr_o0 shc_7 rfl 13 (by decide) (ht_at2 hts 1 rfl) (fun _ h9 => h9) hm_a0 dX4_readAtom_29 ?_
    refine tw_iald (i := a0) hx hb hK hT hr_th shc_40 rfl (vin_t (a := a0.toInt) rfl (by omega) (by omega)) dX4_readAtom_32 (fun v9 m8 h9 => ?_)
    obtain ⟨x9, rfl, gx9, kx9⟩ := h9
    have t10 : a0.toInt = ix_tv.toInt → x9.toInt = tv.toInt := fun h8 => congrArg Int32.toInt (el_same m8 hm_tv h8)
    obtain rfl : x2 = x9 := (el_same m8 m1 rfl).symm
    refine lv_bipush (v := 16) hx hb dX4_readAtom_33 (by decide) ?_
    refine lv_icmp_eq (tgt := 43) hx hb dX4_readAtom_35 (by decide) (fun c11 => ?_) (fun c11 => ?_)
    · have t12 : x2.toInt = 16 := ti_eq c11 rfl (by decide)
      refine lv_iload_n hx hb dX4_readAtom_43 rfl (lv_at hl 2 rfl) ?_
      refine lv_bipush (v := 6) hx hb dX4_readAtom_44 (by decide) ?_
      refine lv_icmp_lt (tgt := 51) hx hb dX4_readAtom_46 (by decide) (fun c13 => ?_) (fun c13 => absurd c13 (by decide))
      refine lv_aload_n hx hb dX4_readAtom_51 rfl (lv_at hl 1 rfl) ?_
      refine lv_dup hx hb dX4_readAtom_52 rfl ?_
      refine tw_getM (v := .int a0) hx hb hts bF2_X4 hown hK hT hr_o0 shc_7 rfl 13 (by decide) (ht_at2 hts 1 rfl) (fun _ h9 => h9) hm_a0 dX4_readAtom_53 ?_
      refine lv_iconst (v := 1) hx hb dX4_readAtom_56 (by decide) ?_
      refine lv_iadd hx hb dX4_readAtom_57 ?_
      refine lv_topi (fun x14 ex14 => ?_)
      have t15 : x14.toInt = a0.toInt + 1 := ti_add ex14 rfl (by decide) (by omega) (by omega)
      refine tw_put (v := .int x14) (ty := .int) hx hb hts bF2_X4 tyX4 tyX4_ok nmX4 hown hK hT hG hS hr_o0 shc_7 rfl 13 (by decide) (ht_at2 hts 1 rfl) (fun _ h9 => h9) rfl (by decide +kernel) rfl rfl (gl_at rfl (gi_of (show x14.toInt = x14.toInt from rfl) (by omega) (by omega))) dX4_readAtom_58 (fun H locs hT oq m16 oj hS => ?_)
      have hF := hF.put hr_o0 skc_7 oq oj (by decide)
      have m17 := (oj 0 (by decide) (by decide)).trans hm_th
      have m18 := (el_kept (oq _ (gne hr_th hr_o0 (by decide)))).trans hm_tv
      refine lv_iload_n hx hb dX4_readAtom_61 rfl (lv_at hl 0 rfl) ?_
      refine lv_if_eq (tgt := 81) hx hb dX4_readAtom_62 (by decide) (fun c20 => ?_) (fun c20 => absurd c20 (by decide))
      refine lv_aload_n hx hb dX4_readAtom_81 rfl (lv_at hl 1 rfl) ?_
      refine lv_iload_n hx hb dX4_readAtom_82 rfl (lv_at hl 2 rfl) ?_
      refine lv_iconst (v := 1) hx hb dX4_readAtom_83 (by decide) ?_
      refine lv_iadd hx hb dX4_readAtom_84 ?_
      refine lv_topi (fun x21 ex21 => ?_)
      obtain rfl : x21 = 3 := ex21.trans (by decide)
      have hFc := gA_free hG hA hS
      refine va_calli (va_runV (As := [.int 3]) (rest := []) ⟨hx, hb, hml, hown, hts⟩ (c_readAny3 l dC dI kA adK adV G H nC nS o0 th x14 tv ix_tv ix_tv hT hr_o0 m17 hr_th m16 (by have q8 := ti_all ix_tv; omega) (by have q8 := ti_all x14; omega) (by have := (show x14.toInt = x14.toInt from rfl); have := (show ix_tv.toInt = ix_tv.toInt from rfl); omega) (by have q9 := (show ix_tv.toInt = ix_tv.toInt from rfl); have := (show ix_tv.toInt = ix_tv.toInt from rfl); omega) m18 (by have q8 := ti_all tv; omega) (by omega) (by omega)) (cwV 1 hts (goodIn_app (goodIn_r _ [35, 36, 37, 15] rfl (by decide +kernel)) (goodIn_ca (goodIn_r _ [3, 4, 5, 1, 2, 3, 6, 7, 8, 9, 10, 11, 12, 13, 14, 15, 16, 17, 18, 19, 20, 21, 22, 23, 24, 25, 26, 27, 28, 29, 30, 31, 32, 33, 34, 35, 36, 37] rfl (by decide +kernel)) (bs2_in _ _))) rfl rfl rfl (by decide +kernel) ⟨(Nat.le_of_ble_eq_true rfl), (Nat.le_of_ble_eq_true rfl)⟩) ⟨fun a U g mk q => by obtain ⟨q0, q1, qK, qE⟩ := q; exact ⟨q0, q1, va_K.moved (u := U) (U := U.calling g mk a) (Vm.Alike.refl U.vm) qK, EVC.blind g mk a qE⟩, gH_rc hK hT hr_o0 shc_7 rfl, fun U hU hW => ⟨rfl, hU, va_K.moved hW.alike hK, hE.call hS hFc hU hW⟩⟩ rfl rfl hl.1 rfl (lv_room (Nat.le_of_ble_eq_true rfl)) dX4_readAtom_85 ⟨(Nat.le_of_ble_eq_true rfl), (Nat.le_of_ble_eq_true rfl)⟩) hS (fun q _ h => hFc q h) hFc (fun r22 u t H locs ht hvm hw23 hB _ _ hS => ?_)
      obtain ⟨u24, rfl⟩ : ∃ z, z = u := ⟨_, rfl⟩
      obtain ⟨hT, hF1, m25⟩ := hB
      rw [ht] at hT hF1 m25
      have m26 := (hF1.fld hr_o0 skc_7 (k := 0) (by decide) (by decide)).trans m17
      have m27 := (el_kept (hF1.arr hr_th skc_40 (by decide))).trans m18
      have hF := hF.more hF1 (by decide)
      try dsimp only at hw23
      obtain ⟨h30, h31, hf32⟩ := hw23
      refine lv_if_eq (tgt := 104) hx hb dX4_readAtom_88 (by decide) (fun c33 => ?_) (fun c33 => ?_)
      · have t34 : r22.toInt = 0 := ti_eq c33 rfl (by decide)
        refine lv_iconst (v := 0) hx hb dX4_readAtom_104 (by decide) ?_
        exact W.zret (v := 0) hx hb hr (by decide) (fun t ht hW => ⟨⟨0, u24, rfl, (by exact ⟨(by have q8 := ti_all u24; omega), (rg_t (a := 0) (by decide) (by first | decide | omega) (by first | decide | omega)), (by omega)⟩), by (try dsimp only); rw [ht]; exact ⟨hT, hF, m25⟩⟩, hS.F ht⟩) hS.2.2 dX4_readAtom_105
      · have t35 : r22.toInt ≠ 0 := ti_ne c33 rfl (by decide)
        refine lv_aload_n hx hb dX4_readAtom_91 rfl (lv_at hl 1 rfl) ?_
        refine lv_bipush (v := 17) hx hb dX4_readAtom_92 (by decide) ?_
        have hFc := gA_free hG hA hS
        refine va_calli (va_runV (As := [.int 17]) (rest := []) ⟨hx, hb, hml, hown, hts⟩ (c_take l dC dI kA adK adV G H nC nS o0 17 th u24 tv ix_tv ix_tv hT hr_o0 m26 hr_th m25 (by have q8 := ti_all ix_tv; omega) (by have q8 := ti_all u24; omega) (by have := (show u24.toInt = u24.toInt from rfl); have := (show ix_tv.toInt = ix_tv.toInt from rfl); omega) (by have := (show (17 : Int32).toInt = 17 from (by decide)); omega) (by have q9 := (show ix_tv.toInt = ix_tv.toInt from rfl); have := (show ix_tv.toInt = ix_tv.toInt from rfl); omega) m27 (by have q8 := ti_all tv; omega) (by omega) (by omega)) (cwV 1 hts (goodIn_app (goodIn_r _ [20, 21, 22, 15] rfl (by decide +kernel)) (goodIn_ca (goodIn_r _ [19, 1, 2] rfl (by decide +kernel)) (bs2_in _ _))) rfl rfl rfl (by decide +kernel) ⟨(Nat.le_of_ble_eq_true rfl), (Nat.le_of_ble_eq_true rfl)⟩) ⟨fun a U g mk q => by obtain ⟨q0, q1, qK, qE⟩ := q; exact ⟨q0, q1, va_K.moved (u := U) (U := U.calling g mk a) (Vm.Alike.refl U.vm) qK, EVC.blind g mk a qE⟩, gH_rc hK hT hr_o0 shc_7 rfl, fun U hU hW => ⟨rfl, hU, va_K.moved hW.alike hK, hE.call hS hFc hU hW⟩⟩ rfl rfl hl.1 rfl (lv_room (Nat.le_of_ble_eq_true rfl)) dX4_readAtom_94 ⟨(Nat.le_of_ble_eq_true rfl), (Nat.le_of_ble_eq_true rfl)⟩) hS (fun q _ h => hFc q h) hFc (fun r36 u t H locs ht hvm hw37 hB _ _ hS => ?_)
        obtain ⟨u38, rfl⟩ : ∃ z, z = u := ⟨_, rfl⟩
        obtain ⟨hT, hF1, m39⟩ := hB
        rw [ht] at hT hF1 m39
        have hF := hF.more hF1 (by decide)
        try dsimp only at hw37
        obtain ⟨h44, h45, hf46⟩ := hw37
        refine lv_if_eq (tgt := 104) hx hb dX4_readAtom_97 (by decide) (fun c47 => ?_) (fun c47 => ?_)
        · have t48 : r36.toInt = 0 := ti_eq c47 rfl (by decide)
          refine lv_iconst (v := 0) hx hb dX4_readAtom_104 (by decide) ?_
          exact W.zret (v := 0) hx hb hr (by decide) (fun t ht hW => ⟨⟨0, u38, rfl, (by exact ⟨(by have q8 := ti_all u38; omega), (rg_t (a := 0) (by decide) (by first | decide | omega) (by first | decide | omega)), (by omega)⟩), by (try dsimp only); rw [ht]; exact ⟨hT, hF, m39⟩⟩, hS.F ht⟩) hS.2.2 dX4_readAtom_105
        · have t49 : r36.toInt ≠ 0 := ti_ne c47 rfl (by decide)
          refine lv_iconst (v := 1) hx hb dX4_readAtom_100 (by decide) ?_
          refine lv_goto (tgt := 105) hx hb dX4_readAtom_101 (by decide) ?_
          exact W.zret (v := 1) hx hb hr (by decide) (fun t ht hW => ⟨⟨1, u38, rfl, (by exact ⟨(by have q8 := ti_all u38; omega), (rg_t (a := 1) (by decide) (by first | decide | omega) (by first | decide | omega)), (by omega)⟩), by (try dsimp only); rw [ht]; exact ⟨hT, hF, m39⟩⟩, hS.F ht⟩) hS.2.2 dX4_readAtom_105
    · have t50 : x2.toInt ≠ 16 := ti_ne c11 rfl (by decide)
      refine lv_aload_n hx hb dX4_readAtom_38 rfl (lv_at hl 1 rfl) ?_
      have hFc := gA_free hG hA hS
      refine va_calli (va_runV (As := []) (rest := []) ⟨hx, hb, hml, hown, hts⟩ (c_readComparison l dC dI kA adK adV G s.heap nC nS o0 th a0 tv ix_tv ix_tv hT hr_o0 hm_th hr_th hm_a0 (by have q8 := ti_all ix_tv; omega) (by have q8 := ti_all a0; omega) (by have := (show a0.toInt = a0.toInt from rfl); have := (show ix_tv.toInt = ix_tv.toInt from rfl); omega) (by have q9 := (show ix_tv.toInt = ix_tv.toInt from rfl); have := (show ix_tv.toInt = ix_tv.toInt from rfl); omega) hm_tv (by have q8 := ti_all tv; omega) (by omega) (by omega)) (cwV 0 hts (goodIn_app (goodIn_r _ [26, 27, 28, 15] rfl (by decide +kernel)) (goodIn_ca (goodIn_r _ [6, 7, 8, 1, 2, 9, 10, 11, 12, 13, 14, 15, 16, 17, 18, 19, 20, 21, 22, 23, 24, 25] rfl (by decide +kernel)) (bs2_in _ _))) rfl rfl rfl (by decide +kernel) ⟨(Nat.le_of_ble_eq_true rfl), (Nat.le_of_ble_eq_true rfl)⟩) ⟨fun a U g mk q => by obtain ⟨q0, q1, qK, qE⟩ := q; exact ⟨q0, q1, va_K.moved (u := U) (U := U.calling g mk a) (Vm.Alike.refl U.vm) qK, EVC.blind g mk a qE⟩, gH_rc hK hT hr_o0 shc_7 rfl, fun U hU hW => ⟨rfl, hU, va_K.moved hW.alike hK, hE.call hS hFc hU hW⟩⟩ rfl rfl hl.1 rfl (lv_room (Nat.le_of_ble_eq_true rfl)) dX4_readAtom_39 ⟨(Nat.le_of_ble_eq_true rfl), (Nat.le_of_ble_eq_true rfl)⟩) hS (fun q _ h => hFc q h) hFc (fun r51 u t H locs ht hvm hw52 hB _ _ hS => ?_)
      obtain ⟨u53, rfl⟩ : ∃ z, z = u := ⟨_, rfl⟩
      obtain ⟨hT, hF1, m54⟩ := hB
      rw [ht] at hT hF1 m54
      have hF := hF.more hF1 (by decide)
      try dsimp only at hw52
      obtain ⟨h59, h60, hf61⟩ := hw52
      exact W.zret (v := r51) hx hb hr (nar_b (by have q8 := ti_all r51; omega)) (fun t ht hW => ⟨⟨r51, u53, rfl, (by exact ⟨(by have q8 := ti_all u53; omega), (by have q8 := ti_all r51; omega), (by omega)⟩), by (try dsimp only); rw [ht]; exact ⟨hT, hF, m54⟩⟩, hS.F ht⟩) hS.2.2 dX4_readAtom_42
  · have t62 : x2.toInt = 13 := ti_eq c5 rfl (by decide)
    refine lv_iconst (v := 1) hx hb dX4_readAtom_14 (by decide) ?_
    refine lv_goto (tgt := 19) hx hb dX4_readAtom_15 (by decide) ?_
    refine lv_istore_n (lv' := [(2, .int 1), (0, .ref o0), (1, .int 2)]) hx hb dX4_readAtom_19 rfl hl (by decide) rfl (fun ls hl => ?_)
    refine lv_iload_n hx hb dX4_readAtom_20 rfl (lv_at hl 0 rfl) ?_
    refine lv_if_ne (tgt := 43) hx hb dX4_readAtom_21 (by decide) (fun c63 => ?_) (fun c63 => absurd c63 (by decide))
    refine lv_iload_n hx hb dX4_readAtom_43 rfl (lv_at hl 2 rfl) ?_
    refine lv_bipush (v := 6) hx hb dX4_readAtom_44 (by decide) ?_
    refine lv_icmp_lt (tgt := 51) hx hb dX4_readAtom_46 (by decide) (fun c64 => ?_) (fun c64 => absurd c64 (by decide))
    refine lv_aload_n hx hb dX4_readAtom_51 rfl (lv_at hl 1 rfl) ?_
    refine lv_dup hx hb dX4_readAtom_52 rfl ?_
    refine tw_getM (v := .int a0) hx hb hts bF2_X4 hown hK hT hr_o0 shc_7 rfl 13 (by decide) (ht_at2 hts 1 rfl) (fun _ h9 => h9) hm_a0 dX4_readAtom_53 ?_
    refine lv_iconst (v := 1) hx hb dX4_readAtom_56 (by decide) ?_
    refine lv_iadd hx hb dX4_readAtom_57 ?_
    refine lv_topi (fun x65 ex65 => ?_)
    have t66 : x65.toInt = a0.toInt + 1 := ti_add ex65 rfl (by decide) (by omega) (by omega)
    refine tw_put (v := .int x65) (ty := .int) hx hb hts bF2_X4 tyX4 tyX4_ok nmX4 hown hK hT hG hS hr_o0 shc_7 rfl 13 (by decide) (ht_at2 hts 1 rfl) (fun _ h9 => h9) rfl (by decide +kernel) rfl rfl (gl_at rfl (gi_of (show x65.toInt = x65.toInt from rfl) (by omega) (by omega))) dX4_readAtom_58 (fun H locs hT oq m67 oj hS => ?_)
    have hF := hF.put hr_o0 skc_7 oq oj (by decide)
    have m68 := (oj 0 (by decide) (by decide)).trans hm_th
    have m69 := (el_kept (oq _ (gne hr_th hr_o0 (by decide)))).trans hm_tv
    refine lv_iload_n hx hb dX4_readAtom_61 rfl (lv_at hl 0 rfl) ?_
    refine lv_if_eq (tgt := 81) hx hb dX4_readAtom_62 (by decide) (fun c71 => absurd c71 (by decide)) (fun c71 => ?_)
    refine lv_aload_n hx hb dX4_readAtom_65 rfl (lv_at hl 1 rfl) ?_
    refine lv_iload_n hx hb dX4_readAtom_66 rfl (lv_at hl 2 rfl) ?_
    refine lv_iconst (v := 1) hx hb dX4_readAtom_67 (by decide) ?_
    refine lv_iadd hx hb dX4_readAtom_68 ?_
    refine lv_topi (fun x72 ex72 => ?_)
    obtain rfl : x72 = 3 := ex72.trans (by decide)
    have hFc := gA_free hG hA hS
    refine va_calli (va_runV (As := [.int 3]) (rest := []) ⟨hx, hb, hml, hown, hts⟩ (c_readAtom3 l dC dI kA adK adV G H nC nS o0 th x65 tv ix_tv ix_tv hT hr_o0 m68 hr_th m67 (by have q8 := ti_all ix_tv; omega) (by have q8 := ti_all x65; omega) (by have := (show x65.toInt = x65.toInt from rfl); have := (show ix_tv.toInt = ix_tv.toInt from rfl); omega) (by have q9 := (show ix_tv.toInt = ix_tv.toInt from rfl); have := (show ix_tv.toInt = ix_tv.toInt from rfl); omega) m69 (by have q8 := ti_all tv; omega) (by omega) (by omega)) (cwV 1 hts (goodIn_app (goodIn_r _ [29, 30, 31, 15] rfl (by decide +kernel)) (goodIn_ca (goodIn_r _ [5, 1, 2, 3, 4, 5, 6, 7, 8, 9, 10, 11, 12, 13, 14, 15, 16, 17, 18, 19, 20, 21, 22, 23, 24, 25, 26, 27, 28, 29, 30, 31, 32, 33, 34, 35, 36, 37] rfl (by decide +kernel)) (bs2_in _ _))) rfl rfl rfl (by decide +kernel) ⟨(Nat.le_of_ble_eq_true rfl), (Nat.le_of_ble_eq_true rfl)⟩) ⟨fun a U g mk q => by obtain ⟨q0, q1, qK, qE⟩ := q; exact ⟨q0, q1, va_K.moved (u := U) (U := U.calling g mk a) (Vm.Alike.refl U.vm) qK, EVC.blind g mk a qE⟩, gH_rc hK hT hr_o0 shc_7 rfl, fun U hU hW => ⟨rfl, hU, va_K.moved hW.alike hK, hE.call hS hFc hU hW⟩⟩ rfl rfl hl.1 rfl (lv_room (Nat.le_of_ble_eq_true rfl)) dX4_readAtom_69 ⟨(Nat.le_of_ble_eq_true rfl), (Nat.le_of_ble_eq_true rfl)⟩) hS (fun q _ h => hFc q h) hFc (fun r73 u t H locs ht hvm hw74 hB _ _ hS => ?_)
    obtain ⟨u75, rfl⟩ : ∃ z, z = u := ⟨_, rfl⟩
    obtain ⟨hT, hF1, m76⟩ := hB
    rw [ht] at hT hF1 m76
    have hF := hF.more hF1 (by decide)
    try dsimp only at hw74
    obtain ⟨h81, h82, hf83⟩ := hw74
    refine lv_istore_n (lv' := [(3, .int r73), (2, .int 1), (0, .ref o0), (1, .int 2)]) hx hb dX4_readAtom_72 rfl hl (by decide) rfl (fun ls hl => ?_)
    refine lv_aload_n hx hb dX4_readAtom_73 rfl (lv_at hl 2 rfl) ?_
    refine lv_bipush (v := 13) hx hb dX4_readAtom_74 (by decide) ?_
    have hFc := gA_free hG hA hS
    refine va_callv (va_runV (As := [.int 13]) (rest := []) ⟨hx, hb, hml, hown, hts⟩ (c_addStep l dC dI kA adK adV G H nC nS o0 13 hT hr_o0 (rg_t (a := 13) (by decide) (by first | decide | omega) (by first | decide | omega)) (by omega) (by omega)) (cwV 1 hts (goodIn_app (goodIn_r _ [12, 13, 14, 15] rfl (by decide +kernel)) (goodIn_ca (goodIn_r _ [9, 10, 11] rfl (by decide +kernel)) (bs2_in _ _))) rfl rfl rfl (by decide +kernel) ⟨(Nat.le_of_ble_eq_true rfl), (Nat.le_of_ble_eq_true rfl)⟩) ⟨fun a U g mk q => by obtain ⟨q0, q1, qK, qE⟩ := q; exact ⟨q0, q1, va_K.moved (u := U) (U := U.calling g mk a) (Vm.Alike.refl U.vm) qK, EVC.blind g mk a qE⟩, gH_rc hK hT hr_o0 shc_7 rfl, fun U hU hW => ⟨rfl, hU, va_K.moved hW.alike hK, hE.call hS hFc hU hW⟩⟩ rfl rfl hl.1 rfl (lv_room (Nat.le_of_ble_eq_true rfl)) dX4_readAtom_76 ⟨(Nat.le_of_ble_eq_true rfl), (Nat.le_of_ble_eq_true rfl)⟩) hS (fun q _ h => hFc q h) hFc (fun u t H locs ht hvm hw85 hB _ _ hS => ?_)
    obtain ⟨hT, hF1⟩ := hB
    rw [ht] at hT hF1
    have m89 := (hF1.fld hr_o0 skc_7 (k := 13) (by decide) (by decide)).trans m76
    have hF := hF.more hF1 (by decide)
    try dsimp only at hw85
    refine lv_iload_n hx hb dX4_readAtom_79 rfl (lv_at hl 0 rfl) ?_
    exact W.zret (v := r73) hx hb hr (nar_b (by have q8 := ti_all r73; omega)) (fun t ht hW => ⟨⟨r73, u75, rfl, (by exact ⟨(by have q8 := ti_all u75; omega), (by have q8 := ti_all r73; omega), (by omega)⟩), by (try dsimp only); rw [ht]; exact ⟨hT, hF, m89⟩⟩, hS.F ht⟩) hS.2.2 dX4_readAtom_80
def w_c_readAll2 : List Cond := .code yX4_readAll cX4_readAll 4 (some .boolean) :: (HAppend.hAppend (α := List Cond) (β := List Cond) (γ := List Cond) [.code yX4_readAtom cX4_readAtom 4 (some .boolean), .fieldLink RX4 11 "SeaLand$Law" "things" "[I", .fieldLink RX4 56 "SeaLand$Law" "at" "I", .code yX4_readAny cX4_readAny 4 (some .boolean), .code yX4_readAll cX4_readAll 4 (some .boolean), .code yX4_readComparison cX4_readComparison 3 (some .boolean), .code yX4_readSum cX4_readSum 3 (some .boolean), .code yX4_readPart cX4_readPart 2 (some .boolean), .code yX4_addStep cX4_addStep 2 none, .fieldLink RX4 63 "SeaLand$Law" "stepped" "I", .fieldLink RX4 39 "SeaLand$Law" "steps" "[I", .methodLink RX4 179 yX4_addStep, .instanceMethod yX4_addStep, .selects RX4 yX4_addStep yX4_addStep, .initialized RX4, .methodLink RX4 192 yX4_readPart, .instanceMethod yX4_readPart, .selects RX4 yX4_readPart yX4_readPart, .code yX4_take cX4_take 2 (some .boolean), .methodLink RX4 70 yX4_take, .instanceMethod yX4_take, .selects RX4 yX4_take yX4_take, .methodLink RX4 189 yX4_readSum, .instanceMethod yX4_readSum, .selects RX4 yX4_readSum yX4_readSum, .methodLink RX4 186 yX4_readComparison, .instanceMethod yX4_readComparison, .selects RX4 yX4_readComparison yX4_readComparison, .methodLink RX4 183 yX4_readAtom, .instanceMethod yX4_readAtom, .selects RX4 yX4_readAtom yX4_readAtom, .methodLink RX4 176 yX4_readAll, .instanceMethod yX4_readAll, .selects RX4 yX4_readAll yX4_readAll, .methodLink RX4 173 yX4_readAny, .instanceMethod yX4_readAny, .selects RX4 yX4_readAny yX4_readAny] bs2)
set_option maxHeartbeats 4000000 in
set_option maxRecDepth 100000 in
theorem c_readAll2 (l : Launch) (dC : Nat → ClassId) (dI : Nat → Nat → Nat) (kA : Nat → ClassId) (adK adV : Nat → Nat) (G : gT) (H0 : Heap) (nC nS : Int) (o0 : Nat) (th : Nat) (a0 : Int32) (tv ix_tv : Int32) (tn : Int32) (hT : gH (dC, dI) kA (SHc nC nS) G H0) (hr_o0 : G o0 = some 7) (hm_th : el H0 o0 (dI 7 0) = some (.ref th)) (hr_th : G th = some 40) (hm_a0 : el H0 o0 (dI 7 13) = some (.int a0)) (hq0 : 0 ≤ tn.toInt ∧ tn.toInt ≤ 400) (hq1 : 0 ≤ a0.toInt ∧ a0.toInt ≤ 400) (hat : a0.toInt ≤ tn.toInt) (hx_tv : ix_tv.toInt = tn.toInt) (hm_tv : el H0 th ix_tv.toNatClampNeg = some (.int tv)) (hv_tv : 21 ≤ tv.toInt ∧ tv.toInt ≤ 21) (hgC : 0 ≤ nC ∧ nC ≤ 40) (hgS : 0 ≤ nS ∧ nS ≤ 60) : Met l yX4_readAll w_c_readAll2 ({ frames := 17, cells := 0, slots := 0, locals := 385 }) (va_Pc [.ref o0, .int 2] (fun U => U.heap = H0 ∧ va_K (dC, dI) vwCl (tyl kA) U ∧ EVC adK adV (gA G H0.size) U U.heap)) (va_Qi (fun (r : Int32) (u : Int32) => (0 ≤ u.toInt ∧ u.toInt ≤ 400) ∧ (0 ≤ r.toInt ∧ r.toInt ≤ 1) ∧ (a0.toInt ≤ u.toInt ∧ u.toInt ≤ tn.toInt)) (fun (a1 : Int32) (t : State) => gH (dC, dI) kA (SHc nC nS) G t.heap ∧ gF (dC, dI) SKc G ([(7, 12), (7, 13), (49, 0)] : List (Nat × Nat)) H0 t.heap ∧ el t.heap o0 (dI 7 13) = some (.int a1)) (gA G H0.size)) 0 0 (gA G H0.size) := by
  refine Met.ofW (cc := cX4_readAll) (maxL := 4) (ret := (some .boolean)) (by decide) rfl ?_
  intro p e s m args below meth c s₁ B hml hv
  obtain ⟨rfl, hH0, hK, hE⟩ := hv
  have hx := B.exec
  have hb := B.bytes
  have hr := B.returns
  have hts := atoms_spec (ws := w_c_readAll2) B.pre
  have hown : s.vm.findClass RX4 = some m.cls := findClass_of_methodNamed B.named
  have hlocks := B.notSynchronized
  subst hH0
  generalize hAe : gA G s.heap.size = A at hE ⊢
  have hA : ∀ q : Nat, s.heap.size ≤ q → A q := fun q h => by rw [← hAe]; exact Or.inr h
  have hG := gA_of hAe
  have hS : va_S A s.heap s.heap [] := va_S.rf
  have hF : gF (dC, dI) SKc G ([(7, 12), (7, 13), (49, 0)] : List (Nat × Nat)) s.heap s.heap := gF.rf
  have hl := lv_entry ([.ref o0, .int 2]) (n := 4) (Nat.le_of_ble_eq_true rfl)
  rw [lg_entry_eq]
  generalize (lg_sl ([.ref o0, .int 2]) ++ List.replicate (4 - (lg_sl ([.ref o0, .int 2])).length) Slot.unset).toArray = ls at hl ⊢
  have hl : lv_has ls 4 [(0, .ref o0), (1, .int 2)] := hl
  refine lv_aload_n hx hb dX4_readAll_0 rfl (lv_at hl 0 rfl) ?_
  refine lv_iload_n hx hb dX4_readAll_1 rfl (lv_at hl 1 rfl) ?_
  have hFc := gA_free hG hA hS
  refine va_calli (va_runV (As := [.int 2]) (rest := []) ⟨hx, hb, hml, hown, hts⟩ (c_readAtom2 l dC dI kA adK adV G s.heap nC nS o0 th a0 tv ix_tv ix_tv hT hr_o0 hm_th hr_th hm_a0 (by have q8 := ti_all ix_tv; omega) (by have q8 := ti_all a0; omega) (by have := (show a0.toInt = a0.toInt from rfl); have := (show ix_tv.toInt = ix_tv.toInt from rfl); omega) (by have q9 := (show ix_tv.toInt = ix_tv.toInt from rfl); have := (show ix_tv.toInt = ix_tv.toInt from rfl); omega) hm_tv (by have q8 := ti_all tv; omega) (by omega) (by omega)) (cwV 1 hts (goodIn_app (goodIn_r _ [29, 30, 31, 15] rfl (by decide +kernel)) (goodIn_ca (goodIn_r _ [1, 2, 3, 4, 5, 1, 6, 7, 8, 9, 10, 11, 12, 13, 14, 15, 16, 17, 18, 19, 20, 21, 22, 23, 24, 25, 26, 27, 28, 29, 30, 31, 32, 33, 34, 35, 36, 37] rfl (by decide +kernel)) (bs2_in _ _))) rfl rfl rfl (by decide +kernel) ⟨(Nat.le_of_ble_eq_true rfl), (Nat.le_of_ble_eq_true rfl)⟩) ⟨fun a U g mk q => by obtain ⟨q0, q1, qK, qE⟩ := q; exact ⟨q0, q1, va_K.moved (u := U) (U := U.calling g mk a) (Vm.Alike.refl U.vm) qK, EVC.blind g mk a qE⟩, gH_rc hK hT hr_o0 shc_7 rfl, fun U hU hW => ⟨rfl, hU, va_K.moved hW.alike hK, hE.call hS hFc hU hW⟩⟩ rfl rfl hl.1 rfl (lv_room (Nat.le_of_ble_eq_true rfl)) dX4_readAll_2 ⟨(Nat.le_of_ble_eq_true rfl), (Nat.le_of_ble_eq_true rfl)⟩) hS (fun q _ h => hFc q h) hFc (fun r1 u t H locs ht hvm hw2 hB _ _ hS => ?_)
  obtain ⟨u3, rfl⟩ : ∃ z, z = u := ⟨_, rfl⟩
  obtain ⟨hT, hF1, m4⟩ := hB
  rw [ht] at hT hF1 m4
  have m5 := (hF1.fld hr_o0 skc_7 (k := 0) (by decide) (by decide)).trans hm_th
  have m7 := (el_kept (hF1.arr hr_th skc_40 (by decide))).trans hm_tv
  have hF := hF.more hF1 (by decide)
  try dsimp only at hw2
  obtain ⟨h8, h9, hf10⟩ := hw2
  refine lv_istore_n (lv' := [(2, .int r1), (0, .ref o0), (1, .int 2)]) hx hb dX4_readAll_5 rfl hl (by decide) rfl (fun ls hl => ?_)
  refine lv_iconst (v := 0) hx hb dX4_readAll_6 (by decide) ?_
  refine lv_istore_n (lv' := [(3, .int 0), (2, .int r1), (0, .ref o0), (1, .int 2)]) hx hb dX4_readAll_7 rfl hl (by decide) rfl (fun ls hl => ?_)
  have key53 : ∀ (n53 i11 : Nat), i11 + n53 = 400 → 0 ≤ i11 → ∀ (z12 : Int32), ∀ (z16 : Int32), ((0 ≤ z12.toInt ∧ z12.toInt ≤ 1) ∧ (0 ≤ z16.toInt ∧ z16.toInt ≤ 400) ∧ (a0.toInt ≤ z16.toInt ∧ z16.toInt ≤ tn.toInt)) → ∀ (H : Heap) (locs : List Loc), gH (dC, dI) kA (SHc nC nS) G H → gF (dC, dI) SKc G ([(7, 12), (7, 13), (49, 0)] : List (Nat × Nat)) s.heap H → va_S A s.heap H locs → el H o0 (dI 7 0) = some (.ref th) → el H th ix_tv.toNatClampNeg = some (.int tv) → el H o0 (dI 7 13) = some (.int z16) → ∀ ls : Array Slot, lv_has ls 4 [(3, .int (nI i11)), (2, .int z12), (0, .ref o0), (1, .int 2)] → W p l e (headSpec w_c_readAll2 ({ frames := 17, cells := 0, slots := 0, locals := 385 })).room s m #[.ref o0, .int 2] below meth c H locs 0 0 (MQ below (va_Qi (fun (r : Int32) (u : Int32) => (0 ≤ u.toInt ∧ u.toInt ≤ 400) ∧ (0 ≤ r.toInt ∧ r.toInt ≤ 1) ∧ (a0.toInt ≤ u.toInt ∧ u.toInt ≤ tn.toInt)) (fun (a1 : Int32) (t : State) => gH (dC, dI) kA (SHc nC nS) G t.heap ∧ gF (dC, dI) SKc G ([(7, 12), (7, 13), (49, 0)] : List (Nat × Nat)) s.heap t.heap ∧ el t.heap o0 (dI 7 13) = some (.int a1)) A) #[.ref o0, .int 2] s 0 0 A) (F0 m 8 ls []) := by
    intro n53
    induction n53 with
    | zero =>
      intro i11 hn53 hlo54 z12 z16 ⟨h13, h17, hj19⟩ H locs hT hF hS m14 m15 m18 ls hl
      obtain rfl : 400 = i11 := by omega
      refine lv_iload_n hx hb dX4_readAll_8 rfl (lv_at hl 0 rfl) ?_
      refine lv_sipush (v := 400) hx hb dX4_readAll_9 (by decide) ?_
      refine lv_icmp_ge (tgt := 46) hx hb dX4_readAll_12 (by decide) (fun c55 => ?_) (fun c55 => (by exfalso; have q9 : ((400 : Nat) : Int) < 400 := ti_nle c55 (by decide) (nI_toInt (by omega)); omega))
      have t56 : 400 ≤ ((400 : Nat) : Int) := ti_le c55 (by decide) (nI_toInt (by omega))
      refine lv_iload_n hx hb dX4_readAll_46 rfl (lv_at hl 1 rfl) ?_
      exact W.zret (v := z12) hx hb hr (nar_b (by have q8 := ti_all z12; omega)) (fun t ht hW => ⟨⟨z12, z16, rfl, (by exact ⟨(by have q8 := ti_all z16; omega), (by have q8 := ti_all z12; omega), (by omega)⟩), by (try dsimp only); rw [ht]; exact ⟨hT, hF, m18⟩⟩, hS.F ht⟩) hS.2.2 dX4_readAll_47
    | succ n53 ih53 =>
      intro i11 hn53 hlo54 z12 z16 ⟨h13, h17, hj19⟩ H locs hT hF hS m14 m15 m18 ls hl
      have hlt56 : i11 < 400 := by omega
      refine lv_iload_n hx hb dX4_readAll_8 rfl (lv_at hl 0 rfl) ?_
      refine lv_sipush (v := 400) hx hb dX4_readAll_9 (by decide) ?_
      refine lv_icmp_ge (tgt := 46) hx hb dX4_readAll_12 (by decide) (fun c57 => (by exfalso; have q9 : 400 ≤ ((i11 : Nat) : Int) := ti_le c57 (by decide) (nI_toInt (by omega)); omega)) (fun c57 => ?_)
      have t58 : ((i11 : Nat) : Int) < 400 := ti_nle c57 (by decide) (nI_toInt (by omega))
      refine lv_iload_n hx hb dX4_readAll_15 rfl (lv_at hl 1 rfl) ?_
      refine lv_if_eq (tgt := 46) hx hb dX4_readAll_16 (by decide) (fun c59 => ?_) (fun c59 => ?_)
      · have t60 : z12.toInt = 0 := ti_eq c59 rfl (by decide)
        refine lv_iload_n hx hb dX4_readAll_46 rfl (lv_at hl 1 rfl) ?_
        exact W.zret (v := z12) hx hb hr (nar_b (by have q8 := ti_all z12; omega)) (fun t ht hW => ⟨⟨z12, z16, rfl, (by exact ⟨(by have q8 := ti_all z16; omega), (by have q8 := ti_all z12; omega), (by omega)⟩), by (try dsimp only); rw [ht]; exact ⟨hT, hF, m18⟩⟩, hS.F ht⟩) hS.2.2 dX4_readAll_47
      · have t61 : z12.toInt ≠ 0 := ti_ne c59 rfl (by decide)
        refine lv_aload_n hx hb dX4_readAll_19 rfl (lv_at hl 2 rfl) ?_
        refine lv_bipush (v := 14) hx hb dX4_readAll_20 (by decide) ?_
        have hFc := gA_free hG hA hS
        refine va_calli (va_runV (As := [.int 14]) (rest := []) ⟨hx, hb, hml, hown, hts⟩ (c_take l dC dI kA adK adV G H nC nS o0 14 th z16 tv ix_tv ix_tv hT hr_o0 m14 hr_th m18 (by have q8 := ti_all ix_tv; omega) (by have q8 := ti_all z16; omega) (by have := (show z16.toInt = z16.toInt from rfl); have := (show ix_tv.toInt = ix_tv.toInt from rfl); omega) (by have := (show (14 : Int32).toInt = 14 from (by decide)); omega) (by have q9 := (show ix_tv.toInt = ix_tv.toInt from rfl); have := (show ix_tv.toInt = ix_tv.toInt from rfl); omega) m15 (by have q8 := ti_all tv; omega) (by omega) (by omega)) (cwV 1 hts (goodIn_app (goodIn_r _ [20, 21, 22, 15] rfl (by decide +kernel)) (goodIn_ca (goodIn_r _ [19, 2, 3] rfl (by decide +kernel)) (bs2_in _ _))) rfl rfl rfl (by decide +kernel) ⟨(Nat.le_of_ble_eq_true rfl), (Nat.le_of_ble_eq_true rfl)⟩) ⟨fun a U g mk q => by obtain ⟨q0, q1, qK, qE⟩ := q; exact ⟨q0, q1, va_K.moved (u := U) (U := U.calling g mk a) (Vm.Alike.refl U.vm) qK, EVC.blind g mk a qE⟩, gH_rc hK hT hr_o0 shc_7 rfl, fun U hU hW => ⟨rfl, hU, va_K.moved hW.alike hK, hE.call hS hFc hU hW⟩⟩ rfl rfl hl.1 rfl (lv_room (Nat.le_of_ble_eq_true rfl)) dX4_readAll_22 ⟨(Nat.le_of_ble_eq_true rfl), (Nat.le_of_ble_eq_true rfl)⟩) hS (fun q _ h => hFc q h) hFc (fun r62 u t H locs ht hvm hw63 hB _ _ hS => ?_)
        obtain ⟨u64, rfl⟩ : ∃ z, z = u := ⟨_, rfl⟩
        obtain ⟨hT, hF1, m65⟩ := hB
        rw [ht] at hT hF1 m65
        have m66 := (hF1.fld hr_o0 skc_7 (k := 0) (by decide) (by decide)).trans m14
        have m67 := (el_kept (hF1.arr hr_th skc_40 (by decide))).trans m15
        have hF := hF.more hF1 (by decide)
        try dsimp only at hw63
        obtain ⟨h69, h70, hf71⟩ := hw63
        refine lv_if_eq (tgt := 46) hx hb dX4_readAll_25 (by decide) (fun c72 => ?_) (fun c72 => ?_)
        · have t73 : r62.toInt = 0 := ti_eq c72 rfl (by decide)
          refine lv_iload_n hx hb dX4_readAll_46 rfl (lv_at hl 1 rfl) ?_
          exact W.zret (v := z12) hx hb hr (nar_b (by have q8 := ti_all z12; omega)) (fun t ht hW => ⟨⟨z12, u64, rfl, (by exact ⟨(by have q8 := ti_all u64; omega), (by have q8 := ti_all z12; omega), (by omega)⟩), by (try dsimp only); rw [ht]; exact ⟨hT, hF, m65⟩⟩, hS.F ht⟩) hS.2.2 dX4_readAll_47
        · have t74 : r62.toInt ≠ 0 := ti_ne c72 rfl (by decide)
          refine lv_aload_n hx hb dX4_readAll_28 rfl (lv_at hl 2 rfl) ?_
          refine lv_iload_n hx hb dX4_readAll_29 rfl (lv_at hl 3 rfl) ?_
          have hFc := gA_free hG hA hS
          refine va_calli (va_runV (As := [.int 2]) (rest := []) ⟨hx, hb, hml, hown, hts⟩ (c_readAtom2 l dC dI kA adK adV G H nC nS o0 th u64 tv ix_tv ix_tv hT hr_o0 m66 hr_th m65 (by have q8 := ti_all ix_tv; omega) (by have q8 := ti_all u64; omega) (by have := (show u64.toInt = u64.toInt from rfl); have := (show ix_tv.toInt = ix_tv.toInt from rfl); omega) (by have q9 := (show ix_tv.toInt = ix_tv.toInt from rfl); have := (show ix_tv.toInt = ix_tv.toInt from rfl); omega) m67 (by have q8 := ti_all tv; omega) (by omega) (by omega)) (cwV 1 hts (goodIn_app (goodIn_r _ [29, 30, 31, 15] rfl (by decide +kernel)) (goodIn_ca (goodIn_r _ [1, 2, 3, 4, 5, 1, 6, 7, 8, 9, 10, 11, 12, 13, 14, 15, 16, 17, 18, 19, 20, 21, 22, 23, 24, 25, 26, 27, 28, 29, 30, 31, 32, 33, 34, 35, 36, 37] rfl (by decide +kernel)) (bs2_in _ _))) rfl rfl rfl (by decide +kernel) ⟨(Nat.le_of_ble_eq_true rfl), (Nat.le_of_ble_eq_true rfl)⟩) ⟨fun a U g mk q => by obtain ⟨q0, q1, qK, qE⟩ := q; exact ⟨q0, q1, va_K.moved (u := U) (U := U.calling g mk a) (Vm.Alike.refl U.vm) qK, EVC.blind g mk a qE⟩, gH_rc hK hT hr_o0 shc_7 rfl, fun U hU hW => ⟨rfl, hU, va_K.moved hW.alike hK, hE.call hS hFc hU hW⟩⟩ rfl rfl hl.1 rfl (lv_room (Nat.le_of_ble_eq_true rfl)) dX4_readAll_30 ⟨(Nat.le_of_ble_eq_true rfl), (Nat.le_of_ble_eq_true rfl)⟩) hS (fun q _ h => hFc q h) hFc (fun r75 u t H locs ht hvm hw76 hB _ _ hS => ?_)
          obtain ⟨u77, rfl⟩ : ∃ z, z = u := ⟨_, rfl⟩
          obtain ⟨hT, hF1, m78⟩ := hB
          rw [ht] at hT hF1 m78
          have m79 := (hF1.fld hr_o0 skc_7 (k := 0) (by decide) (by decide)).trans m66
          have m80 := (el_kept (hF1.arr hr_th skc_40 (by decide))).trans m67
          have hF := hF.more hF1 (by decide)
          try dsimp only at hw76
          obtain ⟨h82, h83, hf84⟩ := hw76
          refine lv_istore_n (lv' := [(2, .int r75), (3, .int (nI i11)), (0, .ref o0), (1, .int 2)]) hx hb dX4_readAll_33 rfl hl (by decide) rfl (fun ls hl => ?_)
          refine lv_aload_n hx hb dX4_readAll_34 rfl (lv_at hl 2 rfl) ?_
          refine lv_bipush (v := 14) hx hb dX4_readAll_35 (by decide) ?_
          have hFc := gA_free hG hA hS
          refine va_callv (va_runV (As := [.int 14]) (rest := []) ⟨hx, hb, hml, hown, hts⟩ (c_addStep l dC dI kA adK adV G H nC nS o0 14 hT hr_o0 (rg_t (a := 14) (by decide) (by first | decide | omega) (by first | decide | omega)) (by omega) (by omega)) (cwV 1 hts (goodIn_app (goodIn_r _ [12, 13, 14, 15] rfl (by decide +kernel)) (goodIn_ca (goodIn_r _ [9, 10, 11] rfl (by decide +kernel)) (bs2_in _ _))) rfl rfl rfl (by decide +kernel) ⟨(Nat.le_of_ble_eq_true rfl), (Nat.le_of_ble_eq_true rfl)⟩) ⟨fun a U g mk q => by obtain ⟨q0, q1, qK, qE⟩ := q; exact ⟨q0, q1, va_K.moved (u := U) (U := U.calling g mk a) (Vm.Alike.refl U.vm) qK, EVC.blind g mk a qE⟩, gH_rc hK hT hr_o0 shc_7 rfl, fun U hU hW => ⟨rfl, hU, va_K.moved hW.alike hK, hE.call hS hFc hU hW⟩⟩ rfl rfl hl.1 rfl (lv_room (Nat.le_of_ble_eq_true rfl)) dX4_readAll_37 ⟨(Nat.le_of_ble_eq_true rfl), (Nat.le_of_ble_eq_true rfl)⟩) hS (fun q _ h => hFc q h) hFc (fun u t H locs ht hvm hw86 hB _ _ hS => ?_)
          obtain ⟨hT, hF1⟩ := hB
          rw [ht] at hT hF1
          have m87 := (hF1.fld hr_o0 skc_7 (k := 0) (by decide) (by decide)).trans m79
          have m88 := (el_kept (hF1.arr hr_th skc_40 (by decide))).trans m80
          have m89 := (hF1.fld hr_o0 skc_7 (k := 13) (by decide) (by decide)).trans m78
          have hF := hF.more hF1 (by decide)
          try dsimp only at hw86
          refine lv_iinc (v := nI (i11 + 1)) (lv' := [(3, .int (nI (i11 + 1))), (2, .int r75), (0, .ref o0), (1, .int 2)]) hx hb dX4_readAll_40 hl (k := 1) rfl (nI_add i11 1) (by decide) rfl (fun ls hl => ?_)
          refine lv_goto (tgt := 8) hx hb dX4_readAll_43 (by decide) ?_
          exact ih53 (i11 + 1) (by omega) (by omega) r75 u77 ⟨(by have q8 := ti_all r75; omega), (by have q8 := ti_all u77; omega), (by have := hx_tv; have := (show u77.toInt = u77.toInt from rfl); omega)⟩ _ _ hT hF hS m87 m88 m89 ls (lv_sub hl [0, 1, 2, 3] rfl)
  exact key53 (400 - 0) 0 (by omega) (Nat.le_refl _) r1 u3 ⟨(by have q8 := ti_all r1; omega), (by have q8 := ti_all u3; omega), (by have := hx_tv; have := (show u3.toInt = u3.toInt from rfl); omega)⟩ _ _ hT hF hS m5 m7 m4 ls (lv_sub hl [0, 1, 2, 3] rfl)
def w_c_readAny2 : List Cond := .code yX4_readAny cX4_readAny 4 (some .boolean) :: (HAppend.hAppend (α := List Cond) (β := List Cond) (γ := List Cond) [.code yX4_readAll cX4_readAll 4 (some .boolean), .code yX4_readAtom cX4_readAtom 4 (some .boolean), .fieldLink RX4 11 "SeaLand$Law" "things" "[I", .fieldLink RX4 56 "SeaLand$Law" "at" "I", .code yX4_readAny cX4_readAny 4 (some .boolean), .code yX4_readComparison cX4_readComparison 3 (some .boolean), .code yX4_readSum cX4_readSum 3 (some .boolean), .code yX4_readPart cX4_readPart 2 (some .boolean), .code yX4_addStep cX4_addStep 2 none, .fieldLink RX4 63 "SeaLand$Law" "stepped" "I", .fieldLink RX4 39 "SeaLand$Law" "steps" "[I", .methodLink RX4 179 yX4_addStep, .instanceMethod yX4_addStep, .selects RX4 yX4_addStep yX4_addStep, .initialized RX4, .methodLink RX4 192 yX4_readPart, .instanceMethod yX4_readPart, .selects RX4 yX4_readPart yX4_readPart, .code yX4_take cX4_take 2 (some .boolean), .methodLink RX4 70 yX4_take, .instanceMethod yX4_take, .selects RX4 yX4_take yX4_take, .methodLink RX4 189 yX4_readSum, .instanceMethod yX4_readSum, .selects RX4 yX4_readSum yX4_readSum, .methodLink RX4 186 yX4_readComparison, .instanceMethod yX4_readComparison, .selects RX4 yX4_readComparison yX4_readComparison, .methodLink RX4 183 yX4_readAtom, .instanceMethod yX4_readAtom, .selects RX4 yX4_readAtom yX4_readAtom, .methodLink RX4 176 yX4_readAll, .instanceMethod yX4_readAll, .selects RX4 yX4_readAll yX4_readAll, .methodLink RX4 173 yX4_readAny, .instanceMethod yX4_readAny, .selects RX4 yX4_readAny yX4_readAny] bs2)
set_option maxHeartbeats 4000000 in
set_option maxRecDepth 100000 in
theorem c_readAny2 (l : Launch) (dC : Nat → ClassId) (dI : Nat → Nat → Nat) (kA : Nat → ClassId) (adK adV : Nat → Nat) (G : gT) (H0 : Heap) (nC nS : Int) (o0 : Nat) (th : Nat) (a0 : Int32) (tv ix_tv : Int32) (tn : Int32) (hT : gH (dC, dI) kA (SHc nC nS) G H0) (hr_o0 : G o0 = some 7) (hm_th : el H0 o0 (dI 7 0) = some (.ref th)) (hr_th : G th = some 40) (hm_a0 : el H0 o0 (dI 7 13) = some (.int a0)) (hq0 : 0 ≤ tn.toInt ∧ tn.toInt ≤ 400) (hq1 : 0 ≤ a0.toInt ∧ a0.toInt ≤ 400) (hat : a0.toInt ≤ tn.toInt) (hx_tv : ix_tv.toInt = tn.toInt) (hm_tv : el H0 th ix_tv.toNatClampNeg = some (.int tv)) (hv_tv : 21 ≤ tv.toInt ∧ tv.toInt ≤ 21) (hgC : 0 ≤ nC ∧ nC ≤ 40) (hgS : 0 ≤ nS ∧ nS ≤ 60) : Met l yX4_readAny w_c_readAny2 ({ frames := 18, cells := 0, slots := 0, locals := 408 }) (va_Pc [.ref o0, .int 2] (fun U => U.heap = H0 ∧ va_K (dC, dI) vwCl (tyl kA) U ∧ EVC adK adV (gA G H0.size) U U.heap)) (va_Qi (fun (r : Int32) (u : Int32) => (0 ≤ u.toInt ∧ u.toInt ≤ 400) ∧ (0 ≤ r.toInt ∧ r.toInt ≤ 1) ∧ (a0.toInt ≤ u.toInt ∧ u.toInt ≤ tn.toInt)) (fun (a1 : Int32) (t : State) => gH (dC, dI) kA (SHc nC nS) G t.heap ∧ gF (dC, dI) SKc G ([(7, 12), (7, 13), (49, 0)] : List (Nat × Nat)) H0 t.heap ∧ el t.heap o0 (dI 7 13) = some (.int a1)) (gA G H0.size)) 0 0 (gA G H0.size) := by
  refine Met.ofW (cc := cX4_readAny) (maxL := 4) (ret := (some .boolean)) (by decide) rfl ?_
  intro p e s m args below meth c s₁ B hml hv
  obtain ⟨rfl, hH0, hK, hE⟩ := hv
  have hx := B.exec
  have hb := B.bytes
  have hr := B.returns
  have hts := atoms_spec (ws := w_c_readAny2) B.pre
  have hown : s.vm.findClass RX4 = some m.cls := findClass_of_methodNamed B.named
  have hlocks := B.notSynchronized
  subst hH0
  generalize hAe : gA G s.heap.size = A at hE ⊢
  have hA : ∀ q : Nat, s.heap.size ≤ q → A q := fun q h => by rw [← hAe]; exact Or.inr h
  have hG := gA_of hAe
  have hS : va_S A s.heap s.heap [] := va_S.rf
  have hF : gF (dC, dI) SKc G ([(7, 12), (7, 13), (49, 0)] : List (Nat × Nat)) s.heap s.heap := gF.rf
  have hl := lv_entry ([.ref o0, .int 2]) (n := 4) (Nat.le_of_ble_eq_true rfl)
  rw [lg_entry_eq]
  generalize (lg_sl ([.ref o0, .int 2]) ++ List.replicate (4 - (lg_sl ([.ref o0, .int 2])).length) Slot.unset).toArray = ls at hl ⊢
  have hl : lv_has ls 4 [(0, .ref o0), (1, .int 2)] := hl
  refine lv_aload_n hx hb dX4_readAny_0 rfl (lv_at hl 0 rfl) ?_
  refine lv_iload_n hx hb dX4_readAny_1 rfl (lv_at hl 1 rfl) ?_
  have hFc := gA_free hG hA hS
  refine va_calli (va_runV (As := [.int 2]) (rest := []) ⟨hx, hb, hml, hown, hts⟩ (c_readAll2 l dC dI kA adK adV G s.heap nC nS o0 th a0 tv ix_tv ix_tv hT hr_o0 hm_th hr_th hm_a0 (by have q8 := ti_all ix_tv; omega) (by have q8 := ti_all a0; omega) (by have := (show a0.toInt = a0.toInt from rfl); have := (show ix_tv.toInt = ix_tv.toInt from rfl); omega) (by have q9 := (show ix_tv.toInt = ix_tv.toInt from rfl); have := (show ix_tv.toInt = ix_tv.toInt from rfl); omega) hm_tv (by have q8 := ti_all tv; omega) (by omega) (by omega)) (cwV 1 hts (goodIn_app (goodIn_r _ [32, 33, 34, 15] rfl (by decide +kernel)) (goodIn_ca (goodIn_r _ [1, 2, 3, 4, 5, 1, 6, 7, 8, 9, 10, 11, 12, 13, 14, 15, 16, 17, 18, 19, 20, 21, 22, 23, 24, 25, 26, 27, 28, 29, 30, 31, 32, 33, 34, 35, 36, 37] rfl (by decide +kernel)) (bs2_in _ _))) rfl rfl rfl (by decide +kernel) ⟨(Nat.le_of_ble_eq_true rfl), (Nat.le_of_ble_eq_true rfl)⟩) ⟨fun a U g mk q => by obtain ⟨q0, q1, qK, qE⟩ := q; exact ⟨q0, q1, va_K.moved (u := U) (U := U.calling g mk a) (Vm.Alike.refl U.vm) qK, EVC.blind g mk a qE⟩, gH_rc hK hT hr_o0 shc_7 rfl, fun U hU hW => ⟨rfl, hU, va_K.moved hW.alike hK, hE.call hS hFc hU hW⟩⟩ rfl rfl hl.1 rfl (lv_room (Nat.le_of_ble_eq_true rfl)) dX4_readAny_2 ⟨(Nat.le_of_ble_eq_true rfl), (Nat.le_of_ble_eq_true rfl)⟩) hS (fun q _ h => hFc q h) hFc (fun r1 u t H locs ht hvm hw2 hB _ _ hS => ?_)
  obtain ⟨u3, rfl⟩ : ∃ z, z = u := ⟨_, rfl⟩
  obtain ⟨hT, hF1, m4⟩ := hB
  rw [ht] at hT hF1 m4
  have m5 := (hF1.fld hr_o0 skc_7 (k := 0) (by decide) (by decide)).trans hm_th
  have m7 := (el_kept (hF1.arr hr_th skc_40 (by decide))).trans hm_tv
  have hF := hF.more hF1 (by decide)
  try dsimp only at hw2
  obtain ⟨h8, h9, hf10⟩ := hw2
  refine lv_istore_n (lv' := [(2, .int r1), (0, .ref o0), (1, .int 2)]) hx hb dX4_readAny_5 rfl hl (by decide) rfl (fun ls hl => ?_)
  refine lv_iconst (v := 0) hx hb dX4_readAny_6 (by decide) ?_
  refine lv_istore_n (lv' := [(3, .int 0), (2, .int r1), (0, .ref o0), (1, .int 2)]) hx hb dX4_readAny_7 rfl hl (by decide) rfl (fun ls hl => ?_)
  have key53 : ∀ (n53 i11 : Nat), i11 + n53 = 400 → 0 ≤ i11 → ∀ (z12 : Int32), ∀ (z16 : Int32), ((0 ≤ z12.toInt ∧ z12.toInt ≤ 1) ∧ (0 ≤ z16.toInt ∧ z16.toInt ≤ 400) ∧ (a0.toInt ≤ z16.toInt ∧ z16.toInt ≤ tn.toInt)) → ∀ (H : Heap) (locs : List Loc), gH (dC, dI) kA (SHc nC nS) G H → gF (dC, dI) SKc G ([(7, 12), (7, 13), (49, 0)] : List (Nat × Nat)) s.heap H → va_S A s.heap H locs → el H o0 (dI 7 0) = some (.ref th) → el H th ix_tv.toNatClampNeg = some (.int tv) → el H o0 (dI 7 13) = some (.int z16) → ∀ ls : Array Slot, lv_has ls 4 [(3, .int (nI i11)), (2, .int z12), (0, .ref o0), (1, .int 2)] → W p l e (headSpec w_c_readAny2 ({ frames := 18, cells := 0, slots := 0, locals := 408 })).room s m #[.ref o0, .int 2] below meth c H locs 0 0 (MQ below (va_Qi (fun (r : Int32) (u : Int32) => (0 ≤ u.toInt ∧ u.toInt ≤ 400) ∧ (0 ≤ r.toInt ∧ r.toInt ≤ 1) ∧ (a0.toInt ≤ u.toInt ∧ u.toInt ≤ tn.toInt)) (fun (a1 : Int32) (t : State) => gH (dC, dI) kA (SHc nC nS) G t.heap ∧ gF (dC, dI) SKc G ([(7, 12), (7, 13), (49, 0)] : List (Nat × Nat)) s.heap t.heap ∧ el t.heap o0 (dI 7 13) = some (.int a1)) A) #[.ref o0, .int 2] s 0 0 A) (F0 m 8 ls []) := by
    intro n53
    induction n53 with
    | zero =>
      intro i11 hn53 hlo54 z12 z16 ⟨h13, h17, hj19⟩ H locs hT hF hS m14 m15 m18 ls hl
      obtain rfl : 400 = i11 := by omega
      refine lv_iload_n hx hb dX4_readAny_8 rfl (lv_at hl 0 rfl) ?_
      refine lv_sipush (v := 400) hx hb dX4_readAny_9 (by decide) ?_
      refine lv_icmp_ge (tgt := 46) hx hb dX4_readAny_12 (by decide) (fun c55 => ?_) (fun c55 => (by exfalso; have q9 : ((400 : Nat) : Int) < 400 := ti_nle c55 (by decide) (nI_toInt (by omega)); omega))
      have t56 : 400 ≤ ((400 : Nat) : Int) := ti_le c55 (by decide) (nI_toInt (by omega))
      refine lv_iload_n hx hb dX4_readAny_46 rfl (lv_at hl 1 rfl) ?_
      exact W.zret (v := z12) hx hb hr (nar_b (by have q8 := ti_all z12; omega)) (fun t ht hW => ⟨⟨z12, z16, rfl, (by exact ⟨(by have q8 := ti_all z16; omega), (by have q8 := ti_all z12; omega), (by omega)⟩), by (try dsimp only); rw [ht]; exact ⟨hT, hF, m18⟩⟩, hS.F ht⟩) hS.2.2 dX4_readAny_47
    | succ n53 ih53 =>
      intro i11 hn53 hlo54 z12 z16 ⟨h13, h17, hj19⟩ H locs hT hF hS m14 m15 m18 ls hl
      have hlt56 : i11 < 400 := by omega
      refine lv_iload_n hx hb dX4_readAny_8 rfl (lv_at hl 0 rfl) ?_
      refine lv_sipush (v := 400) hx hb dX4_readAny_9 (by decide) ?_
      refine lv_icmp_ge (tgt := 46) hx hb dX4_readAny_12 (by decide) (fun c57 => (by exfalso; have q9 : 400 ≤ ((i11 : Nat) : Int) := ti_le c57 (by decide) (nI_toInt (by omega)); omega)) (fun c57 => ?_)
      have t58 : ((i11 : Nat) : Int) < 400 := ti_nle c57 (by decide) (nI_toInt (by omega))
      refine lv_iload_n hx hb dX4_readAny_15 rfl (lv_at hl 1 rfl) ?_
      refine lv_if_eq (tgt := 46) hx hb dX4_readAny_16 (by decide) (fun c59 => ?_) (fun c59 => ?_)
      · have t60 : z12.toInt = 0 := ti_eq c59 rfl (by decide)
        refine lv_iload_n hx hb dX4_readAny_46 rfl (lv_at hl 1 rfl) ?_
        exact W.zret (v := z12) hx hb hr (nar_b (by have q8 := ti_all z12; omega)) (fun t ht hW => ⟨⟨z12, z16, rfl, (by exact ⟨(by have q8 := ti_all z16; omega), (by have q8 := ti_all z12; omega), (by omega)⟩), by (try dsimp only); rw [ht]; exact ⟨hT, hF, m18⟩⟩, hS.F ht⟩) hS.2.2 dX4_readAny_47
      · have t61 : z12.toInt ≠ 0 := ti_ne c59 rfl (by decide)
        refine lv_aload_n hx hb dX4_readAny_19 rfl (lv_at hl 2 rfl) ?_
        refine lv_bipush (v := 15) hx hb dX4_readAny_20 (by decide) ?_
        have hFc := gA_free hG hA hS
        refine va_calli (va_runV (As := [.int 15]) (rest := []) ⟨hx, hb, hml, hown, hts⟩ (c_take l dC dI kA adK adV G H nC nS o0 15 th z16 tv ix_tv ix_tv hT hr_o0 m14 hr_th m18 (by have q8 := ti_all ix_tv; omega) (by have q8 := ti_all z16; omega) (by have := (show z16.toInt = z16.toInt from rfl); have := (show ix_tv.toInt = ix_tv.toInt from rfl); omega) (by have := (show (15 : Int32).toInt = 15 from (by decide)); omega) (by have q9 := (show ix_tv.toInt = ix_tv.toInt from rfl); have := (show ix_tv.toInt = ix_tv.toInt from rfl); omega) m15 (by have q8 := ti_all tv; omega) (by omega) (by omega)) (cwV 1 hts (goodIn_app (goodIn_r _ [20, 21, 22, 15] rfl (by decide +kernel)) (goodIn_ca (goodIn_r _ [19, 3, 4] rfl (by decide +kernel)) (bs2_in _ _))) rfl rfl rfl (by decide +kernel) ⟨(Nat.le_of_ble_eq_true rfl), (Nat.le_of_ble_eq_true rfl)⟩) ⟨fun a U g mk q => by obtain ⟨q0, q1, qK, qE⟩ := q; exact ⟨q0, q1, va_K.moved (u := U) (U := U.calling g mk a) (Vm.Alike.refl U.vm) qK, EVC.blind g mk a qE⟩, gH_rc hK hT hr_o0 shc_7 rfl, fun U hU hW => ⟨rfl, hU, va_K.moved hW.alike hK, hE.call hS hFc hU hW⟩⟩ rfl rfl hl.1 rfl (lv_room (Nat.le_of_ble_eq_true rfl)) dX4_readAny_22 ⟨(Nat.le_of_ble_eq_true rfl), (Nat.le_of_ble_eq_true rfl)⟩) hS (fun q _ h => hFc q h) hFc (fun r62 u t H locs ht hvm hw63 hB _ _ hS => ?_)
        obtain ⟨u64, rfl⟩ : ∃ z, z = u := ⟨_, rfl⟩
        obtain ⟨hT, hF1, m65⟩ := hB
        rw [ht] at hT hF1 m65
        have m66 := (hF1.fld hr_o0 skc_7 (k := 0) (by decide) (by decide)).trans m14
        have m67 := (el_kept (hF1.arr hr_th skc_40 (by decide))).trans m15
        have hF := hF.more hF1 (by decide)
        try dsimp only at hw63
        obtain ⟨h69, h70, hf71⟩ := hw63
        refine lv_if_eq (tgt := 46) hx hb dX4_readAny_25 (by decide) (fun c72 => ?_) (fun c72 => ?_)
        · have t73 : r62.toInt = 0 := ti_eq c72 rfl (by decide)
          refine lv_iload_n hx hb dX4_readAny_46 rfl (lv_at hl 1 rfl) ?_
          exact W.zret (v := z12) hx hb hr (nar_b (by have q8 := ti_all z12; omega)) (fun t ht hW => ⟨⟨z12, u64, rfl, (by exact ⟨(by have q8 := ti_all u64; omega), (by have q8 := ti_all z12; omega), (by omega)⟩), by (try dsimp only); rw [ht]; exact ⟨hT, hF, m65⟩⟩, hS.F ht⟩) hS.2.2 dX4_readAny_47
        · have t74 : r62.toInt ≠ 0 := ti_ne c72 rfl (by decide)
          refine lv_aload_n hx hb dX4_readAny_28 rfl (lv_at hl 2 rfl) ?_
          refine lv_iload_n hx hb dX4_readAny_29 rfl (lv_at hl 3 rfl) ?_
          have hFc := gA_free hG hA hS
          refine va_calli (va_runV (As := [.int 2]) (rest := []) ⟨hx, hb, hml, hown, hts⟩ (c_readAll2 l dC dI kA adK adV G H nC nS o0 th u64 tv ix_tv ix_tv hT hr_o0 m66 hr_th m65 (by have q8 := ti_all ix_tv; omega) (by have q8 := ti_all u64; omega) (by have := (show u64.toInt = u64.toInt from rfl); have := (show ix_tv.toInt = ix_tv.toInt from rfl); omega) (by have q9 := (show ix_tv.toInt = ix_tv.toInt from rfl); have := (show ix_tv.toInt = ix_tv.toInt from rfl); omega) m67 (by have q8 := ti_all tv; omega) (by omega) (by omega)) (cwV 1 hts (goodIn_app (goodIn_r _ [32, 33, 34, 15] rfl (by decide +kernel)) (goodIn_ca (goodIn_r _ [1, 2, 3, 4, 5, 1, 6, 7, 8, 9, 10, 11, 12, 13, 14, 15, 16, 17, 18, 19, 20, 21, 22, 23, 24, 25, 26, 27, 28, 29, 30, 31, 32, 33, 34, 35, 36, 37] rfl (by decide +kernel)) (bs2_in _ _))) rfl rfl rfl (by decide +kernel) ⟨(Nat.le_of_ble_eq_true rfl), (Nat.le_of_ble_eq_true rfl)⟩) ⟨fun a U g mk q => by obtain ⟨q0, q1, qK, qE⟩ := q; exact ⟨q0, q1, va_K.moved (u := U) (U := U.calling g mk a) (Vm.Alike.refl U.vm) qK, EVC.blind g mk a qE⟩, gH_rc hK hT hr_o0 shc_7 rfl, fun U hU hW => ⟨rfl, hU, va_K.moved hW.alike hK, hE.call hS hFc hU hW⟩⟩ rfl rfl hl.1 rfl (lv_room (Nat.le_of_ble_eq_true rfl)) dX4_readAny_30 ⟨(Nat.le_of_ble_eq_true rfl), (Nat.le_of_ble_eq_true rfl)⟩) hS (fun q _ h => hFc q h) hFc (fun r75 u t H locs ht hvm hw76 hB _ _ hS => ?_)
          obtain ⟨u77, rfl⟩ : ∃ z, z = u := ⟨_, rfl⟩
          obtain ⟨hT, hF1, m78⟩ := hB
          rw [ht] at hT hF1 m78
          have m79 := (hF1.fld hr_o0 skc_7 (k := 0) (by decide) (by decide)).trans m66
          have m80 := (el_kept (hF1.arr hr_th skc_40 (by decide))).trans m67
          have hF := hF.more hF1 (by decide)
          try dsimp only at hw76
          obtain ⟨h82, h83, hf84⟩ := hw76
          refine lv_istore_n (lv' := [(2, .int r75), (3, .int (nI i11)), (0, .ref o0), (1, .int 2)]) hx hb dX4_readAny_33 rfl hl (by decide) rfl (fun ls hl => ?_)
          refine lv_aload_n hx hb dX4_readAny_34 rfl (lv_at hl 2 rfl) ?_
          refine lv_bipush (v := 15) hx hb dX4_readAny_35 (by decide) ?_
          have hFc := gA_free hG hA hS
          refine va_callv (va_runV (As := [.int 15]) (rest := []) ⟨hx, hb, hml, hown, hts⟩ (c_addStep l dC dI kA adK adV G H nC nS o0 15 hT hr_o0 (rg_t (a := 15) (by decide) (by first | decide | omega) (by first | decide | omega)) (by omega) (by omega)) (cwV 1 hts (goodIn_app (goodIn_r _ [12, 13, 14, 15] rfl (by decide +kernel)) (goodIn_ca (goodIn_r _ [9, 10, 11] rfl (by decide +kernel)) (bs2_in _ _))) rfl rfl rfl (by decide +kernel) ⟨(Nat.le_of_ble_eq_true rfl), (Nat.le_of_ble_eq_true rfl)⟩) ⟨fun a U g mk q => by obtain ⟨q0, q1, qK, qE⟩ := q; exact ⟨q0, q1, va_K.moved (u := U) (U := U.calling g mk a) (Vm.Alike.refl U.vm) qK, EVC.blind g mk a qE⟩, gH_rc hK hT hr_o0 shc_7 rfl, fun U hU hW => ⟨rfl, hU, va_K.moved hW.alike hK, hE.call hS hFc hU hW⟩⟩ rfl rfl hl.1 rfl (lv_room (Nat.le_of_ble_eq_true rfl)) dX4_readAny_37 ⟨(Nat.le_of_ble_eq_true rfl), (Nat.le_of_ble_eq_true rfl)⟩) hS (fun q _ h => hFc q h) hFc (fun u t H locs ht hvm hw86 hB _ _ hS => ?_)
          obtain ⟨hT, hF1⟩ := hB
          rw [ht] at hT hF1
          have m87 := (hF1.fld hr_o0 skc_7 (k := 0) (by decide) (by decide)).trans m79
          have m88 := (el_kept (hF1.arr hr_th skc_40 (by decide))).trans m80
          have m89 := (hF1.fld hr_o0 skc_7 (k := 13) (by decide) (by decide)).trans m78
          have hF := hF.more hF1 (by decide)
          try dsimp only at hw86
          refine lv_iinc (v := nI (i11 + 1)) (lv' := [(3, .int (nI (i11 + 1))), (2, .int r75), (0, .ref o0), (1, .int 2)]) hx hb dX4_readAny_40 hl (k := 1) rfl (nI_add i11 1) (by decide) rfl (fun ls hl => ?_)
          refine lv_goto (tgt := 8) hx hb dX4_readAny_43 (by decide) ?_
          exact ih53 (i11 + 1) (by omega) (by omega) r75 u77 ⟨(by have q8 := ti_all r75; omega), (by have q8 := ti_all u77; omega), (by have := hx_tv; have := (show u77.toInt = u77.toInt from rfl); omega)⟩ _ _ hT hF hS m87 m88 m89 ls (lv_sub hl [0, 1, 2, 3] rfl)
  exact key53 (400 - 0) 0 (by omega) (Nat.le_refl _) r1 u3 ⟨(by have q8 := ti_all r1; omega), (by have q8 := ti_all u3; omega), (by have := hx_tv; have := (show u3.toInt = u3.toInt from rfl); omega)⟩ _ _ hT hF hS m5 m7 m4 ls (lv_sub hl [0, 1, 2, 3] rfl)
def w_c_readAtom1 : List Cond := .code yX4_readAtom cX4_readAtom 4 (some .boolean) :: (HAppend.hAppend (α := List Cond) (β := List Cond) (γ := List Cond) [.fieldLink RX4 11 "SeaLand$Law" "things" "[I", .fieldLink RX4 56 "SeaLand$Law" "at" "I", .code yX4_readAny cX4_readAny 4 (some .boolean), .code yX4_readAll cX4_readAll 4 (some .boolean), .code yX4_readAtom cX4_readAtom 4 (some .boolean), .code yX4_readComparison cX4_readComparison 3 (some .boolean), .code yX4_readSum cX4_readSum 3 (some .boolean), .code yX4_readPart cX4_readPart 2 (some .boolean), .code yX4_addStep cX4_addStep 2 none, .fieldLink RX4 63 "SeaLand$Law" "stepped" "I", .fieldLink RX4 39 "SeaLand$Law" "steps" "[I", .methodLink RX4 179 yX4_addStep, .instanceMethod yX4_addStep, .selects RX4 yX4_addStep yX4_addStep, .initialized RX4, .methodLink RX4 192 yX4_readPart, .instanceMethod yX4_readPart, .selects RX4 yX4_readPart yX4_readPart, .code yX4_take cX4_take 2 (some .boolean), .methodLink RX4 70 yX4_take, .instanceMethod yX4_take, .selects RX4 yX4_take yX4_take, .methodLink RX4 189 yX4_readSum, .instanceMethod yX4_readSum, .selects RX4 yX4_readSum yX4_readSum, .methodLink RX4 186 yX4_readComparison, .instanceMethod yX4_readComparison, .selects RX4 yX4_readComparison yX4_readComparison, .methodLink RX4 183 yX4_readAtom, .instanceMethod yX4_readAtom, .selects RX4 yX4_readAtom yX4_readAtom, .methodLink RX4 176 yX4_readAll, .instanceMethod yX4_readAll, .selects RX4 yX4_readAll yX4_readAll, .methodLink RX4 173 yX4_readAny, .instanceMethod yX4_readAny, .selects RX4 yX4_readAny yX4_readAny] bs2)
set_option maxHeartbeats 4000000 in
set_option maxRecDepth 100000 in
theorem c_readAtom1 (l : Launch) (dC : Nat → ClassId) (dI : Nat → Nat → Nat) (kA : Nat → ClassId) (adK adV : Nat → Nat) (G : gT) (H0 : Heap) (nC nS : Int) (o0 : Nat) (th : Nat) (a0 : Int32) (tv ix_tv : Int32) (tn : Int32) (hT : gH (dC, dI) kA (SHc nC nS) G H0) (hr_o0 : G o0 = some 7) (hm_th : el H0 o0 (dI 7 0) = some (.ref th)) (hr_th : G th = some 40) (hm_a0 : el H0 o0 (dI 7 13) = some (.int a0)) (hq0 : 0 ≤ tn.toInt ∧ tn.toInt ≤ 400) (hq1 : 0 ≤ a0.toInt ∧ a0.toInt ≤ 400) (hat : a0.toInt ≤ tn.toInt) (hx_tv : ix_tv.toInt = tn.toInt) (hm_tv : el H0 th ix_tv.toNatClampNeg = some (.int tv)) (hv_tv : 21 ≤ tv.toInt ∧ tv.toInt ≤ 21) (hgC : 0 ≤ nC ∧ nC ≤ 40) (hgS : 0 ≤ nS ∧ nS ≤ 60) : Met l yX4_readAtom w_c_readAtom1 ({ frames := 19, cells := 0, slots := 0, locals := 431 }) (va_Pc [.ref o0, .int 1] (fun U => U.heap = H0 ∧ va_K (dC, dI) vwCl (tyl kA) U ∧ EVC adK adV (gA G H0.size) U U.heap)) (va_Qi (fun (r : Int32) (u : Int32) => (0 ≤ u.toInt ∧ u.toInt ≤ 400) ∧ (0 ≤ r.toInt ∧ r.toInt ≤ 1) ∧ (a0.toInt ≤ u.toInt ∧ u.toInt ≤ tn.toInt)) (fun (a1 : Int32) (t : State) => gH (dC, dI) kA (SHc nC nS) G t.heap ∧ gF (dC, dI) SKc G ([(7, 12), (7, 13), (49, 0)] : List (Nat × Nat)) H0 t.heap ∧ el t.heap o0 (dI 7 13) = some (.int a1)) (gA G H0.size)) 0 0 (gA G H0.size) := by
  refine Met.ofW (cc := cX4_readAtom) (maxL := 4) (ret := (some .boolean)) (by decide) rfl ?_
  intro p e s m args below meth c s₁ B hml hv
  obtain ⟨rfl, hH0, hK, hE⟩ := hv
  have hx := B.exec
  have hb := B.bytes
  have hr := B.returns
  have hts := atoms_spec (ws := w_c_readAtom1) B.pre
  have hown : s.vm.findClass RX4 = some m.cls := findClass_of_methodNamed B.named
  have hlocks := B.notSynchronized
  subst hH0
  generalize hAe : gA G s.heap.size = A at hE ⊢
  have hA : ∀ q : Nat, s.heap.size ≤ q → A q := fun q h => by rw [← hAe]; exact Or.inr h
  have hG := gA_of hAe
  have hS : va_S A s.heap s.heap [] := va_S.rf
  have hF : gF (dC, dI) SKc G ([(7, 12), (7, 13), (49, 0)] : List (Nat × Nat)) s.heap s.heap := gF.rf
  have hl := lv_entry ([.ref o0, .int 1]) (n := 4) (Nat.le_of_ble_eq_true rfl)
  rw [lg_entry_eq]
  generalize (lg_sl ([.ref o0, .int 1]) ++ List.replicate (4 - (lg_sl ([.ref o0, .int 1])).length) Slot.unset).toArray = ls at hl ⊢
  have hl : lv_has ls 4 [(0, .ref o0), (1, .int 1)] := hl
  refine lv_aload_n hx hb dX4_readAtom_0 rfl (lv_at hl 0 rfl) ?_
  refine tw_getM (v := .ref th) hx hb hts bF2_X4 hown hK hT hr_o0 shc_7 rfl 0 (by decide) (ht_at2 hts 0 rfl) (fun _ h9 => h9) hm_th dX4_readAtom_1 ?_
  refine lv_aload_n hx hb dX4_readAtom_4 rfl (lv_at hl 0 rfl) ?_
  refine tw_getM (v := .int a0) hx hb hts bF2_X4 hown hK hT hr_o0 shc_7 rfl 13 (by decide) (ht_at2 hts 1 rfl) (fun _ h9 => h9) hm_a0 dX4_readAtom_5 ?_
  refine tw_iald (i := a0) hx hb hK hT hr_th shc_40 rfl (vin_t (a := a0.toInt) rfl (by omega) (by omega)) dX4_readAtom_8 (fun v9 m1 h9 => ?_)
  obtain ⟨x2, rfl, gx2, kx2⟩ := h9
  have t3 : a0.toInt = ix_tv.toInt → x2.toInt = tv.toInt := fun h8 => congrArg Int32.toInt (el_same m1 hm_tv h8)
  refine lv_bipush (v := 13) hx hb dX4_readAtom_9 (by decide) ?_
  have t4 : -2147483648 ≤ x2.toInt ∧ x2.toInt ≤ 2147483647 := ti_all x2
  refine lv_icmp_ne (tgt := 18) hx hb dX4_readAtom_11 (by decide) (fun c5 => ?_) (fun c5 => ?_)
  · have t6 : x2.toInt ≠ 13 := ti_ne c5 rfl (by decide)
    refine lv_iconst (v := 0) hx hb dX4_readAtom_18 (by decide) ?_
    refine lv_istore_n (lv' := [(2, .int 0), (0, .ref o0), (1, .int 1)]) hx hb dX4_readAtom_19 rfl hl (by decide) rfl (fun ls hl => ?_)
    refine lv_iload_n hx hb dX4_readAtom_20 rfl (lv_at hl 0 rfl) ?_
    refine lv_if_ne (tgt := 43) hx hb dX4_readAtom_21 (by decide) (fun c7 => absurd c7 (by decide)) (fun c7 => ?_)
    refine lv_aload_n hx hb dX4_readAtom_24 rfl (lv_at hl 1 rfl) ?_
    refine tw_getM (v := .ref th) hx hb hts bF2_X4 hown hK hT hr_o0 shc_7 rfl 0 (by decide) (ht_at2 hts 0 rfl) (fun _ h9 => h9) hm_th dX4_readAtom_25 ?_
    refine lv_aload_n hx hb dX4_readAtom_28 rfl (lv_at hl 1 rfl) ?_
    refine tw_getM (v := .int a0) hx hb hts bF2_X4 hown hK hT hr_o0 shc_7 rfl 13 (by decide) (ht_at2 hts 1 rfl) (fun _ h9 => h9) hm_a0 dX4_readAtom_29 ?_
    refine tw_iald (i := a0) hx hb hK hT hr_th shc_40 rfl (vin_t (a := a0.toInt) rfl (by omega) (by omega)) dX4_readAtom_32 (fun v9 m8 h9 => ?_)
    obtain ⟨x9, rfl, gx9, kx9⟩ := h9
    have t10 : a0.toInt = ix_tv.toInt → x9.toInt = tv.toInt := fun h8 => congrArg Int32.toInt (el_same m8 hm_tv h8)
    obtain rfl : x2 = x9 := (el_same m8 m1 rfl).symm
    refine lv_bipush (v := 16) hx hb dX4_readAtom_33 (by decide) ?_
    refine lv_icmp_eq (tgt := 43) hx hb dX4_readAtom_35 (by decide) (fun c11 => ?_) (fun c11 => ?_)
    · have t12 : x2.toInt = 16 := ti_eq c11 rfl (by decide)
      refine lv_iload_n hx hb dX4_readAtom_43 rfl (lv_at hl 2 rfl) ?_
      refine lv_bipush (v := 6) hx hb dX4_readAtom_44 (by decide) ?_
      refine lv_icmp_lt (tgt := 51) hx hb dX4_readAtom_46 (by decide) (fun c13 => ?_) (fun c13 => absurd c13 (by decide))
      refine lv_aload_n hx hb dX4_readAtom_51 rfl (lv_at hl 1 rfl) ?_
      refine lv_dup hx hb dX4_readAtom_52 rfl ?_
      refine tw_getM (v := .int a0) hx hb hts bF2_X4 hown hK hT hr_o0 shc_7 rfl 13 (by decide) (ht_at2 hts 1 rfl) (fun _ h9 => h9) hm_a0 dX4_readAtom_53 ?_
      refine lv_iconst (v := 1) hx hb dX4_readAtom_56 (by decide) ?_
      refine lv_iadd hx hb dX4_readAtom_57 ?_
      refine lv_topi (fun x14 ex14 => ?_)
      have t15 : x14.toInt = a0.toInt + 1 := ti_add ex14 rfl (by decide) (by omega) (by omega)
      refine tw_put (v := .int x14) (ty := .int) hx hb hts bF2_X4 tyX4 tyX4_ok nmX4 hown hK hT hG hS hr_o0 shc_7 rfl 13 (by decide) (ht_at2 hts 1 rfl) (fun _ h9 => h9) rfl (by decide +kernel) rfl rfl (gl_at rfl (gi_of (show x14.toInt = x14.toInt from rfl) (by omega) (by omega))) dX4_readAtom_58 (fun H locs hT oq m16 oj hS => ?_)
      have hF := hF.put hr_o0 skc_7 oq oj (by decide)
      have m17 := (oj 0 (by decide) (by decide)).trans hm_th
      have m18 := (el_kept (oq _ (gne hr_th hr_o0 (by decide)))).trans hm_tv
      refine lv_iload_n hx hb dX4_readAtom_61 rfl (lv_at hl 0 rfl) ?_
      refine lv_if_eq (tgt := 81) hx hb dX4_readAtom_62 (by decide) (fun c20 => ?_) (fun c20 => absurd c20 (by decide))
      refine lv_aload_n hx hb dX4_readAtom_81 rfl (lv_at hl 1 rfl) ?_
      refine lv_iload_n hx hb dX4_readAtom_82 rfl (lv_at hl 2 rfl) ?_
      refine lv_iconst (v := 1) hx hb dX4_readAtom_83 (by decide) ?_
      refine lv_iadd hx hb dX4_readAtom_84 ?_
      refine lv_topi (fun x21 ex21 => ?_)
      obtain rfl : x21 = 2 := ex21.trans (by decide)
      have hFc := gA_free hG hA hS
      refine va_calli (va_runV (As := [.int 2]) (rest := []) ⟨hx, hb, hml, hown, hts⟩ (c_readAny2 l dC dI kA adK adV G H nC nS o0 th x14 tv ix_tv ix_tv hT hr_o0 m17 hr_th m16 (by have q8 := ti_all ix_tv; omega) (by have q8 := ti_all x14; omega) (by have := (show x14.toInt = x14.toInt from rfl); have := (show ix_tv.toInt = ix_tv.toInt from rfl); omega) (by have q9 := (show ix_tv.toInt = ix_tv.toInt from rfl); have := (show ix_tv.toInt = ix_tv.toInt from rfl); omega) m18 (by have q8 := ti_all tv; omega) (by omega) (by omega)) (cwV 1 hts (goodIn_app (goodIn_r _ [35, 36, 37, 15] rfl (by decide +kernel)) (goodIn_ca (goodIn_r _ [3, 4, 5, 1, 2, 3, 6, 7, 8, 9, 10, 11, 12, 13, 14, 15, 16, 17, 18, 19, 20, 21, 22, 23, 24, 25, 26, 27, 28, 29, 30, 31, 32, 33, 34, 35, 36, 37] rfl (by decide +kernel)) (bs2_in _ _))) rfl rfl rfl (by decide +kernel) ⟨(Nat.le_of_ble_eq_true rfl), (Nat.le_of_ble_eq_true rfl)⟩) ⟨fun a U g mk q => by obtain ⟨q0, q1, qK, qE⟩ := q; exact ⟨q0, q1, va_K.moved (u := U) (U := U.calling g mk a) (Vm.Alike.refl U.vm) qK, EVC.blind g mk a qE⟩, gH_rc hK hT hr_o0 shc_7 rfl, fun U hU hW => ⟨rfl, hU, va_K.moved hW.alike hK, hE.call hS hFc hU hW⟩⟩ rfl rfl hl.1 rfl (lv_room (Nat.le_of_ble_eq_true rfl)) dX4_readAtom_85 ⟨(Nat.le_of_ble_eq_true rfl), (Nat.le_of_ble_eq_true rfl)⟩) hS (fun q _ h => hFc q h) hFc (fun r22 u t H locs ht hvm hw23 hB _ _ hS => ?_)
      obtain ⟨u24, rfl⟩ : ∃ z, z = u := ⟨_, rfl⟩
      obtain ⟨hT, hF1, m25⟩ := hB
      rw [ht] at hT hF1 m25
      have m26 := (hF1.fld hr_o0 skc_7 (k := 0) (by decide) (by decide)).trans m17
      have m27 := (el_kept (hF1.arr hr_th skc_40 (by decide))).trans m18
      have hF := hF.more hF1 (by decide)
      try dsimp only at hw23
      obtain ⟨h30, h31, hf32⟩ := hw23
      refine lv_if_eq (tgt := 104) hx hb dX4_readAtom_88 (by decide) (fun c33 => ?_) (fun c33 => ?_)
      · have t34 : r22.toInt = 0 := ti_eq c33 rfl (by decide)
        refine lv_iconst (v := 0) hx hb dX4_readAtom_104 (by decide) ?_
        exact W.zret (v := 0) hx hb hr (by decide) (fun t ht hW => ⟨⟨0, u24, rfl, (by exact ⟨(by have q8 := ti_all u24; omega), (rg_t (a := 0) (by decide) (by first | decide | omega) (by first | decide | omega)), (by omega)⟩), by (try dsimp only); rw [ht]; exact ⟨hT, hF, m25⟩⟩, hS.F ht⟩) hS.2.2 dX4_readAtom_105
      · have t35 : r22.toInt ≠ 0 := ti_ne c33 rfl (by decide)
        refine lv_aload_n hx hb dX4_readAtom_91 rfl (lv_at hl 1 rfl) ?_
        refine lv_bipush (v := 17) hx hb dX4_readAtom_92 (by decide) ?_
        have hFc := gA_free hG hA hS
        refine va_calli (va_runV (As := [.int 17]) (rest := []) ⟨hx, hb, hml, hown, hts⟩ (c_take l dC dI kA adK adV G H nC nS o0 17 th u24 tv ix_tv ix_tv hT hr_o0 m26 hr_th m25 (by have q8 := ti_all ix_tv; omega) (by have q8 := ti_all u24; omega) (by have := (show u24.toInt = u24.toInt from rfl); have := (show ix_tv.toInt = ix_tv.toInt from rfl); omega) (by have := (show (17 : Int32).toInt = 17 from (by decide)); omega) (by have q9 := (show ix_tv.toInt = ix_tv.toInt from rfl); have := (show ix_tv.toInt = ix_tv.toInt from rfl); omega) m27 (by have q8 := ti_all tv; omega) (by omega) (by omega)) (cwV 1 hts (goodIn_app (goodIn_r _ [20, 21, 22, 15] rfl (by decide +kernel)) (goodIn_ca (goodIn_r _ [19, 1, 2] rfl (by decide +kernel)) (bs2_in _ _))) rfl rfl rfl (by decide +kernel) ⟨(Nat.le_of_ble_eq_true rfl), (Nat.le_of_ble_eq_true rfl)⟩) ⟨fun a U g mk q => by obtain ⟨q0, q1, qK, qE⟩ := q; exact ⟨q0, q1, va_K.moved (u := U) (U := U.calling g mk a) (Vm.Alike.refl U.vm) qK, EVC.blind g mk a qE⟩, gH_rc hK hT hr_o0 shc_7 rfl, fun U hU hW => ⟨rfl, hU, va_K.moved hW.alike hK, hE.call hS hFc hU hW⟩⟩ rfl rfl hl.1 rfl (lv_room (Nat.le_of_ble_eq_true rfl)) dX4_readAtom_94 ⟨(Nat.le_of_ble_eq_true rfl), (Nat.le_of_ble_eq_true rfl)⟩) hS (fun q _ h => hFc q h) hFc (fun r36 u t H locs ht hvm hw37 hB _ _ hS => ?_)
        obtain ⟨u38, rfl⟩ : ∃ z, z = u := ⟨_, rfl⟩
        obtain ⟨hT, hF1, m39⟩ := hB
        rw [ht] at hT hF1 m39
        have hF := hF.more hF1 (by decide)
        try dsimp only at hw37
        obtain ⟨h44, h45, hf46⟩ := hw37
        refine lv_if_eq (tgt := 104) hx hb dX4_readAtom_97 (by decide) (fun c47 => ?_) (fun c47 => ?_)
        · have t48 : r36.toInt = 0 := ti_eq c47 rfl (by decide)
          refine lv_iconst (v := 0) hx hb dX4_readAtom_104 (by decide) ?_
          exact W.zret (v := 0) hx hb hr (by decide) (fun t ht hW => ⟨⟨0, u38, rfl, (by exact ⟨(by have q8 := ti_all u38; omega), (rg_t (a := 0) (by decide) (by first | decide | omega) (by first | decide | omega)), (by omega)⟩), by (try dsimp only); rw [ht]; exact ⟨hT, hF, m39⟩⟩, hS.F ht⟩) hS.2.2 dX4_readAtom_105
        · have t49 : r36.toInt ≠ 0 := ti_ne c47 rfl (by decide)
          refine lv_iconst (v := 1) hx hb dX4_readAtom_100 (by decide) ?_
          refine lv_goto (tgt := 105) hx hb dX4_readAtom_101 (by decide) ?_
          exact W.zret (v := 1) hx hb hr (by decide) (fun t ht hW => ⟨⟨1, u38, rfl, (by exact ⟨(by have q8 := ti_all u38; omega), (rg_t (a := 1) (by decide) (by first | decide | omega) (by first | decide | omega)), (by omega)⟩), by (try dsimp only); rw [ht]; exact ⟨hT, hF, m39⟩⟩, hS.F ht⟩) hS.2.2 dX4_readAtom_105
    · have t50 : x2.toInt ≠ 16 := ti_ne c11 rfl (by decide)
      refine lv_aload_n hx hb dX4_readAtom_38 rfl (lv_at hl 1 rfl) ?_
      have hFc := gA_free hG hA hS
      refine va_calli (va_runV (As := []) (rest := []) ⟨hx, hb, hml, hown, hts⟩ (c_readComparison l dC dI kA adK adV G s.heap nC nS o0 th a0 tv ix_tv ix_tv hT hr_o0 hm_th hr_th hm_a0 (by have q8 := ti_all ix_tv; omega) (by have q8 := ti_all a0; omega) (by have := (show a0.toInt = a0.toInt from rfl); have := (show ix_tv.toInt = ix_tv.toInt from rfl); omega) (by have q9 := (show ix_tv.toInt = ix_tv.toInt from rfl); have := (show ix_tv.toInt = ix_tv.toInt from rfl); omega) hm_tv (by have q8 := ti_all tv; omega) (by omega) (by omega)) (cwV 0 hts (goodIn_app (goodIn_r _ [26, 27, 28, 15] rfl (by decide +kernel)) (goodIn_ca (goodIn_r _ [6, 7, 8, 1, 2, 9, 10, 11, 12, 13, 14, 15, 16, 17, 18, 19, 20, 21, 22, 23, 24, 25] rfl (by decide +kernel)) (bs2_in _ _))) rfl rfl rfl (by decide +kernel) ⟨(Nat.le_of_ble_eq_true rfl), (Nat.le_of_ble_eq_true rfl)⟩) ⟨fun a U g mk q => by obtain ⟨q0, q1, qK, qE⟩ := q; exact ⟨q0, q1, va_K.moved (u := U) (U := U.calling g mk a) (Vm.Alike.refl U.vm) qK, EVC.blind g mk a qE⟩, gH_rc hK hT hr_o0 shc_7 rfl, fun U hU hW => ⟨rfl, hU, va_K.moved hW.alike hK, hE.call hS hFc hU hW⟩⟩ rfl rfl hl.1 rfl (lv_room (Nat.le_of_ble_eq_true rfl)) dX4_readAtom_39 ⟨(Nat.le_of_ble_eq_true rfl), (Nat.le_of_ble_eq_true rfl)⟩) hS (fun q _ h => hFc q h) hFc (fun r51 u t H locs ht hvm hw52 hB _ _ hS => ?_)
      obtain ⟨u53, rfl⟩ : ∃ z, z = u := ⟨_, rfl⟩
      obtain ⟨hT, hF1, m54⟩ := hB
      rw [ht] at hT hF1 m54
      have hF := hF.more hF1 (by decide)
      try dsimp only at hw52
      obtain ⟨h59, h60, hf61⟩ := hw52
      exact W.zret (v := r51) hx hb hr (nar_b (by have q8 := ti_all r51; omega)) (fun t ht hW => ⟨⟨r51, u53, rfl, (by exact ⟨(by have q8 := ti_all u53; omega), (by have q8 := ti_all r51; omega), (by omega)⟩), by (try dsimp only); rw [ht]; exact ⟨hT, hF, m54⟩⟩, hS.F ht⟩) hS.2.2 dX4_readAtom_42
  · have t62 : x2.toInt = 13 := ti_eq c5 rfl (by decide)
    refine lv_iconst (v := 1) hx hb dX4_readAtom_14 (by decide) ?_
    refine lv_goto (tgt := 19) hx hb dX4_readAtom_15 (by decide) ?_
    refine lv_istore_n (lv' := [(2, .int 1), (0, .ref o0), (1, .int 1)]) hx hb dX4_readAtom_19 rfl hl (by decide) rfl (fun ls hl => ?_)
    refine lv_iload_n hx hb dX4_readAtom_20 rfl (lv_at hl 0 rfl) ?_
    refine lv_if_ne (tgt := 43) hx hb dX4_readAtom_21 (by decide) (fun c63 => ?_) (fun c63 => absurd c63 (by decide))
    refine lv_iload_n hx hb dX4_readAtom_43 rfl (lv_at hl 2 rfl) ?_
    refine lv_bipush (v := 6) hx hb dX4_readAtom_44 (by decide) ?_
    refine lv_icmp_lt (tgt := 51) hx hb dX4_readAtom_46 (by decide) (fun c64 => ?_) (fun c64 => absurd c64 (by decide))
    refine lv_aload_n hx hb dX4_readAtom_51 rfl (lv_at hl 1 rfl) ?_
    refine lv_dup hx hb dX4_readAtom_52 rfl ?_
    refine tw_getM (v := .int a0) hx hb hts bF2_X4 hown hK hT hr_o0 shc_7 rfl 13 (by decide) (ht_at2 hts 1 rfl) (fun _ h9 => h9) hm_a0 dX4_readAtom_53 ?_
    refine lv_iconst (v := 1) hx hb dX4_readAtom_56 (by decide) ?_
    refine lv_iadd hx hb dX4_readAtom_57 ?_
    refine lv_topi (fun x65 ex65 => ?_)
    have t66 : x65.toInt = a0.toInt + 1 := ti_add ex65 rfl (by decide) (by omega) (by omega)
    refine tw_put (v := .int x65) (ty := .int) hx hb hts bF2_X4 tyX4 tyX4_ok nmX4 hown hK hT hG hS hr_o0 shc_7 rfl 13 (by decide) (ht_at2 hts 1 rfl) (fun _ h9 => h9) rfl (by decide +kernel) rfl rfl (gl_at rfl (gi_of (show x65.toInt = x65.toInt from rfl) (by omega) (by omega))) dX4_readAtom_58 (fun H locs hT oq m67 oj hS => ?_)
    have hF := hF.put hr_o0 skc_7 oq oj (by decide)
    have m68 := (oj 0 (by decide) (by decide)).trans hm_th
    have m69 := (el_kept (oq _ (gne hr_th hr_o0 (by decide)))).trans hm_tv
    refine lv_iload_n hx hb dX4_readAtom_61 rfl (lv_at hl 0 rfl) ?_
    refine lv_if_eq (tgt := 81) hx hb dX4_readAtom_62 (by decide) (fun c71 => absurd c71 (by decide)) (fun c71 => ?_)
    refine lv_aload_n hx hb dX4_readAtom_65 rfl (lv_at hl 1 rfl) ?_
    refine lv_iload_n hx hb dX4_readAtom_66 rfl (lv_at hl 2 rfl) ?_
    refine lv_iconst (v := 1) hx hb dX4_readAtom_67 (by decide) ?_
    refine lv_iadd hx hb dX4_readAtom_68 ?_
    refine lv_topi (fun x72 ex72 => ?_)
    obtain rfl : x72 = 2 := ex72.trans (by decide)
    have hFc := gA_free hG hA hS
    refine va_calli (va_runV (As := [.int 2]) (rest := []) ⟨hx, hb, hml, hown, hts⟩ (c_readAtom2 l dC dI kA adK adV G H nC nS o0 th x65 tv ix_tv ix_tv hT hr_o0 m68 hr_th m67 (by have q8 := ti_all ix_tv; omega) (by have q8 := ti_all x65; omega) (by have := (show x65.toInt = x65.toInt from rfl); have := (show ix_tv.toInt = ix_tv.toInt from rfl); omega) (by have q9 := (show ix_tv.toInt = ix_tv.toInt from rfl); have := (show ix_tv.toInt = ix_tv.toInt from rfl); omega) m69 (by have q8 := ti_all tv; omega) (by omega) (by omega)) (cwV 1 hts (goodIn_app (goodIn_r _ [29, 30, 31, 15] rfl (by decide +kernel)) (goodIn_ca (goodIn_r _ [5, 1, 2, 3, 4, 5, 6, 7, 8, 9, 10, 11, 12, 13, 14, 15, 16, 17, 18, 19, 20, 21, 22, 23, 24, 25, 26, 27, 28, 29, 30, 31, 32, 33, 34, 35, 36, 37] rfl (by decide +kernel)) (bs2_in _ _))) rfl rfl rfl (by decide +kernel) ⟨(Nat.le_of_ble_eq_true rfl), (Nat.le_of_ble_eq_true rfl)⟩) ⟨fun a U g mk q => by obtain ⟨q0, q1, qK, qE⟩ := q; exact ⟨q0, q1, va_K.moved (u := U) (U := U.calling g mk a) (Vm.Alike.refl U.vm) qK, EVC.blind g mk a qE⟩, gH_rc hK hT hr_o0 shc_7 rfl, fun U hU hW => ⟨rfl, hU, va_K.moved hW.alike hK, hE.call hS hFc hU hW⟩⟩ rfl rfl hl.1 rfl (lv_room (Nat.le_of_ble_eq_true rfl)) dX4_readAtom_69 ⟨(Nat.le_of_ble_eq_true rfl), (Nat.le_of_ble_eq_true rfl)⟩) hS (fun q _ h => hFc q h) hFc (fun r73 u t H locs ht hvm hw74 hB _ _ hS => ?_)
    obtain ⟨u75, rfl⟩ : ∃ z, z = u := ⟨_, rfl⟩
    obtain ⟨hT, hF1, m76⟩ := hB
    rw [ht] at hT hF1 m76
    have hF := hF.more hF1 (by decide)
    try dsimp only at hw74
    obtain ⟨h81, h82, hf83⟩ := hw74
    refine lv_istore_n (lv' := [(3, .int r73), (2, .int 1), (0, .ref o0), (1, .int 1)]) hx hb dX4_readAtom_72 rfl hl (by decide) rfl (fun ls hl => ?_)
    refine lv_aload_n hx hb dX4_readAtom_73 rfl (lv_at hl 2 rfl) ?_
    refine lv_bipush (v := 13) hx hb dX4_readAtom_74 (by decide) ?_
    have hFc := gA_free hG hA hS
    refine va_callv (va_runV (As := [.int 13]) (rest := []) ⟨hx, hb, hml, hown, hts⟩ (c_addStep l dC dI kA adK adV G H nC nS o0 13 hT hr_o0 (rg_t (a := 13) (by decide) (by first | decide | omega) (by first | decide | omega)) (by omega) (by omega)) (cwV 1 hts (goodIn_app (goodIn_r _ [12, 13, 14, 15] rfl (by decide +kernel)) (goodIn_ca (goodIn_r _ [9, 10, 11] rfl (by decide +kernel)) (bs2_in _ _))) rfl rfl rfl (by decide +kernel) ⟨(Nat.le_of_ble_eq_true rfl), (Nat.le_of_ble_eq_true rfl)⟩) ⟨fun a U g mk q => by obtain ⟨q0, q1, qK, qE⟩ := q; exact ⟨q0, q1, va_K.moved (u := U) (U := U.calling g mk a) (Vm.Alike.refl U.vm) qK, EVC.blind g mk a qE⟩, gH_rc hK hT hr_o0 shc_7 rfl, fun U hU hW => ⟨rfl, hU, va_K.moved hW.alike hK, hE.call hS hFc hU hW⟩⟩ rfl rfl hl.1 rfl (lv_room (Nat.le_of_ble_eq_true rfl)) dX4_readAtom_76 ⟨(Nat.le_of_ble_eq_true rfl), (Nat.le_of_ble_eq_true rfl)⟩) hS (fun q _ h => hFc q h) hFc (fun u t H locs ht hvm hw85 hB _ _ hS => ?_)
    obtain ⟨hT, hF1⟩ := hB
    rw [ht] at hT hF1
    have m89 := (hF1.fld hr_o0 skc_7 (k := 13) (by decide) (by decide)).trans m76
    have hF := hF.more hF1 (by decide)
    try dsimp only at hw85
    refine lv_iload_n hx hb dX4_readAtom_79 rfl (lv_at hl 0 rfl) ?_
    exact W.zret (v := r73) hx hb hr (nar_b (by have q8 := ti_all r73; omega)) (fun t ht hW => ⟨⟨r73, u75, rfl, (by exact ⟨(by have q8 := ti_all u75; omega), (by have q8 := ti_all r73; omega), (by omega)⟩), by (try dsimp only); rw [ht]; exact ⟨hT, hF, m89⟩⟩, hS.F ht⟩) hS.2.2 dX4_readAtom_80
def w_c_readAll1 : List Cond := .code yX4_readAll cX4_readAll 4 (some .boolean) :: (HAppend.hAppend (α := List Cond) (β := List Cond) (γ := List Cond) [.code yX4_readAtom cX4_readAtom 4 (some .boolean), .fieldLink RX4 11 "SeaLand$Law" "things" "[I", .fieldLink RX4 56 "SeaLand$Law" "at" "I", .code yX4_readAny cX4_readAny 4 (some .boolean), .code yX4_readAll cX4_readAll 4 (some .boolean), .code yX4_readComparison cX4_readComparison 3 (some .boolean), .code yX4_readSum cX4_readSum 3 (some .boolean), .code yX4_readPart cX4_readPart 2 (some .boolean), .code yX4_addStep cX4_addStep 2 none, .fieldLink RX4 63 "SeaLand$Law" "stepped" "I", .fieldLink RX4 39 "SeaLand$Law" "steps" "[I", .methodLink RX4 179 yX4_addStep, .instanceMethod yX4_addStep, .selects RX4 yX4_addStep yX4_addStep, .initialized RX4, .methodLink RX4 192 yX4_readPart, .instanceMethod yX4_readPart, .selects RX4 yX4_readPart yX4_readPart, .code yX4_take cX4_take 2 (some .boolean), .methodLink RX4 70 yX4_take, .instanceMethod yX4_take, .selects RX4 yX4_take yX4_take, .methodLink RX4 189 yX4_readSum, .instanceMethod yX4_readSum, .selects RX4 yX4_readSum yX4_readSum, .methodLink RX4 186 yX4_readComparison, .instanceMethod yX4_readComparison, .selects RX4 yX4_readComparison yX4_readComparison, .methodLink RX4 183 yX4_readAtom, .instanceMethod yX4_readAtom, .selects RX4 yX4_readAtom yX4_readAtom, .methodLink RX4 176 yX4_readAll, .instanceMethod yX4_readAll, .selects RX4 yX4_readAll yX4_readAll, .methodLink RX4 173 yX4_readAny, .instanceMethod yX4_readAny, .selects RX4 yX4_readAny yX4_readAny] bs2)
set_option maxHeartbeats 4000000 in
set_option maxRecDepth 100000 in
theorem c_readAll1 (l : Launch) (dC : Nat → ClassId) (dI : Nat → Nat → Nat) (kA : Nat → ClassId) (adK adV : Nat → Nat) (G : gT) (H0 : Heap) (nC nS : Int) (o0 : Nat) (th : Nat) (a0 : Int32) (tv ix_tv : Int32) (tn : Int32) (hT : gH (dC, dI) kA (SHc nC nS) G H0) (hr_o0 : G o0 = some 7) (hm_th : el H0 o0 (dI 7 0) = some (.ref th)) (hr_th : G th = some 40) (hm_a0 : el H0 o0 (dI 7 13) = some (.int a0)) (hq0 : 0 ≤ tn.toInt ∧ tn.toInt ≤ 400) (hq1 : 0 ≤ a0.toInt ∧ a0.toInt ≤ 400) (hat : a0.toInt ≤ tn.toInt) (hx_tv : ix_tv.toInt = tn.toInt) (hm_tv : el H0 th ix_tv.toNatClampNeg = some (.int tv)) (hv_tv : 21 ≤ tv.toInt ∧ tv.toInt ≤ 21) (hgC : 0 ≤ nC ∧ nC ≤ 40) (hgS : 0 ≤ nS ∧ nS ≤ 60) : Met l yX4_readAll w_c_readAll1 ({ frames := 20, cells := 0, slots := 0, locals := 454 }) (va_Pc [.ref o0, .int 1] (fun U => U.heap = H0 ∧ va_K (dC, dI) vwCl (tyl kA) U ∧ EVC adK adV (gA G H0.size) U U.heap)) (va_Qi (fun (r : Int32) (u : Int32) => (0 ≤ u.toInt ∧ u.toInt ≤ 400) ∧ (0 ≤ r.toInt ∧ r.toInt ≤ 1) ∧ (a0.toInt ≤ u.toInt ∧ u.toInt ≤ tn.toInt)) (fun (a1 : Int32) (t : State) => gH (dC, dI) kA (SHc nC nS) G t.heap ∧ gF (dC, dI) SKc G ([(7, 12), (7, 13), (49, 0)] : List (Nat × Nat)) H0 t.heap ∧ el t.heap o0 (dI 7 13) = some (.int a1)) (gA G H0.size)) 0 0 (gA G H0.size) := by
  refine Met.ofW (cc := cX4_readAll) (maxL := 4) (ret := (some .boolean)) (by decide) rfl ?_
  intro p e s m args below meth c s₁ B hml hv
  obtain ⟨rfl, hH0, hK, hE⟩ := hv
  have hx := B.exec
  have hb := B.bytes
  have hr := B.returns
  have hts := atoms_spec (ws := w_c_readAll1) B.pre
  have hown : s.vm.findClass RX4 = some m.cls := findClass_of_methodNamed B.named
  have hlocks := B.notSynchronized
  subst hH0
  generalize hAe : gA G s.heap.size = A at hE ⊢
  have hA : ∀ q : Nat, s.heap.size ≤ q → A q := fun q h => by rw [← hAe]; exact Or.inr h
  have hG := gA_of hAe
  have hS : va_S A s.heap s.heap [] := va_S.rf
  have hF : gF (dC, dI) SKc G ([(7, 12), (7, 13), (49, 0)] : List (Nat × Nat)) s.heap s.heap := gF.rf
  have hl := lv_entry ([.ref o0, .int 1]) (n := 4) (Nat.le_of_ble_eq_true rfl)
  rw [lg_entry_eq]
  generalize (lg_sl ([.ref o0, .int 1]) ++ List.replicate (4 - (lg_sl ([.ref o0, .int 1])).length) Slot.unset).toArray = ls at hl ⊢
  have hl : lv_has ls 4 [(0, .ref o0), (1, .int 1)] := hl
  refine lv_aload_n hx hb dX4_readAll_0 rfl (lv_at hl 0 rfl) ?_
  refine lv_iload_n hx hb dX4_readAll_1 rfl (lv_at hl 1 rfl) ?_
  have hFc := gA_free hG hA hS
  refine va_calli (va_runV (As := [.int 1]) (rest := []) ⟨hx, hb, hml, hown, hts⟩ (c_readAtom1 l dC dI kA adK adV G s.heap nC nS o0 th a0 tv ix_tv ix_tv hT hr_o0 hm_th hr_th hm_a0 (by have q8 := ti_all ix_tv; omega) (by have q8 := ti_all a0; omega) (by have := (show a0.toInt = a0.toInt from rfl); have := (show ix_tv.toInt = ix_tv.toInt from rfl); omega) (by have q9 := (show ix_tv.toInt = ix_tv.toInt from rfl); have := (show ix_tv.toInt = ix_tv.toInt from rfl); omega) hm_tv (by have q8 := ti_all tv; omega) (by omega) (by omega)) (cwV 1 hts (goodIn_app (goodIn_r _ [29, 30, 31, 15] rfl (by decide +kernel)) (goodIn_ca (goodIn_r _ [1, 2, 3, 4, 5, 1, 6, 7, 8, 9, 10, 11, 12, 13, 14, 15, 16, 17, 18, 19, 20, 21, 22, 23, 24, 25, 26, 27, 28, 29, 30, 31, 32, 33, 34, 35, 36, 37] rfl (by decide +kernel)) (bs2_in _ _))) rfl rfl rfl (by decide +kernel) ⟨(Nat.le_of_ble_eq_true rfl), (Nat.le_of_ble_eq_true rfl)⟩) ⟨fun a U g mk q => by obtain ⟨q0, q1, qK, qE⟩ := q; exact ⟨q0, q1, va_K.moved (u := U) (U := U.calling g mk a) (Vm.Alike.refl U.vm) qK, EVC.blind g mk a qE⟩, gH_rc hK hT hr_o0 shc_7 rfl, fun U hU hW => ⟨rfl, hU, va_K.moved hW.alike hK, hE.call hS hFc hU hW⟩⟩ rfl rfl hl.1 rfl (lv_room (Nat.le_of_ble_eq_true rfl)) dX4_readAll_2 ⟨(Nat.le_of_ble_eq_true rfl), (Nat.le_of_ble_eq_true rfl)⟩) hS (fun q _ h => hFc q h) hFc (fun r1 u t H locs ht hvm hw2 hB _ _ hS => ?_)
  obtain ⟨u3, rfl⟩ : ∃ z, z = u := ⟨_, rfl⟩
  obtain ⟨hT, hF1, m4⟩ := hB
  rw [ht] at hT hF1 m4
  have m5 := (hF1.fld hr_o0 skc_7 (k := 0) (by decide) (by decide)).trans hm_th
  have m7 := (el_kept (hF1.arr hr_th skc_40 (by decide))).trans hm_tv
  have hF := hF.more hF1 (by decide)
  try dsimp only at hw2
  obtain ⟨h8, h9, hf10⟩ := hw2
  refine lv_istore_n (lv' := [(2, .int r1), (0, .ref o0), (1, .int 1)]) hx hb dX4_readAll_5 rfl hl (by decide) rfl (fun ls hl => ?_)
  refine lv_iconst (v := 0) hx hb dX4_readAll_6 (by decide) ?_
  refine lv_istore_n (lv' := [(3, .int 0), (2, .int r1), (0, .ref o0), (1, .int 1)]) hx hb dX4_readAll_7 rfl hl (by decide) rfl (fun ls hl => ?_)
  have key53 : ∀ (n53 i11 : Nat), i11 + n53 = 400 → 0 ≤ i11 → ∀ (z12 : Int32), ∀ (z16 : Int32), ((0 ≤ z12.toInt ∧ z12.toInt ≤ 1) ∧ (0 ≤ z16.toInt ∧ z16.toInt ≤ 400) ∧ (a0.toInt ≤ z16.toInt ∧ z16.toInt ≤ tn.toInt)) → ∀ (H : Heap) (locs : List Loc), gH (dC, dI) kA (SHc nC nS) G H → gF (dC, dI) SKc G ([(7, 12), (7, 13), (49, 0)] : List (Nat × Nat)) s.heap H → va_S A s.heap H locs → el H o0 (dI 7 0) = some (.ref th) → el H th ix_tv.toNatClampNeg = some (.int tv) → el H o0 (dI 7 13) = some (.int z16) → ∀ ls : Array Slot, lv_has ls 4 [(3, .int (nI i11)), (2, .int z12), (0, .ref o0), (1, .int 1)] → W p l e (headSpec w_c_readAll1 ({ frames := 20, cells := 0, slots := 0, locals := 454 })).room s m #[.ref o0, .int 1] below meth c H locs 0 0 (MQ below (va_Qi (fun (r : Int32) (u : Int32) => (0 ≤ u.toInt ∧ u.toInt ≤ 400) ∧ (0 ≤ r.toInt ∧ r.toInt ≤ 1) ∧ (a0.toInt ≤ u.toInt ∧ u.toInt ≤ tn.toInt)) (fun (a1 : Int32) (t : State) => gH (dC, dI) kA (SHc nC nS) G t.heap ∧ gF (dC, dI) SKc G ([(7, 12), (7, 13), (49, 0)] : List (Nat × Nat)) s.heap t.heap ∧ el t.heap o0 (dI 7 13) = some (.int a1)) A) #[.ref o0, .int 1] s 0 0 A) (F0 m 8 ls []) := by
    intro n53
    induction n53 with
    | zero =>
      intro i11 hn53 hlo54 z12 z16 ⟨h13, h17, hj19⟩ H locs hT hF hS m14 m15 m18 ls hl
      obtain rfl : 400 = i11 := by omega
      refine lv_iload_n hx hb dX4_readAll_8 rfl (lv_at hl 0 rfl) ?_
      refine lv_sipush (v := 400) hx hb dX4_readAll_9 (by decide) ?_
      refine lv_icmp_ge (tgt := 46) hx hb dX4_readAll_12 (by decide) (fun c55 => ?_) (fun c55 => (by exfalso; have q9 : ((400 : Nat) : Int) < 400 := ti_nle c55 (by decide) (nI_toInt (by omega)); omega))
      have t56 : 400 ≤ ((400 : Nat) : Int) := ti_le c55 (by decide) (nI_toInt (by omega))
      refine lv_iload_n hx hb dX4_readAll_46 rfl (lv_at hl 1 rfl) ?_
      exact W.zret (v := z12) hx hb hr (nar_b (by have q8 := ti_all z12; omega)) (fun t ht hW => ⟨⟨z12, z16, rfl, (by exact ⟨(by have q8 := ti_all z16; omega), (by have q8 := ti_all z12; omega), (by omega)⟩), by (try dsimp only); rw [ht]; exact ⟨hT, hF, m18⟩⟩, hS.F ht⟩) hS.2.2 dX4_readAll_47
    | succ n53 ih53 =>
      intro i11 hn53 hlo54 z12 z16 ⟨h13, h17, hj19⟩ H locs hT hF hS m14 m15 m18 ls hl
      have hlt56 : i11 < 400 := by omega
      refine lv_iload_n hx hb dX4_readAll_8 rfl (lv_at hl 0 rfl) ?_
      refine lv_sipush (v := 400) hx hb dX4_readAll_9 (by decide) ?_
      refine lv_icmp_ge (tgt := 46) hx hb dX4_readAll_12 (by decide) (fun c57 => (by exfalso; have q9 : 400 ≤ ((i11 : Nat) : Int) := ti_le c57 (by decide) (nI_toInt (by omega)); omega)) (fun c57 => ?_)
      have t58 : ((i11 : Nat) : Int) < 400 := ti_nle c57 (by decide) (nI_toInt (by omega))
      refine lv_iload_n hx hb dX4_readAll_15 rfl (lv_at hl 1 rfl) ?_
      refine lv_if_eq (tgt := 46) hx hb dX4_readAll_16 (by decide) (fun c59 => ?_) (fun c59 => ?_)
      · have t60 : z12.toInt = 0 := ti_eq c59 rfl (by decide)
        refine lv_iload_n hx hb dX4_readAll_46 rfl (lv_at hl 1 rfl) ?_
        exact W.zret (v := z12) hx hb hr (nar_b (by have q8 := ti_all z12; omega)) (fun t ht hW => ⟨⟨z12, z16, rfl, (by exact ⟨(by have q8 := ti_all z16; omega), (by have q8 := ti_all z12; omega), (by omega)⟩), by (try dsimp only); rw [ht]; exact ⟨hT, hF, m18⟩⟩, hS.F ht⟩) hS.2.2 dX4_readAll_47
      · have t61 : z12.toInt ≠ 0 := ti_ne c59 rfl (by decide)
        refine lv_aload_n hx hb dX4_readAll_19 rfl (lv_at hl 2 rfl) ?_
        refine lv_bipush (v := 14) hx hb dX4_readAll_20 (by decide) ?_
        have hFc := gA_free hG hA hS
        refine va_calli (va_runV (As := [.int 14]) (rest := []) ⟨hx, hb, hml, hown, hts⟩ (c_take l dC dI kA adK adV G H nC nS o0 14 th z16 tv ix_tv ix_tv hT hr_o0 m14 hr_th m18 (by have q8 := ti_all ix_tv; omega) (by have q8 := ti_all z16; omega) (by have := (show z16.toInt = z16.toInt from rfl); have := (show ix_tv.toInt = ix_tv.toInt from rfl); omega) (by have := (show (14 : Int32).toInt = 14 from (by decide)); omega) (by have q9 := (show ix_tv.toInt = ix_tv.toInt from rfl); have := (show ix_tv.toInt = ix_tv.toInt from rfl); omega) m15 (by have q8 := ti_all tv; omega) (by omega) (by omega)) (cwV 1 hts (goodIn_app (goodIn_r _ [20, 21, 22, 15] rfl (by decide +kernel)) (goodIn_ca (goodIn_r _ [19, 2, 3] rfl (by decide +kernel)) (bs2_in _ _))) rfl rfl rfl (by decide +kernel) ⟨(Nat.le_of_ble_eq_true rfl), (Nat.le_of_ble_eq_true rfl)⟩) ⟨fun a U g mk q => by obtain ⟨q0, q1, qK, qE⟩ := q; exact ⟨q0, q1, va_K.moved (u := U) (U := U.calling g mk a) (Vm.Alike.refl U.vm) qK, EVC.blind g mk a qE⟩, gH_rc hK hT hr_o0 shc_7 rfl, fun U hU hW => ⟨rfl, hU, va_K.moved hW.alike hK, hE.call hS hFc hU hW⟩⟩ rfl rfl hl.1 rfl (lv_room (Nat.le_of_ble_eq_true rfl)) dX4_readAll_22 ⟨(Nat.le_of_ble_eq_true rfl), (Nat.le_of_ble_eq_true rfl)⟩) hS (fun q _ h => hFc q h) hFc (fun r62 u t H locs ht hvm hw63 hB _ _ hS => ?_)
        obtain ⟨u64, rfl⟩ : ∃ z, z = u := ⟨_, rfl⟩
        obtain ⟨hT, hF1, m65⟩ := hB
        rw [ht] at hT hF1 m65
        have m66 := (hF1.fld hr_o0 skc_7 (k := 0) (by decide) (by decide)).trans m14
        have m67 := (el_kept (hF1.arr hr_th skc_40 (by decide))).trans m15
        have hF := hF.more hF1 (by decide)
        try dsimp only at hw63
        obtain ⟨h69, h70, hf71⟩ := hw63
        refine lv_if_eq (tgt := 46) hx hb dX4_readAll_25 (by decide) (fun c72 => ?_) (fun c72 => ?_)
        · have t73 : r62.toInt = 0 := ti_eq c72 rfl (by decide)
          refine lv_iload_n hx hb dX4_readAll_46 rfl (lv_at hl 1 rfl) ?_
          exact W.zret (v := z12) hx hb hr (nar_b (by have q8 := ti_all z12; omega)) (fun t ht hW => ⟨⟨z12, u64, rfl, (by exact ⟨(by have q8 := ti_all u64; omega), (by have q8 := ti_all z12; omega), (by omega)⟩), by (try dsimp only); rw [ht]; exact ⟨hT, hF, m65⟩⟩, hS.F ht⟩) hS.2.2 dX4_readAll_47
        · have t74 : r62.toInt ≠ 0 := ti_ne c72 rfl (by decide)
          refine lv_aload_n hx hb dX4_readAll_28 rfl (lv_at hl 2 rfl) ?_
          refine lv_iload_n hx hb dX4_readAll_29 rfl (lv_at hl 3 rfl) ?_
          have hFc := gA_free hG hA hS
          refine va_calli (va_runV (As := [.int 1]) (rest := []) ⟨hx, hb, hml, hown, hts⟩ (c_readAtom1 l dC dI kA adK adV G H nC nS o0 th u64 tv ix_tv ix_tv hT hr_o0 m66 hr_th m65 (by have q8 := ti_all ix_tv; omega) (by have q8 := ti_all u64; omega) (by have := (show u64.toInt = u64.toInt from rfl); have := (show ix_tv.toInt = ix_tv.toInt from rfl); omega) (by have q9 := (show ix_tv.toInt = ix_tv.toInt from rfl); have := (show ix_tv.toInt = ix_tv.toInt from rfl); omega) m67 (by have q8 := ti_all tv; omega) (by omega) (by omega)) (cwV 1 hts (goodIn_app (goodIn_r _ [29, 30, 31, 15] rfl (by decide +kernel)) (goodIn_ca (goodIn_r _ [1, 2, 3, 4, 5, 1, 6, 7, 8, 9, 10, 11, 12, 13, 14, 15, 16, 17, 18, 19, 20, 21, 22, 23, 24, 25, 26, 27, 28, 29, 30, 31, 32, 33, 34, 35, 36, 37] rfl (by decide +kernel)) (bs2_in _ _))) rfl rfl rfl (by decide +kernel) ⟨(Nat.le_of_ble_eq_true rfl), (Nat.le_of_ble_eq_true rfl)⟩) ⟨fun a U g mk q => by obtain ⟨q0, q1, qK, qE⟩ := q; exact ⟨q0, q1, va_K.moved (u := U) (U := U.calling g mk a) (Vm.Alike.refl U.vm) qK, EVC.blind g mk a qE⟩, gH_rc hK hT hr_o0 shc_7 rfl, fun U hU hW => ⟨rfl, hU, va_K.moved hW.alike hK, hE.call hS hFc hU hW⟩⟩ rfl rfl hl.1 rfl (lv_room (Nat.le_of_ble_eq_true rfl)) dX4_readAll_30 ⟨(Nat.le_of_ble_eq_true rfl), (Nat.le_of_ble_eq_true rfl)⟩) hS (fun q _ h => hFc q h) hFc (fun r75 u t H locs ht hvm hw76 hB _ _ hS => ?_)
          obtain ⟨u77, rfl⟩ : ∃ z, z = u := ⟨_, rfl⟩
          obtain ⟨hT, hF1, m78⟩ := hB
          rw [ht] at hT hF1 m78
          have m79 := (hF1.fld hr_o0 skc_7 (k := 0) (by decide) (by decide)).trans m66
          have m80 := (el_kept (hF1.arr hr_th skc_40 (by decide))).trans m67
          have hF := hF.more hF1 (by decide)
          try dsimp only at hw76
          obtain ⟨h82, h83, hf84⟩ := hw76
          refine lv_istore_n (lv' := [(2, .int r75), (3, .int (nI i11)), (0, .ref o0), (1, .int 1)]) hx hb dX4_readAll_33 rfl hl (by decide) rfl (fun ls hl => ?_)
          refine lv_aload_n hx hb dX4_readAll_34 rfl (lv_at hl 2 rfl) ?_
          refine lv_bipush (v := 14) hx hb dX4_readAll_35 (by decide) ?_
          have hFc := gA_free hG hA hS
          refine va_callv (va_runV (As := [.int 14]) (rest := []) ⟨hx, hb, hml, hown, hts⟩ (c_addStep l dC dI kA adK adV G H nC nS o0 14 hT hr_o0 (rg_t (a := 14) (by decide) (by first | decide | omega) (by first | decide | omega)) (by omega) (by omega)) (cwV 1 hts (goodIn_app (goodIn_r _ [12, 13, 14, 15] rfl (by decide +kernel)) (goodIn_ca (goodIn_r _ [9, 10, 11] rfl (by decide +kernel)) (bs2_in _ _))) rfl rfl rfl (by decide +kernel) ⟨(Nat.le_of_ble_eq_true rfl), (Nat.le_of_ble_eq_true rfl)⟩) ⟨fun a U g mk q => by obtain ⟨q0, q1, qK, qE⟩ := q; exact ⟨q0, q1, va_K.moved (u := U) (U := U.calling g mk a) (Vm.Alike.refl U.vm) qK, EVC.blind g mk a qE⟩, gH_rc hK hT hr_o0 shc_7 rfl, fun U hU hW => ⟨rfl, hU, va_K.moved hW.alike hK, hE.call hS hFc hU hW⟩⟩ rfl rfl hl.1 rfl (lv_room (Nat.le_of_ble_eq_true rfl)) dX4_readAll_37 ⟨(Nat.le_of_ble_eq_true rfl), (Nat.le_of_ble_eq_true rfl)⟩) hS (fun q _ h => hFc q h) hFc (fun u t H locs ht hvm hw86 hB _ _ hS => ?_)
          obtain ⟨hT, hF1⟩ := hB
          rw [ht] at hT hF1
          have m87 := (hF1.fld hr_o0 skc_7 (k := 0) (by decide) (by decide)).trans m79
          have m88 := (el_kept (hF1.arr hr_th skc_40 (by decide))).trans m80
          have m89 := (hF1.fld hr_o0 skc_7 (k := 13) (by decide) (by decide)).trans m78
          have hF := hF.more hF1 (by decide)
          try dsimp only at hw86
          refine lv_iinc (v := nI (i11 + 1)) (lv' := [(3, .int (nI (i11 + 1))), (2, .int r75), (0, .ref o0), (1, .int 1)]) hx hb dX4_readAll_40 hl (k := 1) rfl (nI_add i11 1) (by decide) rfl (fun ls hl => ?_)
          refine lv_goto (tgt := 8) hx hb dX4_readAll_43 (by decide) ?_
          exact ih53 (i11 + 1) (by omega) (by omega) r75 u77 ⟨(by have q8 := ti_all r75; omega), (by have q8 := ti_all u77; omega), (by have := hx_tv; have := (show u77.toInt = u77.toInt from rfl); omega)⟩ _ _ hT hF hS m87 m88 m89 ls (lv_sub hl [0, 1, 2, 3] rfl)
  exact key53 (400 - 0) 0 (by omega) (Nat.le_refl _) r1 u3 ⟨(by have q8 := ti_all r1; omega), (by have q8 := ti_all u3; omega), (by have := hx_tv; have := (show u3.toInt = u3.toInt from rfl); omega)⟩ _ _ hT hF hS m5 m7 m4 ls (lv_sub hl [0, 1, 2, 3] rfl)
def w_c_readAny1 : List Cond := .code yX4_readAny cX4_readAny 4 (some .boolean) :: (HAppend.hAppend (α := List Cond) (β := List Cond) (γ := List Cond) [.code yX4_readAll cX4_readAll 4 (some .boolean), .code yX4_readAtom cX4_readAtom 4 (some .boolean), .fieldLink RX4 11 "SeaLand$Law" "things" "[I", .fieldLink RX4 56 "SeaLand$Law" "at" "I", .code yX4_readAny cX4_readAny 4 (some .boolean), .code yX4_readComparison cX4_readComparison 3 (some .boolean), .code yX4_readSum cX4_readSum 3 (some .boolean), .code yX4_readPart cX4_readPart 2 (some .boolean), .code yX4_addStep cX4_addStep 2 none, .fieldLink RX4 63 "SeaLand$Law" "stepped" "I", .fieldLink RX4 39 "SeaLand$Law" "steps" "[I", .methodLink RX4 179 yX4_addStep, .instanceMethod yX4_addStep, .selects RX4 yX4_addStep yX4_addStep, .initialized RX4, .methodLink RX4 192 yX4_readPart, .instanceMethod yX4_readPart, .selects RX4 yX4_readPart yX4_readPart, .code yX4_take cX4_take 2 (some .boolean), .methodLink RX4 70 yX4_take, .instanceMethod yX4_take, .selects RX4 yX4_take yX4_take, .methodLink RX4 189 yX4_readSum, .instanceMethod yX4_readSum, .selects RX4 yX4_readSum yX4_readSum, .methodLink RX4 186 yX4_readComparison, .instanceMethod yX4_readComparison, .selects RX4 yX4_readComparison yX4_readComparison, .methodLink RX4 183 yX4_readAtom, .instanceMethod yX4_readAtom, .selects RX4 yX4_readAtom yX4_readAtom, .methodLink RX4 176 yX4_readAll, .instanceMethod yX4_readAll, .selects RX4 yX4_readAll yX4_readAll, .methodLink RX4 173 yX4_readAny, .instanceMethod yX4_readAny, .selects RX4 yX4_readAny yX4_readAny] bs2)
set_option maxHeartbeats 4000000 in
set_option maxRecDepth 100000 in
theorem c_readAny1 (l : Launch) (dC : Nat → ClassId) (dI : Nat → Nat → Nat) (kA : Nat → ClassId) (adK adV : Nat → Nat) (G : gT) (H0 : Heap) (nC nS : Int) (o0 : Nat) (th : Nat) (a0 : Int32) (tv ix_tv : Int32) (tn : Int32) (hT : gH (dC, dI) kA (SHc nC nS) G H0) (hr_o0 : G o0 = some 7) (hm_th : el H0 o0 (dI 7 0) = some (.ref th)) (hr_th : G th = some 40) (hm_a0 : el H0 o0 (dI 7 13) = some (.int a0)) (hq0 : 0 ≤ tn.toInt ∧ tn.toInt ≤ 400) (hq1 : 0 ≤ a0.toInt ∧ a0.toInt ≤ 400) (hat : a0.toInt ≤ tn.toInt) (hx_tv : ix_tv.toInt = tn.toInt) (hm_tv : el H0 th ix_tv.toNatClampNeg = some (.int tv)) (hv_tv : 21 ≤ tv.toInt ∧ tv.toInt ≤ 21) (hgC : 0 ≤ nC ∧ nC ≤ 40) (hgS : 0 ≤ nS ∧ nS ≤ 60) : Met l yX4_readAny w_c_readAny1 ({ frames := 21, cells := 0, slots := 0, locals := 477 }) (va_Pc [.ref o0, .int 1] (fun U => U.heap = H0 ∧ va_K (dC, dI) vwCl (tyl kA) U ∧ EVC adK adV (gA G H0.size) U U.heap)) (va_Qi (fun (r : Int32) (u : Int32) => (0 ≤ u.toInt ∧ u.toInt ≤ 400) ∧ (0 ≤ r.toInt ∧ r.toInt ≤ 1) ∧ (a0.toInt ≤ u.toInt ∧ u.toInt ≤ tn.toInt)) (fun (a1 : Int32) (t : State) => gH (dC, dI) kA (SHc nC nS) G t.heap ∧ gF (dC, dI) SKc G ([(7, 12), (7, 13), (49, 0)] : List (Nat × Nat)) H0 t.heap ∧ el t.heap o0 (dI 7 13) = some (.int a1)) (gA G H0.size)) 0 0 (gA G H0.size) := by
  refine Met.ofW (cc := cX4_readAny) (maxL := 4) (ret := (some .boolean)) (by decide) rfl ?_
  intro p e s m args below meth c s₁ B hml hv
  obtain ⟨rfl, hH0, hK, hE⟩ := hv
  have hx := B.exec
  have hb := B.bytes
  have hr := B.returns
  have hts := atoms_spec (ws := w_c_readAny1) B.pre
  have hown : s.vm.findClass RX4 = some m.cls := findClass_of_methodNamed B.named
  have hlocks := B.notSynchronized
  subst hH0
  generalize hAe : gA G s.heap.size = A at hE ⊢
  have hA : ∀ q : Nat, s.heap.size ≤ q → A q := fun q h => by rw [← hAe]; exact Or.inr h
  have hG := gA_of hAe
  have hS : va_S A s.heap s.heap [] := va_S.rf
  have hF : gF (dC, dI) SKc G ([(7, 12), (7, 13), (49, 0)] : List (Nat × Nat)) s.heap s.heap := gF.rf
  have hl := lv_entry ([.ref o0, .int 1]) (n := 4) (Nat.le_of_ble_eq_true rfl)
  rw [lg_entry_eq]
  generalize (lg_sl ([.ref o0, .int 1]) ++ List.replicate (4 - (lg_sl ([.ref o0, .int 1])).length) Slot.unset).toArray = ls at hl ⊢
  have hl : lv_has ls 4 [(0, .ref o0), (1, .int 1)] := hl
  refine lv_aload_n hx hb dX4_readAny_0 rfl (lv_at hl 0 rfl) ?_
  refine lv_iload_n hx hb dX4_readAny_1 rfl (lv_at hl 1 rfl) ?_
  have hFc := gA_free hG hA hS
  refine va_calli (va_runV (As := [.int 1]) (rest := []) ⟨hx, hb, hml, hown, hts⟩ (c_readAll1 l dC dI kA adK adV G s.heap nC nS o0 th a0 tv ix_tv ix_tv hT hr_o0 hm_th hr_th hm_a0 (by have q8 := ti_all ix_tv; omega) (by have q8 := ti_all a0; omega) (by have := (show a0.toInt = a0.toInt from rfl); have := (show ix_tv.toInt = ix_tv.toInt from rfl); omega) (by have q9 := (show ix_tv.toInt = ix_tv.toInt from rfl); have := (show ix_tv.toInt = ix_tv.toInt from rfl); omega) hm_tv (by have q8 := ti_all tv; omega) (by omega) (by omega)) (cwV 1 hts (goodIn_app (goodIn_r _ [32, 33, 34, 15] rfl (by decide +kernel)) (goodIn_ca (goodIn_r _ [1, 2, 3, 4, 5, 1, 6, 7, 8, 9, 10, 11, 12, 13, 14, 15, 16, 17, 18, 19, 20, 21, 22, 23, 24, 25, 26, 27, 28, 29, 30, 31, 32, 33, 34, 35, 36, 37] rfl (by decide +kernel)) (bs2_in _ _))) rfl rfl rfl (by decide +kernel) ⟨(Nat.le_of_ble_eq_true rfl), (Nat.le_of_ble_eq_true rfl)⟩) ⟨fun a U g mk q => by obtain ⟨q0, q1, qK, qE⟩ := q; exact ⟨q0, q1, va_K.moved (u := U) (U := U.calling g mk a) (Vm.Alike.refl U.vm) qK, EVC.blind g mk a qE⟩, gH_rc hK hT hr_o0 shc_7 rfl, fun U hU hW => ⟨rfl, hU, va_K.moved hW.alike hK, hE.call hS hFc hU hW⟩⟩ rfl rfl hl.1 rfl (lv_room (Nat.le_of_ble_eq_true rfl)) dX4_readAny_2 ⟨(Nat.le_of_ble_eq_true rfl), (Nat.le_of_ble_eq_true rfl)⟩) hS (fun q _ h => hFc q h) hFc (fun r1 u t H locs ht hvm hw2 hB _ _ hS => ?_)
  obtain ⟨u3, rfl⟩ : ∃ z, z = u := ⟨_, rfl⟩
  obtain ⟨hT, hF1, m4⟩ := hB
  rw [ht] at hT hF1 m4
  have m5 := (hF1.fld hr_o0 skc_7 (k := 0) (by decide) (by decide)).trans hm_th
  have m7 := (el_kept (hF1.arr hr_th skc_40 (by decide))).trans hm_tv
  have hF := hF.more hF1 (by decide)
  try dsimp only at hw2
  obtain ⟨h8, h9, hf10⟩ := hw2
  refine lv_istore_n (lv' := [(2, .int r1), (0, .ref o0), (1, .int 1)]) hx hb dX4_readAny_5 rfl hl (by decide) rfl (fun ls hl => ?_)
  refine lv_iconst (v := 0) hx hb dX4_readAny_6 (by decide) ?_
  refine lv_istore_n (lv' := [(3, .int 0), (2, .int r1), (0, .ref o0), (1, .int 1)]) hx hb dX4_readAny_7 rfl hl (by decide) rfl (fun ls hl => ?_)
  have key53 : ∀ (n53 i11 : Nat), i11 + n53 = 400 → 0 ≤ i11 → ∀ (z12 : Int32), ∀ (z16 : Int32), ((0 ≤ z12.toInt ∧ z12.toInt ≤ 1) ∧ (0 ≤ z16.toInt ∧ z16.toInt ≤ 400) ∧ (a0.toInt ≤ z16.toInt ∧ z16.toInt ≤ tn.toInt)) → ∀ (H : Heap) (locs : List Loc), gH (dC, dI) kA (SHc nC nS) G H → gF (dC, dI) SKc G ([(7, 12), (7, 13), (49, 0)] : List (Nat × Nat)) s.heap H → va_S A s.heap H locs → el H o0 (dI 7 0) = some (.ref th) → el H th ix_tv.toNatClampNeg = some (.int tv) → el H o0 (dI 7 13) = some (.int z16) → ∀ ls : Array Slot, lv_has ls 4 [(3, .int (nI i11)), (2, .int z12), (0, .ref o0), (1, .int 1)] → W p l e (headSpec w_c_readAny1 ({ frames := 21, cells := 0, slots := 0, locals := 477 })).room s m #[.ref o0, .int 1] below meth c H locs 0 0 (MQ below (va_Qi (fun (r : Int32) (u : Int32) => (0 ≤ u.toInt ∧ u.toInt ≤ 400) ∧ (0 ≤ r.toInt ∧ r.toInt ≤ 1) ∧ (a0.toInt ≤ u.toInt ∧ u.toInt ≤ tn.toInt)) (fun (a1 : Int32) (t : State) => gH (dC, dI) kA (SHc nC nS) G t.heap ∧ gF (dC, dI) SKc G ([(7, 12), (7, 13), (49, 0)] : List (Nat × Nat)) s.heap t.heap ∧ el t.heap o0 (dI 7 13) = some (.int a1)) A) #[.ref o0, .int 1] s 0 0 A) (F0 m 8 ls []) := by
    intro n53
    induction n53 with
    | zero =>
      intro i11 hn53 hlo54 z12 z16 ⟨h13, h17, hj19⟩ H locs hT hF hS m14 m15 m18 ls hl
      obtain rfl : 400 = i11 := by omega
      refine lv_iload_n hx hb dX4_readAny_8 rfl (lv_at hl 0 rfl) ?_
      refine lv_sipush (v := 400) hx hb dX4_readAny_9 (by decide) ?_
      refine lv_icmp_ge (tgt := 46) hx hb dX4_readAny_12 (by decide) (fun c55 => ?_) (fun c55 => (by exfalso; have q9 : ((400 : Nat) : Int) < 400 := ti_nle c55 (by decide) (nI_toInt (by omega)); omega))
      have t56 : 400 ≤ ((400 : Nat) : Int) := ti_le c55 (by decide) (nI_toInt (by omega))
      refine lv_iload_n hx hb dX4_readAny_46 rfl (lv_at hl 1 rfl) ?_
      exact W.zret (v := z12) hx hb hr (nar_b (by have q8 := ti_all z12; omega)) (fun t ht hW => ⟨⟨z12, z16, rfl, (by exact ⟨(by have q8 := ti_all z16; omega), (by have q8 := ti_all z12; omega), (by omega)⟩), by (try dsimp only); rw [ht]; exact ⟨hT, hF, m18⟩⟩, hS.F ht⟩) hS.2.2 dX4_readAny_47
    | succ n53 ih53 =>
      intro i11 hn53 hlo54 z12 z16 ⟨h13, h17, hj19⟩ H locs hT hF hS m14 m15 m18 ls hl
      have hlt56 : i11 < 400 := by omega
      refine lv_iload_n hx hb dX4_readAny_8 rfl (lv_at hl 0 rfl) ?_
      refine lv_sipush (v := 400) hx hb dX4_readAny_9 (by decide) ?_
      refine lv_icmp_ge (tgt := 46) hx hb dX4_readAny_12 (by decide) (fun c57 => (by exfalso; have q9 : 400 ≤ ((i11 : Nat) : Int) := ti_le c57 (by decide) (nI_toInt (by omega)); omega)) (fun c57 => ?_)
      have t58 : ((i11 : Nat) : Int) < 400 := ti_nle c57 (by decide) (nI_toInt (by omega))
      refine lv_iload_n hx hb dX4_readAny_15 rfl (lv_at hl 1 rfl) ?_
      refine lv_if_eq (tgt := 46) hx hb dX4_readAny_16 (by decide) (fun c59 => ?_) (fun c59 => ?_)
      · have t60 : z12.toInt = 0 := ti_eq c59 rfl (by decide)
        refine lv_iload_n hx hb dX4_readAny_46 rfl (lv_at hl 1 rfl) ?_
        exact W.zret (v := z12) hx hb hr (nar_b (by have q8 := ti_all z12; omega)) (fun t ht hW => ⟨⟨z12, z16, rfl, (by exact ⟨(by have q8 := ti_all z16; omega), (by have q8 := ti_all z12; omega), (by omega)⟩), by (try dsimp only); rw [ht]; exact ⟨hT, hF, m18⟩⟩, hS.F ht⟩) hS.2.2 dX4_readAny_47
      · have t61 : z12.toInt ≠ 0 := ti_ne c59 rfl (by decide)
        refine lv_aload_n hx hb dX4_readAny_19 rfl (lv_at hl 2 rfl) ?_
        refine lv_bipush (v := 15) hx hb dX4_readAny_20 (by decide) ?_
        have hFc := gA_free hG hA hS
        refine va_calli (va_runV (As := [.int 15]) (rest := []) ⟨hx, hb, hml, hown, hts⟩ (c_take l dC dI kA adK adV G H nC nS o0 15 th z16 tv ix_tv ix_tv hT hr_o0 m14 hr_th m18 (by have q8 := ti_all ix_tv; omega) (by have q8 := ti_all z16; omega) (by have := (show z16.toInt = z16.toInt from rfl); have := (show ix_tv.toInt = ix_tv.toInt from rfl); omega) (by have := (show (15 : Int32).toInt = 15 from (by decide)); omega) (by have q9 := (show ix_tv.toInt = ix_tv.toInt from rfl); have := (show ix_tv.toInt = ix_tv.toInt from rfl); omega) m15 (by have q8 := ti_all tv; omega) (by omega) (by omega)) (cwV 1 hts (goodIn_app (goodIn_r _ [20, 21, 22, 15] rfl (by decide +kernel)) (goodIn_ca (goodIn_r _ [19, 3, 4] rfl (by decide +kernel)) (bs2_in _ _))) rfl rfl rfl (by decide +kernel) ⟨(Nat.le_of_ble_eq_true rfl), (Nat.le_of_ble_eq_true rfl)⟩) ⟨fun a U g mk q => by obtain ⟨q0, q1, qK, qE⟩ := q; exact ⟨q0, q1, va_K.moved (u := U) (U := U.calling g mk a) (Vm.Alike.refl U.vm) qK, EVC.blind g mk a qE⟩, gH_rc hK hT hr_o0 shc_7 rfl, fun U hU hW => ⟨rfl, hU, va_K.moved hW.alike hK, hE.call hS hFc hU hW⟩⟩ rfl rfl hl.1 rfl (lv_room (Nat.le_of_ble_eq_true rfl)) dX4_readAny_22 ⟨(Nat.le_of_ble_eq_true rfl), (Nat.le_of_ble_eq_true rfl)⟩) hS (fun q _ h => hFc q h) hFc (fun r62 u t H locs ht hvm hw63 hB _ _ hS => ?_)
        obtain ⟨u64, rfl⟩ : ∃ z, z = u := ⟨_, rfl⟩
        obtain ⟨hT, hF1, m65⟩ := hB
        rw [ht] at hT hF1 m65
        have m66 := (hF1.fld hr_o0 skc_7 (k := 0) (by decide) (by decide)).trans m14
        have m67 := (el_kept (hF1.arr hr_th skc_40 (by decide))).trans m15
        have hF := hF.more hF1 (by decide)
        try dsimp only at hw63
        obtain ⟨h69, h70, hf71⟩ := hw63
        refine lv_if_eq (tgt := 46) hx hb dX4_readAny_25 (by decide) (fun c72 => ?_) (fun c72 => ?_)
        · have t73 : r62.toInt = 0 := ti_eq c72 rfl (by decide)
          refine lv_iload_n hx hb dX4_readAny_46 rfl (lv_at hl 1 rfl) ?_
          exact W.zret (v := z12) hx hb hr (nar_b (by have q8 := ti_all z12; omega)) (fun t ht hW => ⟨⟨z12, u64, rfl, (by exact ⟨(by have q8 := ti_all u64; omega), (by have q8 := ti_all z12; omega), (by omega)⟩), by (try dsimp only); rw [ht]; exact ⟨hT, hF, m65⟩⟩, hS.F ht⟩) hS.2.2 dX4_readAny_47
        · have t74 : r62.toInt ≠ 0 := ti_ne c72 rfl (by decide)
          refine lv_aload_n hx hb dX4_readAny_28 rfl (lv_at hl 2 rfl) ?_
          refine lv_iload_n hx hb dX4_readAny_29 rfl (lv_at hl 3 rfl) ?_
          have hFc := gA_free hG hA hS
          refine va_calli (va_runV (As := [.int 1]) (rest := []) ⟨hx, hb, hml, hown, hts⟩ (c_readAll1 l dC dI kA adK adV G H nC nS o0 th u64 tv ix_tv ix_tv hT hr_o0 m66 hr_th m65 (by have q8 := ti_all ix_tv; omega) (by have q8 := ti_all u64; omega) (by have := (show u64.toInt = u64.toInt from rfl); have := (show ix_tv.toInt = ix_tv.toInt from rfl); omega) (by have q9 := (show ix_tv.toInt = ix_tv.toInt from rfl); have := (show ix_tv.toInt = ix_tv.toInt from rfl); omega) m67 (by have q8 := ti_all tv; omega) (by omega) (by omega)) (cwV 1 hts (goodIn_app (goodIn_r _ [32, 33, 34, 15] rfl (by decide +kernel)) (goodIn_ca (goodIn_r _ [1, 2, 3, 4, 5, 1, 6, 7, 8, 9, 10, 11, 12, 13, 14, 15, 16, 17, 18, 19, 20, 21, 22, 23, 24, 25, 26, 27, 28, 29, 30, 31, 32, 33, 34, 35, 36, 37] rfl (by decide +kernel)) (bs2_in _ _))) rfl rfl rfl (by decide +kernel) ⟨(Nat.le_of_ble_eq_true rfl), (Nat.le_of_ble_eq_true rfl)⟩) ⟨fun a U g mk q => by obtain ⟨q0, q1, qK, qE⟩ := q; exact ⟨q0, q1, va_K.moved (u := U) (U := U.calling g mk a) (Vm.Alike.refl U.vm) qK, EVC.blind g mk a qE⟩, gH_rc hK hT hr_o0 shc_7 rfl, fun U hU hW => ⟨rfl, hU, va_K.moved hW.alike hK, hE.call hS hFc hU hW⟩⟩ rfl rfl hl.1 rfl (lv_room (Nat.le_of_ble_eq_true rfl)) dX4_readAny_30 ⟨(Nat.le_of_ble_eq_true rfl), (Nat.le_of_ble_eq_true rfl)⟩) hS (fun q _ h => hFc q h) hFc (fun r75 u t H locs ht hvm hw76 hB _ _ hS => ?_)
          obtain ⟨u77, rfl⟩ : ∃ z, z = u := ⟨_, rfl⟩
          obtain ⟨hT, hF1, m78⟩ := hB
          rw [ht] at hT hF1 m78
          have m79 := (hF1.fld hr_o0 skc_7 (k := 0) (by decide) (by decide)).trans m66
          have m80 := (el_kept (hF1.arr hr_th skc_40 (by decide))).trans m67
          have hF := hF.more hF1 (by decide)
          try dsimp only at hw76
          obtain ⟨h82, h83, hf84⟩ := hw76
          refine lv_istore_n (lv' := [(2, .int r75), (3, .int (nI i11)), (0, .ref o0), (1, .int 1)]) hx hb dX4_readAny_33 rfl hl (by decide) rfl (fun ls hl => ?_)
          refine lv_aload_n hx hb dX4_readAny_34 rfl (lv_at hl 2 rfl) ?_
          refine lv_bipush (v := 15) hx hb dX4_readAny_35 (by decide) ?_
          have hFc := gA_free hG hA hS
          refine va_callv (va_runV (As := [.int 15]) (rest := []) ⟨hx, hb, hml, hown, hts⟩ (c_addStep l dC dI kA adK adV G H nC nS o0 15 hT hr_o0 (rg_t (a := 15) (by decide) (by first | decide | omega) (by first | decide | omega)) (by omega) (by omega)) (cwV 1 hts (goodIn_app (goodIn_r _ [12, 13, 14, 15] rfl (by decide +kernel)) (goodIn_ca (goodIn_r _ [9, 10, 11] rfl (by decide +kernel)) (bs2_in _ _))) rfl rfl rfl (by decide +kernel) ⟨(Nat.le_of_ble_eq_true rfl), (Nat.le_of_ble_eq_true rfl)⟩) ⟨fun a U g mk q => by obtain ⟨q0, q1, qK, qE⟩ := q; exact ⟨q0, q1, va_K.moved (u := U) (U := U.calling g mk a) (Vm.Alike.refl U.vm) qK, EVC.blind g mk a qE⟩, gH_rc hK hT hr_o0 shc_7 rfl, fun U hU hW => ⟨rfl, hU, va_K.moved hW.alike hK, hE.call hS hFc hU hW⟩⟩ rfl rfl hl.1 rfl (lv_room (Nat.le_of_ble_eq_true rfl)) dX4_readAny_37 ⟨(Nat.le_of_ble_eq_true rfl), (Nat.le_of_ble_eq_true rfl)⟩) hS (fun q _ h => hFc q h) hFc (fun u t H locs ht hvm hw86 hB _ _ hS => ?_)
          obtain ⟨hT, hF1⟩ := hB
          rw [ht] at hT hF1
          have m87 := (hF1.fld hr_o0 skc_7 (k := 0) (by decide) (by decide)).trans m79
          have m88 := (el_kept (hF1.arr hr_th skc_40 (by decide))).trans m80
          have m89 := (hF1.fld hr_o0 skc_7 (k := 13) (by decide) (by decide)).trans m78
          have hF := hF.more hF1 (by decide)
          try dsimp only at hw86
          refine lv_iinc (v := nI (i11 + 1)) (lv' := [(3, .int (nI (i11 + 1))), (2, .int r75), (0, .ref o0), (1, .int 1)]) hx hb dX4_readAny_40 hl (k := 1) rfl (nI_add i11 1) (by decide) rfl (fun ls hl => ?_)
          refine lv_goto (tgt := 8) hx hb dX4_readAny_43 (by decide) ?_
          exact ih53 (i11 + 1) (by omega) (by omega) r75 u77 ⟨(by have q8 := ti_all r75; omega), (by have q8 := ti_all u77; omega), (by have := hx_tv; have := (show u77.toInt = u77.toInt from rfl); omega)⟩ _ _ hT hF hS m87 m88 m89 ls (lv_sub hl [0, 1, 2, 3] rfl)
  exact key53 (400 - 0) 0 (by omega) (Nat.le_refl _) r1 u3 ⟨(by have q8 := ti_all r1; omega), (by have q8 := ti_all u3; omega), (by have := hx_tv; have := (show u3.toInt = u3.toInt from rfl); omega)⟩ _ _ hT hF hS m5 m7 m4 ls (lv_sub hl [0, 1, 2, 3] rfl)
def w_c_readAtom0 : List Cond := .code yX4_readAtom cX4_readAtom 4 (some .boolean) :: (HAppend.hAppend (α := List Cond) (β := List Cond) (γ := List Cond) [.fieldLink RX4 11 "SeaLand$Law" "things" "[I", .fieldLink RX4 56 "SeaLand$Law" "at" "I", .code yX4_readAny cX4_readAny 4 (some .boolean), .code yX4_readAll cX4_readAll 4 (some .boolean), .code yX4_readAtom cX4_readAtom 4 (some .boolean), .code yX4_readComparison cX4_readComparison 3 (some .boolean), .code yX4_readSum cX4_readSum 3 (some .boolean), .code yX4_readPart cX4_readPart 2 (some .boolean), .code yX4_addStep cX4_addStep 2 none, .fieldLink RX4 63 "SeaLand$Law" "stepped" "I", .fieldLink RX4 39 "SeaLand$Law" "steps" "[I", .methodLink RX4 179 yX4_addStep, .instanceMethod yX4_addStep, .selects RX4 yX4_addStep yX4_addStep, .initialized RX4, .methodLink RX4 192 yX4_readPart, .instanceMethod yX4_readPart, .selects RX4 yX4_readPart yX4_readPart, .code yX4_take cX4_take 2 (some .boolean), .methodLink RX4 70 yX4_take, .instanceMethod yX4_take, .selects RX4 yX4_take yX4_take, .methodLink RX4 189 yX4_readSum, .instanceMethod yX4_readSum, .selects RX4 yX4_readSum yX4_readSum, .methodLink RX4 186 yX4_readComparison, .instanceMethod yX4_readComparison, .selects RX4 yX4_readComparison yX4_readComparison, .methodLink RX4 183 yX4_readAtom, .instanceMethod yX4_readAtom, .selects RX4 yX4_readAtom yX4_readAtom, .methodLink RX4 176 yX4_readAll, .instanceMethod yX4_readAll, .selects RX4 yX4_readAll yX4_readAll, .methodLink RX4 173 yX4_readAny, .instanceMethod yX4_readAny, .selects RX4 yX4_readAny yX4_readAny] bs2)
set_option maxHeartbeats 4000000 in
set_option maxRecDepth 100000 in
theorem c_readAtom0 (l : Launch) (dC : Nat → ClassId) (dI : Nat → Nat → Nat) (kA : Nat → ClassId) (adK adV : Nat → Nat) (G : gT) (H0 : Heap) (nC nS : Int) (o0 : Nat) (th : Nat) (a0 : Int32) (tv ix_tv : Int32) (tn : Int32) (hT : gH (dC, dI) kA (SHc nC nS) G H0) (hr_o0 : G o0 = some 7) (hm_th : el H0 o0 (dI 7 0) = some (.ref th)) (hr_th : G th = some 40) (hm_a0 : el H0 o0 (dI 7 13) = some (.int a0)) (hq0 : 0 ≤ tn.toInt ∧ tn.toInt ≤ 400) (hq1 : 0 ≤ a0.toInt ∧ a0.toInt ≤ 400) (hat : a0.toInt ≤ tn.toInt) (hx_tv : ix_tv.toInt = tn.toInt) (hm_tv : el H0 th ix_tv.toNatClampNeg = some (.int tv)) (hv_tv : 21 ≤ tv.toInt ∧ tv.toInt ≤ 21) (hgC : 0 ≤ nC ∧ nC ≤ 40) (hgS : 0 ≤ nS ∧ nS ≤ 60) : Met l yX4_readAtom w_c_readAtom0 ({ frames := 22, cells := 0, slots := 0, locals := 500 }) (va_Pc [.ref o0, .int 0] (fun U => U.heap = H0 ∧ va_K (dC, dI) vwCl (tyl kA) U ∧ EVC adK adV (gA G H0.size) U U.heap)) (va_Qi (fun (r : Int32) (u : Int32) => (0 ≤ u.toInt ∧ u.toInt ≤ 400) ∧ (0 ≤ r.toInt ∧ r.toInt ≤ 1) ∧ (a0.toInt ≤ u.toInt ∧ u.toInt ≤ tn.toInt)) (fun (a1 : Int32) (t : State) => gH (dC, dI) kA (SHc nC nS) G t.heap ∧ gF (dC, dI) SKc G ([(7, 12), (7, 13), (49, 0)] : List (Nat × Nat)) H0 t.heap ∧ el t.heap o0 (dI 7 13) = some (.int a1)) (gA G H0.size)) 0 0 (gA G H0.size) := by
  refine Met.ofW (cc := cX4_readAtom) (maxL := 4) (ret := (some .boolean)) (by decide) rfl ?_
  intro p e s m args below meth c s₁ B hml hv
  obtain ⟨rfl, hH0, hK, hE⟩ := hv
  have hx := B.exec
  have hb := B.bytes
  have hr := B.returns
  have hts := atoms_spec (ws := w_c_readAtom0) B.pre
  have hown : s.vm.findClass RX4 = some m.cls := findClass_of_methodNamed B.named
  have hlocks := B.notSynchronized
  subst hH0
  generalize hAe : gA G s.heap.size = A at hE ⊢
  have hA : ∀ q : Nat, s.heap.size ≤ q → A q := fun q h => by rw [← hAe]; exact Or.inr h
  have hG := gA_of hAe
  have hS : va_S A s.heap s.heap [] := va_S.rf
  have hF : gF (dC, dI) SKc G ([(7, 12), (7, 13), (49, 0)] : List (Nat × Nat)) s.heap s.heap := gF.rf
  have hl := lv_entry ([.ref o0, .int 0]) (n := 4) (Nat.le_of_ble_eq_true rfl)
  rw [lg_entry_eq]
  generalize (lg_sl ([.ref o0, .int 0]) ++ List.replicate (4 - (lg_sl ([.ref o0, .int 0])).length) Slot.unset).toArray = ls at hl ⊢
  have hl : lv_has ls 4 [(0, .ref o0), (1, .int 0)] := hl
  refine lv_aload_n hx hb dX4_readAtom_0 rfl (lv_at hl 0 rfl) ?_
  refine tw_getM (v := .ref th) hx hb hts bF2_X4 hown hK hT hr_o0 shc_7 rfl 0 (by decide) (ht_at2 hts 0 rfl) (fun _ h9 => h9) hm_th dX4_readAtom_1 ?_
  refine lv_aload_n hx hb dX4_readAtom_4 rfl (lv_at hl 0 rfl) ?_
  refine tw_getM (v := .int a0) hx hb hts bF2_X4 hown hK hT hr_o0 shc_7 rfl 13 (by decide) (ht_at2 hts 1 rfl) (fun _ h9 => h9) hm_a0 dX4_readAtom_5 ?_
  refine tw_iald (i := a0) hx hb hK hT hr_th shc_40 rfl (vin_t (a := a0.toInt) rfl (by omega) (by omega)) dX4_readAtom_8 (fun v9 m1 h9 => ?_)
  obtain ⟨x2, rfl, gx2, kx2⟩ := h9
  have t3 : a0.toInt = ix_tv.toInt → x2.toInt = tv.toInt := fun h8 => congrArg Int32.toInt (el_same m1 hm_tv h8)
  refine lv_bipush (v := 13) hx hb dX4_readAtom_9 (by decide) ?_
  have t4 : -2147483648 ≤ x2.toInt ∧ x2.toInt ≤ 2147483647 := ti_all x2
  refine lv_icmp_ne (tgt := 18) hx hb dX4_readAtom_11 (by decide) (fun c5 => ?_) (fun c5 => ?_)
  · have t6 : x2.toInt ≠ 13 := ti_ne c5 rfl (by decide)
    refine lv_iconst (v := 0) hx hb dX4_readAtom_18 (by decide) ?_
    refine lv_istore_n (lv' := [(2, .int 0), (0, .ref o0), (1, .int 0)]) hx hb dX4_readAtom_19 rfl hl (by decide) rfl (fun ls hl => ?_)
    refine lv_iload_n hx hb dX4_readAtom_20 rfl (lv_at hl 0 rfl) ?_
    refine lv_if_ne (tgt := 43) hx hb dX4_readAtom_21 (by decide) (fun c7 => absurd c7 (by decide)) (fun c7 => ?_)
    refine lv_aload_n hx hb dX4_readAtom_24 rfl (lv_at hl 1 rfl) ?_
    refine tw_getM (v := .ref th) hx hb hts bF2_X4 hown hK hT hr_o0 shc_7 rfl 0 (by decide) (ht_at2 hts 0 rfl) (fun _ h9 => h9) hm_th dX4_readAtom_25 ?_
    refine lv_aload_n hx hb dX4_readAtom_28 rfl (lv_at hl 1 rfl) ?_
    refine tw_getM (v := .int a0) hx hb hts bF2_X4 hown hK hT hr_o0 shc_7 rfl 13 (by decide) (ht_at2 hts 1 rfl) (fun _ h9 => h9) hm_a0 dX4_readAtom_29 ?_
    refine tw_iald (i := a0) hx hb hK hT hr_th shc_40 rfl (vin_t (a := a0.toInt) rfl (by omega) (by omega)) dX4_readAtom_32 (fun v9 m8 h9 => ?_)
    obtain ⟨x9, rfl, gx9, kx9⟩ := h9
    have t10 : a0.toInt = ix_tv.toInt → x9.toInt = tv.toInt := fun h8 => congrArg Int32.toInt (el_same m8 hm_tv h8)
    obtain rfl : x2 = x9 := (el_same m8 m1 rfl).symm
    refine lv_bipush (v := 16) hx hb dX4_readAtom_33 (by decide) ?_
    refine lv_icmp_eq (tgt := 43) hx hb dX4_readAtom_35 (by decide) (fun c11 => ?_) (fun c11 => ?_)
    · have t12 : x2.toInt = 16 := ti_eq c11 rfl (by decide)
      refine lv_iload_n hx hb dX4_readAtom_43 rfl (lv_at hl 2 rfl) ?_
      refine lv_bipush (v := 6) hx hb dX4_readAtom_44 (by decide) ?_
      refine lv_icmp_lt (tgt := 51) hx hb dX4_readAtom_46 (by decide) (fun c13 => ?_) (fun c13 => absurd c13 (by decide))
      refine lv_aload_n hx hb dX4_readAtom_51 rfl (lv_at hl 1 rfl) ?_
      refine lv_dup hx hb dX4_readAtom_52 rfl ?_
      refine tw_getM (v := .int a0) hx hb hts bF2_X4 hown hK hT hr_o0 shc_7 rfl 13 (by decide) (ht_at2 hts 1 rfl) (fun _ h9 => h9) hm_a0 dX4_readAtom_53 ?_
      refine lv_iconst (v := 1) hx hb dX4_readAtom_56 (by decide) ?_
      refine lv_iadd hx hb dX4_readAtom_57 ?_
      refine lv_topi (fun x14 ex14 => ?_)
      have t15 : x14.toInt = a0.toInt + 1 := ti_add ex14 rfl (by decide) (by omega) (by omega)
      refine tw_put (v := .int x14) (ty := .int) hx hb hts bF2_X4 tyX4 tyX4_ok nmX4 hown hK hT hG hS hr_o0 shc_7 rfl 13 (by decide) (ht_at2 hts 1 rfl) (fun _ h9 => h9) rfl (by decide +kernel) rfl rfl (gl_at rfl (gi_of (show x14.toInt = x14.toInt from rfl) (by omega) (by omega))) dX4_readAtom_58 (fun H locs hT oq m16 oj hS => ?_)
      have hF := hF.put hr_o0 skc_7 oq oj (by decide)
      have m17 := (oj 0 (by decide) (by decide)).trans hm_th
      have m18 := (el_kept (oq _ (gne hr_th hr_o0 (by decide)))).trans hm_tv
      refine lv_iload_n hx hb dX4_readAtom_61 rfl (lv_at hl 0 rfl) ?_
      refine lv_if_eq (tgt := 81) hx hb dX4_readAtom_62 (by decide) (fun c20 => ?_) (fun c20 => absurd c20 (by decide))
      refine lv_aload_n hx hb dX4_readAtom_81 rfl (lv_at hl 1 rfl) ?_
      refine lv_iload_n hx hb dX4_readAtom_82 rfl (lv_at hl 2 rfl) ?_
      refine lv_iconst (v := 1) hx hb dX4_readAtom_83 (by decide) ?_
      refine lv_iadd hx hb dX4_readAtom_84 ?_
      refine lv_topi (fun x21 ex21 => ?_)
      obtain rfl : x21 = 1 := ex21.trans (by decide)
      have hFc := gA_free hG hA hS
      refine va_calli (va_runV (As := [.int 1]) (rest := []) ⟨hx, hb, hml, hown, hts⟩ (c_readAny1 l dC dI kA adK adV G H nC nS o0 th x14 tv ix_tv ix_tv hT hr_o0 m17 hr_th m16 (by have q8 := ti_all ix_tv; omega) (by have q8 := ti_all x14; omega) (by have := (show x14.toInt = x14.toInt from rfl); have := (show ix_tv.toInt = ix_tv.toInt from rfl); omega) (by have q9 := (show ix_tv.toInt = ix_tv.toInt from rfl); have := (show ix_tv.toInt = ix_tv.toInt from rfl); omega) m18 (by have q8 := ti_all tv; omega) (by omega) (by omega)) (cwV 1 hts (goodIn_app (goodIn_r _ [35, 36, 37, 15] rfl (by decide +kernel)) (goodIn_ca (goodIn_r _ [3, 4, 5, 1, 2, 3, 6, 7, 8, 9, 10, 11, 12, 13, 14, 15, 16, 17, 18, 19, 20, 21, 22, 23, 24, 25, 26, 27, 28, 29, 30, 31, 32, 33, 34, 35, 36, 37] rfl (by decide +kernel)) (bs2_in _ _))) rfl rfl rfl (by decide +kernel) ⟨(Nat.le_of_ble_eq_true rfl), (Nat.le_of_ble_eq_true rfl)⟩) ⟨fun a U g mk q => by obtain ⟨q0, q1, qK, qE⟩ := q; exact ⟨q0, q1, va_K.moved (u := U) (U := U.calling g mk a) (Vm.Alike.refl U.vm) qK, EVC.blind g mk a qE⟩, gH_rc hK hT hr_o0 shc_7 rfl, fun U hU hW => ⟨rfl, hU, va_K.moved hW.alike hK, hE.call hS hFc hU hW⟩⟩ rfl rfl hl.1 rfl (lv_room (Nat.le_of_ble_eq_true rfl)) dX4_readAtom_85 ⟨(Nat.le_of_ble_eq_true rfl), (Nat.le_of_ble_eq_true rfl)⟩) hS (fun q _ h => hFc q h) hFc (fun r22 u t H locs ht hvm hw23 hB _ _ hS => ?_)
      obtain ⟨u24, rfl⟩ : ∃ z, z = u := ⟨_, rfl⟩
      obtain ⟨hT, hF1, m25⟩ := hB
      rw [ht] at hT hF1 m25
      have m26 := (hF1.fld hr_o0 skc_7 (k := 0) (by decide) (by decide)).trans m17
      have m27 := (el_kept (hF1.arr hr_th skc_40 (by decide))).trans m18
      have hF := hF.more hF1 (by decide)
      try dsimp only at hw23
      obtain ⟨h30, h31, hf32⟩ := hw23
      refine lv_if_eq (tgt := 104) hx hb dX4_readAtom_88 (by decide) (fun c33 => ?_) (fun c33 => ?_)
      · have t34 : r22.toInt = 0 := ti_eq c33 rfl (by decide)
        refine lv_iconst (v := 0) hx hb dX4_readAtom_104 (by decide) ?_
        exact W.zret (v := 0) hx hb hr (by decide) (fun t ht hW => ⟨⟨0, u24, rfl, (by exact ⟨(by have q8 := ti_all u24; omega), (rg_t (a := 0) (by decide) (by first | decide | omega) (by first | decide | omega)), (by omega)⟩), by (try dsimp only); rw [ht]; exact ⟨hT, hF, m25⟩⟩, hS.F ht⟩) hS.2.2 dX4_readAtom_105
      · have t35 : r22.toInt ≠ 0 := ti_ne c33 rfl (by decide)
        refine lv_aload_n hx hb dX4_readAtom_91 rfl (lv_at hl 1 rfl) ?_
        refine lv_bipush (v := 17) hx hb dX4_readAtom_92 (by decide) ?_
        have hFc := gA_free hG hA hS
        refine va_calli (va_runV (As := [.int 17]) (rest := []) ⟨hx, hb, hml, hown, hts⟩ (c_take l dC dI kA adK adV G H nC nS o0 17 th u24 tv ix_tv ix_tv hT hr_o0 m26 hr_th m25 (by have q8 := ti_all ix_tv; omega) (by have q8 := ti_all u24; omega) (by have := (show u24.toInt = u24.toInt from rfl); have := (show ix_tv.toInt = ix_tv.toInt from rfl); omega) (by have := (show (17 : Int32).toInt = 17 from (by decide)); omega) (by have q9 := (show ix_tv.toInt = ix_tv.toInt from rfl); have := (show ix_tv.toInt = ix_tv.toInt from rfl); omega) m27 (by have q8 := ti_all tv; omega) (by omega) (by omega)) (cwV 1 hts (goodIn_app (goodIn_r _ [20, 21, 22, 15] rfl (by decide +kernel)) (goodIn_ca (goodIn_r _ [19, 1, 2] rfl (by decide +kernel)) (bs2_in _ _))) rfl rfl rfl (by decide +kernel) ⟨(Nat.le_of_ble_eq_true rfl), (Nat.le_of_ble_eq_true rfl)⟩) ⟨fun a U g mk q => by obtain ⟨q0, q1, qK, qE⟩ := q; exact ⟨q0, q1, va_K.moved (u := U) (U := U.calling g mk a) (Vm.Alike.refl U.vm) qK, EVC.blind g mk a qE⟩, gH_rc hK hT hr_o0 shc_7 rfl, fun U hU hW => ⟨rfl, hU, va_K.moved hW.alike hK, hE.call hS hFc hU hW⟩⟩ rfl rfl hl.1 rfl (lv_room (Nat.le_of_ble_eq_true rfl)) dX4_readAtom_94 ⟨(Nat.le_of_ble_eq_true rfl), (Nat.le_of_ble_eq_true rfl)⟩) hS (fun q _ h => hFc q h) hFc (fun r36 u t H locs ht hvm hw37 hB _ _ hS => ?_)
        obtain ⟨u38, rfl⟩ : ∃ z, z = u := ⟨_, rfl⟩
        obtain ⟨hT, hF1, m39⟩ := hB
        rw [ht] at hT hF1 m39
        have hF := hF.more hF1 (by decide)
        try dsimp only at hw37
        obtain ⟨h44, h45, hf46⟩ := hw37
        refine lv_if_eq (tgt := 104) hx hb dX4_readAtom_97 (by decide) (fun c47 => ?_) (fun c47 => ?_)
        · have t48 : r36.toInt = 0 := ti_eq c47 rfl (by decide)
          refine lv_iconst (v := 0) hx hb dX4_readAtom_104 (by decide) ?_
          exact W.zret (v := 0) hx hb hr (by decide) (fun t ht hW => ⟨⟨0, u38, rfl, (by exact ⟨(by have q8 := ti_all u38; omega), (rg_t (a := 0) (by decide) (by first | decide | omega) (by first | decide | omega)), (by omega)⟩), by (try dsimp only); rw [ht]; exact ⟨hT, hF, m39⟩⟩, hS.F ht⟩) hS.2.2 dX4_readAtom_105
        · have t49 : r36.toInt ≠ 0 := ti_ne c47 rfl (by decide)
          refine lv_iconst (v := 1) hx hb dX4_readAtom_100 (by decide) ?_
          refine lv_goto (tgt := 105) hx hb dX4_readAtom_101 (by decide) ?_
          exact W.zret (v := 1) hx hb hr (by decide) (fun t ht hW => ⟨⟨1, u38, rfl, (by exact ⟨(by have q8 := ti_all u38; omega), (rg_t (a := 1) (by decide) (by first | decide | omega) (by first | decide | omega)), (by omega)⟩), by (try dsimp only); rw [ht]; exact ⟨hT, hF, m39⟩⟩, hS.F ht⟩) hS.2.2 dX4_readAtom_105
    · have t50 : x2.toInt ≠ 16 := ti_ne c11 rfl (by decide)
      refine lv_aload_n hx hb dX4_readAtom_38 rfl (lv_at hl 1 rfl) ?_
      have hFc := gA_free hG hA hS
      refine va_calli (va_runV (As := []) (rest := []) ⟨hx, hb, hml, hown, hts⟩ (c_readComparison l dC dI kA adK adV G s.heap nC nS o0 th a0 tv ix_tv ix_tv hT hr_o0 hm_th hr_th hm_a0 (by have q8 := ti_all ix_tv; omega) (by have q8 := ti_all a0; omega) (by have := (show a0.toInt = a0.toInt from rfl); have := (show ix_tv.toInt = ix_tv.toInt from rfl); omega) (by have q9 := (show ix_tv.toInt = ix_tv.toInt from rfl); have := (show ix_tv.toInt = ix_tv.toInt from rfl); omega) hm_tv (by have q8 := ti_all tv; omega) (by omega) (by omega)) (cwV 0 hts (goodIn_app (goodIn_r _ [26, 27, 28, 15] rfl (by decide +kernel)) (goodIn_ca (goodIn_r _ [6, 7, 8, 1, 2, 9, 10, 11, 12, 13, 14, 15, 16, 17, 18, 19, 20, 21, 22, 23, 24, 25] rfl (by decide +kernel)) (bs2_in _ _))) rfl rfl rfl (by decide +kernel) ⟨(Nat.le_of_ble_eq_true rfl), (Nat.le_of_ble_eq_true rfl)⟩) ⟨fun a U g mk q => by obtain ⟨q0, q1, qK, qE⟩ := q; exact ⟨q0, q1, va_K.moved (u := U) (U := U.calling g mk a) (Vm.Alike.refl U.vm) qK, EVC.blind g mk a qE⟩, gH_rc hK hT hr_o0 shc_7 rfl, fun U hU hW => ⟨rfl, hU, va_K.moved hW.alike hK, hE.call hS hFc hU hW⟩⟩ rfl rfl hl.1 rfl (lv_room (Nat.le_of_ble_eq_true rfl)) dX4_readAtom_39 ⟨(Nat.le_of_ble_eq_true rfl), (Nat.le_of_ble_eq_true rfl)⟩) hS (fun q _ h => hFc q h) hFc (fun r51 u t H locs ht hvm hw52 hB _ _ hS => ?_)
      obtain ⟨u53, rfl⟩ : ∃ z, z = u := ⟨_, rfl⟩
      obtain ⟨hT, hF1, m54⟩ := hB
      rw [ht] at hT hF1 m54
      have hF := hF.more hF1 (by decide)
      try dsimp only at hw52
      obtain ⟨h59, h60, hf61⟩ := hw52
      exact W.zret (v := r51) hx hb hr (nar_b (by have q8 := ti_all r51; omega)) (fun t ht hW => ⟨⟨r51, u53, rfl, (by exact ⟨(by have q8 := ti_all u53; omega), (by have q8 := ti_all r51; omega), (by omega)⟩), by (try dsimp only); rw [ht]; exact ⟨hT, hF, m54⟩⟩, hS.F ht⟩) hS.2.2 dX4_readAtom_42
  · have t62 : x2.toInt = 13 := ti_eq c5 rfl (by decide)
    refine lv_iconst (v := 1) hx hb dX4_readAtom_14 (by decide) ?_
    refine lv_goto (tgt := 19) hx hb dX4_readAtom_15 (by decide) ?_
    refine lv_istore_n (lv' := [(2, .int 1), (0, .ref o0), (1, .int 0)]) hx hb dX4_readAtom_19 rfl hl (by decide) rfl (fun ls hl => ?_)
    refine lv_iload_n hx hb dX4_readAtom_20 rfl (lv_at hl 0 rfl) ?_
    refine lv_if_ne (tgt := 43) hx hb dX4_readAtom_21 (by decide) (fun c63 => ?_) (fun c63 => absurd c63 (by decide))
    refine lv_iload_n hx hb dX4_readAtom_43 rfl (lv_at hl 2 rfl) ?_
    refine lv_bipush (v := 6) hx hb dX4_readAtom_44 (by decide) ?_
    refine lv_icmp_lt (tgt := 51) hx hb dX4_readAtom_46 (by decide) (fun c64 => ?_) (fun c64 => absurd c64 (by decide))
    refine lv_aload_n hx hb dX4_readAtom_51 rfl (lv_at hl 1 rfl) ?_
    refine lv_dup hx hb dX4_readAtom_52 rfl ?_
    refine tw_getM (v := .int a0) hx hb hts bF2_X4 hown hK hT hr_o0 shc_7 rfl 13 (by decide) (ht_at2 hts 1 rfl) (fun _ h9 => h9) hm_a0 dX4_readAtom_53 ?_
    refine lv_iconst (v := 1) hx hb dX4_readAtom_56 (by decide) ?_
    refine lv_iadd hx hb dX4_readAtom_57 ?_
    refine lv_topi (fun x65 ex65 => ?_)
    have t66 : x65.toInt = a0.toInt + 1 := ti_add ex65 rfl (by decide) (by omega) (by omega)
    refine tw_put (v := .int x65) (ty := .int) hx hb hts bF2_X4 tyX4 tyX4_ok nmX4 hown hK hT hG hS hr_o0 shc_7 rfl 13 (by decide) (ht_at2 hts 1 rfl) (fun _ h9 => h9) rfl (by decide +kernel) rfl rfl (gl_at rfl (gi_of (show x65.toInt = x65.toInt from rfl) (by omega) (by omega))) dX4_readAtom_58 (fun H locs hT oq m67 oj hS => ?_)
    have hF := hF.put hr_o0 skc_7 oq oj (by decide)
    have m68 := (oj 0 (by decide) (by decide)).trans hm_th
    have m69 := (el_kept (oq _ (gne hr_th hr_o0 (by decide)))).trans hm_tv
    refine lv_iload_n hx hb dX4_readAtom_61 rfl (lv_at hl 0 rfl) ?_
    refine lv_if_eq (tgt := 81) hx hb dX4_readAtom_62 (by decide) (fun c71 => absurd c71 (by decide)) (fun c71 => ?_)
    refine lv_aload_n hx hb dX4_readAtom_65 rfl (lv_at hl 1 rfl) ?_
    refine lv_iload_n hx hb dX4_readAtom_66 rfl (lv_at hl 2 rfl) ?_
    refine lv_iconst (v := 1) hx hb dX4_readAtom_67 (by decide) ?_
    refine lv_iadd hx hb dX4_readAtom_68 ?_
    refine lv_topi (fun x72 ex72 => ?_)
    obtain rfl : x72 = 1 := ex72.trans (by decide)
    have hFc := gA_free hG hA hS
    refine va_calli (va_runV (As := [.int 1]) (rest := []) ⟨hx, hb, hml, hown, hts⟩ (c_readAtom1 l dC dI kA adK adV G H nC nS o0 th x65 tv ix_tv ix_tv hT hr_o0 m68 hr_th m67 (by have q8 := ti_all ix_tv; omega) (by have q8 := ti_all x65; omega) (by have := (show x65.toInt = x65.toInt from rfl); have := (show ix_tv.toInt = ix_tv.toInt from rfl); omega) (by have q9 := (show ix_tv.toInt = ix_tv.toInt from rfl); have := (show ix_tv.toInt = ix_tv.toInt from rfl); omega) m69 (by have q8 := ti_all tv; omega) (by omega) (by omega)) (cwV 1 hts (goodIn_app (goodIn_r _ [29, 30, 31, 15] rfl (by decide +kernel)) (goodIn_ca (goodIn_r _ [5, 1, 2, 3, 4, 5, 6, 7, 8, 9, 10, 11, 12, 13, 14, 15, 16, 17, 18, 19, 20, 21, 22, 23, 24, 25, 26, 27, 28, 29, 30, 31, 32, 33, 34, 35, 36, 37] rfl (by decide +kernel)) (bs2_in _ _))) rfl rfl rfl (by decide +kernel) ⟨(Nat.le_of_ble_eq_true rfl), (Nat.le_of_ble_eq_true rfl)⟩) ⟨fun a U g mk q => by obtain ⟨q0, q1, qK, qE⟩ := q; exact ⟨q0, q1, va_K.moved (u := U) (U := U.calling g mk a) (Vm.Alike.refl U.vm) qK, EVC.blind g mk a qE⟩, gH_rc hK hT hr_o0 shc_7 rfl, fun U hU hW => ⟨rfl, hU, va_K.moved hW.alike hK, hE.call hS hFc hU hW⟩⟩ rfl rfl hl.1 rfl (lv_room (Nat.le_of_ble_eq_true rfl)) dX4_readAtom_69 ⟨(Nat.le_of_ble_eq_true rfl), (Nat.le_of_ble_eq_true rfl)⟩) hS (fun q _ h => hFc q h) hFc (fun r73 u t H locs ht hvm hw74 hB _ _ hS => ?_)
    obtain ⟨u75, rfl⟩ : ∃ z, z = u := ⟨_, rfl⟩
    obtain ⟨hT, hF1, m76⟩ := hB
    rw [ht] at hT hF1 m76
    have hF := hF.more hF1 (by decide)
    try dsimp only at hw74
    obtain ⟨h81, h82, hf83⟩ := hw74
    refine lv_istore_n (lv' := [(3, .int r73), (2, .int 1), (0, .ref o0), (1, .int 0)]) hx hb dX4_readAtom_72 rfl hl (by decide) rfl (fun ls hl => ?_)
    refine lv_aload_n hx hb dX4_readAtom_73 rfl (lv_at hl 2 rfl) ?_
    refine lv_bipush (v := 13) hx hb dX4_readAtom_74 (by decide) ?_
    have hFc := gA_free hG hA hS
    refine va_callv (va_runV (As := [.int 13]) (rest := []) ⟨hx, hb, hml, hown, hts⟩ (c_addStep l dC dI kA adK adV G H nC nS o0 13 hT hr_o0 (rg_t (a := 13) (by decide) (by first | decide | omega) (by first | decide | omega)) (by omega) (by omega)) (cwV 1 hts (goodIn_app (goodIn_r _ [12, 13, 14, 15] rfl (by decide +kernel)) (goodIn_ca (goodIn_r _ [9, 10, 11] rfl (by decide +kernel)) (bs2_in _ _))) rfl rfl rfl (by decide +kernel) ⟨(Nat.le_of_ble_eq_true rfl), (Nat.le_of_ble_eq_true rfl)⟩) ⟨fun a U g mk q => by obtain ⟨q0, q1, qK, qE⟩ := q; exact ⟨q0, q1, va_K.moved (u := U) (U := U.calling g mk a) (Vm.Alike.refl U.vm) qK, EVC.blind g mk a qE⟩, gH_rc hK hT hr_o0 shc_7 rfl, fun U hU hW => ⟨rfl, hU, va_K.moved hW.alike hK, hE.call hS hFc hU hW⟩⟩ rfl rfl hl.1 rfl (lv_room (Nat.le_of_ble_eq_true rfl)) dX4_readAtom_76 ⟨(Nat.le_of_ble_eq_true rfl), (Nat.le_of_ble_eq_true rfl)⟩) hS (fun q _ h => hFc q h) hFc (fun u t H locs ht hvm hw85 hB _ _ hS => ?_)
    obtain ⟨hT, hF1⟩ := hB
    rw [ht] at hT hF1
    have m89 := (hF1.fld hr_o0 skc_7 (k := 13) (by decide) (by decide)).trans m76
    have hF := hF.more hF1 (by decide)
    try dsimp only at hw85
    refine lv_iload_n hx hb dX4_readAtom_79 rfl (lv_at hl 0 rfl) ?_
    exact W.zret (v := r73) hx hb hr (nar_b (by have q8 := ti_all r73; omega)) (fun t ht hW => ⟨⟨r73, u75, rfl, (by exact ⟨(by have q8 := ti_all u75; omega), (by have q8 := ti_all r73; omega), (by omega)⟩), by (try dsimp only); rw [ht]; exact ⟨hT, hF, m89⟩⟩, hS.F ht⟩) hS.2.2 dX4_readAtom_80
def w_c_readAll0 : List Cond := .code yX4_readAll cX4_readAll 4 (some .boolean) :: (HAppend.hAppend (α := List Cond) (β := List Cond) (γ := List Cond) [.code yX4_readAtom cX4_readAtom 4 (some .boolean), .fieldLink RX4 11 "SeaLand$Law" "things" "[I", .fieldLink RX4 56 "SeaLand$Law" "at" "I", .code yX4_readAny cX4_readAny 4 (some .boolean), .code yX4_readAll cX4_readAll 4 (some .boolean), .code yX4_readComparison cX4_readComparison 3 (some .boolean), .code yX4_readSum cX4_readSum 3 (some .boolean), .code yX4_readPart cX4_readPart 2 (some .boolean), .code yX4_addStep cX4_addStep 2 none, .fieldLink RX4 63 "SeaLand$Law" "stepped" "I", .fieldLink RX4 39 "SeaLand$Law" "steps" "[I", .methodLink RX4 179 yX4_addStep, .instanceMethod yX4_addStep, .selects RX4 yX4_addStep yX4_addStep, .initialized RX4, .methodLink RX4 192 yX4_readPart, .instanceMethod yX4_readPart, .selects RX4 yX4_readPart yX4_readPart, .code yX4_take cX4_take 2 (some .boolean), .methodLink RX4 70 yX4_take, .instanceMethod yX4_take, .selects RX4 yX4_take yX4_take, .methodLink RX4 189 yX4_readSum, .instanceMethod yX4_readSum, .selects RX4 yX4_readSum yX4_readSum, .methodLink RX4 186 yX4_readComparison, .instanceMethod yX4_readComparison, .selects RX4 yX4_readComparison yX4_readComparison, .methodLink RX4 183 yX4_readAtom, .instanceMethod yX4_readAtom, .selects RX4 yX4_readAtom yX4_readAtom, .methodLink RX4 176 yX4_readAll, .instanceMethod yX4_readAll, .selects RX4 yX4_readAll yX4_readAll, .methodLink RX4 173 yX4_readAny, .instanceMethod yX4_readAny, .selects RX4 yX4_readAny yX4_readAny] bs2)
set_option maxHeartbeats 4000000 in
set_option maxRecDepth 100000 in
theorem c_readAll0 (l : Launch) (dC : Nat → ClassId) (dI : Nat → Nat → Nat) (kA : Nat → ClassId) (adK adV : Nat → Nat) (G : gT) (H0 : Heap) (nC nS : Int) (o0 : Nat) (th : Nat) (a0 : Int32) (tv ix_tv : Int32) (tn : Int32) (hT : gH (dC, dI) kA (SHc nC nS) G H0) (hr_o0 : G o0 = some 7) (hm_th : el H0 o0 (dI 7 0) = some (.ref th)) (hr_th : G th = some 40) (hm_a0 : el H0 o0 (dI 7 13) = some (.int a0)) (hq0 : 0 ≤ tn.toInt ∧ tn.toInt ≤ 400) (hq1 : 0 ≤ a0.toInt ∧ a0.toInt ≤ 400) (hat : a0.toInt ≤ tn.toInt) (hx_tv : ix_tv.toInt = tn.toInt) (hm_tv : el H0 th ix_tv.toNatClampNeg = some (.int tv)) (hv_tv : 21 ≤ tv.toInt ∧ tv.toInt ≤ 21) (hgC : 0 ≤ nC ∧ nC ≤ 40) (hgS : 0 ≤ nS ∧ nS ≤ 60) : Met l yX4_readAll w_c_readAll0 ({ frames := 23, cells := 0, slots := 0, locals := 523 }) (va_Pc [.ref o0, .int 0] (fun U => U.heap = H0 ∧ va_K (dC, dI) vwCl (tyl kA) U ∧ EVC adK adV (gA G H0.size) U U.heap)) (va_Qi (fun (r : Int32) (u : Int32) => (0 ≤ u.toInt ∧ u.toInt ≤ 400) ∧ (0 ≤ r.toInt ∧ r.toInt ≤ 1) ∧ (a0.toInt ≤ u.toInt ∧ u.toInt ≤ tn.toInt)) (fun (a1 : Int32) (t : State) => gH (dC, dI) kA (SHc nC nS) G t.heap ∧ gF (dC, dI) SKc G ([(7, 12), (7, 13), (49, 0)] : List (Nat × Nat)) H0 t.heap ∧ el t.heap o0 (dI 7 13) = some (.int a1)) (gA G H0.size)) 0 0 (gA G H0.size) := by
  refine Met.ofW (cc := cX4_readAll) (maxL := 4) (ret := (some .boolean)) (by decide) rfl ?_
  intro p e s m args below meth c s₁ B hml hv
  obtain ⟨rfl, hH0, hK, hE⟩ := hv
  have hx := B.exec
  have hb := B.bytes
  have hr := B.returns
  have hts := atoms_spec (ws := w_c_readAll0) B.pre
  have hown : s.vm.findClass RX4 = some m.cls := findClass_of_methodNamed B.named
  have hlocks := B.notSynchronized
  subst hH0
  generalize hAe : gA G s.heap.size = A at hE ⊢
  have hA : ∀ q : Nat, s.heap.size ≤ q → A q := fun q h => by rw [← hAe]; exact Or.inr h
  have hG := gA_of hAe
  have hS : va_S A s.heap s.heap [] := va_S.rf
  have hF : gF (dC, dI) SKc G ([(7, 12), (7, 13), (49, 0)] : List (Nat × Nat)) s.heap s.heap := gF.rf
  have hl := lv_entry ([.ref o0, .int 0]) (n := 4) (Nat.le_of_ble_eq_true rfl)
  rw [lg_entry_eq]
  generalize (lg_sl ([.ref o0, .int 0]) ++ List.replicate (4 - (lg_sl ([.ref o0, .int 0])).length) Slot.unset).toArray = ls at hl ⊢
  have hl : lv_has ls 4 [(0, .ref o0), (1, .int 0)] := hl
  refine lv_aload_n hx hb dX4_readAll_0 rfl (lv_at hl 0 rfl) ?_
  refine lv_iload_n hx hb dX4_readAll_1 rfl (lv_at hl 1 rfl) ?_
  have hFc := gA_free hG hA hS
  refine va_calli (va_runV (As := [.int 0]) (rest := []) ⟨hx, hb, hml, hown, hts⟩ (c_readAtom0 l dC dI kA adK adV G s.heap nC nS o0 th a0 tv ix_tv ix_tv hT hr_o0 hm_th hr_th hm_a0 (by have q8 := ti_all ix_tv; omega) (by have q8 := ti_all a0; omega) (by have := (show a0.toInt = a0.toInt from rfl); have := (show ix_tv.toInt = ix_tv.toInt from rfl); omega) (by have q9 := (show ix_tv.toInt = ix_tv.toInt from rfl); have := (show ix_tv.toInt = ix_tv.toInt from rfl); omega) hm_tv (by have q8 := ti_all tv; omega) (by omega) (by omega)) (cwV 1 hts (goodIn_app (goodIn_r _ [29, 30, 31, 15] rfl (by decide +kernel)) (goodIn_ca (goodIn_r _ [1, 2, 3, 4, 5, 1, 6, 7, 8, 9, 10, 11, 12, 13, 14, 15, 16, 17, 18, 19, 20, 21, 22, 23, 24, 25, 26, 27, 28, 29, 30, 31, 32, 33, 34, 35, 36, 37] rfl (by decide +kernel)) (bs2_in _ _))) rfl rfl rfl (by decide +kernel) ⟨(Nat.le_of_ble_eq_true rfl), (Nat.le_of_ble_eq_true rfl)⟩) ⟨fun a U g mk q => by obtain ⟨q0, q1, qK, qE⟩ := q; exact ⟨q0, q1, va_K.moved (u := U) (U := U.calling g mk a) (Vm.Alike.refl U.vm) qK, EVC.blind g mk a qE⟩, gH_rc hK hT hr_o0 shc_7 rfl, fun U hU hW => ⟨rfl, hU, va_K.moved hW.alike hK, hE.call hS hFc hU hW⟩⟩ rfl rfl hl.1 rfl (lv_room (Nat.le_of_ble_eq_true rfl)) dX4_readAll_2 ⟨(Nat.le_of_ble_eq_true rfl), (Nat.le_of_ble_eq_true rfl)⟩) hS (fun q _ h => hFc q h) hFc (fun r1 u t H locs ht hvm hw2 hB _ _ hS => ?_)
  obtain ⟨u3, rfl⟩ : ∃ z, z = u := ⟨_, rfl⟩
  obtain ⟨hT, hF1, m4⟩ := hB
  rw [ht] at hT hF1 m4
  have m5 := (hF1.fld hr_o0 skc_7 (k := 0) (by decide) (by decide)).trans hm_th
  have m7 := (el_kept (hF1.arr hr_th skc_40 (by decide))).trans hm_tv
  have hF := hF.more hF1 (by decide)
  try dsimp only at hw2
  obtain ⟨h8, h9, hf10⟩ := hw2
  refine lv_istore_n (lv' := [(2, .int r1), (0, .ref o0), (1, .int 0)]) hx hb dX4_readAll_5 rfl hl (by decide) rfl (fun ls hl => ?_)
  refine lv_iconst (v := 0) hx hb dX4_readAll_6 (by decide) ?_
  refine lv_istore_n (lv' := [(3, .int 0), (2, .int r1), (0, .ref o0), (1, .int 0)]) hx hb dX4_readAll_7 rfl hl (by decide) rfl (fun ls hl => ?_)
  have key53 : ∀ (n53 i11 : Nat), i11 + n53 = 400 → 0 ≤ i11 → ∀ (z12 : Int32), ∀ (z16 : Int32), ((0 ≤ z12.toInt ∧ z12.toInt ≤ 1) ∧ (0 ≤ z16.toInt ∧ z16.toInt ≤ 400) ∧ (a0.toInt ≤ z16.toInt ∧ z16.toInt ≤ tn.toInt)) → ∀ (H : Heap) (locs : List Loc), gH (dC, dI) kA (SHc nC nS) G H → gF (dC, dI) SKc G ([(7, 12), (7, 13), (49, 0)] : List (Nat × Nat)) s.heap H → va_S A s.heap H locs → el H o0 (dI 7 0) = some (.ref th) → el H th ix_tv.toNatClampNeg = some (.int tv) → el H o0 (dI 7 13) = some (.int z16) → ∀ ls : Array Slot, lv_has ls 4 [(3, .int (nI i11)), (2, .int z12), (0, .ref o0), (1, .int 0)] → W p l e (headSpec w_c_readAll0 ({ frames := 23, cells := 0, slots := 0, locals := 523 })).room s m #[.ref o0, .int 0] below meth c H locs 0 0 (MQ below (va_Qi (fun (r : Int32) (u : Int32) => (0 ≤ u.toInt ∧ u.toInt ≤ 400) ∧ (0 ≤ r.toInt ∧ r.toInt ≤ 1) ∧ (a0.toInt ≤ u.toInt ∧ u.toInt ≤ tn.toInt)) (fun (a1 : Int32) (t : State) => gH (dC, dI) kA (SHc nC nS) G t.heap ∧ gF (dC, dI) SKc G ([(7, 12), (7, 13), (49, 0)] : List (Nat × Nat)) s.heap t.heap ∧ el t.heap o0 (dI 7 13) = some (.int a1)) A) #[.ref o0, .int 0] s 0 0 A) (F0 m 8 ls []) := by
    intro n53
    induction n53 with
    | zero =>
      intro i11 hn53 hlo54 z12 z16 ⟨h13, h17, hj19⟩ H locs hT hF hS m14 m15 m18 ls hl
      obtain rfl : 400 = i11 := by omega
      refine lv_iload_n hx hb dX4_readAll_8 rfl (lv_at hl 0 rfl) ?_
      refine lv_sipush (v := 400) hx hb dX4_readAll_9 (by decide) ?_
      refine lv_icmp_ge (tgt := 46) hx hb dX4_readAll_12 (by decide) (fun c55 => ?_) (fun c55 => (by exfalso; have q9 : ((400 : Nat) : Int) < 400 := ti_nle c55 (by decide) (nI_toInt (by omega)); omega))
      have t56 : 400 ≤ ((400 : Nat) : Int) := ti_le c55 (by decide) (nI_toInt (by omega))
      refine lv_iload_n hx hb dX4_readAll_46 rfl (lv_at hl 1 rfl) ?_
      exact W.zret (v := z12) hx hb hr (nar_b (by have q8 := ti_all z12; omega)) (fun t ht hW => ⟨⟨z12, z16, rfl, (by exact ⟨(by have q8 := ti_all z16; omega), (by have q8 := ti_all z12; omega), (by omega)⟩), by (try dsimp only); rw [ht]; exact ⟨hT, hF, m18⟩⟩, hS.F ht⟩) hS.2.2 dX4_readAll_47
    | succ n53 ih53 =>
      intro i11 hn53 hlo54 z12 z16 ⟨h13, h17, hj19⟩ H locs hT hF hS m14 m15 m18 ls hl
      have hlt56 : i11 < 400 := by omega
      refine lv_iload_n hx hb dX4_readAll_8 rfl (lv_at hl 0 rfl) ?_
      refine lv_sipush (v := 400) hx hb dX4_readAll_9 (by decide) ?_
      refine lv_icmp_ge (tgt := 46) hx hb dX4_readAll_12 (by decide) (fun c57 => (by exfalso; have q9 : 400 ≤ ((i11 : Nat) : Int) := ti_le c57 (by decide) (nI_toInt (by omega)); omega)) (fun c57 => ?_)
      have t58 : ((i11 : Nat) : Int) < 400 := ti_nle c57 (by decide) (nI_toInt (by omega))
      refine lv_iload_n hx hb dX4_readAll_15 rfl (lv_at hl 1 rfl) ?_
      refine lv_if_eq (tgt := 46) hx hb dX4_readAll_16 (by decide) (fun c59 => ?_) (fun c59 => ?_)
      · have t60 : z12.toInt = 0 := ti_eq c59 rfl (by decide)
        refine lv_iload_n hx hb dX4_readAll_46 rfl (lv_at hl 1 rfl) ?_
        exact W.zret (v := z12) hx hb hr (nar_b (by have q8 := ti_all z12; omega)) (fun t ht hW => ⟨⟨z12, z16, rfl, (by exact ⟨(by have q8 := ti_all z16; omega), (by have q8 := ti_all z12; omega), (by omega)⟩), by (try dsimp only); rw [ht]; exact ⟨hT, hF, m18⟩⟩, hS.F ht⟩) hS.2.2 dX4_readAll_47
      · have t61 : z12.toInt ≠ 0 := ti_ne c59 rfl (by decide)
        refine lv_aload_n hx hb dX4_readAll_19 rfl (lv_at hl 2 rfl) ?_
        refine lv_bipush (v := 14) hx hb dX4_readAll_20 (by decide) ?_
        have hFc := gA_free hG hA hS
        refine va_calli (va_runV (As := [.int 14]) (rest := []) ⟨hx, hb, hml, hown, hts⟩ (c_take l dC dI kA adK adV G H nC nS o0 14 th z16 tv ix_tv ix_tv hT hr_o0 m14 hr_th m18 (by have q8 := ti_all ix_tv; omega) (by have q8 := ti_all z16; omega) (by have := (show z16.toInt = z16.toInt from rfl); have := (show ix_tv.toInt = ix_tv.toInt from rfl); omega) (by have := (show (14 : Int32).toInt = 14 from (by decide)); omega) (by have q9 := (show ix_tv.toInt = ix_tv.toInt from rfl); have := (show ix_tv.toInt = ix_tv.toInt from rfl); omega) m15 (by have q8 := ti_all tv; omega) (by omega) (by omega)) (cwV 1 hts (goodIn_app (goodIn_r _ [20, 21, 22, 15] rfl (by decide +kernel)) (goodIn_ca (goodIn_r _ [19, 2, 3] rfl (by decide +kernel)) (bs2_in _ _))) rfl rfl rfl (by decide +kernel) ⟨(Nat.le_of_ble_eq_true rfl), (Nat.le_of_ble_eq_true rfl)⟩) ⟨fun a U g mk q => by obtain ⟨q0, q1, qK, qE⟩ := q; exact ⟨q0, q1, va_K.moved (u := U) (U := U.calling g mk a) (Vm.Alike.refl U.vm) qK, EVC.blind g mk a qE⟩, gH_rc hK hT hr_o0 shc_7 rfl, fun U hU hW => ⟨rfl, hU, va_K.moved hW.alike hK, hE.call hS hFc hU hW⟩⟩ rfl rfl hl.1 rfl (lv_room (Nat.le_of_ble_eq_true rfl)) dX4_readAll_22 ⟨(Nat.le_of_ble_eq_true rfl), (Nat.le_of_ble_eq_true rfl)⟩) hS (fun q _ h => hFc q h) hFc (fun r62 u t H locs ht hvm hw63 hB _ _ hS => ?_)
        obtain ⟨u64, rfl⟩ : ∃ z, z = u := ⟨_, rfl⟩
        obtain ⟨hT, hF1, m65⟩ := hB
        rw [ht] at hT hF1 m65
        have m66 := (hF1.fld hr_o0 skc_7 (k := 0) (by decide) (by decide)).trans m14
        have m67 := (el_kept (hF1.arr hr_th skc_40 (by decide))).trans m15
        have hF := hF.more hF1 (by decide)
        try dsimp only at hw63
        obtain ⟨h69, h70, hf71⟩ := hw63
        refine lv_if_eq (tgt := 46) hx hb dX4_readAll_25 (by decide) (fun c72 => ?_) (fun c72 => ?_)
        · have t73 : r62.toInt = 0 := ti_eq c72 rfl (by decide)
          refine lv_iload_n hx hb dX4_readAll_46 rfl (lv_at hl 1 rfl) ?_
          exact W.zret (v := z12) hx hb hr (nar_b (by have q8 := ti_all z12; omega)) (fun t ht hW => ⟨⟨z12, u64, rfl, (by exact ⟨(by have q8 := ti_all u64; omega), (by have q8 := ti_all z12; omega), (by omega)⟩), by (try dsimp only); rw [ht]; exact ⟨hT, hF, m65⟩⟩, hS.F ht⟩) hS.2.2 dX4_readAll_47
        · have t74 : r62.toInt ≠ 0 := ti_ne c72 rfl (by decide)
          refine lv_aload_n hx hb dX4_readAll_28 rfl (lv_at hl 2 rfl) ?_
          refine lv_iload_n hx hb dX4_readAll_29 rfl (lv_at hl 3 rfl) ?_
          have hFc := gA_free hG hA hS
          refine va_calli (va_runV (As := [.int 0]) (rest := []) ⟨hx, hb, hml, hown, hts⟩ (c_readAtom0 l dC dI kA adK adV G H nC nS o0 th u64 tv ix_tv ix_tv hT hr_o0 m66 hr_th m65 (by have q8 := ti_all ix_tv; omega) (by have q8 := ti_all u64; omega) (by have := (show u64.toInt = u64.toInt from rfl); have := (show ix_tv.toInt = ix_tv.toInt from rfl); omega) (by have q9 := (show ix_tv.toInt = ix_tv.toInt from rfl); have := (show ix_tv.toInt = ix_tv.toInt from rfl); omega) m67 (by have q8 := ti_all tv; omega) (by omega) (by omega)) (cwV 1 hts (goodIn_app (goodIn_r _ [29, 30, 31, 15] rfl (by decide +kernel)) (goodIn_ca (goodIn_r _ [1, 2, 3, 4, 5, 1, 6, 7, 8, 9, 10, 11, 12, 13, 14, 15, 16, 17, 18, 19, 20, 21, 22, 23, 24, 25, 26, 27, 28, 29, 30, 31, 32, 33, 34, 35, 36, 37] rfl (by decide +kernel)) (bs2_in _ _))) rfl rfl rfl (by decide +kernel) ⟨(Nat.le_of_ble_eq_true rfl), (Nat.le_of_ble_eq_true rfl)⟩) ⟨fun a U g mk q => by obtain ⟨q0, q1, qK, qE⟩ := q; exact ⟨q0, q1, va_K.moved (u := U) (U := U.calling g mk a) (Vm.Alike.refl U.vm) qK, EVC.blind g mk a qE⟩, gH_rc hK hT hr_o0 shc_7 rfl, fun U hU hW => ⟨rfl, hU, va_K.moved hW.alike hK, hE.call hS hFc hU hW⟩⟩ rfl rfl hl.1 rfl (lv_room (Nat.le_of_ble_eq_true rfl)) dX4_readAll_30 ⟨(Nat.le_of_ble_eq_true rfl), (Nat.le_of_ble_eq_true rfl)⟩) hS (fun q _ h => hFc q h) hFc (fun r75 u t H locs ht hvm hw76 hB _ _ hS => ?_)
          obtain ⟨u77, rfl⟩ : ∃ z, z = u := ⟨_, rfl⟩
          obtain ⟨hT, hF1, m78⟩ := hB
          rw [ht] at hT hF1 m78
          have m79 := (hF1.fld hr_o0 skc_7 (k := 0) (by decide) (by decide)).trans m66
          have m80 := (el_kept (hF1.arr hr_th skc_40 (by decide))).trans m67
          have hF := hF.more hF1 (by decide)
          try dsimp only at hw76
          obtain ⟨h82, h83, hf84⟩ := hw76
          refine lv_istore_n (lv' := [(2, .int r75), (3, .int (nI i11)), (0, .ref o0), (1, .int 0)]) hx hb dX4_readAll_33 rfl hl (by decide) rfl (fun ls hl => ?_)
          refine lv_aload_n hx hb dX4_readAll_34 rfl (lv_at hl 2 rfl) ?_
          refine lv_bipush (v := 14) hx hb dX4_readAll_35 (by decide) ?_
          have hFc := gA_free hG hA hS
          refine va_callv (va_runV (As := [.int 14]) (rest := []) ⟨hx, hb, hml, hown, hts⟩ (c_addStep l dC dI kA adK adV G H nC nS o0 14 hT hr_o0 (rg_t (a := 14) (by decide) (by first | decide | omega) (by first | decide | omega)) (by omega) (by omega)) (cwV 1 hts (goodIn_app (goodIn_r _ [12, 13, 14, 15] rfl (by decide +kernel)) (goodIn_ca (goodIn_r _ [9, 10, 11] rfl (by decide +kernel)) (bs2_in _ _))) rfl rfl rfl (by decide +kernel) ⟨(Nat.le_of_ble_eq_true rfl), (Nat.le_of_ble_eq_true rfl)⟩) ⟨fun a U g mk q => by obtain ⟨q0, q1, qK, qE⟩ := q; exact ⟨q0, q1, va_K.moved (u := U) (U := U.calling g mk a) (Vm.Alike.refl U.vm) qK, EVC.blind g mk a qE⟩, gH_rc hK hT hr_o0 shc_7 rfl, fun U hU hW => ⟨rfl, hU, va_K.moved hW.alike hK, hE.call hS hFc hU hW⟩⟩ rfl rfl hl.1 rfl (lv_room (Nat.le_of_ble_eq_true rfl)) dX4_readAll_37 ⟨(Nat.le_of_ble_eq_true rfl), (Nat.le_of_ble_eq_true rfl)⟩) hS (fun q _ h => hFc q h) hFc (fun u t H locs ht hvm hw86 hB _ _ hS => ?_)
          obtain ⟨hT, hF1⟩ := hB
          rw [ht] at hT hF1
          have m87 := (hF1.fld hr_o0 skc_7 (k := 0) (by decide) (by decide)).trans m79
          have m88 := (el_kept (hF1.arr hr_th skc_40 (by decide))).trans m80
          have m89 := (hF1.fld hr_o0 skc_7 (k := 13) (by decide) (by decide)).trans m78
          have hF := hF.more hF1 (by decide)
          try dsimp only at hw86
          refine lv_iinc (v := nI (i11 + 1)) (lv' := [(3, .int (nI (i11 + 1))), (2, .int r75), (0, .ref o0), (1, .int 0)]) hx hb dX4_readAll_40 hl (k := 1) rfl (nI_add i11 1) (by decide) rfl (fun ls hl => ?_)
          refine lv_goto (tgt := 8) hx hb dX4_readAll_43 (by decide) ?_
          exact ih53 (i11 + 1) (by omega) (by omega) r75 u77 ⟨(by have q8 := ti_all r75; omega), (by have q8 := ti_all u77; omega), (by have := hx_tv; have := (show u77.toInt = u77.toInt from rfl); omega)⟩ _ _ hT hF hS m87 m88 m89 ls (lv_sub hl [0, 1, 2, 3] rfl)
  exact key53 (400 - 0) 0 (by omega) (Nat.le_refl _) r1 u3 ⟨(by have q8 := ti_all r1; omega), (by have q8 := ti_all u3; omega), (by have := hx_tv; have := (show u3.toInt = u3.toInt from rfl); omega)⟩ _ _ hT hF hS m5 m7 m4 ls (lv_sub hl [0, 1, 2, 3] rfl)
def w_c_readAny0 : List Cond := .code yX4_readAny cX4_readAny 4 (some .boolean) :: (HAppend.hAppend (α := List Cond) (β := List Cond) (γ := List Cond) [.code yX4_readAll cX4_readAll 4 (some .boolean), .code yX4_readAtom cX4_readAtom 4 (some .boolean), .fieldLink RX4 11 "SeaLand$Law" "things" "[I", .fieldLink RX4 56 "SeaLand$Law" "at" "I", .code yX4_readAny cX4_readAny 4 (some .boolean), .code yX4_readComparison cX4_readComparison 3 (some .boolean), .code yX4_readSum cX4_readSum 3 (some .boolean), .code yX4_readPart cX4_readPart 2 (some .boolean), .code yX4_addStep cX4_addStep 2 none, .fieldLink RX4 63 "SeaLand$Law" "stepped" "I", .fieldLink RX4 39 "SeaLand$Law" "steps" "[I", .methodLink RX4 179 yX4_addStep, .instanceMethod yX4_addStep, .selects RX4 yX4_addStep yX4_addStep, .initialized RX4, .methodLink RX4 192 yX4_readPart, .instanceMethod yX4_readPart, .selects RX4 yX4_readPart yX4_readPart, .code yX4_take cX4_take 2 (some .boolean), .methodLink RX4 70 yX4_take, .instanceMethod yX4_take, .selects RX4 yX4_take yX4_take, .methodLink RX4 189 yX4_readSum, .instanceMethod yX4_readSum, .selects RX4 yX4_readSum yX4_readSum, .methodLink RX4 186 yX4_readComparison, .instanceMethod yX4_readComparison, .selects RX4 yX4_readComparison yX4_readComparison, .methodLink RX4 183 yX4_readAtom, .instanceMethod yX4_readAtom, .selects RX4 yX4_readAtom yX4_readAtom, .methodLink RX4 176 yX4_readAll, .instanceMethod yX4_readAll, .selects RX4 yX4_readAll yX4_readAll, .methodLink RX4 173 yX4_readAny, .instanceMethod yX4_readAny, .selects RX4 yX4_readAny yX4_readAny] bs2)
set_option maxHeartbeats 4000000 in
set_option maxRecDepth 100000 in
theorem c_readAny0 (l : Launch) (dC : Nat → ClassId) (dI : Nat → Nat → Nat) (kA : Nat → ClassId) (adK adV : Nat → Nat) (G : gT) (H0 : Heap) (nC nS : Int) (o0 : Nat) (th : Nat) (a0 : Int32) (tv ix_tv : Int32) (tn : Int32) (hT : gH (dC, dI) kA (SHc nC nS) G H0) (hr_o0 : G o0 = some 7) (hm_th : el H0 o0 (dI 7 0) = some (.ref th)) (hr_th : G th = some 40) (hm_a0 : el H0 o0 (dI 7 13) = some (.int a0)) (hq0 : 0 ≤ tn.toInt ∧ tn.toInt ≤ 400) (hq1 : 0 ≤ a0.toInt ∧ a0.toInt ≤ 400) (hat : a0.toInt ≤ tn.toInt) (hx_tv : ix_tv.toInt = tn.toInt) (hm_tv : el H0 th ix_tv.toNatClampNeg = some (.int tv)) (hv_tv : 21 ≤ tv.toInt ∧ tv.toInt ≤ 21) (hgC : 0 ≤ nC ∧ nC ≤ 40) (hgS : 0 ≤ nS ∧ nS ≤ 60) : Met l yX4_readAny w_c_readAny0 ({ frames := 24, cells := 0, slots := 0, locals := 546 }) (va_Pc [.ref o0, .int 0] (fun U => U.heap = H0 ∧ va_K (dC, dI) vwCl (tyl kA) U ∧ EVC adK adV (gA G H0.size) U U.heap)) (va_Qi (fun (r : Int32) (u : Int32) => (0 ≤ u.toInt ∧ u.toInt ≤ 400) ∧ (0 ≤ r.toInt ∧ r.toInt ≤ 1) ∧ (a0.toInt ≤ u.toInt ∧ u.toInt ≤ tn.toInt)) (fun (a1 : Int32) (t : State) => gH (dC, dI) kA (SHc nC nS) G t.heap ∧ gF (dC, dI) SKc G ([(7, 12), (7, 13), (49, 0)] : List (Nat × Nat)) H0 t.heap ∧ el t.heap o0 (dI 7 13) = some (.int a1)) (gA G H0.size)) 0 0 (gA G H0.size) := by
  refine Met.ofW (cc := cX4_readAny) (maxL := 4) (ret := (some .boolean)) (by decide) rfl ?_
  intro p e s m args below meth c s₁ B hml hv
  obtain ⟨rfl, hH0, hK, hE⟩ := hv
  have hx := B.exec
  have hb := B.bytes
  have hr := B.returns
  have hts := atoms_spec (ws := w_c_readAny0) B.pre
  have hown : s.vm.findClass RX4 = some m.cls := findClass_of_methodNamed B.named
  have hlocks := B.notSynchronized
  subst hH0
  generalize hAe : gA G s.heap.size = A at hE ⊢
  have hA : ∀ q : Nat, s.heap.size ≤ q → A q := fun q h => by rw [← hAe]; exact Or.inr h
  have hG := gA_of hAe
  have hS : va_S A s.heap s.heap [] := va_S.rf
  have hF : gF (dC, dI) SKc G ([(7, 12), (7, 13), (49, 0)] : List (Nat × Nat)) s.heap s.heap := gF.rf
  have hl := lv_entry ([.ref o0, .int 0]) (n := 4) (Nat.le_of_ble_eq_true rfl)
  rw [lg_entry_eq]
  generalize (lg_sl ([.ref o0, .int 0]) ++ List.replicate (4 - (lg_sl ([.ref o0, .int 0])).length) Slot.unset).toArray = ls at hl ⊢
  have hl : lv_has ls 4 [(0, .ref o0), (1, .int 0)] := hl
  refine lv_aload_n hx hb dX4_readAny_0 rfl (lv_at hl 0 rfl) ?_
  refine lv_iload_n hx hb dX4_readAny_1 rfl (lv_at hl 1 rfl) ?_
  have hFc := gA_free hG hA hS
  refine va_calli (va_runV (As := [.int 0]) (rest := []) ⟨hx, hb, hml, hown, hts⟩ (c_readAll0 l dC dI kA adK adV G s.heap nC nS o0 th a0 tv ix_tv ix_tv hT hr_o0 hm_th hr_th hm_a0 (by have q8 := ti_all ix_tv; omega) (by have q8 := ti_all a0; omega) (by have := (show a0.toInt = a0.toInt from rfl); have := (show ix_tv.toInt = ix_tv.toInt from rfl); omega) (by have q9 := (show ix_tv.toInt = ix_tv.toInt from rfl); have := (show ix_tv.toInt = ix_tv.toInt from rfl); omega) hm_tv (by have q8 := ti_all tv; omega) (by omega) (by omega)) (cwV 1 hts (goodIn_app (goodIn_r _ [32, 33, 34, 15] rfl (by decide +kernel)) (goodIn_ca (goodIn_r _ [1, 2, 3, 4, 5, 1, 6, 7, 8, 9, 10, 11, 12, 13, 14, 15, 16, 17, 18, 19, 20, 21, 22, 23, 24, 25, 26, 27, 28, 29, 30, 31, 32, 33, 34, 35, 36, 37] rfl (by decide +kernel)) (bs2_in _ _))) rfl rfl rfl (by decide +kernel) ⟨(Nat.le_of_ble_eq_true rfl), (Nat.le_of_ble_eq_true rfl)⟩) ⟨fun a U g mk q => by obtain ⟨q0, q1, qK, qE⟩ := q; exact ⟨q0, q1, va_K.moved (u := U) (U := U.calling g mk a) (Vm.Alike.refl U.vm) qK, EVC.blind g mk a qE⟩, gH_rc hK hT hr_o0 shc_7 rfl, fun U hU hW => ⟨rfl, hU, va_K.moved hW.alike hK, hE.call hS hFc hU hW⟩⟩ rfl rfl hl.1 rfl (lv_room (Nat.le_of_ble_eq_true rfl)) dX4_readAny_2 ⟨(Nat.le_of_ble_eq_true rfl), (Nat.le_of_ble_eq_true rfl)⟩) hS (fun q _ h => hFc q h) hFc (fun r1 u t H locs ht hvm hw2 hB _ _ hS => ?_)
  obtain ⟨u3, rfl⟩ : ∃ z, z = u := ⟨_, rfl⟩
  obtain ⟨hT, hF1, m4⟩ := hB
  rw [ht] at hT hF1 m4
  have m5 := (hF1.fld hr_o0 skc_7 (k := 0) (by decide) (by decide)).trans hm_th
  have m7 := (el_kept (hF1.arr hr_th skc_40 (by decide))).trans hm_tv
  have hF := hF.more hF1 (by decide)
  try dsimp only at hw2
  obtain ⟨h8, h9, hf10⟩ := hw2
  refine lv_istore_n (lv' := [(2, .int r1), (0, .ref o0), (1, .int 0)]) hx hb dX4_readAny_5 rfl hl (by decide) rfl (fun ls hl => ?_)
  refine lv_iconst (v := 0) hx hb dX4_readAny_6 (by decide) ?_
  refine lv_istore_n (lv' := [(3, .int 0), (2, .int r1), (0, .ref o0), (1, .int 0)]) hx hb dX4_readAny_7 rfl hl (by decide) rfl (fun ls hl => ?_)
  have key53 : ∀ (n53 i11 : Nat), i11 + n53 = 400 → 0 ≤ i11 → ∀ (z12 : Int32), ∀ (z16 : Int32), ((0 ≤ z12.toInt ∧ z12.toInt ≤ 1) ∧ (0 ≤ z16.toInt ∧ z16.toInt ≤ 400) ∧ (a0.toInt ≤ z16.toInt ∧ z16.toInt ≤ tn.toInt)) → ∀ (H : Heap) (locs : List Loc), gH (dC, dI) kA (SHc nC nS) G H → gF (dC, dI) SKc G ([(7, 12), (7, 13), (49, 0)] : List (Nat × Nat)) s.heap H → va_S A s.heap H locs → el H o0 (dI 7 0) = some (.ref th) → el H th ix_tv.toNatClampNeg = some (.int tv) → el H o0 (dI 7 13) = some (.int z16) → ∀ ls : Array Slot, lv_has ls 4 [(3, .int (nI i11)), (2, .int z12), (0, .ref o0), (1, .int 0)] → W p l e (headSpec w_c_readAny0 ({ frames := 24, cells := 0, slots := 0, locals := 546 })).room s m #[.ref o0, .int 0] below meth c H locs 0 0 (MQ below (va_Qi (fun (r : Int32) (u : Int32) => (0 ≤ u.toInt ∧ u.toInt ≤ 400) ∧ (0 ≤ r.toInt ∧ r.toInt ≤ 1) ∧ (a0.toInt ≤ u.toInt ∧ u.toInt ≤ tn.toInt)) (fun (a1 : Int32) (t : State) => gH (dC, dI) kA (SHc nC nS) G t.heap ∧ gF (dC, dI) SKc G ([(7, 12), (7, 13), (49, 0)] : List (Nat × Nat)) s.heap t.heap ∧ el t.heap o0 (dI 7 13) = some (.int a1)) A) #[.ref o0, .int 0] s 0 0 A) (F0 m 8 ls []) := by
    intro n53
    induction n53 with
    | zero =>
      intro i11 hn53 hlo54 z12 z16 ⟨h13, h17, hj19⟩ H locs hT hF hS m14 m15 m18 ls hl
      obtain rfl : 400 = i11 := by omega
      refine lv_iload_n hx hb dX4_readAny_8 rfl (lv_at hl 0 rfl) ?_
      refine lv_sipush (v := 400) hx hb dX4_readAny_9 (by decide) ?_
      refine lv_icmp_ge (tgt := 46) hx hb dX4_readAny_12 (by decide) (fun c55 => ?_) (fun c55 => (by exfalso; have q9 : ((400 : Nat) : Int) < 400 := ti_nle c55 (by decide) (nI_toInt (by omega)); omega))
      have t56 : 400 ≤ ((400 : Nat) : Int) := ti_le c55 (by decide) (nI_toInt (by omega))
      refine lv_iload_n hx hb dX4_readAny_46 rfl (lv_at hl 1 rfl) ?_
      exact W.zret (v := z12) hx hb hr (nar_b (by have q8 := ti_all z12; omega)) (fun t ht hW => ⟨⟨z12, z16, rfl, (by exact ⟨(by have q8 := ti_all z16; omega), (by have q8 := ti_all z12; omega), (by omega)⟩), by (try dsimp only); rw [ht]; exact ⟨hT, hF, m18⟩⟩, hS.F ht⟩) hS.2.2 dX4_readAny_47
    | succ n53 ih53 =>
      intro i11 hn53 hlo54 z12 z16 ⟨h13, h17, hj19⟩ H locs hT hF hS m14 m15 m18 ls hl
      have hlt56 : i11 < 400 := by omega
      refine lv_iload_n hx hb dX4_readAny_8 rfl (lv_at hl 0 rfl) ?_
      refine lv_sipush (v := 400) hx hb dX4_readAny_9 (by decide) ?_
      refine lv_icmp_ge (tgt := 46) hx hb dX4_readAny_12 (by decide) (fun c57 => (by exfalso; have q9 : 400 ≤ ((i11 : Nat) : Int) := ti_le c57 (by decide) (nI_toInt (by omega)); omega)) (fun c57 => ?_)
      have t58 : ((i11 : Nat) : Int) < 400 := ti_nle c57 (by decide) (nI_toInt (by omega))
      refine lv_iload_n hx hb dX4_readAny_15 rfl (lv_at hl 1 rfl) ?_
      refine lv_if_eq (tgt := 46) hx hb dX4_readAny_16 (by decide) (fun c59 => ?_) (fun c59 => ?_)
      · have t60 : z12.toInt = 0 := ti_eq c59 rfl (by decide)
        refine lv_iload_n hx hb dX4_readAny_46 rfl (lv_at hl 1 rfl) ?_
        exact W.zret (v := z12) hx hb hr (nar_b (by have q8 := ti_all z12; omega)) (fun t ht hW => ⟨⟨z12, z16, rfl, (by exact ⟨(by have q8 := ti_all z16; omega), (by have q8 := ti_all z12; omega), (by omega)⟩), by (try dsimp only); rw [ht]; exact ⟨hT, hF, m18⟩⟩, hS.F ht⟩) hS.2.2 dX4_readAny_47
      · have t61 : z12.toInt ≠ 0 := ti_ne c59 rfl (by decide)
        refine lv_aload_n hx hb dX4_readAny_19 rfl (lv_at hl 2 rfl) ?_
        refine lv_bipush (v := 15) hx hb dX4_readAny_20 (by decide) ?_
        have hFc := gA_free hG hA hS
        refine va_calli (va_runV (As := [.int 15]) (rest := []) ⟨hx, hb, hml, hown, hts⟩ (c_take l dC dI kA adK adV G H nC nS o0 15 th z16 tv ix_tv ix_tv hT hr_o0 m14 hr_th m18 (by have q8 := ti_all ix_tv; omega) (by have q8 := ti_all z16; omega) (by have := (show z16.toInt = z16.toInt from rfl); have := (show ix_tv.toInt = ix_tv.toInt from rfl); omega) (by have := (show (15 : Int32).toInt = 15 from (by decide)); omega) (by have q9 := (show ix_tv.toInt = ix_tv.toInt from rfl); have := (show ix_tv.toInt = ix_tv.toInt from rfl); omega) m15 (by have q8 := ti_all tv; omega) (by omega) (by omega)) (cwV 1 hts (goodIn_app (goodIn_r _ [20, 21, 22, 15] rfl (by decide +kernel)) (goodIn_ca (goodIn_r _ [19, 3, 4] rfl (by decide +kernel)) (bs2_in _ _))) rfl rfl rfl (by decide +kernel) ⟨(Nat.le_of_ble_eq_true rfl), (Nat.le_of_ble_eq_true rfl)⟩) ⟨fun a U g mk q => by obtain ⟨q0, q1, qK, qE⟩ := q; exact ⟨q0, q1, va_K.moved (u := U) (U := U.calling g mk a) (Vm.Alike.refl U.vm) qK, EVC.blind g mk a qE⟩, gH_rc hK hT hr_o0 shc_7 rfl, fun U hU hW => ⟨rfl, hU, va_K.moved hW.alike hK, hE.call hS hFc hU hW⟩⟩ rfl rfl hl.1 rfl (lv_room (Nat.le_of_ble_eq_true rfl)) dX4_readAny_22 ⟨(Nat.le_of_ble_eq_true rfl), (Nat.le_of_ble_eq_true rfl)⟩) hS (fun q _ h => hFc q h) hFc (fun r62 u t H locs ht hvm hw63 hB _ _ hS => ?_)
        obtain ⟨u64, rfl⟩ : ∃ z, z = u := ⟨_, rfl⟩
        obtain ⟨hT, hF1, m65⟩ := hB
        rw [ht] at hT hF1 m65
        have m66 := (hF1.fld hr_o0 skc_7 (k := 0) (by decide) (by decide)).trans m14
        have m67 := (el_kept (hF1.arr hr_th skc_40 (by decide))).trans m15
        have hF := hF.more hF1 (by decide)
        try dsimp only at hw63
        obtain ⟨h69, h70, hf71⟩ := hw63
        refine lv_if_eq (tgt := 46) hx hb dX4_readAny_25 (by decide) (fun c72 => ?_) (fun c72 => ?_)
        · have t73 : r62.toInt = 0 := ti_eq c72 rfl (by decide)
          refine lv_iload_n hx hb dX4_readAny_46 rfl (lv_at hl 1 rfl) ?_
          exact W.zret (v := z12) hx hb hr (nar_b (by have q8 := ti_all z12; omega)) (fun t ht hW => ⟨⟨z12, u64, rfl, (by exact ⟨(by have q8 := ti_all u64; omega), (by have q8 := ti_all z12; omega), (by omega)⟩), by (try dsimp only); rw [ht]; exact ⟨hT, hF, m65⟩⟩, hS.F ht⟩) hS.2.2 dX4_readAny_47
        · have t74 : r62.toInt ≠ 0 := ti_ne c72 rfl (by decide)
          refine lv_aload_n hx hb dX4_readAny_28 rfl (lv_at hl 2 rfl) ?_
          refine lv_iload_n hx hb dX4_readAny_29 rfl (lv_at hl 3 rfl) ?_
          have hFc := gA_free hG hA hS
          refine va_calli (va_runV (As := [.int 0]) (rest := []) ⟨hx, hb, hml, hown, hts⟩ (c_readAll0 l dC dI kA adK adV G H nC nS o0 th u64 tv ix_tv ix_tv hT hr_o0 m66 hr_th m65 (by have q8 := ti_all ix_tv; omega) (by have q8 := ti_all u64; omega) (by have := (show u64.toInt = u64.toInt from rfl); have := (show ix_tv.toInt = ix_tv.toInt from rfl); omega) (by have q9 := (show ix_tv.toInt = ix_tv.toInt from rfl); have := (show ix_tv.toInt = ix_tv.toInt from rfl); omega) m67 (by have q8 := ti_all tv; omega) (by omega) (by omega)) (cwV 1 hts (goodIn_app (goodIn_r _ [32, 33, 34, 15] rfl (by decide +kernel)) (goodIn_ca (goodIn_r _ [1, 2, 3, 4, 5, 1, 6, 7, 8, 9, 10, 11, 12, 13, 14, 15, 16, 17, 18, 19, 20, 21, 22, 23, 24, 25, 26, 27, 28, 29, 30, 31, 32, 33, 34, 35, 36, 37] rfl (by decide +kernel)) (bs2_in _ _))) rfl rfl rfl (by decide +kernel) ⟨(Nat.le_of_ble_eq_true rfl), (Nat.le_of_ble_eq_true rfl)⟩) ⟨fun a U g mk q => by obtain ⟨q0, q1, qK, qE⟩ := q; exact ⟨q0, q1, va_K.moved (u := U) (U := U.calling g mk a) (Vm.Alike.refl U.vm) qK, EVC.blind g mk a qE⟩, gH_rc hK hT hr_o0 shc_7 rfl, fun U hU hW => ⟨rfl, hU, va_K.moved hW.alike hK, hE.call hS hFc hU hW⟩⟩ rfl rfl hl.1 rfl (lv_room (Nat.le_of_ble_eq_true rfl)) dX4_readAny_30 ⟨(Nat.le_of_ble_eq_true rfl), (Nat.le_of_ble_eq_true rfl)⟩) hS (fun q _ h => hFc q h) hFc (fun r75 u t H locs ht hvm hw76 hB _ _ hS => ?_)
          obtain ⟨u77, rfl⟩ : ∃ z, z = u := ⟨_, rfl⟩
          obtain ⟨hT, hF1, m78⟩ := hB
          rw [ht] at hT hF1 m78
          have m79 := (hF1.fld hr_o0 skc_7 (k := 0) (by decide) (by decide)).trans m66
          have m80 := (el_kept (hF1.arr hr_th skc_40 (by decide))).trans m67
          have hF := hF.more hF1 (by decide)
          try dsimp only at hw76
          obtain ⟨h82, h83, hf84⟩ := hw76
          refine lv_istore_n (lv' := [(2, .int r75), (3, .int (nI i11)), (0, .ref o0), (1, .int 0)]) hx hb dX4_readAny_33 rfl hl (by decide) rfl (fun ls hl => ?_)
          refine lv_aload_n hx hb dX4_readAny_34 rfl (lv_at hl 2 rfl) ?_
          refine lv_bipush (v := 15) hx hb dX4_readAny_35 (by decide) ?_
          have hFc := gA_free hG hA hS
          refine va_callv (va_runV (As := [.int 15]) (rest := []) ⟨hx, hb, hml, hown, hts⟩ (c_addStep l dC dI kA adK adV G H nC nS o0 15 hT hr_o0 (rg_t (a := 15) (by decide) (by first | decide | omega) (by first | decide | omega)) (by omega) (by omega)) (cwV 1 hts (goodIn_app (goodIn_r _ [12, 13, 14, 15] rfl (by decide +kernel)) (goodIn_ca (goodIn_r _ [9, 10, 11] rfl (by decide +kernel)) (bs2_in _ _))) rfl rfl rfl (by decide +kernel) ⟨(Nat.le_of_ble_eq_true rfl), (Nat.le_of_ble_eq_true rfl)⟩) ⟨fun a U g mk q => by obtain ⟨q0, q1, qK, qE⟩ := q; exact ⟨q0, q1, va_K.moved (u := U) (U := U.calling g mk a) (Vm.Alike.refl U.vm) qK, EVC.blind g mk a qE⟩, gH_rc hK hT hr_o0 shc_7 rfl, fun U hU hW => ⟨rfl, hU, va_K.moved hW.alike hK, hE.call hS hFc hU hW⟩⟩ rfl rfl hl.1 rfl (lv_room (Nat.le_of_ble_eq_true rfl)) dX4_readAny_37 ⟨(Nat.le_of_ble_eq_true rfl), (Nat.le_of_ble_eq_true rfl)⟩) hS (fun q _ h => hFc q h) hFc (fun u t H locs ht hvm hw86 hB _ _ hS => ?_)
          obtain ⟨hT, hF1⟩ := hB
          rw [ht] at hT hF1
          have m87 := (hF1.fld hr_o0 skc_7 (k := 0) (by decide) (by decide)).trans m79
          have m88 := (el_kept (hF1.arr hr_th skc_40 (by decide))).trans m80
          have m89 := (hF1.fld hr_o0 skc_7 (k := 13) (by decide) (by decide)).trans m78
          have hF := hF.more hF1 (by decide)
          try dsimp only at hw86
          refine lv_iinc (v := nI (i11 + 1)) (lv' := [(3, .int (nI (i11 + 1))), (2, .int r75), (0, .ref o0), (1, .int 0)]) hx hb dX4_readAny_40 hl (k := 1) rfl (nI_add i11 1) (by decide) rfl (fun ls hl => ?_)
          refine lv_goto (tgt := 8) hx hb dX4_readAny_43 (by decide) ?_
          exact ih53 (i11 + 1) (by omega) (by omega) r75 u77 ⟨(by have q8 := ti_all r75; omega), (by have q8 := ti_all u77; omega), (by have := hx_tv; have := (show u77.toInt = u77.toInt from rfl); omega)⟩ _ _ hT hF hS m87 m88 m89 ls (lv_sub hl [0, 1, 2, 3] rfl)
  exact key53 (400 - 0) 0 (by omega) (Nat.le_refl _) r1 u3 ⟨(by have q8 := ti_all r1; omega), (by have q8 := ti_all u3; omega), (by have := hx_tv; have := (show u3.toInt = u3.toInt from rfl); omega)⟩ _ _ hT hF hS m5 m7 m4 ls (lv_sub hl [0, 1, 2, 3] rfl)
def w_c_readLine : List Cond := .code yX4_readLine cX4_readLine 3 (some .boolean) :: (HAppend.hAppend (α := List Cond) (β := List Cond) (γ := List Cond) [.fieldLink RX4 11 "SeaLand$Law" "things" "[I", .fieldLink RX4 56 "SeaLand$Law" "at" "I", .code yX4_lineKind cX4_lineKind 1 (some .int), .methodLink RX4 165 yX4_lineKind, .static yX4_lineKind, .initialized RX4, .fieldLink RX4 18 "SeaLand$Law" "kinds" "[I", .fieldLink RX4 60 "SeaLand$Law" "lines" "I", .fieldLink RX4 33 "SeaLand$Law" "stepFrom" "[I", .fieldLink RX4 63 "SeaLand$Law" "stepped" "I", .code yX4_take cX4_take 2 (some .boolean), .methodLink RX4 70 yX4_take, .instanceMethod yX4_take, .selects RX4 yX4_take yX4_take, .code yX4_readAny cX4_readAny 4 (some .boolean), .code yX4_readAll cX4_readAll 4 (some .boolean), .code yX4_readAtom cX4_readAtom 4 (some .boolean), .code yX4_readComparison cX4_readComparison 3 (some .boolean), .code yX4_readSum cX4_readSum 3 (some .boolean), .code yX4_readPart cX4_readPart 2 (some .boolean), .code yX4_addStep cX4_addStep 2 none, .fieldLink RX4 39 "SeaLand$Law" "steps" "[I", .methodLink RX4 179 yX4_addStep, .instanceMethod yX4_addStep, .selects RX4 yX4_addStep yX4_addStep, .methodLink RX4 192 yX4_readPart, .instanceMethod yX4_readPart, .selects RX4 yX4_readPart yX4_readPart, .methodLink RX4 189 yX4_readSum, .instanceMethod yX4_readSum, .selects RX4 yX4_readSum yX4_readSum, .methodLink RX4 186 yX4_readComparison, .instanceMethod yX4_readComparison, .selects RX4 yX4_readComparison yX4_readComparison, .methodLink RX4 183 yX4_readAtom, .instanceMethod yX4_readAtom, .selects RX4 yX4_readAtom yX4_readAtom, .methodLink RX4 176 yX4_readAll, .instanceMethod yX4_readAll, .selects RX4 yX4_readAll yX4_readAll, .methodLink RX4 173 yX4_readAny, .instanceMethod yX4_readAny, .selects RX4 yX4_readAny yX4_readAny, .fieldLink RX4 36 "SeaLand$Law" "stepTo" "[I", .fieldLink RX4 21 "SeaLand$Law" "firsts" "[I", .code yX4_takeNumber cX4_takeNumber 4 (some .boolean), .methodLink RX4 168 yX4_takeNumber, .instanceMethod yX4_takeNumber, .selects RX4 yX4_takeNumber yX4_takeNumber, .fieldLink RX4 24 "SeaLand$Law" "seconds" "[I", .fieldLink RX4 27 "SeaLand$Law" "froms" "[I", .fieldLink RX4 30 "SeaLand$Law" "tos" "[I", .constant RX4 172 99999] bs2)
set_option maxHeartbeats 4000000 in
set_option maxRecDepth 100000 in
theorem c_readLine (l : Launch) (dC : Nat → ClassId) (dI : Nat → Nat → Nat) (kA : Nat → ClassId) (adK adV : Nat → Nat) (G : gT) (H0 : Heap) (nC nS : Int) (o0 : Nat) (th : Nat) (a0 : Int32) (ln : Int32) (tv ix_tv : Int32) (tn : Int32) (hT : gH (dC, dI) kA (SHc nC nS) G H0) (hr_o0 : G o0 = some 7) (hm_th : el H0 o0 (dI 7 0) = some (.ref th)) (hr_th : G th = some 40) (hm_a0 : el H0 o0 (dI 7 13) = some (.int a0)) (hm_ln : el H0 o0 (dI 7 11) = some (.int ln)) (hq0 : 0 ≤ tn.toInt ∧ tn.toInt ≤ 400) (hq1 : 0 ≤ a0.toInt ∧ a0.toInt ≤ 400) (hat : a0.toInt ≤ tn.toInt) (hq3 : 0 ≤ ln.toInt ∧ ln.toInt ≤ 19) (hx_tv : ix_tv.toInt = tn.toInt) (hm_tv : el H0 th ix_tv.toNatClampNeg = some (.int tv)) (hv_tv : 21 ≤ tv.toInt ∧ tv.toInt ≤ 21) (hgC : 0 ≤ nC ∧ nC ≤ 40) (hgS : 0 ≤ nS ∧ nS ≤ 60) : Met l yX4_readLine w_c_readLine ({ frames := 25, cells := 0, slots := 0, locals := 569 }) (va_Pc [.ref o0] (fun U => U.heap = H0 ∧ va_K (dC, dI) vwCl (tyl kA) U ∧ EVC adK adV (gA G H0.size) U U.heap)) (va_Qi (fun (r : Int32) (u : Int32) => (0 ≤ u.toInt ∧ u.toInt ≤ 400) ∧ (0 ≤ r.toInt ∧ r.toInt ≤ 1) ∧ (a0.toInt ≤ u.toInt ∧ u.toInt ≤ tn.toInt)) (fun (a1 : Int32) (t : State) => gH (dC, dI) kA (SHc nC nS) G t.heap ∧ gF (dC, dI) SKc G ([(7, 12), (7, 13), (42, 0), (43, 0), (44, 0), (45, 0), (46, 0), (47, 0), (48, 0), (49, 0)] : List (Nat × Nat)) H0 t.heap ∧ el t.heap o0 (dI 7 13) = some (.int a1)) (gA G H0.size)) 0 0 (gA G H0.size) := by
  refine Met.ofW (cc := cX4_readLine) (maxL := 3) (ret := (some .boolean)) (by decide) rfl ?_
  intro p e s m args below meth c s₁ B hml hv
  obtain ⟨rfl, hH0, hK, hE⟩ := hv
  have hx := B.exec
  have hb := B.bytes
  have hr := B.returns
  have hts := atoms_spec (ws := w_c_readLine) B.pre
  have hown : s.vm.findClass RX4 = some m.cls := findClass_of_methodNamed B.named
  have hlocks := B.notSynchronized
  subst hH0
  generalize hAe : gA G s.heap.size = A at hE ⊢
  have hA : ∀ q : Nat, s.heap.size ≤ q → A q := fun q h => by rw [← hAe]; exact Or.inr h
  have hG := gA_of hAe
  have hS : va_S A s.heap s.heap [] := va_S.rf
  have hF : gF (dC, dI) SKc G ([(7, 12), (7, 13), (42, 0), (43, 0), (44, 0), (45, 0), (46, 0), (47, 0), (48, 0), (49, 0)] : List (Nat × Nat)) s.heap s.heap := gF.rf
  have hl := lv_entry ([.ref o0]) (n := 3) (Nat.le_of_ble_eq_true rfl)
  rw [lg_entry_eq]
  generalize (lg_sl ([.ref o0]) ++ List.replicate (3 - (lg_sl ([.ref o0])).length) Slot.unset).toArray = ls at hl ⊢
  have hl : lv_has ls 3 [(0, .ref o0)] := hl
  refine lv_aload_n hx hb dX4_readLine_0 rfl (lv_at hl 0 rfl) ?_
  refine tw_getM (v := .ref th) hx hb hts bF2_X4 hown hK hT hr_o0 shc_7 rfl 0 (by decide) (ht_at2 hts 0 rfl) (fun _ h9 => h9) hm_th dX4_readLine_1 ?_
  refine lv_aload_n hx hb dX4_readLine_4 rfl (lv_at hl 0 rfl) ?_
  refine tw_getM (v := .int a0) hx hb hts bF2_X4 hown hK hT hr_o0 shc_7 rfl 13 (by decide) (ht_at2 hts 1 rfl) (fun _ h9 => h9) hm_a0 dX4_readLine_5 ?_
  refine tw_iald (i := a0) hx hb hK hT hr_th shc_40 rfl (vin_t (a := a0.toInt) rfl (by omega) (by omega)) dX4_readLine_8 (fun v9 m1 h9 => ?_)
  obtain ⟨x2, rfl, gx2, kx2⟩ := h9
  have t3 : a0.toInt = ix_tv.toInt → x2.toInt = tv.toInt := fun h8 => congrArg Int32.toInt (el_same m1 hm_tv h8)
  have hFc := gA_free hG hA hS
  refine va_calli (va_runS (As := [.int x2]) (rest := []) ⟨hx, hb, hml, hown, hts⟩ (c_lineKind l dC dI kA adK adV G s.heap nC nS x2 hT (by omega) (by omega)) (va_cwS 1 hts (goodIn_app (goodIn_r _ [4, 5, 6] rfl (by decide +kernel)) (goodIn_ca (goodIn_r _ [3] rfl (by decide +kernel)) (bs2_in _ _))) rfl rfl rfl (by decide +kernel) ⟨(Nat.le_of_ble_eq_true rfl), (Nat.le_of_ble_eq_true rfl)⟩) ⟨fun a U g mk q => by obtain ⟨q0, q1, qK, qE⟩ := q; exact ⟨q0, q1, va_K.moved (u := U) (U := U.calling g mk a) (Vm.Alike.refl U.vm) qK, EVC.blind g mk a qE⟩, fun U hU hW => ⟨rfl, hU, va_K.moved hW.alike hK, hE.call hS hFc hU hW⟩⟩ rfl rfl hl.1 rfl (lv_room (Nat.le_of_ble_eq_true rfl)) dX4_readLine_9 ⟨(Nat.le_of_ble_eq_true rfl), (Nat.le_of_ble_eq_true rfl)⟩) hS (fun q _ h => hFc q h) hFc (fun r4 u t H locs ht hvm hw5 hB _ _ hS => ?_)
  obtain ⟨hT, hF1⟩ := hB
  rw [ht] at hT hF1
  have m6 := (hF1.fld hr_o0 skc_7 (k := 0) (by decide) (by decide)).trans hm_th
  have m7 := (hF1.fld hr_o0 skc_7 (k := 13) (by decide) (by decide)).trans hm_a0
  have m8 := (hF1.fld hr_o0 skc_7 (k := 11) (by decide) (by decide)).trans hm_ln
  have m9 := (el_kept (hF1.arr hr_th skc_40 (by decide))).trans hm_tv
  have m10 := (el_kept (hF1.arr hr_th skc_40 (by decide))).trans m1
  have hF := hF.more hF1 (by decide)
  try dsimp only at hw5
  obtain ⟨h11, hf12⟩ := hw5
  refine lv_istore_n (lv' := [(1, .int r4), (0, .ref o0)]) hx hb dX4_readLine_12 rfl hl (by decide) rfl (fun ls hl => ?_)
  refine lv_iload_n hx hb dX4_readLine_13 rfl (lv_at hl 0 rfl) ?_
  refine lv_iconst (v := (-1)) hx hb dX4_readLine_14 (by decide) ?_
  refine lv_icmp_ne (tgt := 20) hx hb dX4_readLine_15 (by decide) (fun c13 => ?_) (fun c13 => ?_)
  · have t14 : r4.toInt ≠ (-1) := ti_ne c13 rfl (by decide)
    refine lv_aload_n hx hb dX4_readLine_20 rfl (lv_at hl 1 rfl) ?_
    refine lv_dup hx hb dX4_readLine_21 rfl ?_
    refine tw_getM (v := .int a0) hx hb hts bF2_X4 hown hK hT hr_o0 shc_7 rfl 13 (by decide) (ht_at2 hts 1 rfl) (fun _ h9 => h9) m7 dX4_readLine_22 ?_
    refine lv_iconst (v := 1) hx hb dX4_readLine_25 (by decide) ?_
    refine lv_iadd hx hb dX4_readLine_26 ?_
    refine lv_topi (fun x15 ex15 => ?_)
    have t16 : x15.toInt = a0.toInt + 1 := ti_add ex15 rfl (by decide) (by omega) (by omega)
    refine tw_put (v := .int x15) (ty := .int) hx hb hts bF2_X4 tyX4 tyX4_ok nmX4 hown hK hT hG hS hr_o0 shc_7 rfl 13 (by decide) (ht_at2 hts 1 rfl) (fun _ h9 => h9) rfl (by decide +kernel) rfl rfl (gl_at rfl (gi_of (show x15.toInt = x15.toInt from rfl) (by omega) (by omega))) dX4_readLine_27 (fun H locs hT oq m17 oj hS => ?_)
    have hF := hF.put hr_o0 skc_7 oq oj (by decide)
    have m18 := (oj 0 (by decide) (by decide)).trans m6
    have m19 := (oj 11 (by decide) (by decide)).trans m8
    have m20 := (el_kept (oq _ (gne hr_th hr_o0 (by decide)))).trans m9
    have m21 := (el_kept (oq _ (gne hr_th hr_o0 (by decide)))).trans m10
    refine lv_aload_n hx hb dX4_readLine_30 rfl (lv_at hl 1 rfl) ?_
    refine tw_get hx hb hts bF2_X4 hown hK hT hr_o0 shc_7 rfl 2 (by decide) (ht_at2 hts 6 rfl) (fun _ h9 => h9) dX4_readLine_31 (fun v9 m22 h9 => ?_)
    obtain ⟨b23, rfl, hg24⟩ := h9 _ rfl
    refine lv_aload_n hx hb dX4_readLine_34 rfl (lv_at hl 1 rfl) ?_
    refine tw_getM (v := .int ln) hx hb hts bF2_X4 hown hK hT hr_o0 shc_7 rfl 11 (by decide) (ht_at2 hts 7 rfl) (fun _ h9 => h9) m19 dX4_readLine_35 ?_
    refine lv_iload_n hx hb dX4_readLine_38 rfl (lv_at hl 0 rfl) ?_
    refine tw_iast (i := ln) (x := r4) hx hb hK hT hG hS hg24 shc_42 rfl (vin_t (a := ln.toInt) rfl (by omega) (by omega)) (gi_all _) dX4_readLine_39 (fun H locs hT oq m25 oi hS => ?_)
    have hF := hF.ast hg24 skc_42 oq (by decide)
    have m26 := (el_kept (oq _ (gne hr_o0 hg24 (by decide)))).trans m18
    have m27 := (el_kept (oq _ (gne hr_o0 hg24 (by decide)))).trans m19
    have m28 := (el_kept (oq _ (gne hr_th hg24 (by decide)))).trans m20
    have m29 := (el_kept (oq _ (gne hr_th hg24 (by decide)))).trans m21
    have m30 := (el_kept (oq _ (gne hr_o0 hg24 (by decide)))).trans m17
    have m31 := (el_kept (oq _ (gne hr_o0 hg24 (by decide)))).trans m22
    refine lv_aload_n hx hb dX4_readLine_40 rfl (lv_at hl 1 rfl) ?_
    refine tw_get hx hb hts bF2_X4 hown hK hT hr_o0 shc_7 rfl 7 (by decide) (ht_at2 hts 8 rfl) (fun _ h9 => h9) dX4_readLine_41 (fun v9 m32 h9 => ?_)
    obtain ⟨b33, rfl, hg34⟩ := h9 _ rfl
    refine lv_aload_n hx hb dX4_readLine_44 rfl (lv_at hl 1 rfl) ?_
    refine tw_getM (v := .int ln) hx hb hts bF2_X4 hown hK hT hr_o0 shc_7 rfl 11 (by decide) (ht_at2 hts 7 rfl) (fun _ h9 => h9) m27 dX4_readLine_45 ?_
    refine lv_aload_n hx hb dX4_readLine_48 rfl (lv_at hl 1 rfl) ?_
    refine tw_get hx hb hts bF2_X4 hown hK hT hr_o0 shc_7 rfl 12 (by decide) (ht_at2 hts 9 rfl) (fun _ h9 => h9) dX4_readLine_49 (fun v9 m35 h9 => ?_)
    obtain ⟨x36, rfl, gx36, kx36⟩ := h9 _ rfl
    refine tw_iast (i := ln) (x := x36) hx hb hK hT hG hS hg34 shc_47 rfl (vin_t (a := ln.toInt) rfl (by omega) (by omega)) (gi_of (show x36.toInt = x36.toInt from rfl) (by omega) (by omega)) dX4_readLine_52 (fun H locs hT oq m37 oi hS => ?_)
    have hF := hF.ast hg34 skc_47 oq (by decide)
    have m38 := (el_kept (oq _ (gne hr_o0 hg34 (by decide)))).trans m26
    have m39 := (el_kept (oq _ (gne hr_o0 hg34 (by decide)))).trans m27
    have m40 := (el_kept (oq _ (gne hr_th hg34 (by decide)))).trans m28
    have m41 := (el_kept (oq _ (gne hr_th hg34 (by decide)))).trans m29
    have m42 := (el_kept (oq _ (gne hr_o0 hg34 (by decide)))).trans m30
    have m43 := (el_kept (oq _ (gne hr_o0 hg34 (by decide)))).trans m31
    have m44 := (el_kept (oq _ (gne hg24 hg34 (by decide)))).trans m25
    have m45 := (el_kept (oq _ (gne hr_o0 hg34 (by decide)))).trans m32
    refine lv_iload_n hx hb dX4_readLine_53 rfl (lv_at hl 0 rfl) ?_
    by_cases hs47 : r4 = 5
    · subst hs47
      refine lv_tableIn (x := 5) (off := 125) (tgt := 179) hx hb dX4_readLine_54 (by decide) (by decide) (by decide) (by decide) ?_
      refine lv_goto (tgt := 197) hx hb dX4_readLine_179 (by decide) ?_
      refine lv_aload_n hx hb dX4_readLine_197 rfl (lv_at hl 1 rfl) ?_
      refine lv_bipush (v := 19) hx hb dX4_readLine_198 (by decide) ?_
      have hFc := gA_free hG hA hS
      refine va_calli (va_runV (As := [.int 19]) (rest := []) ⟨hx, hb, hml, hown, hts⟩ (c_take l dC dI kA adK adV G H nC nS o0 19 th x15 tv ix_tv ix_tv hT hr_o0 m38 hr_th m42 (by have q8 := ti_all ix_tv; omega) (by have q8 := ti_all x15; omega) (by have := (show x15.toInt = x15.toInt from rfl); have := (show ix_tv.toInt = ix_tv.toInt from rfl); omega) (by have := (show (19 : Int32).toInt = 19 from (by decide)); omega) (by have q9 := (show ix_tv.toInt = ix_tv.toInt from rfl); have := (show ix_tv.toInt = ix_tv.toInt from rfl); omega) m40 (by have q8 := ti_all tv; omega) (by omega) (by omega)) (cwV 1 hts (goodIn_app (goodIn_r _ [12, 13, 14, 6] rfl (by decide +kernel)) (goodIn_ca (goodIn_r _ [11, 1, 2] rfl (by decide +kernel)) (bs2_in _ _))) rfl rfl rfl (by decide +kernel) ⟨(Nat.le_of_ble_eq_true rfl), (Nat.le_of_ble_eq_true rfl)⟩) ⟨fun a U g mk q => by obtain ⟨q0, q1, qK, qE⟩ := q; exact ⟨q0, q1, va_K.moved (u := U) (U := U.calling g mk a) (Vm.Alike.refl U.vm) qK, EVC.blind g mk a qE⟩, gH_rc hK hT hr_o0 shc_7 rfl, fun U hU hW => ⟨rfl, hU, va_K.moved hW.alike hK, hE.call hS hFc hU hW⟩⟩ rfl rfl hl.1 rfl (lv_room (Nat.le_of_ble_eq_true rfl)) dX4_readLine_200 ⟨(Nat.le_of_ble_eq_true rfl), (Nat.le_of_ble_eq_true rfl)⟩) hS (fun q _ h => hFc q h) hFc (fun r48 u t H locs ht hvm hw49 hB _ _ hS => ?_)
      obtain ⟨u50, rfl⟩ : ∃ z, z = u := ⟨_, rfl⟩
      obtain ⟨hT, hF1, m51⟩ := hB
      rw [ht] at hT hF1 m51
      have m52 := (hF1.fld hr_o0 skc_7 (k := 0) (by decide) (by decide)).trans m38
      have m53 := (hF1.fld hr_o0 skc_7 (k := 11) (by decide) (by decide)).trans m39
      have m54 := (el_kept (hF1.arr hr_th skc_40 (by decide))).trans m40
      have m55 := (el_kept (hF1.arr hr_th skc_40 (by decide))).trans m41
      have m57 := (hF1.fld hr_o0 skc_7 (k := 2) (by decide) (by decide)).trans m43
      have m58 := (el_kept (hF1.arr hg24 skc_42 (by decide))).trans m44
      have m59 := (hF1.fld hr_o0 skc_7 (k := 7) (by decide) (by decide)).trans m45
      have m61 := (el_kept (hF1.arr hg34 skc_47 (by decide))).trans m37
      have hF := hF.more hF1 (by decide)
      try dsimp only at hw49
      obtain ⟨h62, h63, hf64⟩ := hw49
      have jn99 : ∀ (z85 : Int32), ∀ (z95 : Int32), ((0 ≤ z85.toInt ∧ z85.toInt ≤ 1) ∧ (0 ≤ z95.toInt ∧ z95.toInt ≤ 400) ∧ (a0.toInt ≤ z95.toInt ∧ z95.toInt ≤ tn.toInt)) → ∀ (H : Heap) (locs : List Loc), gH (dC, dI) kA (SHc nC nS) G H → gF (dC, dI) SKc G ([(7, 12), (7, 13), (42, 0), (43, 0), (44, 0), (45, 0), (46, 0), (47, 0), (48, 0), (49, 0)] : List (Nat × Nat)) s.heap H → va_S A s.heap H locs → el H o0 (dI 7 0) = some (.ref th) → el H o0 (dI 7 11) = some (.int ln) → el H th ix_tv.toNatClampNeg = some (.int tv) → el H th a0.toNatClampNeg = some (.int x2) → el H o0 (dI 7 2) = some (.ref b23) → el H b23 ln.toNatClampNeg = some (.int 5) → el H o0 (dI 7 7) = some (.ref b33) → el H b33 ln.toNatClampNeg = some (.int x36) → el H o0 (dI 7 13) = some (.int z95) → ∀ ls : Array Slot, lv_has ls 3 [(1, .int 5), (0, .ref o0)] → W p l e (headSpec w_c_readLine ({ frames := 25, cells := 0, slots := 0, locals := 569 })).room s m #[.ref o0] below meth c H locs 0 0 (MQ below (va_Qi (fun (r : Int32) (u : Int32) => (0 ≤ u.toInt ∧ u.toInt ≤ 400) ∧ (0 ≤ r.toInt ∧ r.toInt ≤ 1) ∧ (a0.toInt ≤ u.toInt ∧ u.toInt ≤ tn.toInt)) (fun (a1 : Int32) (t : State) => gH (dC, dI) kA (SHc nC nS) G t.heap ∧ gF (dC, dI) SKc G ([(7, 12), (7, 13), (42, 0), (43, 0), (44, 0), (45, 0), (46, 0), (47, 0), (48, 0), (49, 0)] : List (Nat × Nat)) s.heap t.heap ∧ el t.heap o0 (dI 7 13) = some (.int a1)) A) #[.ref o0] s 0 0 A) (F0 m 219 ls [.int z85]) := by
        intro z85 z95 ⟨h86, h96, hj98⟩ H locs hT hF hS m87 m88 m89 m90 m91 m92 m93 m94 m97 ls hl
        refine lv_istore_n (lv' := [(2, .int z85), (1, .int 5), (0, .ref o0)]) hx hb dX4_readLine_219 rfl hl (by decide) rfl (fun ls hl => ?_)
        refine lv_aload_n hx hb dX4_readLine_220 rfl (lv_at hl 2 rfl) ?_
        refine tw_get hx hb hts bF2_X4 hown hK hT hr_o0 shc_7 rfl 8 (by decide) (ht_at2 hts 43 rfl) (fun _ h9 => h9) dX4_readLine_221 (fun v9 m100 h9 => ?_)
        obtain ⟨b101, rfl, hg102⟩ := h9 _ rfl
        refine lv_aload_n hx hb dX4_readLine_224 rfl (lv_at hl 2 rfl) ?_
        refine tw_getM (v := .int ln) hx hb hts bF2_X4 hown hK hT hr_o0 shc_7 rfl 11 (by decide) (ht_at2 hts 7 rfl) (fun _ h9 => h9) m88 dX4_readLine_225 ?_
        refine lv_aload_n hx hb dX4_readLine_228 rfl (lv_at hl 2 rfl) ?_
        refine tw_get hx hb hts bF2_X4 hown hK hT hr_o0 shc_7 rfl 12 (by decide) (ht_at2 hts 9 rfl) (fun _ h9 => h9) dX4_readLine_229 (fun v9 m103 h9 => ?_)
        obtain ⟨x104, rfl, gx104, kx104⟩ := h9 _ rfl
        refine tw_iast (i := ln) (x := x104) hx hb hK hT hG hS hg102 shc_48 rfl (vin_t (a := ln.toInt) rfl (by omega) (by omega)) (gi_of (show x104.toInt = x104.toInt from rfl) (by omega) (by omega)) dX4_readLine_232 (fun H locs hT oq m105 oi hS => ?_)
        have hF := hF.ast hg102 skc_48 oq (by decide)
        have m114 := (el_kept (oq _ (gne hr_o0 hg102 (by decide)))).trans m97
        refine lv_iload_n hx hb dX4_readLine_233 rfl (lv_at hl 0 rfl) ?_
        exact W.zret (v := z85) hx hb hr (nar_b (by have q8 := ti_all z85; omega)) (fun t ht hW => ⟨⟨z85, z95, rfl, (by exact ⟨(by have q8 := ti_all z95; omega), (by have q8 := ti_all z85; omega), (by omega)⟩), by (try dsimp only); rw [ht]; exact ⟨hT, hF, m114⟩⟩, hS.F ht⟩) hS.2.2 dX4_readLine_234
      refine lv_if_eq (tgt := 214) hx hb dX4_readLine_203 (by decide) (fun c117 => ?_) (fun c117 => ?_)
      · have t118 : r48.toInt = 0 := ti_eq c117 rfl (by decide)
        refine lv_iconst (v := 1) hx hb dX4_readLine_214 (by decide) ?_
        refine lv_goto (tgt := 219) hx hb dX4_readLine_215 (by decide) ?_
        exact jn99 1 u50 ⟨(rg_t (a := 1) (by decide) (by first | decide | omega) (by first | decide | omega)), (by have q8 := ti_all u50; omega), (by have := hx_tv; have := (show u50.toInt = u50.toInt from rfl); omega)⟩ _ _ hT hF hS m52 m53 m54 m55 m57 m58 m59 m61 m51 ls (lv_sub hl [0, 1] rfl)
      · have t119 : r48.toInt ≠ 0 := ti_ne c117 rfl (by decide)
        refine lv_aload_n hx hb dX4_readLine_206 rfl (lv_at hl 1 rfl) ?_
        refine lv_iconst (v := 0) hx hb dX4_readLine_207 (by decide) ?_
        have hFc := gA_free hG hA hS
        refine va_calli (va_runV (As := [.int 0]) (rest := []) ⟨hx, hb, hml, hown, hts⟩ (c_readAny0 l dC dI kA adK adV G H nC nS o0 th u50 tv ix_tv ix_tv hT hr_o0 m52 hr_th m51 (by have q8 := ti_all ix_tv; omega) (by have q8 := ti_all u50; omega) (by have := (show u50.toInt = u50.toInt from rfl); have := (show ix_tv.toInt = ix_tv.toInt from rfl); omega) (by have q9 := (show ix_tv.toInt = ix_tv.toInt from rfl); have := (show ix_tv.toInt = ix_tv.toInt from rfl); omega) m54 (by have q8 := ti_all tv; omega) (by omega) (by omega)) (cwV 1 hts (goodIn_app (goodIn_r _ [41, 42, 43, 6] rfl (by decide +kernel)) (goodIn_ca (goodIn_r _ [15, 16, 17, 1, 2, 15, 18, 19, 20, 21, 10, 22, 23, 24, 25, 6, 26, 27, 28, 11, 12, 13, 14, 29, 30, 31, 32, 33, 34, 35, 36, 37, 38, 39, 40, 41, 42, 43] rfl (by decide +kernel)) (bs2_in _ _))) rfl rfl rfl (by decide +kernel) ⟨(Nat.le_of_ble_eq_true rfl), (Nat.le_of_ble_eq_true rfl)⟩) ⟨fun a U g mk q => by obtain ⟨q0, q1, qK, qE⟩ := q; exact ⟨q0, q1, va_K.moved (u := U) (U := U.calling g mk a) (Vm.Alike.refl U.vm) qK, EVC.blind g mk a qE⟩, gH_rc hK hT hr_o0 shc_7 rfl, fun U hU hW => ⟨rfl, hU, va_K.moved hW.alike hK, hE.call hS hFc hU hW⟩⟩ rfl rfl hl.1 rfl (lv_room (Nat.le_of_ble_eq_true rfl)) dX4_readLine_208 ⟨(Nat.le_of_ble_eq_true rfl), (Nat.le_of_ble_eq_true rfl)⟩) hS (fun q _ h => hFc q h) hFc (fun r120 u t H locs ht hvm hw121 hB _ _ hS => ?_)
        obtain ⟨u122, rfl⟩ : ∃ z, z = u := ⟨_, rfl⟩
        obtain ⟨hT, hF1, m123⟩ := hB
        rw [ht] at hT hF1 m123
        have m124 := (hF1.fld hr_o0 skc_7 (k := 0) (by decide) (by decide)).trans m52
        have m125 := (hF1.fld hr_o0 skc_7 (k := 11) (by decide) (by decide)).trans m53
        have m126 := (el_kept (hF1.arr hr_th skc_40 (by decide))).trans m54
        have m127 := (el_kept (hF1.arr hr_th skc_40 (by decide))).trans m55
        have m128 := (hF1.fld hr_o0 skc_7 (k := 2) (by decide) (by decide)).trans m57
        have m129 := (el_kept (hF1.arr hg24 skc_42 (by decide))).trans m58
        have m130 := (hF1.fld hr_o0 skc_7 (k := 7) (by decide) (by decide)).trans m59
        have m132 := (el_kept (hF1.arr hg34 skc_47 (by decide))).trans m61
        have hF := hF.more hF1 (by decide)
        try dsimp only at hw121
        obtain ⟨h134, h135, hf136⟩ := hw121
        refine lv_if_eq (tgt := 218) hx hb dX4_readLine_211 (by decide) (fun c137 => ?_) (fun c137 => ?_)
        · have t138 : r120.toInt = 0 := ti_eq c137 rfl (by decide)
          refine lv_iconst (v := 0) hx hb dX4_readLine_218 (by decide) ?_
          exact jn99 0 u122 ⟨(rg_t (a := 0) (by decide) (by first | decide | omega) (by first | decide | omega)), (by have q8 := ti_all u122; omega), (by have := hx_tv; have := (show u122.toInt = u122.toInt from rfl); omega)⟩ _ _ hT hF hS m124 m125 m126 m127 m128 m129 m130 m132 m123 ls (lv_sub hl [0, 1] rfl)
        · have t139 : r120.toInt ≠ 0 := ti_ne c137 rfl (by decide)
          refine lv_iconst (v := 1) hx hb dX4_readLine_214 (by decide) ?_
          refine lv_goto (tgt := 219) hx hb dX4_readLine_215 (by decide) ?_
          exact jn99 1 u122 ⟨(rg_t (a := 1) (by decide) (by first | decide | omega) (by first | decide | omega)), (by have q8 := ti_all u122; omega), (by have := hx_tv; have := (show u122.toInt = u122.toInt from rfl); omega)⟩ _ _ hT hF hS m124 m125 m126 m127 m128 m129 m130 m132 m123 ls (lv_sub hl [0, 1] rfl)
    by_cases hs140 : r4 = 6
    · subst hs140
      refine lv_tableIn (x := 6) (off := 125) (tgt := 179) hx hb dX4_readLine_54 (by decide) (by decide) (by decide) (by decide) ?_
      refine lv_goto (tgt := 197) hx hb dX4_readLine_179 (by decide) ?_
      refine lv_aload_n hx hb dX4_readLine_197 rfl (lv_at hl 1 rfl) ?_
      refine lv_bipush (v := 19) hx hb dX4_readLine_198 (by decide) ?_
      have hFc := gA_free hG hA hS
      refine va_calli (va_runV (As := [.int 19]) (rest := []) ⟨hx, hb, hml, hown, hts⟩ (c_take l dC dI kA adK adV G H nC nS o0 19 th x15 tv ix_tv ix_tv hT hr_o0 m38 hr_th m42 (by have q8 := ti_all ix_tv; omega) (by have q8 := ti_all x15; omega) (by have := (show x15.toInt = x15.toInt from rfl); have := (show ix_tv.toInt = ix_tv.toInt from rfl); omega) (by have := (show (19 : Int32).toInt = 19 from (by decide)); omega) (by have q9 := (show ix_tv.toInt = ix_tv.toInt from rfl); have := (show ix_tv.toInt = ix_tv.toInt from rfl); omega) m40 (by have q8 := ti_all tv; omega) (by omega) (by omega)) (cwV 1 hts (goodIn_app (goodIn_r _ [12, 13, 14, 6] rfl (by decide +kernel)) (goodIn_ca (goodIn_r _ [11, 1, 2] rfl (by decide +kernel)) (bs2_in _ _))) rfl rfl rfl (by decide +kernel) ⟨(Nat.le_of_ble_eq_true rfl), (Nat.le_of_ble_eq_true rfl)⟩) ⟨fun a U g mk q => by obtain ⟨q0, q1, qK, qE⟩ := q; exact ⟨q0, q1, va_K.moved (u := U) (U := U.calling g mk a) (Vm.Alike.refl U.vm) qK, EVC.blind g mk a qE⟩, gH_rc hK hT hr_o0 shc_7 rfl, fun U hU hW => ⟨rfl, hU, va_K.moved hW.alike hK, hE.call hS hFc hU hW⟩⟩ rfl rfl hl.1 rfl (lv_room (Nat.le_of_ble_eq_true rfl)) dX4_readLine_200 ⟨(Nat.le_of_ble_eq_true rfl), (Nat.le_of_ble_eq_true rfl)⟩) hS (fun q _ h => hFc q h) hFc (fun r141 u t H locs ht hvm hw142 hB _ _ hS => ?_)
      obtain ⟨u143, rfl⟩ : ∃ z, z = u := ⟨_, rfl⟩
      obtain ⟨hT, hF1, m144⟩ := hB
      rw [ht] at hT hF1 m144
      have m145 := (hF1.fld hr_o0 skc_7 (k := 0) (by decide) (by decide)).trans m38
      have m146 := (hF1.fld hr_o0 skc_7 (k := 11) (by decide) (by decide)).trans m39
      have m147 := (el_kept (hF1.arr hr_th skc_40 (by decide))).trans m40
      have m148 := (el_kept (hF1.arr hr_th skc_40 (by decide))).trans m41
      have m150 := (hF1.fld hr_o0 skc_7 (k := 2) (by decide) (by decide)).trans m43
      have m151 := (el_kept (hF1.arr hg24 skc_42 (by decide))).trans m44
      have m152 := (hF1.fld hr_o0 skc_7 (k := 7) (by decide) (by decide)).trans m45
      have m154 := (el_kept (hF1.arr hg34 skc_47 (by decide))).trans m37
      have hF := hF.more hF1 (by decide)
      try dsimp only at hw142
      obtain ⟨h155, h156, hf157⟩ := hw142
      have jn192 : ∀ (z178 : Int32), ∀ (z188 : Int32), ((0 ≤ z178.toInt ∧ z178.toInt ≤ 1) ∧ (0 ≤ z188.toInt ∧ z188.toInt ≤ 400) ∧ (a0.toInt ≤ z188.toInt ∧ z188.toInt ≤ tn.toInt)) → ∀ (H : Heap) (locs : List Loc), gH (dC, dI) kA (SHc nC nS) G H → gF (dC, dI) SKc G ([(7, 12), (7, 13), (42, 0), (43, 0), (44, 0), (45, 0), (46, 0), (47, 0), (48, 0), (49, 0)] : List (Nat × Nat)) s.heap H → va_S A s.heap H locs → el H o0 (dI 7 0) = some (.ref th) → el H o0 (dI 7 11) = some (.int ln) → el H th ix_tv.toNatClampNeg = some (.int tv) → el H th a0.toNatClampNeg = some (.int x2) → el H o0 (dI 7 2) = some (.ref b23) → el H b23 ln.toNatClampNeg = some (.int 6) → el H o0 (dI 7 7) = some (.ref b33) → el H b33 ln.toNatClampNeg = some (.int x36) → el H o0 (dI 7 13) = some (.int z188) → ∀ ls : Array Slot, lv_has ls 3 [(1, .int 6), (0, .ref o0)] → W p l e (headSpec w_c_readLine ({ frames := 25, cells := 0, slots := 0, locals := 569 })).room s m #[.ref o0] below meth c H locs 0 0 (MQ below (va_Qi (fun (r : Int32) (u : Int32) => (0 ≤ u.toInt ∧ u.toInt ≤ 400) ∧ (0 ≤ r.toInt ∧ r.toInt ≤ 1) ∧ (a0.toInt ≤ u.toInt ∧ u.toInt ≤ tn.toInt)) (fun (a1 : Int32) (t : State) => gH (dC, dI) kA (SHc nC nS) G t.heap ∧ gF (dC, dI) SKc G ([(7, 12), (7, 13), (42, 0), (43, 0), (44, 0), (45, 0), (46, 0), (47, 0), (48, 0), (49, 0)] : List (Nat × Nat)) s.heap t.heap ∧ el t.heap o0 (dI 7 13) = some (.int a1)) A) #[.ref o0] s 0 0 A) (F0 m 219 ls [.int z178]) := by
        intro z178 z188 ⟨h179, h189, hj191⟩ H locs hT hF hS m180 m181 m182 m183 m184 m185 m186 m187 m190 ls hl
        refine lv_istore_n (lv' := [(2, .int z178), (1, .int 6), (0, .ref o0)]) hx hb dX4_readLine_219 rfl hl (by decide) rfl (fun ls hl => ?_)
        refine lv_aload_n hx hb dX4_readLine_220 rfl (lv_at hl 2 rfl) ?_
        refine tw_get hx hb hts bF2_X4 hown hK hT hr_o0 shc_7 rfl 8 (by decide) (ht_at2 hts 43 rfl) (fun _ h9 => h9) dX4_readLine_221 (fun v9 m193 h9 => ?_)
        obtain ⟨b194, rfl, hg195⟩ := h9 _ rfl
        refine lv_aload_n hx hb dX4_readLine_224 rfl (lv_at hl 2 rfl) ?_
        refine tw_getM (v := .int ln) hx hb hts bF2_X4 hown hK hT hr_o0 shc_7 rfl 11 (by decide) (ht_at2 hts 7 rfl) (fun _ h9 => h9) m181 dX4_readLine_225 ?_
        refine lv_aload_n hx hb dX4_readLine_228 rfl (lv_at hl 2 rfl) ?_
        refine tw_get hx hb hts bF2_X4 hown hK hT hr_o0 shc_7 rfl 12 (by decide) (ht_at2 hts 9 rfl) (fun _ h9 => h9) dX4_readLine_229 (fun v9 m196 h9 => ?_)
        obtain ⟨x197, rfl, gx197, kx197⟩ := h9 _ rfl
        refine tw_iast (i := ln) (x := x197) hx hb hK hT hG hS hg195 shc_48 rfl (vin_t (a := ln.toInt) rfl (by omega) (by omega)) (gi_of (show x197.toInt = x197.toInt from rfl) (by omega) (by omega)) dX4_readLine_232 (fun H locs hT oq m198 oi hS => ?_)
        have hF := hF.ast hg195 skc_48 oq (by decide)
        have m207 := (el_kept (oq _ (gne hr_o0 hg195 (by decide)))).trans m190
        refine lv_iload_n hx hb dX4_readLine_233 rfl (lv_at hl 0 rfl) ?_
        exact W.zret (v := z178) hx hb hr (nar_b (by have q8 := ti_all z178; omega)) (fun t ht hW => ⟨⟨z178, z188, rfl, (by exact ⟨(by have q8 := ti_all z188; omega), (by have q8 := ti_all z178; omega), (by omega)⟩), by (try dsimp only); rw [ht]; exact ⟨hT, hF, m207⟩⟩, hS.F ht⟩) hS.2.2 dX4_readLine_234
      refine lv_if_eq (tgt := 214) hx hb dX4_readLine_203 (by decide) (fun c210 => ?_) (fun c210 => ?_)
      · have t211 : r141.toInt = 0 := ti_eq c210 rfl (by decide)
        refine lv_iconst (v := 1) hx hb dX4_readLine_214 (by decide) ?_
        refine lv_goto (tgt := 219) hx hb dX4_readLine_215 (by decide) ?_
        exact jn192 1 u143 ⟨(rg_t (a := 1) (by decide) (by first | decide | omega) (by first | decide | omega)), (by have q8 := ti_all u143; omega), (by have := hx_tv; have := (show u143.toInt = u143.toInt from rfl); omega)⟩ _ _ hT hF hS m145 m146 m147 m148 m150 m151 m152 m154 m144 ls (lv_sub hl [0, 1] rfl)
      · have t212 : r141.toInt ≠ 0 := ti_ne c210 rfl (by decide)
        refine lv_aload_n hx hb dX4_readLine_206 rfl (lv_at hl 1 rfl) ?_
        refine lv_iconst (v := 0) hx hb dX4_readLine_207 (by decide) ?_
        have hFc := gA_free hG hA hS
        refine va_calli (va_runV (As := [.int 0]) (rest := []) ⟨hx, hb, hml, hown, hts⟩ (c_readAny0 l dC dI kA adK adV G H nC nS o0 th u143 tv ix_tv ix_tv hT hr_o0 m145 hr_th m144 (by have q8 := ti_all ix_tv; omega) (by have q8 := ti_all u143; omega) (by have := (show u143.toInt = u143.toInt from rfl); have := (show ix_tv.toInt = ix_tv.toInt from rfl); omega) (by have q9 := (show ix_tv.toInt = ix_tv.toInt from rfl); have := (show ix_tv.toInt = ix_tv.toInt from rfl); omega) m147 (by have q8 := ti_all tv; omega) (by omega) (by omega)) (cwV 1 hts (goodIn_app (goodIn_r _ [41, 42, 43, 6] rfl (by decide +kernel)) (goodIn_ca (goodIn_r _ [15, 16, 17, 1, 2, 15, 18, 19, 20, 21, 10, 22, 23, 24, 25, 6, 26, 27, 28, 11, 12, 13, 14, 29, 30, 31, 32, 33, 34, 35, 36, 37, 38, 39, 40, 41, 42, 43] rfl (by decide +kernel)) (bs2_in _ _))) rfl rfl rfl (by decide +kernel) ⟨(Nat.le_of_ble_eq_true rfl), (Nat.le_of_ble_eq_true rfl)⟩) ⟨fun a U g mk q => by obtain ⟨q0, q1, qK, qE⟩ := q; exact ⟨q0, q1, va_K.moved (u := U) (U := U.calling g mk a) (Vm.Alike.refl U.vm) qK, EVC.blind g mk a qE⟩, gH_rc hK hT hr_o0 shc_7 rfl, fun U hU hW => ⟨rfl, hU, va_K.moved hW.alike hK, hE.call hS hFc hU hW⟩⟩ rfl rfl hl.1 rfl (lv_room (Nat.le_of_ble_eq_true rfl)) dX4_readLine_208 ⟨(Nat.le_of_ble_eq_true rfl), (Nat.le_of_ble_eq_true rfl)⟩) hS (fun q _ h => hFc q h) hFc (fun r213 u t H locs ht hvm hw214 hB _ _ hS => ?_)
        obtain ⟨u215, rfl⟩ : ∃ z, z = u := ⟨_, rfl⟩
        obtain ⟨hT, hF1, m216⟩ := hB
        rw [ht] at hT hF1 m216
        have m217 := (hF1.fld hr_o0 skc_7 (k := 0) (by decide) (by decide)).trans m145
        have m218 := (hF1.fld hr_o0 skc_7 (k := 11) (by decide) (by decide)).trans m146
        have m219 := (el_kept (hF1.arr hr_th skc_40 (by decide))).trans m147
        have m220 := (el_kept (hF1.arr hr_th skc_40 (by decide))).trans m148
        have m221 := (hF1.fld hr_o0 skc_7 (k := 2) (by decide) (by decide)).trans m150
        have m222 := (el_kept (hF1.arr hg24 skc_42 (by decide))).trans m151
        have m223 := (hF1.fld hr_o0 skc_7 (k := 7) (by decide) (by decide)).trans m152
        have m225 := (el_kept (hF1.arr hg34 skc_47 (by decide))).trans m154
        have hF := hF.more hF1 (by decide)
        try dsimp only at hw214
        obtain ⟨h227, h228, hf229⟩ := hw214
        refine lv_if_eq (tgt := 218) hx hb dX4_readLine_211 (by decide) (fun c230 => ?_) (fun c230 => ?_)
        · have t231 : r213.toInt = 0 := ti_eq c230 rfl (by decide)
          refine lv_iconst (v := 0) hx hb dX4_readLine_218 (by decide) ?_
          exact jn192 0 u215 ⟨(rg_t (a := 0) (by decide) (by first | decide | omega) (by first | decide | omega)), (by have q8 := ti_all u215; omega), (by have := hx_tv; have := (show u215.toInt = u215.toInt from rfl); omega)⟩ _ _ hT hF hS m217 m218 m219 m220 m221 m222 m223 m225 m216 ls (lv_sub hl [0, 1] rfl)
        · have t232 : r213.toInt ≠ 0 := ti_ne c230 rfl (by decide)
          refine lv_iconst (v := 1) hx hb dX4_readLine_214 (by decide) ?_
          refine lv_goto (tgt := 219) hx hb dX4_readLine_215 (by decide) ?_
          exact jn192 1 u215 ⟨(rg_t (a := 1) (by decide) (by first | decide | omega) (by first | decide | omega)), (by have q8 := ti_all u215; omega), (by have := hx_tv; have := (show u215.toInt = u215.toInt from rfl); omega)⟩ _ _ hT hF hS m217 m218 m219 m220 m221 m222 m223 m225 m216 ls (lv_sub hl [0, 1] rfl)
    by_cases hs233 : r4 = 7
    · subst hs233
      refine lv_tableIn (x := 7) (off := 34) (tgt := 88) hx hb dX4_readLine_54 (by decide) (by decide) (by decide) (by decide) ?_
      refine lv_aload_n hx hb dX4_readLine_88 rfl (lv_at hl 1 rfl) ?_
      refine lv_sipush (v := 900) hx hb dX4_readLine_89 (by decide) ?_
      refine lv_aload_n hx hb dX4_readLine_92 rfl (lv_at hl 1 rfl) ?_
      refine tw_get hx hb hts bF2_X4 hown hK hT hr_o0 shc_7 rfl 3 (by decide) (ht_at2 hts 44 rfl) (fun _ h9 => h9) dX4_readLine_93 (fun v9 m234 h9 => ?_)
      obtain ⟨b235, rfl, hg236⟩ := h9 _ rfl
      have hFc := gA_free hG hA hS
      refine va_calli (va_runV (As := [.int 900, .ref b235]) (rest := []) ⟨hx, hb, hml, hown, hts⟩ (c_takeNumber_firsts l dC dI kA adK adV G H nC nS o0 900 b235 th x15 ln tv ix_tv ix_tv hT hg236 hr_o0 m38 hr_th m42 m39 (by have q8 := ti_all ix_tv; omega) (by have q8 := ti_all x15; omega) (by have := (show x15.toInt = x15.toInt from rfl); have := (show ix_tv.toInt = ix_tv.toInt from rfl); omega) (by have q8 := ti_all ln; omega) (by have q9 := (show ix_tv.toInt = ix_tv.toInt from rfl); have := (show ix_tv.toInt = ix_tv.toInt from rfl); omega) m40 (by have q8 := ti_all tv; omega) (by omega) (by omega)) (cwV 2 hts (goodIn_app (goodIn_r _ [47, 48, 49, 6] rfl (by decide +kernel)) (goodIn_ca (goodIn_r _ [46, 1, 2, 8] rfl (by decide +kernel)) (bs2_in _ _))) rfl rfl rfl (by decide +kernel) ⟨(Nat.le_of_ble_eq_true rfl), (Nat.le_of_ble_eq_true rfl)⟩) ⟨fun a U g mk q => by obtain ⟨q0, q1, qK, qE⟩ := q; exact ⟨q0, q1, va_K.moved (u := U) (U := U.calling g mk a) (Vm.Alike.refl U.vm) qK, EVC.blind g mk a qE⟩, gH_rc hK hT hr_o0 shc_7 rfl, fun U hU hW => ⟨rfl, hU, va_K.moved hW.alike hK, hE.call hS hFc hU hW⟩⟩ rfl rfl hl.1 rfl (lv_room (Nat.le_of_ble_eq_true rfl)) dX4_readLine_96 ⟨(Nat.le_of_ble_eq_true rfl), (Nat.le_of_ble_eq_true rfl)⟩) hS (fun q _ h => hFc q h) hFc (fun r237 u t H locs ht hvm hw238 hB _ _ hS => ?_)
      obtain ⟨u239, rfl⟩ : ∃ z, z = u := ⟨_, rfl⟩
      obtain ⟨hT, hF1, m240⟩ := hB
      rw [ht] at hT hF1 m240
      have m241 := (hF1.fld hr_o0 skc_7 (k := 0) (by decide) (by decide)).trans m38
      have m242 := (hF1.fld hr_o0 skc_7 (k := 11) (by decide) (by decide)).trans m39
      have m243 := (el_kept (hF1.arr hr_th skc_40 (by decide))).trans m40
      have hF := hF.more hF1 (by decide)
      try dsimp only at hw238
      obtain ⟨h252, h253, hf254⟩ := hw238
      refine lv_if_eq (tgt := 155) hx hb dX4_readLine_99 (by decide) (fun c255 => ?_) (fun c255 => ?_)
      · have t256 : r237.toInt = 0 := ti_eq c255 rfl (by decide)
        refine lv_iconst (v := 0) hx hb dX4_readLine_155 (by decide) ?_
        exact W.zret (v := 0) hx hb hr (by decide) (fun t ht hW => ⟨⟨0, u239, rfl, (by exact ⟨(by have q8 := ti_all u239; omega), (rg_t (a := 0) (by decide) (by first | decide | omega) (by first | decide | omega)), (by omega)⟩), by (try dsimp only); rw [ht]; exact ⟨hT, hF, m240⟩⟩, hS.F ht⟩) hS.2.2 dX4_readLine_156
      · have t257 : r237.toInt ≠ 0 := ti_ne c255 rfl (by decide)
        refine lv_aload_n hx hb dX4_readLine_102 rfl (lv_at hl 1 rfl) ?_
        refine lv_sipush (v := 900) hx hb dX4_readLine_103 (by decide) ?_
        refine lv_aload_n hx hb dX4_readLine_106 rfl (lv_at hl 1 rfl) ?_
        refine tw_get hx hb hts bF2_X4 hown hK hT hr_o0 shc_7 rfl 4 (by decide) (ht_at2 hts 49 rfl) (fun _ h9 => h9) dX4_readLine_107 (fun v9 m258 h9 => ?_)
        obtain ⟨b259, rfl, hg260⟩ := h9 _ rfl
        have hFc := gA_free hG hA hS
        refine va_calli (va_runV (As := [.int 900, .ref b259]) (rest := []) ⟨hx, hb, hml, hown, hts⟩ (c_takeNumber_seconds l dC dI kA adK adV G H nC nS o0 900 b259 th u239 ln tv ix_tv ix_tv hT hg260 hr_o0 m241 hr_th m240 m242 (by have q8 := ti_all ix_tv; omega) (by have q8 := ti_all u239; omega) (by have := (show u239.toInt = u239.toInt from rfl); have := (show ix_tv.toInt = ix_tv.toInt from rfl); omega) (by have q8 := ti_all ln; omega) (by have q9 := (show ix_tv.toInt = ix_tv.toInt from rfl); have := (show ix_tv.toInt = ix_tv.toInt from rfl); omega) m243 (by have q8 := ti_all tv; omega) (by omega) (by omega)) (cwV 2 hts (goodIn_app (goodIn_r _ [47, 48, 49, 6] rfl (by decide +kernel)) (goodIn_ca (goodIn_r _ [46, 1, 2, 8] rfl (by decide +kernel)) (bs2_in _ _))) rfl rfl rfl (by decide +kernel) ⟨(Nat.le_of_ble_eq_true rfl), (Nat.le_of_ble_eq_true rfl)⟩) ⟨fun a U g mk q => by obtain ⟨q0, q1, qK, qE⟩ := q; exact ⟨q0, q1, va_K.moved (u := U) (U := U.calling g mk a) (Vm.Alike.refl U.vm) qK, EVC.blind g mk a qE⟩, gH_rc hK hT hr_o0 shc_7 rfl, fun U hU hW => ⟨rfl, hU, va_K.moved hW.alike hK, hE.call hS hFc hU hW⟩⟩ rfl rfl hl.1 rfl (lv_room (Nat.le_of_ble_eq_true rfl)) dX4_readLine_110 ⟨(Nat.le_of_ble_eq_true rfl), (Nat.le_of_ble_eq_true rfl)⟩) hS (fun q _ h => hFc q h) hFc (fun r261 u t H locs ht hvm hw262 hB _ _ hS => ?_)
        obtain ⟨u263, rfl⟩ : ∃ z, z = u := ⟨_, rfl⟩
        obtain ⟨hT, hF1, m264⟩ := hB
        rw [ht] at hT hF1 m264
        have m265 := (hF1.fld hr_o0 skc_7 (k := 0) (by decide) (by decide)).trans m241
        have m266 := (hF1.fld hr_o0 skc_7 (k := 11) (by decide) (by decide)).trans m242
        have m267 := (el_kept (hF1.arr hr_th skc_40 (by decide))).trans m243
        have hF := hF.more hF1 (by decide)
        try dsimp only at hw262
        obtain ⟨h277, h278, hf279⟩ := hw262
        refine lv_if_eq (tgt := 155) hx hb dX4_readLine_113 (by decide) (fun c280 => ?_) (fun c280 => ?_)
        · have t281 : r261.toInt = 0 := ti_eq c280 rfl (by decide)
          refine lv_iconst (v := 0) hx hb dX4_readLine_155 (by decide) ?_
          exact W.zret (v := 0) hx hb hr (by decide) (fun t ht hW => ⟨⟨0, u263, rfl, (by exact ⟨(by have q8 := ti_all u263; omega), (rg_t (a := 0) (by decide) (by first | decide | omega) (by first | decide | omega)), (by omega)⟩), by (try dsimp only); rw [ht]; exact ⟨hT, hF, m264⟩⟩, hS.F ht⟩) hS.2.2 dX4_readLine_156
        · have t282 : r261.toInt ≠ 0 := ti_ne c280 rfl (by decide)
          refine lv_aload_n hx hb dX4_readLine_116 rfl (lv_at hl 1 rfl) ?_
          refine lv_bipush (v := 20) hx hb dX4_readLine_117 (by decide) ?_
          have hFc := gA_free hG hA hS
          refine va_calli (va_runV (As := [.int 20]) (rest := []) ⟨hx, hb, hml, hown, hts⟩ (c_take l dC dI kA adK adV G H nC nS o0 20 th u263 tv ix_tv ix_tv hT hr_o0 m265 hr_th m264 (by have q8 := ti_all ix_tv; omega) (by have q8 := ti_all u263; omega) (by have := (show u263.toInt = u263.toInt from rfl); have := (show ix_tv.toInt = ix_tv.toInt from rfl); omega) (by have := (show (20 : Int32).toInt = 20 from (by decide)); omega) (by have q9 := (show ix_tv.toInt = ix_tv.toInt from rfl); have := (show ix_tv.toInt = ix_tv.toInt from rfl); omega) m267 (by have q8 := ti_all tv; omega) (by omega) (by omega)) (cwV 1 hts (goodIn_app (goodIn_r _ [12, 13, 14, 6] rfl (by decide +kernel)) (goodIn_ca (goodIn_r _ [11, 1, 2] rfl (by decide +kernel)) (bs2_in _ _))) rfl rfl rfl (by decide +kernel) ⟨(Nat.le_of_ble_eq_true rfl), (Nat.le_of_ble_eq_true rfl)⟩) ⟨fun a U g mk q => by obtain ⟨q0, q1, qK, qE⟩ := q; exact ⟨q0, q1, va_K.moved (u := U) (U := U.calling g mk a) (Vm.Alike.refl U.vm) qK, EVC.blind g mk a qE⟩, gH_rc hK hT hr_o0 shc_7 rfl, fun U hU hW => ⟨rfl, hU, va_K.moved hW.alike hK, hE.call hS hFc hU hW⟩⟩ rfl rfl hl.1 rfl (lv_room (Nat.le_of_ble_eq_true rfl)) dX4_readLine_119 ⟨(Nat.le_of_ble_eq_true rfl), (Nat.le_of_ble_eq_true rfl)⟩) hS (fun q _ h => hFc q h) hFc (fun r283 u t H locs ht hvm hw284 hB _ _ hS => ?_)
          obtain ⟨u285, rfl⟩ : ∃ z, z = u := ⟨_, rfl⟩
          obtain ⟨hT, hF1, m286⟩ := hB
          rw [ht] at hT hF1 m286
          have m287 := (hF1.fld hr_o0 skc_7 (k := 0) (by decide) (by decide)).trans m265
          have m288 := (hF1.fld hr_o0 skc_7 (k := 11) (by decide) (by decide)).trans m266
          have m289 := (el_kept (hF1.arr hr_th skc_40 (by decide))).trans m267
          have hF := hF.more hF1 (by decide)
          try dsimp only at hw284
          obtain ⟨h299, h300, hf301⟩ := hw284
          refine lv_if_eq (tgt := 155) hx hb dX4_readLine_122 (by decide) (fun c302 => ?_) (fun c302 => ?_)
          · have t303 : r283.toInt = 0 := ti_eq c302 rfl (by decide)
            refine lv_iconst (v := 0) hx hb dX4_readLine_155 (by decide) ?_
            exact W.zret (v := 0) hx hb hr (by decide) (fun t ht hW => ⟨⟨0, u285, rfl, (by exact ⟨(by have q8 := ti_all u285; omega), (rg_t (a := 0) (by decide) (by first | decide | omega) (by first | decide | omega)), (by omega)⟩), by (try dsimp only); rw [ht]; exact ⟨hT, hF, m286⟩⟩, hS.F ht⟩) hS.2.2 dX4_readLine_156
          · have t304 : r283.toInt ≠ 0 := ti_ne c302 rfl (by decide)
            refine lv_aload_n hx hb dX4_readLine_125 rfl (lv_at hl 1 rfl) ?_
            refine lv_bipush (v := 95) hx hb dX4_readLine_126 (by decide) ?_
            refine lv_aload_n hx hb dX4_readLine_128 rfl (lv_at hl 1 rfl) ?_
            refine tw_get hx hb hts bF2_X4 hown hK hT hr_o0 shc_7 rfl 5 (by decide) (ht_at2 hts 50 rfl) (fun _ h9 => h9) dX4_readLine_129 (fun v9 m305 h9 => ?_)
            obtain ⟨b306, rfl, hg307⟩ := h9 _ rfl
            have hFc := gA_free hG hA hS
            refine va_calli (va_runV (As := [.int 95, .ref b306]) (rest := []) ⟨hx, hb, hml, hown, hts⟩ (c_takeNumber_froms l dC dI kA adK adV G H nC nS o0 95 b306 th u285 ln tv ix_tv ix_tv hT hg307 hr_o0 m287 hr_th m286 m288 (by have q8 := ti_all ix_tv; omega) (by have q8 := ti_all u285; omega) (by have := (show u285.toInt = u285.toInt from rfl); have := (show ix_tv.toInt = ix_tv.toInt from rfl); omega) (by have q8 := ti_all ln; omega) (by have q9 := (show ix_tv.toInt = ix_tv.toInt from rfl); have := (show ix_tv.toInt = ix_tv.toInt from rfl); omega) m289 (by have q8 := ti_all tv; omega) (by omega) (by omega)) (cwV 2 hts (goodIn_app (goodIn_r _ [47, 48, 49, 6] rfl (by decide +kernel)) (goodIn_ca (goodIn_r _ [46, 1, 2, 8] rfl (by decide +kernel)) (bs2_in _ _))) rfl rfl rfl (by decide +kernel) ⟨(Nat.le_of_ble_eq_true rfl), (Nat.le_of_ble_eq_true rfl)⟩) ⟨fun a U g mk q => by obtain ⟨q0, q1, qK, qE⟩ := q; exact ⟨q0, q1, va_K.moved (u := U) (U := U.calling g mk a) (Vm.Alike.refl U.vm) qK, EVC.blind g mk a qE⟩, gH_rc hK hT hr_o0 shc_7 rfl, fun U hU hW => ⟨rfl, hU, va_K.moved hW.alike hK, hE.call hS hFc hU hW⟩⟩ rfl rfl hl.1 rfl (lv_room (Nat.le_of_ble_eq_true rfl)) dX4_readLine_132 ⟨(Nat.le_of_ble_eq_true rfl), (Nat.le_of_ble_eq_true rfl)⟩) hS (fun q _ h => hFc q h) hFc (fun r308 u t H locs ht hvm hw309 hB _ _ hS => ?_)
            obtain ⟨u310, rfl⟩ : ∃ z, z = u := ⟨_, rfl⟩
            obtain ⟨hT, hF1, m311⟩ := hB
            rw [ht] at hT hF1 m311
            have m312 := (hF1.fld hr_o0 skc_7 (k := 0) (by decide) (by decide)).trans m287
            have m313 := (hF1.fld hr_o0 skc_7 (k := 11) (by decide) (by decide)).trans m288
            have m314 := (el_kept (hF1.arr hr_th skc_40 (by decide))).trans m289
            have hF := hF.more hF1 (by decide)
            try dsimp only at hw309
            obtain ⟨h325, h326, hf327⟩ := hw309
            refine lv_if_eq (tgt := 155) hx hb dX4_readLine_135 (by decide) (fun c328 => ?_) (fun c328 => ?_)
            · have t329 : r308.toInt = 0 := ti_eq c328 rfl (by decide)
              refine lv_iconst (v := 0) hx hb dX4_readLine_155 (by decide) ?_
              exact W.zret (v := 0) hx hb hr (by decide) (fun t ht hW => ⟨⟨0, u310, rfl, (by exact ⟨(by have q8 := ti_all u310; omega), (rg_t (a := 0) (by decide) (by first | decide | omega) (by first | decide | omega)), (by omega)⟩), by (try dsimp only); rw [ht]; exact ⟨hT, hF, m311⟩⟩, hS.F ht⟩) hS.2.2 dX4_readLine_156
            · have t330 : r308.toInt ≠ 0 := ti_ne c328 rfl (by decide)
              refine lv_aload_n hx hb dX4_readLine_138 rfl (lv_at hl 1 rfl) ?_
              refine lv_bipush (v := 95) hx hb dX4_readLine_139 (by decide) ?_
              refine lv_aload_n hx hb dX4_readLine_141 rfl (lv_at hl 1 rfl) ?_
              refine tw_get hx hb hts bF2_X4 hown hK hT hr_o0 shc_7 rfl 6 (by decide) (ht_at2 hts 51 rfl) (fun _ h9 => h9) dX4_readLine_142 (fun v9 m331 h9 => ?_)
              obtain ⟨b332, rfl, hg333⟩ := h9 _ rfl
              have hFc := gA_free hG hA hS
              refine va_calli (va_runV (As := [.int 95, .ref b332]) (rest := []) ⟨hx, hb, hml, hown, hts⟩ (c_takeNumber_tos l dC dI kA adK adV G H nC nS o0 95 b332 th u310 ln tv ix_tv ix_tv hT hg333 hr_o0 m312 hr_th m311 m313 (by have q8 := ti_all ix_tv; omega) (by have q8 := ti_all u310; omega) (by have := (show u310.toInt = u310.toInt from rfl); have := (show ix_tv.toInt = ix_tv.toInt from rfl); omega) (by have q8 := ti_all ln; omega) (by have q9 := (show ix_tv.toInt = ix_tv.toInt from rfl); have := (show ix_tv.toInt = ix_tv.toInt from rfl); omega) m314 (by have q8 := ti_all tv; omega) (by omega) (by omega)) (cwV 2 hts (goodIn_app (goodIn_r _ [47, 48, 49, 6] rfl (by decide +kernel)) (goodIn_ca (goodIn_r _ [46, 1, 2, 8] rfl (by decide +kernel)) (bs2_in _ _))) rfl rfl rfl (by decide +kernel) ⟨(Nat.le_of_ble_eq_true rfl), (Nat.le_of_ble_eq_true rfl)⟩) ⟨fun a U g mk q => by obtain ⟨q0, q1, qK, qE⟩ := q; exact ⟨q0, q1, va_K.moved (u := U) (U := U.calling g mk a) (Vm.Alike.refl U.vm) qK, EVC.blind g mk a qE⟩, gH_rc hK hT hr_o0 shc_7 rfl, fun U hU hW => ⟨rfl, hU, va_K.moved hW.alike hK, hE.call hS hFc hU hW⟩⟩ rfl rfl hl.1 rfl (lv_room (Nat.le_of_ble_eq_true rfl)) dX4_readLine_145 ⟨(Nat.le_of_ble_eq_true rfl), (Nat.le_of_ble_eq_true rfl)⟩) hS (fun q _ h => hFc q h) hFc (fun r334 u t H locs ht hvm hw335 hB _ _ hS => ?_)
              obtain ⟨u336, rfl⟩ : ∃ z, z = u := ⟨_, rfl⟩
              obtain ⟨hT, hF1, m337⟩ := hB
              rw [ht] at hT hF1 m337
              have hF := hF.more hF1 (by decide)
              try dsimp only at hw335
              obtain ⟨h352, h353, hf354⟩ := hw335
              refine lv_if_eq (tgt := 155) hx hb dX4_readLine_148 (by decide) (fun c355 => ?_) (fun c355 => ?_)
              · have t356 : r334.toInt = 0 := ti_eq c355 rfl (by decide)
                refine lv_iconst (v := 0) hx hb dX4_readLine_155 (by decide) ?_
                exact W.zret (v := 0) hx hb hr (by decide) (fun t ht hW => ⟨⟨0, u336, rfl, (by exact ⟨(by have q8 := ti_all u336; omega), (rg_t (a := 0) (by decide) (by first | decide | omega) (by first | decide | omega)), (by omega)⟩), by (try dsimp only); rw [ht]; exact ⟨hT, hF, m337⟩⟩, hS.F ht⟩) hS.2.2 dX4_readLine_156
              · have t357 : r334.toInt ≠ 0 := ti_ne c355 rfl (by decide)
                refine lv_iconst (v := 1) hx hb dX4_readLine_151 (by decide) ?_
                refine lv_goto (tgt := 156) hx hb dX4_readLine_152 (by decide) ?_
                exact W.zret (v := 1) hx hb hr (by decide) (fun t ht hW => ⟨⟨1, u336, rfl, (by exact ⟨(by have q8 := ti_all u336; omega), (rg_t (a := 1) (by decide) (by first | decide | omega) (by first | decide | omega)), (by omega)⟩), by (try dsimp only); rw [ht]; exact ⟨hT, hF, m337⟩⟩, hS.F ht⟩) hS.2.2 dX4_readLine_156
    by_cases hs358 : r4 = 8
    · subst hs358
      refine lv_tableIn (x := 8) (off := 103) (tgt := 157) hx hb dX4_readLine_54 (by decide) (by decide) (by decide) (by decide) ?_
      refine lv_aload_n hx hb dX4_readLine_157 rfl (lv_at hl 1 rfl) ?_
      refine lv_bipush (v := 100) hx hb dX4_readLine_158 (by decide) ?_
      refine lv_aload_n hx hb dX4_readLine_160 rfl (lv_at hl 1 rfl) ?_
      refine tw_get hx hb hts bF2_X4 hown hK hT hr_o0 shc_7 rfl 3 (by decide) (ht_at2 hts 44 rfl) (fun _ h9 => h9) dX4_readLine_161 (fun v9 m359 h9 => ?_)
      obtain ⟨b360, rfl, hg361⟩ := h9 _ rfl
      have hFc := gA_free hG hA hS
      refine va_calli (va_runV (As := [.int 100, .ref b360]) (rest := []) ⟨hx, hb, hml, hown, hts⟩ (c_takeNumber_firsts l dC dI kA adK adV G H nC nS o0 100 b360 th x15 ln tv ix_tv ix_tv hT hg361 hr_o0 m38 hr_th m42 m39 (by have q8 := ti_all ix_tv; omega) (by have q8 := ti_all x15; omega) (by have := (show x15.toInt = x15.toInt from rfl); have := (show ix_tv.toInt = ix_tv.toInt from rfl); omega) (by have q8 := ti_all ln; omega) (by have q9 := (show ix_tv.toInt = ix_tv.toInt from rfl); have := (show ix_tv.toInt = ix_tv.toInt from rfl); omega) m40 (by have q8 := ti_all tv; omega) (by omega) (by omega)) (cwV 2 hts (goodIn_app (goodIn_r _ [47, 48, 49, 6] rfl (by decide +kernel)) (goodIn_ca (goodIn_r _ [46, 1, 2, 8] rfl (by decide +kernel)) (bs2_in _ _))) rfl rfl rfl (by decide +kernel) ⟨(Nat.le_of_ble_eq_true rfl), (Nat.le_of_ble_eq_true rfl)⟩) ⟨fun a U g mk q => by obtain ⟨q0, q1, qK, qE⟩ := q; exact ⟨q0, q1, va_K.moved (u := U) (U := U.calling g mk a) (Vm.Alike.refl U.vm) qK, EVC.blind g mk a qE⟩, gH_rc hK hT hr_o0 shc_7 rfl, fun U hU hW => ⟨rfl, hU, va_K.moved hW.alike hK, hE.call hS hFc hU hW⟩⟩ rfl rfl hl.1 rfl (lv_room (Nat.le_of_ble_eq_true rfl)) dX4_readLine_164 ⟨(Nat.le_of_ble_eq_true rfl), (Nat.le_of_ble_eq_true rfl)⟩) hS (fun q _ h => hFc q h) hFc (fun r362 u t H locs ht hvm hw363 hB _ _ hS => ?_)
      obtain ⟨u364, rfl⟩ : ∃ z, z = u := ⟨_, rfl⟩
      obtain ⟨hT, hF1, m365⟩ := hB
      rw [ht] at hT hF1 m365
      have hF := hF.more hF1 (by decide)
      try dsimp only at hw363
      obtain ⟨h377, h378, hf379⟩ := hw363
      exact W.zret (v := r362) hx hb hr (nar_b (by have q8 := ti_all r362; omega)) (fun t ht hW => ⟨⟨r362, u364, rfl, (by exact ⟨(by have q8 := ti_all u364; omega), (by have q8 := ti_all r362; omega), (by omega)⟩), by (try dsimp only); rw [ht]; exact ⟨hT, hF, m365⟩⟩, hS.F ht⟩) hS.2.2 dX4_readLine_167
    by_cases hs380 : r4 = 9
    · subst hs380
      refine lv_tableIn (x := 9) (off := 114) (tgt := 168) hx hb dX4_readLine_54 (by decide) (by decide) (by decide) (by decide) ?_
      refine lv_aload_n hx hb dX4_readLine_168 rfl (lv_at hl 1 rfl) ?_
      refine lv_bipush (v := 18) hx hb dX4_readLine_169 (by decide) ?_
      refine lv_aload_n hx hb dX4_readLine_171 rfl (lv_at hl 1 rfl) ?_
      refine tw_get hx hb hts bF2_X4 hown hK hT hr_o0 shc_7 rfl 3 (by decide) (ht_at2 hts 44 rfl) (fun _ h9 => h9) dX4_readLine_172 (fun v9 m381 h9 => ?_)
      obtain ⟨b382, rfl, hg383⟩ := h9 _ rfl
      have hFc := gA_free hG hA hS
      refine va_calli (va_runV (As := [.int 18, .ref b382]) (rest := []) ⟨hx, hb, hml, hown, hts⟩ (c_takeNumber_firsts l dC dI kA adK adV G H nC nS o0 18 b382 th x15 ln tv ix_tv ix_tv hT hg383 hr_o0 m38 hr_th m42 m39 (by have q8 := ti_all ix_tv; omega) (by have q8 := ti_all x15; omega) (by have := (show x15.toInt = x15.toInt from rfl); have := (show ix_tv.toInt = ix_tv.toInt from rfl); omega) (by have q8 := ti_all ln; omega) (by have q9 := (show ix_tv.toInt = ix_tv.toInt from rfl); have := (show ix_tv.toInt = ix_tv.toInt from rfl); omega) m40 (by have q8 := ti_all tv; omega) (by omega) (by omega)) (cwV 2 hts (goodIn_app (goodIn_r _ [47, 48, 49, 6] rfl (by decide +kernel)) (goodIn_ca (goodIn_r _ [46, 1, 2, 8] rfl (by decide +kernel)) (bs2_in _ _))) rfl rfl rfl (by decide +kernel) ⟨(Nat.le_of_ble_eq_true rfl), (Nat.le_of_ble_eq_true rfl)⟩) ⟨fun a U g mk q => by obtain ⟨q0, q1, qK, qE⟩ := q; exact ⟨q0, q1, va_K.moved (u := U) (U := U.calling g mk a) (Vm.Alike.refl U.vm) qK, EVC.blind g mk a qE⟩, gH_rc hK hT hr_o0 shc_7 rfl, fun U hU hW => ⟨rfl, hU, va_K.moved hW.alike hK, hE.call hS hFc hU hW⟩⟩ rfl rfl hl.1 rfl (lv_room (Nat.le_of_ble_eq_true rfl)) dX4_readLine_175 ⟨(Nat.le_of_ble_eq_true rfl), (Nat.le_of_ble_eq_true rfl)⟩) hS (fun q _ h => hFc q h) hFc (fun r384 u t H locs ht hvm hw385 hB _ _ hS => ?_)
      obtain ⟨u386, rfl⟩ : ∃ z, z = u := ⟨_, rfl⟩
      obtain ⟨hT, hF1, m387⟩ := hB
      rw [ht] at hT hF1 m387
      have hF := hF.more hF1 (by decide)
      try dsimp only at hw385
      obtain ⟨h399, h400, hf401⟩ := hw385
      exact W.zret (v := r384) hx hb hr (nar_b (by have q8 := ti_all r384; omega)) (fun t ht hW => ⟨⟨r384, u386, rfl, (by exact ⟨(by have q8 := ti_all u386; omega), (by have q8 := ti_all r384; omega), (by omega)⟩), by (try dsimp only); rw [ht]; exact ⟨hT, hF, m387⟩⟩, hS.F ht⟩) hS.2.2 dX4_readLine_178
    have ho402 : r4.toInt < 5 ∨ 9 < r4.toInt := by
      by_cases hz9 : r4.toInt < 5
      · exact Or.inl hz9
      have u9 : (5 : Int) ≤ r4.toInt := Int.not_lt.mp hz9
      have u9 := ll_nx (k1 := 6) u9 hs47 (by decide) (by decide)
      have u9 := ll_nx (k1 := 7) u9 hs140 (by decide) (by decide)
      have u9 := ll_nx (k1 := 8) u9 hs233 (by decide) (by decide)
      have u9 := ll_nx (k1 := 9) u9 hs358 (by decide) (by decide)
      have u9 := ll_nx (k1 := 10) u9 hs380 (by decide) (by decide)
      exact Or.inr (Int.lt_of_lt_of_le (by decide) u9)
    refine lv_tableOut (tgt := 182) hx hb dX4_readLine_54 ho402 (by decide) ?_
    refine lv_aload_n hx hb dX4_readLine_182 rfl (lv_at hl 1 rfl) ?_
    refine lv_ldc (v := 99999) hx hb hown (ht_at2 hts 52 rfl) dX4_readLine_183 ?_
    refine lv_aload_n hx hb dX4_readLine_185 rfl (lv_at hl 1 rfl) ?_
    refine tw_get hx hb hts bF2_X4 hown hK hT hr_o0 shc_7 rfl 3 (by decide) (ht_at2 hts 44 rfl) (fun _ h9 => h9) dX4_readLine_186 (fun v9 m403 h9 => ?_)
    obtain ⟨b404, rfl, hg405⟩ := h9 _ rfl
    have hFc := gA_free hG hA hS
    refine va_calli (va_runV (As := [.int 99999, .ref b404]) (rest := []) ⟨hx, hb, hml, hown, hts⟩ (c_takeNumber_firsts l dC dI kA adK adV G H nC nS o0 99999 b404 th x15 ln tv ix_tv ix_tv hT hg405 hr_o0 m38 hr_th m42 m39 (by have q8 := ti_all ix_tv; omega) (by have q8 := ti_all x15; omega) (by have := (show x15.toInt = x15.toInt from rfl); have := (show ix_tv.toInt = ix_tv.toInt from rfl); omega) (by have q8 := ti_all ln; omega) (by have q9 := (show ix_tv.toInt = ix_tv.toInt from rfl); have := (show ix_tv.toInt = ix_tv.toInt from rfl); omega) m40 (by have q8 := ti_all tv; omega) (by omega) (by omega)) (cwV 2 hts (goodIn_app (goodIn_r _ [47, 48, 49, 6] rfl (by decide +kernel)) (goodIn_ca (goodIn_r _ [46, 1, 2, 8] rfl (by decide +kernel)) (bs2_in _ _))) rfl rfl rfl (by decide +kernel) ⟨(Nat.le_of_ble_eq_true rfl), (Nat.le_of_ble_eq_true rfl)⟩) ⟨fun a U g mk q => by obtain ⟨q0, q1, qK, qE⟩ := q; exact ⟨q0, q1, va_K.moved (u := U) (U := U.calling g mk a) (Vm.Alike.refl U.vm) qK, EVC.blind g mk a qE⟩, gH_rc hK hT hr_o0 shc_7 rfl, fun U hU hW => ⟨rfl, hU, va_K.moved hW.alike hK, hE.call hS hFc hU hW⟩⟩ rfl rfl hl.1 rfl (lv_room (Nat.le_of_ble_eq_true rfl)) dX4_readLine_189 ⟨(Nat.le_of_ble_eq_true rfl), (Nat.le_of_ble_eq_true rfl)⟩) hS (fun q _ h => hFc q h) hFc (fun r406 u t H locs ht hvm hw407 hB _ _ hS => ?_)
    obtain ⟨u408, rfl⟩ : ∃ z, z = u := ⟨_, rfl⟩
    obtain ⟨hT, hF1, m409⟩ := hB
    rw [ht] at hT hF1 m409
    have m410 := (hF1.fld hr_o0 skc_7 (k := 0) (by decide) (by decide)).trans m38
    have m411 := (hF1.fld hr_o0 skc_7 (k := 11) (by decide) (by decide)).trans m39
    have m412 := (el_kept (hF1.arr hr_th skc_40 (by decide))).trans m40
    have m413 := (el_kept (hF1.arr hr_th skc_40 (by decide))).trans m41
    have m415 := (hF1.fld hr_o0 skc_7 (k := 2) (by decide) (by decide)).trans m43
    have m416 := (el_kept (hF1.arr hg24 skc_42 (by decide))).trans m44
    have m417 := (hF1.fld hr_o0 skc_7 (k := 7) (by decide) (by decide)).trans m45
    have m419 := (el_kept (hF1.arr hg34 skc_47 (by decide))).trans m37
    have m420 := (hF1.fld hr_o0 skc_7 (k := 3) (by decide) (by decide)).trans m403
    have hF := hF.more hF1 (by decide)
    try dsimp only at hw407
    obtain ⟨h421, h422, hf423⟩ := hw407
    refine lv_if_ne (tgt := 197) hx hb dX4_readLine_192 (by decide) (fun c424 => ?_) (fun c424 => ?_)
    · have t425 : r406.toInt ≠ 0 := ti_ne c424 rfl (by decide)
      refine lv_aload_n hx hb dX4_readLine_197 rfl (lv_at hl 1 rfl) ?_
      refine lv_bipush (v := 19) hx hb dX4_readLine_198 (by decide) ?_
      have hFc := gA_free hG hA hS
      refine va_calli (va_runV (As := [.int 19]) (rest := []) ⟨hx, hb, hml, hown, hts⟩ (c_take l dC dI kA adK adV G H nC nS o0 19 th u408 tv ix_tv ix_tv hT hr_o0 m410 hr_th m409 (by have q8 := ti_all ix_tv; omega) (by have q8 := ti_all u408; omega) (by have := (show u408.toInt = u408.toInt from rfl); have := (show ix_tv.toInt = ix_tv.toInt from rfl); omega) (by have := (show (19 : Int32).toInt = 19 from (by decide)); omega) (by have q9 := (show ix_tv.toInt = ix_tv.toInt from rfl); have := (show ix_tv.toInt = ix_tv.toInt from rfl); omega) m412 (by have q8 := ti_all tv; omega) (by omega) (by omega)) (cwV 1 hts (goodIn_app (goodIn_r _ [12, 13, 14, 6] rfl (by decide +kernel)) (goodIn_ca (goodIn_r _ [11, 1, 2] rfl (by decide +kernel)) (bs2_in _ _))) rfl rfl rfl (by decide +kernel) ⟨(Nat.le_of_ble_eq_true rfl), (Nat.le_of_ble_eq_true rfl)⟩) ⟨fun a U g mk q => by obtain ⟨q0, q1, qK, qE⟩ := q; exact ⟨q0, q1, va_K.moved (u := U) (U := U.calling g mk a) (Vm.Alike.refl U.vm) qK, EVC.blind g mk a qE⟩, gH_rc hK hT hr_o0 shc_7 rfl, fun U hU hW => ⟨rfl, hU, va_K.moved hW.alike hK, hE.call hS hFc hU hW⟩⟩ rfl rfl hl.1 rfl (lv_room (Nat.le_of_ble_eq_true rfl)) dX4_readLine_200 ⟨(Nat.le_of_ble_eq_true rfl), (Nat.le_of_ble_eq_true rfl)⟩) hS (fun q _ h => hFc q h) hFc (fun r426 u t H locs ht hvm hw427 hB _ _ hS => ?_)
      obtain ⟨u428, rfl⟩ : ∃ z, z = u := ⟨_, rfl⟩
      obtain ⟨hT, hF1, m429⟩ := hB
      rw [ht] at hT hF1 m429
      have m430 := (hF1.fld hr_o0 skc_7 (k := 0) (by decide) (by decide)).trans m410
      have m431 := (hF1.fld hr_o0 skc_7 (k := 11) (by decide) (by decide)).trans m411
      have m432 := (el_kept (hF1.arr hr_th skc_40 (by decide))).trans m412
      have m433 := (el_kept (hF1.arr hr_th skc_40 (by decide))).trans m413
      have m434 := (hF1.fld hr_o0 skc_7 (k := 2) (by decide) (by decide)).trans m415
      have m435 := (el_kept (hF1.arr hg24 skc_42 (by decide))).trans m416
      have m436 := (hF1.fld hr_o0 skc_7 (k := 7) (by decide) (by decide)).trans m417
      have m438 := (el_kept (hF1.arr hg34 skc_47 (by decide))).trans m419
      have m439 := (hF1.fld hr_o0 skc_7 (k := 3) (by decide) (by decide)).trans m420
      have hF := hF.more hF1 (by decide)
      try dsimp only at hw427
      obtain ⟨h441, h442, hf443⟩ := hw427
      have jn480 : ∀ (z465 : Int32), ∀ (z476 : Int32), ((0 ≤ z465.toInt ∧ z465.toInt ≤ 1) ∧ (0 ≤ z476.toInt ∧ z476.toInt ≤ 400) ∧ (a0.toInt ≤ z476.toInt ∧ z476.toInt ≤ tn.toInt)) → ∀ (H : Heap) (locs : List Loc), gH (dC, dI) kA (SHc nC nS) G H → gF (dC, dI) SKc G ([(7, 12), (7, 13), (42, 0), (43, 0), (44, 0), (45, 0), (46, 0), (47, 0), (48, 0), (49, 0)] : List (Nat × Nat)) s.heap H → va_S A s.heap H locs → el H o0 (dI 7 0) = some (.ref th) → el H o0 (dI 7 11) = some (.int ln) → el H th ix_tv.toNatClampNeg = some (.int tv) → el H th a0.toNatClampNeg = some (.int x2) → el H o0 (dI 7 2) = some (.ref b23) → el H b23 ln.toNatClampNeg = some (.int r4) → el H o0 (dI 7 7) = some (.ref b33) → el H b33 ln.toNatClampNeg = some (.int x36) → el H o0 (dI 7 3) = some (.ref b404) → el H o0 (dI 7 13) = some (.int z476) → ∀ ls : Array Slot, lv_has ls 3 [(1, .int r4), (0, .ref o0)] → W p l e (headSpec w_c_readLine ({ frames := 25, cells := 0, slots := 0, locals := 569 })).room s m #[.ref o0] below meth c H locs 0 0 (MQ below (va_Qi (fun (r : Int32) (u : Int32) => (0 ≤ u.toInt ∧ u.toInt ≤ 400) ∧ (0 ≤ r.toInt ∧ r.toInt ≤ 1) ∧ (a0.toInt ≤ u.toInt ∧ u.toInt ≤ tn.toInt)) (fun (a1 : Int32) (t : State) => gH (dC, dI) kA (SHc nC nS) G t.heap ∧ gF (dC, dI) SKc G ([(7, 12), (7, 13), (42, 0), (43, 0), (44, 0), (45, 0), (46, 0), (47, 0), (48, 0), (49, 0)] : List (Nat × Nat)) s.heap t.heap ∧ el t.heap o0 (dI 7 13) = some (.int a1)) A) #[.ref o0] s 0 0 A) (F0 m 219 ls [.int z465]) := by
        intro z465 z476 ⟨h466, h477, hj479⟩ H locs hT hF hS m467 m468 m469 m470 m471 m472 m473 m474 m475 m478 ls hl
        refine lv_istore_n (lv' := [(2, .int z465), (1, .int r4), (0, .ref o0)]) hx hb dX4_readLine_219 rfl hl (by decide) rfl (fun ls hl => ?_)
        refine lv_aload_n hx hb dX4_readLine_220 rfl (lv_at hl 2 rfl) ?_
        refine tw_get hx hb hts bF2_X4 hown hK hT hr_o0 shc_7 rfl 8 (by decide) (ht_at2 hts 43 rfl) (fun _ h9 => h9) dX4_readLine_221 (fun v9 m481 h9 => ?_)
        obtain ⟨b482, rfl, hg483⟩ := h9 _ rfl
        refine lv_aload_n hx hb dX4_readLine_224 rfl (lv_at hl 2 rfl) ?_
        refine tw_getM (v := .int ln) hx hb hts bF2_X4 hown hK hT hr_o0 shc_7 rfl 11 (by decide) (ht_at2 hts 7 rfl) (fun _ h9 => h9) m468 dX4_readLine_225 ?_
        refine lv_aload_n hx hb dX4_readLine_228 rfl (lv_at hl 2 rfl) ?_
        refine tw_get hx hb hts bF2_X4 hown hK hT hr_o0 shc_7 rfl 12 (by decide) (ht_at2 hts 9 rfl) (fun _ h9 => h9) dX4_readLine_229 (fun v9 m484 h9 => ?_)
        obtain ⟨x485, rfl, gx485, kx485⟩ := h9 _ rfl
        refine tw_iast (i := ln) (x := x485) hx hb hK hT hG hS hg483 shc_48 rfl (vin_t (a := ln.toInt) rfl (by omega) (by omega)) (gi_of (show x485.toInt = x485.toInt from rfl) (by omega) (by omega)) dX4_readLine_232 (fun H locs hT oq m486 oi hS => ?_)
        have hF := hF.ast hg483 skc_48 oq (by decide)
        have m496 := (el_kept (oq _ (gne hr_o0 hg483 (by decide)))).trans m478
        refine lv_iload_n hx hb dX4_readLine_233 rfl (lv_at hl 0 rfl) ?_
        exact W.zret (v := z465) hx hb hr (nar_b (by have q8 := ti_all z465; omega)) (fun t ht hW => ⟨⟨z465, z476, rfl, (by exact ⟨(by have q8 := ti_all z476; omega), (by have q8 := ti_all z465; omega), (by omega)⟩), by (try dsimp only); rw [ht]; exact ⟨hT, hF, m496⟩⟩, hS.F ht⟩) hS.2.2 dX4_readLine_234
      refine lv_if_eq (tgt := 214) hx hb dX4_readLine_203 (by decide) (fun c499 => ?_) (fun c499 => ?_)
      · have t500 : r426.toInt = 0 := ti_eq c499 rfl (by decide)
        refine lv_iconst (v := 1) hx hb dX4_readLine_214 (by decide) ?_
        refine lv_goto (tgt := 219) hx hb dX4_readLine_215 (by decide) ?_
        exact jn480 1 u428 ⟨(rg_t (a := 1) (by decide) (by first | decide | omega) (by first | decide | omega)), (by have q8 := ti_all u428; omega), (by have := hx_tv; have := (show u428.toInt = u428.toInt from rfl); omega)⟩ _ _ hT hF hS m430 m431 m432 m433 m434 m435 m436 m438 m439 m429 ls (lv_sub hl [0, 1] rfl)
      · have t501 : r426.toInt ≠ 0 := ti_ne c499 rfl (by decide)
        refine lv_aload_n hx hb dX4_readLine_206 rfl (lv_at hl 1 rfl) ?_
        refine lv_iconst (v := 0) hx hb dX4_readLine_207 (by decide) ?_
        have hFc := gA_free hG hA hS
        refine va_calli (va_runV (As := [.int 0]) (rest := []) ⟨hx, hb, hml, hown, hts⟩ (c_readAny0 l dC dI kA adK adV G H nC nS o0 th u428 tv ix_tv ix_tv hT hr_o0 m430 hr_th m429 (by have q8 := ti_all ix_tv; omega) (by have q8 := ti_all u428; omega) (by have := (show u428.toInt = u428.toInt from rfl); have := (show ix_tv.toInt = ix_tv.toInt from rfl); omega) (by have q9 := (show ix_tv.toInt = ix_tv.toInt from rfl); have := (show ix_tv.toInt = ix_tv.toInt from rfl); omega) m432 (by have q8 := ti_all tv; omega) (by omega) (by omega)) (cwV 1 hts (goodIn_app (goodIn_r _ [41, 42, 43, 6] rfl (by decide +kernel)) (goodIn_ca (goodIn_r _ [15, 16, 17, 1, 2, 15, 18, 19, 20, 21, 10, 22, 23, 24, 25, 6, 26, 27, 28, 11, 12, 13, 14, 29, 30, 31, 32, 33, 34, 35, 36, 37, 38, 39, 40, 41, 42, 43] rfl (by decide +kernel)) (bs2_in _ _))) rfl rfl rfl (by decide +kernel) ⟨(Nat.le_of_ble_eq_true rfl), (Nat.le_of_ble_eq_true rfl)⟩) ⟨fun a U g mk q => by obtain ⟨q0, q1, qK, qE⟩ := q; exact ⟨q0, q1, va_K.moved (u := U) (U := U.calling g mk a) (Vm.Alike.refl U.vm) qK, EVC.blind g mk a qE⟩, gH_rc hK hT hr_o0 shc_7 rfl, fun U hU hW => ⟨rfl, hU, va_K.moved hW.alike hK, hE.call hS hFc hU hW⟩⟩ rfl rfl hl.1 rfl (lv_room (Nat.le_of_ble_eq_true rfl)) dX4_readLine_208 ⟨(Nat.le_of_ble_eq_true rfl), (Nat.le_of_ble_eq_true rfl)⟩) hS (fun q _ h => hFc q h) hFc (fun r502 u t H locs ht hvm hw503 hB _ _ hS => ?_)
        obtain ⟨u504, rfl⟩ : ∃ z, z = u := ⟨_, rfl⟩
        obtain ⟨hT, hF1, m505⟩ := hB
        rw [ht] at hT hF1 m505
        have m506 := (hF1.fld hr_o0 skc_7 (k := 0) (by decide) (by decide)).trans m430
        have m507 := (hF1.fld hr_o0 skc_7 (k := 11) (by decide) (by decide)).trans m431
        have m508 := (el_kept (hF1.arr hr_th skc_40 (by decide))).trans m432
        have m509 := (el_kept (hF1.arr hr_th skc_40 (by decide))).trans m433
        have m510 := (hF1.fld hr_o0 skc_7 (k := 2) (by decide) (by decide)).trans m434
        have m511 := (el_kept (hF1.arr hg24 skc_42 (by decide))).trans m435
        have m512 := (hF1.fld hr_o0 skc_7 (k := 7) (by decide) (by decide)).trans m436
        have m514 := (el_kept (hF1.arr hg34 skc_47 (by decide))).trans m438
        have m515 := (hF1.fld hr_o0 skc_7 (k := 3) (by decide) (by decide)).trans m439
        have hF := hF.more hF1 (by decide)
        try dsimp only at hw503
        obtain ⟨h517, h518, hf519⟩ := hw503
        refine lv_if_eq (tgt := 218) hx hb dX4_readLine_211 (by decide) (fun c520 => ?_) (fun c520 => ?_)
        · have t521 : r502.toInt = 0 := ti_eq c520 rfl (by decide)
          refine lv_iconst (v := 0) hx hb dX4_readLine_218 (by decide) ?_
          exact jn480 0 u504 ⟨(rg_t (a := 0) (by decide) (by first | decide | omega) (by first | decide | omega)), (by have q8 := ti_all u504; omega), (by have := hx_tv; have := (show u504.toInt = u504.toInt from rfl); omega)⟩ _ _ hT hF hS m506 m507 m508 m509 m510 m511 m512 m514 m515 m505 ls (lv_sub hl [0, 1] rfl)
        · have t522 : r502.toInt ≠ 0 := ti_ne c520 rfl (by decide)
          refine lv_iconst (v := 1) hx hb dX4_readLine_214 (by decide) ?_
          refine lv_goto (tgt := 219) hx hb dX4_readLine_215 (by decide) ?_
          exact jn480 1 u504 ⟨(rg_t (a := 1) (by decide) (by first | decide | omega) (by first | decide | omega)), (by have q8 := ti_all u504; omega), (by have := hx_tv; have := (show u504.toInt = u504.toInt from rfl); omega)⟩ _ _ hT hF hS m506 m507 m508 m509 m510 m511 m512 m514 m515 m505 ls (lv_sub hl [0, 1] rfl)
    · have t523 : r406.toInt = 0 := ti_eq c424 rfl (by decide)
      refine lv_iconst (v := 0) hx hb dX4_readLine_195 (by decide) ?_
      exact W.zret (v := 0) hx hb hr (by decide) (fun t ht hW => ⟨⟨0, u408, rfl, (by exact ⟨(by have q8 := ti_all u408; omega), (rg_t (a := 0) (by decide) (by first | decide | omega) (by first | decide | omega)), (by omega)⟩), by (try dsimp only); rw [ht]; exact ⟨hT, hF, m409⟩⟩, hS.F ht⟩) hS.2.2 dX4_readLine_196
  · have t524 : r4.toInt = (-1) := ti_eq c13 rfl (by decide)
    refine lv_iconst (v := 0) hx hb dX4_readLine_18 (by decide) ?_
    exact W.zret (v := 0) hx hb hr (by decide) (fun t ht hW => ⟨⟨0, a0, rfl, (by exact ⟨(by have q8 := ti_all a0; omega), (rg_t (a := 0) (by decide) (by first | decide | omega) (by first | decide | omega)), (by omega)⟩), by (try dsimp only); rw [ht]; exact ⟨hT, hF, m7⟩⟩, hS.F ht⟩) hS.2.2 dX4_readLine_19
