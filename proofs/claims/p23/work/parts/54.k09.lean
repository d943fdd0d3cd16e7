def w_c_readAtom6 : List Cond := .code yX4_readAtom cX4_readAtom 4 (some .boolean) :: (HAppend.hAppend (α := List Cond) (β := List Cond) (γ := List Cond) [.fieldLink RX4 11 "SeaLand$Law" "things" "[I", .fieldLink RX4 56 "SeaLand$Law" "at" "I", .code yX4_readComparison cX4_readComparison 3 (some .boolean), .code yX4_readSum cX4_readSum 3 (some .boolean), .code yX4_readPart cX4_readPart 2 (some .boolean), .code yX4_addStep cX4_addStep 2 none, .fieldLink RX4 63 "SeaLand$Law" "stepped" "I", .fieldLink RX4 39 "SeaLand$Law" "steps" "[I", .methodLink RX4 179 yX4_addStep, .instanceMethod yX4_addStep, .selects RX4 yX4_addStep yX4_addStep, .initialized RX4, .methodLink RX4 192 yX4_readPart, .instanceMethod yX4_readPart, .selects RX4 yX4_readPart yX4_readPart, .code yX4_take cX4_take 2 (some .boolean), .methodLink RX4 70 yX4_take, .instanceMethod yX4_take, .selects RX4 yX4_take yX4_take, .methodLink RX4 189 yX4_readSum, .instanceMethod yX4_readSum, .selects RX4 yX4_readSum yX4_readSum, .methodLink RX4 186 yX4_readComparison, .instanceMethod yX4_readComparison, .selects RX4 yX4_readComparison yX4_readComparison] bs2)
set_option maxHeartbeats 4000000 in
set_option maxRecDepth 100000 in
theorem c_readAtom6 (l : Launch) (dC : Nat → ClassId) (dI : Nat → Nat → Nat) (kA : Nat → ClassId) (adK adV : Nat → Nat) (G : gT) (H0 : Heap) (nC nS : Int) (o0 : Nat) (th : Nat) (a0 : Int32) (vT : Nat → Int32) (tv ix_tv : Int32) (tn : Int32) (K : Nat → Int) (X pS : Nat → Nat) (hT : gH (dC, dI) kA (SHc nC nS) G H0) (hr_o0 : G o0 = some 7) (hm_th : el H0 o0 (dI 7 0) = some (.ref th)) (hr_th : G th = some 40) (hm_a0 : el H0 o0 (dI 7 13) = some (.int a0)) (hq0 : 0 ≤ tn.toInt ∧ tn.toInt ≤ 400) (hq1 : 0 ≤ a0.toInt ∧ a0.toInt ≤ 400) (hat : a0.toInt ≤ tn.toInt) (hKK : ∀ m : Nat, m ≤ tn.toNatClampNeg → (vT m).toInt = K (pS m)) (hXX : ∀ m : Nat, m < tn.toNatClampNeg → pS (m + 1) = X (pS m)) (hc_vT : ct H0 th 401 vT) (hx_tv : ix_tv.toInt = tn.toInt) (hm_tv : el H0 th ix_tv.toNatClampNeg = some (.int tv)) (hv_tv : 21 ≤ tv.toInt ∧ tv.toInt ≤ 21) (hgC : 0 ≤ nC ∧ nC ≤ 40) (hgS : 0 ≤ nS ∧ nS ≤ 60) : Met l yX4_readAtom w_c_readAtom6 ({ frames := 4, cells := 0, slots := 0, locals := 86 }) (va_Pc [.ref o0, .int 6] (fun U => U.heap = H0 ∧ va_K (dC, dI) vwCl (tyl kA) U ∧ EVC adK adV (gA G H0.size) U U.heap)) (va_Qi (fun (r : Int32) (u : Int32) => (0 ≤ u.toInt ∧ u.toInt ≤ 400) ∧ (0 ≤ r.toInt ∧ r.toInt ≤ 1) ∧ (a0.toInt ≤ u.toInt ∧ u.toInt ≤ tn.toInt) ∧ (aR K X 0 (pS a0.toNatClampNeg) r.toInt (pS u.toNatClampNeg))) (fun (a1 : Int32) (t : State) => gH (dC, dI) kA (SHc nC nS) G t.heap ∧ gF (dC, dI) SKc G ([(7, 12), (7, 13), (49, 0)] : List (Nat × Nat)) H0 t.heap ∧ el t.heap o0 (dI 7 13) = some (.int a1)) (gA G H0.size)) 0 0 (gA G H0.size) := by
  refine Met.ofW (cc := cX4_readAtom) (maxL := 4) (ret := (some .boolean)) (by decide) rfl ?_
  intro p e s m args below meth c s₁ B hml hv
  obtain ⟨rfl, hH0, hK, hE⟩ := hv
  have hx := B.exec
  have hb := B.bytes
  have hr := B.returns
  have hts := atoms_spec (ws := w_c_readAtom6) B.pre
  have hown : s.vm.findClass RX4 = some m.cls := findClass_of_methodNamed B.named
  have hlocks := B.notSynchronized
  subst hH0
  generalize hAe : gA G s.heap.size = A at hE ⊢
  have hA : ∀ q : Nat, s.heap.size ≤ q → A q := fun q h => by rw [← hAe]; exact Or.inr h
  have hG := gA_of hAe
  have hS : va_S A s.heap s.heap [] := va_S.rf
  have hF : gF (dC, dI) SKc G ([(7, 12), (7, 13), (49, 0)] : List (Nat × Nat)) s.heap s.heap := gF.rf
  have hl := lv_entry ([.ref o0, .int 6]) (n := 4) (Nat.le_of_ble_eq_true rfl)
  rw [lg_entry_eq]
  generalize (lg_sl ([.ref o0, .int 6]) ++ List.replicate (4 - (lg_sl ([.ref o0, .int 6])).length) Slot.unset).toArray = ls at hl ⊢
  have hl : lv_has ls 4 [(0, .ref o0), (1, .int 6)] := hl
  refine lv_aload_n hx hb dX4_readAtom_0 rfl (lv_at hl 0 rfl) ?_
  refine tw_getM (v := .ref th) hx hb hts bF2_X4 hown hK hT hr_o0 shc_7 rfl 0 (by decide) (ht_at2 hts 0 rfl) (fun _ h9 => h9) hm_th dX4_readAtom_1 ?_
  refine lv_aload_n hx hb dX4_readAtom_4 rfl (lv_at hl 0 rfl) ?_
  refine tw_getM (v := .int a0) hx hb hts bF2_X4 hown hK hT hr_o0 shc_7 rfl 13 (by decide) (ht_at2 hts 1 rfl) (fun _ h9 => h9) hm_a0 dX4_readAtom_5 ?_
  refine tw_iald (i := a0) hx hb hK hT hr_th shc_40 rfl (vin_t (a := a0.toInt) rfl (by omega) (by omega)) dX4_readAtom_8 (fun v9 m1 h9 => ?_)
  obtain ⟨x2, rfl, gx2, kx2⟩ := h9
  have cx2 := hc_vT.at m1 (by have q9 := tn_of (show a0.toInt = a0.toInt from rfl) (by omega); omega)
  have t3 : a0.toInt = ix_tv.toInt → x2.toInt = tv.toInt := fun h8 => congrArg Int32.toInt (el_same m1 hm_tv h8)
  have t4 : x2.toInt = K (pS a0.toNatClampNeg) := (congrArg Int32.toInt cx2).trans (hKK _ (by have := tn_of (show a0.toInt = a0.toInt from rfl) (by omega); have := tn_of (show tn.toInt = tn.toInt from rfl) (by omega); omega))
  refine lv_bipush (v := 13) hx hb dX4_readAtom_9 (by decide) ?_
  have t5 : -2147483648 ≤ x2.toInt ∧ x2.toInt ≤ 2147483647 := ti_all x2
  refine lv_icmp_ne (tgt := 18) hx hb dX4_readAtom_11 (by decide) (fun c6 => ?_) (fun c6 => ?_)
  · have t7 : x2.toInt ≠ 13 := ti_ne c6 rfl (by decide)
    refine lv_iconst (v := 0) hx hb dX4_readAtom_18 (by decide) ?_
    refine lv_istore_n (lv' := [(2, .int 0), (0, .ref o0), (1, .int 6)]) hx hb dX4_readAtom_19 rfl hl (by decide) rfl (fun ls hl => ?_)
    refine lv_iload_n hx hb dX4_readAtom_20 rfl (lv_at hl 0 rfl) ?_
    refine lv_if_ne (tgt := 43) hx hb dX4_readAtom_21 (by decide) (fun c8 => absurd c8 (by decide)) (fun c8 => ?_)
    refine lv_aload_n hx hb dX4_readAtom_24 rfl (lv_at hl 1 rfl) ?_
    refine tw_getM (v := .ref th) hx hb hts bF2_X4 hown hK hT hr_o0 shc_7 rfl 0 (by decide) (ht_at2 hts 0 rfl) (fun _ h9 => h9) hm_th dX4_readAtom_25 ?_
    refine lv_aload_n hx hb dX4_readAtom_28 rfl (lv_at hl 1 rfl) ?_
    refine tw_getM (v := .int a0) hx hb hts bF2_X4 hown hK hT hr_o0 shc_7 rfl 13 (by decide) (ht_at2 hts 1 rfl) (fun _ h9 => h9) hm_a0 dX4_readAtom_29 ?_
    refine tw_iald (i := a0) hx hb hK hT hr_th shc_40 rfl (vin_t (a := a0.toInt) rfl (by omega) (by omega)) dX4_readAtom_32 (fun v9 m9 h9 => ?_)
    obtain ⟨x10, rfl, gx10, kx10⟩ := h9
    have cx10 := hc_vT.at m9 (by have q9 := tn_of (show a0.toInt = a0.toInt from rfl) (by omega); omega)
    have t11 : a0.toInt = ix_tv.toInt → x10.toInt = tv.toInt := fun h8 => congrArg Int32.toInt (el_same m9 hm_tv h8)
    obtain rfl : x2 = x10 := (el_same m9 m1 rfl).symm
    refine lv_bipush (v := 16) hx hb dX4_readAtom_33 (by decide) ?_
    refine lv_icmp_eq (tgt := 43) hx hb dX4_readAtom_35 (by decide) (fun c12 => ?_) (fun c12 => ?_)
    · have t13 : x2.toInt = 16 := ti_eq c12 rfl (by decide)
      refine lv_iload_n hx hb dX4_readAtom_43 rfl (lv_at hl 2 rfl) ?_
      refine lv_bipush (v := 6) hx hb dX4_readAtom_44 (by decide) ?_
      refine lv_icmp_lt (tgt := 51) hx hb dX4_readAtom_46 (by decide) (fun c14 => absurd c14 (by decide)) (fun c14 => ?_)
      refine lv_iconst (v := 0) hx hb dX4_readAtom_49 (by decide) ?_
      exact W.zret (v := 0) hx hb hr (by decide) (fun t ht hW => ⟨⟨0, a0, rfl, (by exact ⟨(by have q8 := ti_all a0; omega), (rg_t (a := 0) (by decide) (by first | decide | omega) (by first | decide | omega)), (by omega), (Or.inl ⟨by omega, by decide, rfl⟩)⟩), by (try dsimp only); rw [ht]; exact ⟨hT, hF, hm_a0⟩⟩, hS.F ht⟩) hS.2.2 dX4_readAtom_50
    · have t15 : x2.toInt ≠ 16 := ti_ne c12 rfl (by decide)
      refine lv_aload_n hx hb dX4_readAtom_38 rfl (lv_at hl 1 rfl) ?_
      have hFc := gA_free hG hA hS
      refine va_calli (va_runV (As := []) (rest := []) ⟨hx, hb, hml, hown, hts⟩ (c_readComparison l dC dI kA adK adV G s.heap nC nS o0 th a0 vT tv ix_tv ix_tv K X pS hT hr_o0 hm_th hr_th hm_a0 (by have q8 := ti_all ix_tv; omega) (by have q8 := ti_all a0; omega) (by have := (show a0.toInt = a0.toInt from rfl); have := (show ix_tv.toInt = ix_tv.toInt from rfl); omega) (fun m hm => hKK m (Nat.le_trans hm (Nat.le_of_eq (tn_same hx_tv rfl rfl)))) (fun m hm => hXX m (Nat.lt_of_lt_of_eq hm (tn_same hx_tv rfl rfl))) hc_vT (by have q9 := (show ix_tv.toInt = ix_tv.toInt from rfl); have := (show ix_tv.toInt = ix_tv.toInt from rfl); omega) hm_tv (by have q8 := ti_all tv; omega) (by omega) (by omega)) (cwV 0 hts (goodIn_app (goodIn_r _ [23, 24, 25, 12] rfl (by decide +kernel)) (goodIn_ca (goodIn_r _ [3, 4, 5, 1, 2, 6, 7, 8, 9, 10, 11, 12, 13, 14, 15, 16, 17, 18, 19, 20, 21, 22] rfl (by decide +kernel)) (bs2_in _ _))) rfl rfl rfl (by decide +kernel) ⟨(Nat.le_of_ble_eq_true rfl), (Nat.le_of_ble_eq_true rfl)⟩) ⟨fun a U g mk q => by obtain ⟨q0, q1, qK, qE⟩ := q; exact ⟨q0, q1, va_K.moved (u := U) (U := U.calling g mk a) (Vm.Alike.refl U.vm) qK, EVC.blind g mk a qE⟩, gH_rc hK hT hr_o0 shc_7 rfl, fun U hU hW => ⟨rfl, hU, va_K.moved hW.alike hK, hE.call hS hFc hU hW⟩⟩ rfl rfl hl.1 rfl (lv_room (Nat.le_of_ble_eq_true rfl)) dX4_readAtom_39 ⟨(Nat.le_of_ble_eq_true rfl), (Nat.le_of_ble_eq_true rfl)⟩) hS (fun q _ h => hFc q h) hFc (fun r16 u t H locs ht hvm hw17 hB _ _ hS => ?_)
      obtain ⟨u18, rfl⟩ : ∃ z, z = u := ⟨_, rfl⟩
      obtain ⟨hT, hF1, m19⟩ := hB
      rw [ht] at hT hF1 m19
      have hF := hF.more hF1 (by decide)
      try dsimp only at hw17
      obtain ⟨h25, h26, hf27, hf28⟩ := hw17
      exact W.zret (v := r16) hx hb hr (nar_b (by have q8 := ti_all r16; omega)) (fun t ht hW => ⟨⟨r16, u18, rfl, (by exact ⟨(by have q8 := ti_all u18; omega), (by have q8 := ti_all r16; omega), (by omega), (Or.inr ⟨by omega, hf28⟩)⟩), by (try dsimp only); rw [ht]; exact ⟨hT, hF, m19⟩⟩, hS.F ht⟩) hS.2.2 dX4_readAtom_42
  · have t29 : x2.toInt = 13 := ti_eq c6 rfl (by decide)
    refine lv_iconst (v := 1) hx hb dX4_readAtom_14 (by decide) ?_
    refine lv_goto (tgt := 19) hx hb dX4_readAtom_15 (by decide) ?_
    refine lv_istore_n (lv' := [(2, .int 1), (0, .ref o0), (1, .int 6)]) hx hb dX4_readAtom_19 rfl hl (by decide) rfl (fun ls hl => ?_)
    refine lv_iload_n hx hb dX4_readAtom_20 rfl (lv_at hl 0 rfl) ?_
    refine lv_if_ne (tgt := 43) hx hb dX4_readAtom_21 (by decide) (fun c30 => ?_) (fun c30 => absurd c30 (by decide))
    refine lv_iload_n hx hb dX4_readAtom_43 rfl (lv_at hl 2 rfl) ?_
    refine lv_bipush (v := 6) hx hb dX4_readAtom_44 (by decide) ?_
    refine lv_icmp_lt (tgt := 51) hx hb dX4_readAtom_46 (by decide) (fun c31 => absurd c31 (by decide)) (fun c31 => ?_)
    refine lv_iconst (v := 0) hx hb dX4_readAtom_49 (by decide) ?_
    exact W.zret (v := 0) hx hb hr (by decide) (fun t ht hW => ⟨⟨0, a0, rfl, (by exact ⟨(by have q8 := ti_all a0; omega), (rg_t (a := 0) (by decide) (by first | decide | omega) (by first | decide | omega)), (by omega), (Or.inl ⟨by omega, by decide, rfl⟩)⟩), by (try dsimp only); rw [ht]; exact ⟨hT, hF, hm_a0⟩⟩, hS.F ht⟩) hS.2.2 dX4_readAtom_50
def w_c_readAll6 : List Cond := .code yX4_readAll cX4_readAll 4 (some .boolean) :: (HAppend.hAppend (α := List Cond) (β := List Cond) (γ := List Cond) [.code yX4_readAtom cX4_readAtom 4 (some .boolean), .fieldLink RX4 11 "SeaLand$Law" "things" "[I", .fieldLink RX4 56 "SeaLand$Law" "at" "I", .code yX4_readComparison cX4_readComparison 3 (some .boolean), .code yX4_readSum cX4_readSum 3 (some .boolean), .code yX4_readPart cX4_readPart 2 (some .boolean), .code yX4_addStep cX4_addStep 2 none, .fieldLink RX4 63 "SeaLand$Law" "stepped" "I", .fieldLink RX4 39 "SeaLand$Law" "steps" "[I", .methodLink RX4 179 yX4_addStep, .instanceMethod yX4_addStep, .selects RX4 yX4_addStep yX4_addStep, .initialized RX4, .methodLink RX4 192 yX4_readPart, .instanceMethod yX4_readPart, .selects RX4 yX4_readPart yX4_readPart, .code yX4_take cX4_take 2 (some .boolean), .methodLink RX4 70 yX4_take, .instanceMethod yX4_take, .selects RX4 yX4_take yX4_take, .methodLink RX4 189 yX4_readSum, .instanceMethod yX4_readSum, .selects RX4 yX4_readSum yX4_readSum, .methodLink RX4 186 yX4_readComparison, .instanceMethod yX4_readComparison, .selects RX4 yX4_readComparison yX4_readComparison, .methodLink RX4 183 yX4_readAtom, .instanceMethod yX4_readAtom, .selects RX4 yX4_readAtom yX4_readAtom] bs2)
set_option maxHeartbeats 4000000 in
set_option maxRecDepth 100000 in
theorem c_readAll6 (l : Launch) (dC : Nat → ClassId) (dI : Nat → Nat → Nat) (kA : Nat → ClassId) (adK adV : Nat → Nat) (G : gT) (H0 : Heap) (nC nS : Int) (o0 : Nat) (th : Nat) (a0 : Int32) (vT : Nat → Int32) (tv ix_tv : Int32) (tn : Int32) (K : Nat → Int) (X pS : Nat → Nat) (hT : gH (dC, dI) kA (SHc nC nS) G H0) (hr_o0 : G o0 = some 7) (hm_th : el H0 o0 (dI 7 0) = some (.ref th)) (hr_th : G th = some 40) (hm_a0 : el H0 o0 (dI 7 13) = some (.int a0)) (hq0 : 0 ≤ tn.toInt ∧ tn.toInt ≤ 400) (hq1 : 0 ≤ a0.toInt ∧ a0.toInt ≤ 400) (hat : a0.toInt ≤ tn.toInt) (hKK : ∀ m : Nat, m ≤ tn.toNatClampNeg → (vT m).toInt = K (pS m)) (hXX : ∀ m : Nat, m < tn.toNatClampNeg → pS (m + 1) = X (pS m)) (hc_vT : ct H0 th 401 vT) (hx_tv : ix_tv.toInt = tn.toInt) (hm_tv : el H0 th ix_tv.toNatClampNeg = some (.int tv)) (hv_tv : 21 ≤ tv.toInt ∧ tv.toInt ≤ 21) (hgC : 0 ≤ nC ∧ nC ≤ 40) (hgS : 0 ≤ nS ∧ nS ≤ 60) : Met l yX4_readAll w_c_readAll6 ({ frames := 5, cells := 0, slots := 0, locals := 109 }) (va_Pc [.ref o0, .int 6] (fun U => U.heap = H0 ∧ va_K (dC, dI) vwCl (tyl kA) U ∧ EVC adK adV (gA G H0.size) U U.heap)) (va_Qi (fun (r : Int32) (u : Int32) => (0 ≤ u.toInt ∧ u.toInt ≤ 400) ∧ (0 ≤ r.toInt ∧ r.toInt ≤ 1) ∧ (a0.toInt ≤ u.toInt ∧ u.toInt ≤ tn.toInt) ∧ (lpR K X (aR K X 0) 14 (pS a0.toNatClampNeg) r.toInt (pS u.toNatClampNeg))) (fun (a1 : Int32) (t : State) => gH (dC, dI) kA (SHc nC nS) G t.heap ∧ gF (dC, dI) SKc G ([(7, 12), (7, 13), (49, 0)] : List (Nat × Nat)) H0 t.heap ∧ el t.heap o0 (dI 7 13) = some (.int a1)) (gA G H0.size)) 0 0 (gA G H0.size) := by
  refine Met.ofW (cc := cX4_readAll) (maxL := 4) (ret := (some .boolean)) (by decide) rfl ?_
  intro p e s m args below meth c s₁ B hml hv
  obtain ⟨rfl, hH0, hK, hE⟩ := hv
  have hx := B.exec
  have hb := B.bytes
  have hr := B.returns
  have hts := atoms_spec (ws := w_c_readAll6) B.pre
  have hown : s.vm.findClass RX4 = some m.cls := findClass_of_methodNamed B.named
  have hlocks := B.notSynchronized
  subst hH0
  generalize hAe : gA G s.heap.size = A at hE ⊢
  have hA : ∀ q : Nat, s.heap.size ≤ q → A q := fun q h => by rw [← hAe]; exact Or.inr h
  have hG := gA_of hAe
  have hS : va_S A s.heap s.heap [] := va_S.rf
  have hF : gF (dC, dI) SKc G ([(7, 12), (7, 13), (49, 0)] : List (Nat × Nat)) s.heap s.heap := gF.rf
  have hl := lv_entry ([.ref o0, .int 6]) (n := 4) (Nat.le_of_ble_eq_true rfl)
  rw [lg_entry_eq]
  generalize (lg_sl ([.ref o0, .int 6]) ++ List.replicate (4 - (lg_sl ([.ref o0, .int 6])).length) Slot.unset).toArray = ls at hl ⊢
  have hl : lv_has ls 4 [(0, .ref o0), (1, .int 6)] := hl
  refine lv_aload_n hx hb dX4_readAll_0 rfl (lv_at hl 0 rfl) ?_
  refine lv_iload_n hx hb dX4_readAll_1 rfl (lv_at hl 1 rfl) ?_
  have hFc := gA_free hG hA hS
  refine va_calli (va_runV (As := [.int 6]) (rest := []) ⟨hx, hb, hml, hown, hts⟩ (c_readAtom6 l dC dI kA adK adV G s.heap nC nS o0 th a0 vT tv ix_tv ix_tv K X pS hT hr_o0 hm_th hr_th hm_a0 (by have q8 := ti_all ix_tv; omega) (by have q8 := ti_all a0; omega) (by have := (show a0.toInt = a0.toInt from rfl); have := (show ix_tv.toInt = ix_tv.toInt from rfl); omega) (fun m hm => hKK m (Nat.le_trans hm (Nat.le_of_eq (tn_same hx_tv rfl rfl)))) (fun m hm => hXX m (Nat.lt_of_lt_of_eq hm (tn_same hx_tv rfl rfl))) hc_vT (by have q9 := (show ix_tv.toInt = ix_tv.toInt from rfl); have := (show ix_tv.toInt = ix_tv.toInt from rfl); omega) hm_tv (by have q8 := ti_all tv; omega) (by omega) (by omega)) (cwV 1 hts (goodIn_app (goodIn_r _ [27, 28, 29, 13] rfl (by decide +kernel)) (goodIn_ca (goodIn_r _ [1, 2, 3, 4, 5, 6, 7, 8, 9, 10, 11, 12, 13, 14, 15, 16, 17, 18, 19, 20, 21, 22, 23, 24, 25, 26] rfl (by decide +kernel)) (bs2_in _ _))) rfl rfl rfl (by decide +kernel) ⟨(Nat.le_of_ble_eq_true rfl), (Nat.le_of_ble_eq_true rfl)⟩) ⟨fun a U g mk q => by obtain ⟨q0, q1, qK, qE⟩ := q; exact ⟨q0, q1, va_K.moved (u := U) (U := U.calling g mk a) (Vm.Alike.refl U.vm) qK, EVC.blind g mk a qE⟩, gH_rc hK hT hr_o0 shc_7 rfl, fun U hU hW => ⟨rfl, hU, va_K.moved hW.alike hK, hE.call hS hFc hU hW⟩⟩ rfl rfl hl.1 rfl (lv_room (Nat.le_of_ble_eq_true rfl)) dX4_readAll_2 ⟨(Nat.le_of_ble_eq_true rfl), (Nat.le_of_ble_eq_true rfl)⟩) hS (fun q _ h => hFc q h) hFc (fun r1 u t H locs ht hvm hw2 hB _ _ hS => ?_)
  obtain ⟨u3, rfl⟩ : ∃ z, z = u := ⟨_, rfl⟩
  obtain ⟨hT, hF1, m4⟩ := hB
  rw [ht] at hT hF1 m4
  have m5 := (hF1.fld hr_o0 skc_7 (k := 0) (by decide) (by decide)).trans hm_th
  have m7 := hc_vT.kept (hF1.arr hr_th skc_40 (by decide))
  have m8 := (el_kept (hF1.arr hr_th skc_40 (by decide))).trans hm_tv
  have hF := hF.more hF1 (by decide)
  try dsimp only at hw2
  obtain ⟨h9, h10, hf11, hf12⟩ := hw2
  refine lv_istore_n (lv' := [(2, .int r1), (0, .ref o0), (1, .int 6)]) hx hb dX4_readAll_5 rfl hl (by decide) rfl (fun ls hl => ?_)
  refine lv_iconst (v := 0) hx hb dX4_readAll_6 (by decide) ?_
  refine lv_istore_n (lv' := [(3, .int 0), (2, .int r1), (0, .ref o0), (1, .int 6)]) hx hb dX4_readAll_7 rfl hl (by decide) rfl (fun ls hl => ?_)
  have key63 : ∀ (n63 i13 : Nat), i13 + n63 = 400 → 0 ≤ i13 → ∀ (z14 : Int32), ∀ (z19 : Int32), ((0 ≤ z14.toInt ∧ z14.toInt ≤ 1) ∧ (0 ≤ z19.toInt ∧ z19.toInt ≤ 400) ∧ (a0.toInt ≤ z19.toInt ∧ z19.toInt ≤ tn.toInt) ∧ (((z14.toInt = 1 ∧ ∀ (r : Int) (f : Nat), lpQ K X (aR K X 0) 14 (pS z19.toNatClampNeg) r f → lpR K X (aR K X 0) 14 (pS a0.toNatClampNeg) r f) ∨ (z14.toInt = 0 ∧ lpR K X (aR K X 0) 14 (pS a0.toNatClampNeg) 0 (pS z19.toNatClampNeg))) ∧ ((i13 : Nat) : Int) ≤ z19.toInt)) → ∀ (H : Heap) (locs : List Loc), gH (dC, dI) kA (SHc nC nS) G H → gF (dC, dI) SKc G ([(7, 12), (7, 13), (49, 0)] : List (Nat × Nat)) s.heap H → va_S A s.heap H locs → ct H th 401 vT → el H o0 (dI 7 0) = some (.ref th) → el H th ix_tv.toNatClampNeg = some (.int tv) → el H o0 (dI 7 13) = some (.int z19) → ∀ ls : Array Slot, lv_has ls 4 [(3, .int (nI i13)), (2, .int z14), (0, .ref o0), (1, .int 6)] → W p l e (headSpec w_c_readAll6 ({ frames := 5, cells := 0, slots := 0, locals := 109 })).room s m #[.ref o0, .int 6] below meth c H locs 0 0 (MQ below (va_Qi (fun (r : Int32) (u : Int32) => (0 ≤ u.toInt ∧ u.toInt ≤ 400) ∧ (0 ≤ r.toInt ∧ r.toInt ≤ 1) ∧ (a0.toInt ≤ u.toInt ∧ u.toInt ≤ tn.toInt) ∧ (lpR K X (aR K X 0) 14 (pS a0.toNatClampNeg) r.toInt (pS u.toNatClampNeg))) (fun (a1 : Int32) (t : State) => gH (dC, dI) kA (SHc nC nS) G t.heap ∧ gF (dC, dI) SKc G ([(7, 12), (7, 13), (49, 0)] : List (Nat × Nat)) s.heap t.heap ∧ el t.heap o0 (dI 7 13) = some (.int a1)) A) #[.ref o0, .int 6] s 0 0 A) (F0 m 8 ls []) := by
    intro n63
    induction n63 with
    | zero =>
      intro i13 hn63 hlo64 z14 z19 ⟨h15, h20, hj22, hj23⟩ H locs hT hF hS m16 m17 m18 m21 ls hl
      obtain rfl : 400 = i13 := by omega
      refine lv_iload_n hx hb dX4_readAll_8 rfl (lv_at hl 0 rfl) ?_
      refine lv_sipush (v := 400) hx hb dX4_readAll_9 (by decide) ?_
      refine lv_icmp_ge (tgt := 46) hx hb dX4_readAll_12 (by decide) (fun c65 => ?_) (fun c65 => (by exfalso; have q9 : ((400 : Nat) : Int) < 400 := ti_nle c65 (by decide) (nI_toInt (by omega)); omega))
      have t66 : 400 ≤ ((400 : Nat) : Int) := ti_le c65 (by decide) (nI_toInt (by omega))
      refine lv_iload_n hx hb dX4_readAll_46 rfl (lv_at hl 1 rfl) ?_
      exact W.zret (v := z14) hx hb hr (nar_b (by have q8 := ti_all z14; omega)) (fun t ht hW => ⟨⟨z14, z19, rfl, (by exact ⟨(by have q8 := ti_all z19; omega), (by have q8 := ti_all z14; omega), (by omega), (by rcases hj23.1 with ⟨h8, l9⟩ | ⟨h8, l9⟩; (rw [h8]; exact lp_e l9 (fun h7 => by have := tn_of (show z19.toInt = z19.toInt from rfl) (by omega); have := tn_of (show tn.toInt = tn.toInt from rfl) (by omega); have k9 := hKK tn.toNatClampNeg (Nat.le_refl _); have e9 := hc_vT.at hm_tv (by have q9 := tn_of hx_tv (by omega); omega); have k8 : (vT tn.toNatClampNeg).toInt = 21 := (by have q8 := congrArg Int32.toInt e9; rw [show ix_tv.toNatClampNeg = tn.toNatClampNeg from tn_same hx_tv rfl rfl] at q8; omega); rw [show z19.toNatClampNeg = tn.toNatClampNeg from by omega] at h7; omega)); rw [h8]; exact l9)⟩), by (try dsimp only); rw [ht]; exact ⟨hT, hF, m21⟩⟩, hS.F ht⟩) hS.2.2 dX4_readAll_47
    | succ n63 ih63 =>
      intro i13 hn63 hlo64 z14 z19 ⟨h15, h20, hj22, hj23⟩ H locs hT hF hS m16 m17 m18 m21 ls hl
      have hlt66 : i13 < 400 := by omega
      refine lv_iload_n hx hb dX4_readAll_8 rfl (lv_at hl 0 rfl) ?_
      refine lv_sipush (v := 400) hx hb dX4_readAll_9 (by decide) ?_
      refine lv_icmp_ge (tgt := 46) hx hb dX4_readAll_12 (by decide) (fun c67 => (by exfalso; have q9 : 400 ≤ ((i13 : Nat) : Int) := ti_le c67 (by decide) (nI_toInt (by omega)); omega)) (fun c67 => ?_)
      have t68 : ((i13 : Nat) : Int) < 400 := ti_nle c67 (by decide) (nI_toInt (by omega))
      refine lv_iload_n hx hb dX4_readAll_15 rfl (lv_at hl 1 rfl) ?_
      refine lv_if_eq (tgt := 46) hx hb dX4_readAll_16 (by decide) (fun c69 => ?_) (fun c69 => ?_)
      · have t70 : z14.toInt = 0 := ti_eq c69 rfl (by decide)
        refine lv_iload_n hx hb dX4_readAll_46 rfl (lv_at hl 1 rfl) ?_
        exact W.zret (v := z14) hx hb hr (nar_b (by have q8 := ti_all z14; omega)) (fun t ht hW => ⟨⟨z14, z19, rfl, (by exact ⟨(by have q8 := ti_all z19; omega), (by have q8 := ti_all z14; omega), (by omega), (by rcases hj23.1 with ⟨h8, l9⟩ | ⟨h8, l9⟩; (rw [h8]; exact lp_e l9 (fun h7 => by have := tn_of (show z19.toInt = z19.toInt from rfl) (by omega); have := tn_of (show tn.toInt = tn.toInt from rfl) (by omega); have k9 := hKK tn.toNatClampNeg (Nat.le_refl _); have e9 := hc_vT.at hm_tv (by have q9 := tn_of hx_tv (by omega); omega); have k8 : (vT tn.toNatClampNeg).toInt = 21 := (by have q8 := congrArg Int32.toInt e9; rw [show ix_tv.toNatClampNeg = tn.toNatClampNeg from tn_same hx_tv rfl rfl] at q8; omega); rw [show z19.toNatClampNeg = tn.toNatClampNeg from by omega] at h7; omega)); rw [h8]; exact l9)⟩), by (try dsimp only); rw [ht]; exact ⟨hT, hF, m21⟩⟩, hS.F ht⟩) hS.2.2 dX4_readAll_47
      · have t71 : z14.toInt ≠ 0 := ti_ne c69 rfl (by decide)
        refine lv_aload_n hx hb dX4_readAll_19 rfl (lv_at hl 2 rfl) ?_
        refine lv_bipush (v := 14) hx hb dX4_readAll_20 (by decide) ?_
        have hFc := gA_free hG hA hS
        refine va_calli (va_runV (As := [.int 14]) (rest := []) ⟨hx, hb, hml, hown, hts⟩ (c_take l dC dI kA adK adV G H nC nS o0 14 th z19 vT tv ix_tv ix_tv K X pS hT hr_o0 m17 hr_th m21 (by have q8 := ti_all ix_tv; omega) (by have q8 := ti_all z19; omega) (by have := (show z19.toInt = z19.toInt from rfl); have := (show ix_tv.toInt = ix_tv.toInt from rfl); omega) (by have := (show (14 : Int32).toInt = 14 from (by decide)); omega) (fun m hm => hKK m (Nat.le_trans hm (Nat.le_of_eq (tn_same hx_tv rfl rfl)))) (fun m hm => hXX m (Nat.lt_of_lt_of_eq hm (tn_same hx_tv rfl rfl))) m16 (by have q9 := (show ix_tv.toInt = ix_tv.toInt from rfl); have := (show ix_tv.toInt = ix_tv.toInt from rfl); omega) m18 (by have q8 := ti_all tv; omega) (by omega) (by omega)) (cwV 1 hts (goodIn_app (goodIn_r _ [18, 19, 20, 13] rfl (by decide +kernel)) (goodIn_ca (goodIn_r _ [17, 2, 3] rfl (by decide +kernel)) (bs2_in _ _))) rfl rfl rfl (by decide +kernel) ⟨(Nat.le_of_ble_eq_true rfl), (Nat.le_of_ble_eq_true rfl)⟩) ⟨fun a U g mk q => by obtain ⟨q0, q1, qK, qE⟩ := q; exact ⟨q0, q1, va_K.moved (u := U) (U := U.calling g mk a) (Vm.Alike.refl U.vm) qK, EVC.blind g mk a qE⟩, gH_rc hK hT hr_o0 shc_7 rfl, fun U hU hW => ⟨rfl, hU, va_K.moved hW.alike hK, hE.call hS hFc hU hW⟩⟩ rfl rfl hl.1 rfl (lv_room (Nat.le_of_ble_eq_true rfl)) dX4_readAll_22 ⟨(Nat.le_of_ble_eq_true rfl), (Nat.le_of_ble_eq_true rfl)⟩) hS (fun q _ h => hFc q h) hFc (fun r72 u t H locs ht hvm hw73 hB _ _ hS => ?_)
        obtain ⟨u74, rfl⟩ : ∃ z, z = u := ⟨_, rfl⟩
        obtain ⟨hT, hF1, m75⟩ := hB
        rw [ht] at hT hF1 m75
        have m76 := m16.kept (hF1.arr hr_th skc_40 (by decide))
        have m77 := (hF1.fld hr_o0 skc_7 (k := 0) (by decide) (by decide)).trans m17
        have m78 := (el_kept (hF1.arr hr_th skc_40 (by decide))).trans m18
        have hF := hF.more hF1 (by decide)
        try dsimp only at hw73
        obtain ⟨h80, h81, hf82, hf83, hf84⟩ := hw73
        refine lv_if_eq (tgt := 46) hx hb dX4_readAll_25 (by decide) (fun c85 => ?_) (fun c85 => ?_)
        · have t86 : r72.toInt = 0 := ti_eq c85 rfl (by decide)
          refine lv_iload_n hx hb dX4_readAll_46 rfl (lv_at hl 1 rfl) ?_
          exact W.zret (v := z14) hx hb hr (nar_b (by have q8 := ti_all z14; omega)) (fun t ht hW => ⟨⟨z14, u74, rfl, (by exact ⟨(by have q8 := ti_all u74; omega), (by have q8 := ti_all z14; omega), (by omega), (by have l9 := (hj23.1.resolve_right (fun h8 => by have := h8.1; omega)).2; have a9 := hf83.resolve_left (fun h8 => by have := h8.2.1; omega); rw [show z14.toInt = 1 from by omega, a9.2.2]; exact lp_e l9 (fun h7 => a9.1 (h7.trans (by decide))))⟩), by (try dsimp only); rw [ht]; exact ⟨hT, hF, m75⟩⟩, hS.F ht⟩) hS.2.2 dX4_readAll_47
        · have t87 : r72.toInt ≠ 0 := ti_ne c85 rfl (by decide)
          refine lv_aload_n hx hb dX4_readAll_28 rfl (lv_at hl 2 rfl) ?_
          refine lv_iload_n hx hb dX4_readAll_29 rfl (lv_at hl 3 rfl) ?_
          have hFc := gA_free hG hA hS
          refine va_calli (va_runV (As := [.int 6]) (rest := []) ⟨hx, hb, hml, hown, hts⟩ (c_readAtom6 l dC dI kA adK adV G H nC nS o0 th u74 vT tv ix_tv ix_tv K X pS hT hr_o0 m77 hr_th m75 (by have q8 := ti_all ix_tv; omega) (by have q8 := ti_all u74; omega) (by have := (show u74.toInt = u74.toInt from rfl); have := (show ix_tv.toInt = ix_tv.toInt from rfl); omega) (fun m hm => hKK m (Nat.le_trans hm (Nat.le_of_eq (tn_same hx_tv rfl rfl)))) (fun m hm => hXX m (Nat.lt_of_lt_of_eq hm (tn_same hx_tv rfl rfl))) m76 (by have q9 := (show ix_tv.toInt = ix_tv.toInt from rfl); have := (show ix_tv.toInt = ix_tv.toInt from rfl); omega) m78 (by have q8 := ti_all tv; omega) (by omega) (by omega)) (cwV 1 hts (goodIn_app (goodIn_r _ [27, 28, 29, 13] rfl (by decide +kernel)) (goodIn_ca (goodIn_r _ [1, 2, 3, 4, 5, 6, 7, 8, 9, 10, 11, 12, 13, 14, 15, 16, 17, 18, 19, 20, 21, 22, 23, 24, 25, 26] rfl (by decide +kernel)) (bs2_in _ _))) rfl rfl rfl (by decide +kernel) ⟨(Nat.le_of_ble_eq_true rfl), (Nat.le_of_ble_eq_true rfl)⟩) ⟨fun a U g mk q => by obtain ⟨q0, q1, qK, qE⟩ := q; exact ⟨q0, q1, va_K.moved (u := U) (U := U.calling g mk a) (Vm.Alike.refl U.vm) qK, EVC.blind g mk a qE⟩, gH_rc hK hT hr_o0 shc_7 rfl, fun U hU hW => ⟨rfl, hU, va_K.moved hW.alike hK, hE.call hS hFc hU hW⟩⟩ rfl rfl hl.1 rfl (lv_room (Nat.le_of_ble_eq_true rfl)) dX4_readAll_30 ⟨(Nat.le_of_ble_eq_true rfl), (Nat.le_of_ble_eq_true rfl)⟩) hS (fun q _ h => hFc q h) hFc (fun r88 u t H locs ht hvm hw89 hB _ _ hS => ?_)
          obtain ⟨u90, rfl⟩ : ∃ z, z = u := ⟨_, rfl⟩
          obtain ⟨hT, hF1, m91⟩ := hB
          rw [ht] at hT hF1 m91
          have m92 := m76.kept (hF1.arr hr_th skc_40 (by decide))
          have m93 := (hF1.fld hr_o0 skc_7 (k := 0) (by decide) (by decide)).trans m77
          have m94 := (el_kept (hF1.arr hr_th skc_40 (by decide))).trans m78
          have hF := hF.more hF1 (by decide)
          try dsimp only at hw89
          obtain ⟨h96, h97, hf98, hf99⟩ := hw89
          refine lv_istore_n (lv' := [(2, .int r88), (3, .int (nI i13)), (0, .ref o0), (1, .int 6)]) hx hb dX4_readAll_33 rfl hl (by decide) rfl (fun ls hl => ?_)
          refine lv_aload_n hx hb dX4_readAll_34 rfl (lv_at hl 2 rfl) ?_
          refine lv_bipush (v := 14) hx hb dX4_readAll_35 (by decide) ?_
          have hFc := gA_free hG hA hS
          refine va_callv (va_runV (As := [.int 14]) (rest := []) ⟨hx, hb, hml, hown, hts⟩ (c_addStep l dC dI kA adK adV G H nC nS o0 14 hT hr_o0 (rg_t (a := 14) (by decide) (by first | decide | omega) (by first | decide | omega)) (by omega) (by omega)) (cwV 1 hts (goodIn_app (goodIn_r _ [10, 11, 12, 13] rfl (by decide +kernel)) (goodIn_ca (goodIn_r _ [7, 8, 9] rfl (by decide +kernel)) (bs2_in _ _))) rfl rfl rfl (by decide +kernel) ⟨(Nat.le_of_ble_eq_true rfl), (Nat.le_of_ble_eq_true rfl)⟩) ⟨fun a U g mk q => by obtain ⟨q0, q1, qK, qE⟩ := q; exact ⟨q0, q1, va_K.moved (u := U) (U := U.calling g mk a) (Vm.Alike.refl U.vm) qK, EVC.blind g mk a qE⟩, gH_rc hK hT hr_o0 shc_7 rfl, fun U hU hW => ⟨rfl, hU, va_K.moved hW.alike hK, hE.call hS hFc hU hW⟩⟩ rfl rfl hl.1 rfl (lv_room (Nat.le_of_ble_eq_true rfl)) dX4_readAll_37 ⟨(Nat.le_of_ble_eq_true rfl), (Nat.le_of_ble_eq_true rfl)⟩) hS (fun q _ h => hFc q h) hFc (fun u t H locs ht hvm hw101 hB _ _ hS => ?_)
          obtain ⟨hT, hF1⟩ := hB
          rw [ht] at hT hF1
          have m102 := m92.kept (hF1.arr hr_th skc_40 (by decide))
          have m103 := (hF1.fld hr_o0 skc_7 (k := 0) (by decide) (by decide)).trans m93
          have m104 := (el_kept (hF1.arr hr_th skc_40 (by decide))).trans m94
          have m105 := (hF1.fld hr_o0 skc_7 (k := 13) (by decide) (by decide)).trans m91
          have hF := hF.more hF1 (by decide)
          try dsimp only at hw101
          refine lv_iinc (v := nI (i13 + 1)) (lv' := [(3, .int (nI (i13 + 1))), (2, .int r88), (0, .ref o0), (1, .int 6)]) hx hb dX4_readAll_40 hl (k := 1) rfl (nI_add i13 1) (by decide) rfl (fun ls hl => ?_)
          refine lv_goto (tgt := 8) hx hb dX4_readAll_43 (by decide) ?_
          exact ih63 (i13 + 1) (by omega) (by omega) r88 u90 ⟨(by have q8 := ti_all r88; omega), (by have q8 := ti_all u90; omega), (by have := hx_tv; have := (show u90.toInt = u90.toInt from rfl); omega), ⟨(by have l9 := (hj23.1.resolve_right (fun h8 => by have := h8.1; omega)).2; have a9 := hf83.resolve_right (fun h8 => by have := h8.2.1; omega); have h9 := hf99; rw [a9.2.2] at h9; rcases (show r88.toInt = 1 ∨ r88.toInt = 0 by omega) with h8 | h8 <;> rw [h8] at h9; (exact Or.inl ⟨h8, lp_s l9 (a9.1.trans (by decide)) h9⟩); exact Or.inr ⟨h8, lp_f l9 (a9.1.trans (by decide)) h9⟩), by omega⟩⟩ _ _ hT hF hS m102 m103 m104 m105 ls (lv_sub hl [0, 1, 2, 3] rfl)
  exact key63 (400 - 0) 0 (by omega) (Nat.le_refl _) r1 u3 ⟨(by have q8 := ti_all r1; omega), (by have q8 := ti_all u3; omega), (by have := hx_tv; have := (show u3.toInt = u3.toInt from rfl); omega), ⟨(by have h9 := hf12; rcases (show r1.toInt = 1 ∨ r1.toInt = 0 by omega) with h8 | h8 <;> rw [h8] at h9; (exact Or.inl ⟨h8, lp_1 h9⟩); exact Or.inr ⟨h8, lp_0 h9⟩), by omega⟩⟩ _ _ hT hF hS m7 m5 m8 m4 ls (lv_sub hl [0, 1, 2, 3] rfl)
def w_c_readAny6 : List Cond := .code yX4_readAny cX4_readAny 4 (some .boolean) :: (HAppend.hAppend (α := List Cond) (β := List Cond) (γ := List Cond) [.code yX4_readAll cX4_readAll 4 (some .boolean), .code yX4_readAtom cX4_readAtom 4 (some .boolean), .fieldLink RX4 11 "SeaLand$Law" "things" "[I", .fieldLink RX4 56 "SeaLand$Law" "at" "I", .code yX4_readComparison cX4_readComparison 3 (some .boolean), .code yX4_readSum cX4_readSum 3 (some .boolean), .code yX4_readPart cX4_readPart 2 (some .boolean), .code yX4_addStep cX4_addStep 2 none, .fieldLink RX4 63 "SeaLand$Law" "stepped" "I", .fieldLink RX4 39 "SeaLand$Law" "steps" "[I", .methodLink RX4 179 yX4_addStep, .instanceMethod yX4_addStep, .selects RX4 yX4_addStep yX4_addStep, .initialized RX4, .methodLink RX4 192 yX4_readPart, .instanceMethod yX4_readPart, .selects RX4 yX4_readPart yX4_readPart, .code yX4_take cX4_take 2 (some .boolean), .methodLink RX4 70 yX4_take, .instanceMethod yX4_take, .selects RX4 yX4_take yX4_take, .methodLink RX4 189 yX4_readSum, .instanceMethod yX4_readSum, .selects RX4 yX4_readSum yX4_readSum, .methodLink RX4 186 yX4_readComparison, .instanceMethod yX4_readComparison, .selects RX4 yX4_readComparison yX4_readComparison, .methodLink RX4 183 yX4_readAtom, .instanceMethod yX4_readAtom, .selects RX4 yX4_readAtom yX4_readAtom, .methodLink RX4 176 yX4_readAll, .instanceMethod yX4_readAll, .selects RX4 yX4_readAll yX4_readAll] bs2)
set_option maxHeartbeats 4000000 in
set_option maxRecDepth 100000 in
theorem c_readAny6 (l : Launch) (dC : Nat → ClassId) (dI : Nat → Nat → Nat) (kA : Nat → ClassId) (adK adV : Nat → Nat) (G : gT) (H0 : Heap) (nC nS : Int) (o0 : Nat) (th : Nat) (a0 : Int32) (vT : Nat → Int32) (tv ix_tv : Int32) (tn : Int32) (K : Nat → Int) (X pS : Nat → Nat) (hT : gH (dC, dI) kA (SHc nC nS) G H0) (hr_o0 : G o0 = some 7) (hm_th : el H0 o0 (dI 7 0) = some (.ref th)) (hr_th : G th = some 40) (hm_a0 : el H0 o0 (dI 7 13) = some (.int a0)) (hq0 : 0 ≤ tn.toInt ∧ tn.toInt ≤ 400) (hq1 : 0 ≤ a0.toInt ∧ a0.toInt ≤ 400) (hat : a0.toInt ≤ tn.toInt) (hKK : ∀ m : Nat, m ≤ tn.toNatClampNeg → (vT m).toInt = K (pS m)) (hXX : ∀ m : Nat, m < tn.toNatClampNeg → pS (m + 1) = X (pS m)) (hc_vT : ct H0 th 401 vT) (hx_tv : ix_tv.toInt = tn.toInt) (hm_tv : el H0 th ix_tv.toNatClampNeg = some (.int tv)) (hv_tv : 21 ≤ tv.toInt ∧ tv.toInt ≤ 21) (hgC : 0 ≤ nC ∧ nC ≤ 40) (hgS : 0 ≤ nS ∧ nS ≤ 60) : Met l yX4_readAny w_c_readAny6 ({ frames := 6, cells := 0, slots := 0, locals := 132 }) (va_Pc [.ref o0, .int 6] (fun U => U.heap = H0 ∧ va_K (dC, dI) vwCl (tyl kA) U ∧ EVC adK adV (gA G H0.size) U U.heap)) (va_Qi (fun (r : Int32) (u : Int32) => (0 ≤ u.toInt ∧ u.toInt ≤ 400) ∧ (0 ≤ r.toInt ∧ r.toInt ≤ 1) ∧ (a0.toInt ≤ u.toInt ∧ u.toInt ≤ tn.toInt) ∧ (coR K X (aR K X 0) (pS a0.toNatClampNeg) r.toInt (pS u.toNatClampNeg))) (fun (a1 : Int32) (t : State) => gH (dC, dI) kA (SHc nC nS) G t.heap ∧ gF (dC, dI) SKc G ([(7, 12), (7, 13), (49, 0)] : List (Nat × Nat)) H0 t.heap ∧ el t.heap o0 (dI 7 13) = some (.int a1)) (gA G H0.size)) 0 0 (gA G H0.size) := by
  refine Met.ofW (cc := cX4_readAny) (maxL := 4) (ret := (some .boolean)) (by decide) rfl ?_
  intro p e s m args below meth c s₁ B hml hv
  obtain ⟨rfl, hH0, hK, hE⟩ := hv
  have hx := B.exec
  have hb := B.bytes
  have hr := B.returns
  have hts := atoms_spec (ws := w_c_readAny6) B.pre
  have hown : s.vm.findClass RX4 = some m.cls := findClass_of_methodNamed B.named
  have hlocks := B.notSynchronized
  subst hH0
  generalize hAe : gA G s.heap.size = A at hE ⊢
  have hA : ∀ q : Nat, s.heap.size ≤ q → A q := fun q h => by rw [← hAe]; exact Or.inr h
  have hG := gA_of hAe
  have hS : va_S A s.heap s.heap [] := va_S.rf
  have hF : gF (dC, dI) SKc G ([(7, 12), (7, 13), (49, 0)] : List (Nat × Nat)) s.heap s.heap := gF.rf
  have hl := lv_entry ([.ref o0, .int 6]) (n := 4) (Nat.le_of_ble_eq_true rfl)
  rw [lg_entry_eq]
  generalize (lg_sl ([.ref o0, .int 6]) ++ List.replicate (4 - (lg_sl ([.ref o0, .int 6])).length) Slot.unset).toArray = ls at hl ⊢
  have hl : lv_has ls 4 [(0, .ref o0), (1, .int 6)] := hl
  refine lv_aload_n hx hb dX4_readAny_0 rfl (lv_at hl 0 rfl) ?_
  refine lv_iload_n hx hb dX4_readAny_1 rfl (lv_at hl 1 rfl) ?_
  have hFc := gA_free hG hA hS
  refine va_calli (va_runV (As := [.int 6]) (rest := []) ⟨hx, hb, hml, hown, hts⟩ (c_readAll6 l dC dI kA adK adV G s.heap nC nS o0 th a0 vT tv ix_tv ix_tv K X pS hT hr_o0 hm_th hr_th hm_a0 (by have q8 := ti_all ix_tv; omega) (by have q8 := ti_all a0; omega) (by have := (show a0.toInt = a0.toInt from rfl); have := (show ix_tv.toInt = ix_tv.toInt from rfl); omega) (fun m hm => hKK m (Nat.le_trans hm (Nat.le_of_eq (tn_same hx_tv rfl rfl)))) (fun m hm => hXX m (Nat.lt_of_lt_of_eq hm (tn_same hx_tv rfl rfl))) hc_vT (by have q9 := (show ix_tv.toInt = ix_tv.toInt from rfl); have := (show ix_tv.toInt = ix_tv.toInt from rfl); omega) hm_tv (by have q8 := ti_all tv; omega) (by omega) (by omega)) (cwV 1 hts (goodIn_app (goodIn_r _ [31, 32, 33, 14] rfl (by decide +kernel)) (goodIn_ca (goodIn_r _ [1, 2, 3, 4, 5, 6, 7, 8, 9, 10, 11, 12, 13, 14, 15, 16, 17, 18, 19, 20, 21, 22, 23, 24, 25, 26, 27, 28, 29, 30] rfl (by decide +kernel)) (bs2_in _ _))) rfl rfl rfl (by decide +kernel) ⟨(Nat.le_of_ble_eq_true rfl), (Nat.le_of_ble_eq_true rfl)⟩) ⟨fun a U g mk q => by obtain ⟨q0, q1, qK, qE⟩ := q; exact ⟨q0, q1, va_K.moved (u := U) (U := U.calling g mk a) (Vm.Alike.refl U.vm) qK, EVC.blind g mk a qE⟩, gH_rc hK hT hr_o0 shc_7 rfl, fun U hU hW => ⟨rfl, hU, va_K.moved hW.alike hK, hE.call hS hFc hU hW⟩⟩ rfl rfl hl.1 rfl (lv_room (Nat.le_of_ble_eq_true rfl)) dX4_readAny_2 ⟨(Nat.le_of_ble_eq_true rfl), (Nat.le_of_ble_eq_true rfl)⟩) hS (fun q _ h => hFc q h) hFc (fun r1 u t H locs ht hvm hw2 hB _ _ hS => ?_)
  obtain ⟨u3, rfl⟩ : ∃ z, z = u := ⟨_, rfl⟩
  obtain ⟨hT, hF1, m4⟩ := hB
  rw [ht] at hT hF1 m4
  have m5 := (hF1.fld hr_o0 skc_7 (k := 0) (by decide) (by decide)).trans hm_th
  have m7 := hc_vT.kept (hF1.arr hr_th skc_40 (by decide))
  have m8 := (el_kept (hF1.arr hr_th skc_40 (by decide))).trans hm_tv
  have hF := hF.more hF1 (by decide)
  try dsimp only at hw2
  obtain ⟨h9, h10, hf11, hf12⟩ := hw2
  refine lv_istore_n (lv' := [(2, .int r1), (0, .ref o0), (1, .int 6)]) hx hb dX4_readAny_5 rfl hl (by decide) rfl (fun ls hl => ?_)
  refine lv_iconst (v := 0) hx hb dX4_readAny_6 (by decide) ?_
  refine lv_istore_n (lv' := [(3, .int 0), (2, .int r1), (0, .ref o0), (1, .int 6)]) hx hb dX4_readAny_7 rfl hl (by decide) rfl (fun ls hl => ?_)
  have key63 : ∀ (n63 i13 : Nat), i13 + n63 = 400 → 0 ≤ i13 → ∀ (z14 : Int32), ∀ (z19 : Int32), ((0 ≤ z14.toInt ∧ z14.toInt ≤ 1) ∧ (0 ≤ z19.toInt ∧ z19.toInt ≤ 400) ∧ (a0.toInt ≤ z19.toInt ∧ z19.toInt ≤ tn.toInt) ∧ (((z14.toInt = 1 ∧ ∀ (r : Int) (f : Nat), lpQ K X (lpR K X (aR K X 0) 14) 15 (pS z19.toNatClampNeg) r f → coR K X (aR K X 0) (pS a0.toNatClampNeg) r f) ∨ (z14.toInt = 0 ∧ coR K X (aR K X 0) (pS a0.toNatClampNeg) 0 (pS z19.toNatClampNeg))) ∧ ((i13 : Nat) : Int) ≤ z19.toInt)) → ∀ (H : Heap) (locs : List Loc), gH (dC, dI) kA (SHc nC nS) G H → gF (dC, dI) SKc G ([(7, 12), (7, 13), (49, 0)] : List (Nat × Nat)) s.heap H → va_S A s.heap H locs → ct H th 401 vT → el H o0 (dI 7 0) = some (.ref th) → el H th ix_tv.toNatClampNeg = some (.int tv) → el H o0 (dI 7 13) = some (.int z19) → ∀ ls : Array Slot, lv_has ls 4 [(3, .int (nI i13)), (2, .int z14), (0, .ref o0), (1, .int 6)] → W p l e (headSpec w_c_readAny6 ({ frames := 6, cells := 0, slots := 0, locals := 132 })).room s m #[.ref o0, .int 6] below meth c H locs 0 0 (MQ below (va_Qi (fun (r : Int32) (u : Int32) => (0 ≤ u.toInt ∧ u.toInt ≤ 400) ∧ (0 ≤ r.toInt ∧ r.toInt ≤ 1) ∧ (a0.toInt ≤ u.toInt ∧ u.toInt ≤ tn.toInt) ∧ (coR K X (aR K X 0) (pS a0.toNatClampNeg) r.toInt (pS u.toNatClampNeg))) (fun (a1 : Int32) (t : State) => gH (dC, dI) kA (SHc nC nS) G t.heap ∧ gF (dC, dI) SKc G ([(7, 12), (7, 13), (49, 0)] : List (Nat × Nat)) s.heap t.heap ∧ el t.heap o0 (dI 7 13) = some (.int a1)) A) #[.ref o0, .int 6] s 0 0 A) (F0 m 8 ls []) := by
    intro n63
    induction n63 with
    | zero =>
      intro i13 hn63 hlo64 z14 z19 ⟨h15, h20, hj22, hj23⟩ H locs hT hF hS m16 m17 m18 m21 ls hl
      obtain rfl : 400 = i13 := by omega
      refine lv_iload_n hx hb dX4_readAny_8 rfl (lv_at hl 0 rfl) ?_
      refine lv_sipush (v := 400) hx hb dX4_readAny_9 (by decide) ?_
      refine lv_icmp_ge (tgt := 46) hx hb dX4_readAny_12 (by decide) (fun c65 => ?_) (fun c65 => (by exfalso; have q9 : ((400 : Nat) : Int) < 400 := ti_nle c65 (by decide) (nI_toInt (by omega)); omega))
      have t66 : 400 ≤ ((400 : Nat) : Int) := ti_le c65 (by decide) (nI_toInt (by omega))
      refine lv_iload_n hx hb dX4_readAny_46 rfl (lv_at hl 1 rfl) ?_
      exact W.zret (v := z14) hx hb hr (nar_b (by have q8 := ti_all z14; omega)) (fun t ht hW => ⟨⟨z14, z19, rfl, (by exact ⟨(by have q8 := ti_all z19; omega), (by have q8 := ti_all z14; omega), (by omega), (by rcases hj23.1 with ⟨h8, l9⟩ | ⟨h8, l9⟩; (rw [h8]; exact lp_e l9 (fun h7 => by have := tn_of (show z19.toInt = z19.toInt from rfl) (by omega); have := tn_of (show tn.toInt = tn.toInt from rfl) (by omega); have k9 := hKK tn.toNatClampNeg (Nat.le_refl _); have e9 := hc_vT.at hm_tv (by have q9 := tn_of hx_tv (by omega); omega); have k8 : (vT tn.toNatClampNeg).toInt = 21 := (by have q8 := congrArg Int32.toInt e9; rw [show ix_tv.toNatClampNeg = tn.toNatClampNeg from tn_same hx_tv rfl rfl] at q8; omega); rw [show z19.toNatClampNeg = tn.toNatClampNeg from by omega] at h7; omega)); rw [h8]; exact l9)⟩), by (try dsimp only); rw [ht]; exact ⟨hT, hF, m21⟩⟩, hS.F ht⟩) hS.2.2 dX4_readAny_47
    | succ n63 ih63 =>
      intro i13 hn63 hlo64 z14 z19 ⟨h15, h20, hj22, hj23⟩ H locs hT hF hS m16 m17 m18 m21 ls hl
      have hlt66 : i13 < 400 := by omega
      refine lv_iload_n hx hb dX4_readAny_8 rfl (lv_at hl 0 rfl) ?_
      refine lv_sipush (v := 400) hx hb dX4_readAny_9 (by decide) ?_
      refine lv_icmp_ge (tgt := 46) hx hb dX4_readAny_12 (by decide) (fun c67 => (by exfalso; have q9 : 400 ≤ ((i13 : Nat) : Int) := ti_le c67 (by decide) (nI_toInt (by omega)); omega)) (fun c67 => ?_)
      have t68 : ((i13 : Nat) : Int) < 400 := ti_nle c67 (by decide) (nI_toInt (by omega))
      refine lv_iload_n hx hb dX4_readAny_15 rfl (lv_at hl 1 rfl) ?_
      refine lv_if_eq (tgt := 46) hx hb dX4_readAny_16 (by decide) (fun c69 => ?_) (fun c69 => ?_)
      · have t70 : z14.toInt = 0 := ti_eq c69 rfl (by decide)
        refine lv_iload_n hx hb dX4_readAny_46 rfl (lv_at hl 1 rfl) ?_
        exact W.zret (v := z14) hx hb hr (nar_b (by have q8 := ti_all z14; omega)) (fun t ht hW => ⟨⟨z14, z19, rfl, (by exact ⟨(by have q8 := ti_all z19; omega), (by have q8 := ti_all z14; omega), (by omega), (by rcases hj23.1 with ⟨h8, l9⟩ | ⟨h8, l9⟩; (rw [h8]; exact lp_e l9 (fun h7 => by have := tn_of (show z19.toInt = z19.toInt from rfl) (by omega); have := tn_of (show tn.toInt = tn.toInt from rfl) (by omega); have k9 := hKK tn.toNatClampNeg (Nat.le_refl _); have e9 := hc_vT.at hm_tv (by have q9 := tn_of hx_tv (by omega); omega); have k8 : (vT tn.toNatClampNeg).toInt = 21 := (by have q8 := congrArg Int32.toInt e9; rw [show ix_tv.toNatClampNeg = tn.toNatClampNeg from tn_same hx_tv rfl rfl] at q8; omega); rw [show z19.toNatClampNeg = tn.toNatClampNeg from by omega] at h7; omega)); rw [h8]; exact l9)⟩), by (try dsimp only); rw [ht]; exact ⟨hT, hF, m21⟩⟩, hS.F ht⟩) hS.2.2 dX4_readAny_47
      · have t71 : z14.toInt ≠ 0 := ti_ne c69 rfl (by decide)
        refine lv_aload_n hx hb dX4_readAny_19 rfl (lv_at hl 2 rfl) ?_
        refine lv_bipush (v := 15) hx hb dX4_readAny_20 (by decide) ?_
        have hFc := gA_free hG hA hS
        refine va_calli (va_runV (As := [.int 15]) (rest := []) ⟨hx, hb, hml, hown, hts⟩ (c_take l dC dI kA adK adV G H nC nS o0 15 th z19 vT tv ix_tv ix_tv K X pS hT hr_o0 m17 hr_th m21 (by have q8 := ti_all ix_tv; omega) (by have q8 := ti_all z19; omega) (by have := (show z19.toInt = z19.toInt from rfl); have := (show ix_tv.toInt = ix_tv.toInt from rfl); omega) (by have := (show (15 : Int32).toInt = 15 from (by decide)); omega) (fun m hm => hKK m (Nat.le_trans hm (Nat.le_of_eq (tn_same hx_tv rfl rfl)))) (fun m hm => hXX m (Nat.lt_of_lt_of_eq hm (tn_same hx_tv rfl rfl))) m16 (by have q9 := (show ix_tv.toInt = ix_tv.toInt from rfl); have := (show ix_tv.toInt = ix_tv.toInt from rfl); omega) m18 (by have q8 := ti_all tv; omega) (by omega) (by omega)) (cwV 1 hts (goodIn_app (goodIn_r _ [19, 20, 21, 14] rfl (by decide +kernel)) (goodIn_ca (goodIn_r _ [18, 3, 4] rfl (by decide +kernel)) (bs2_in _ _))) rfl rfl rfl (by decide +kernel) ⟨(Nat.le_of_ble_eq_true rfl), (Nat.le_of_ble_eq_true rfl)⟩) ⟨fun a U g mk q => by obtain ⟨q0, q1, qK, qE⟩ := q; exact ⟨q0, q1, va_K.moved (u := U) (U := U.calling g mk a) (Vm.Alike.refl U.vm) qK, EVC.blind g mk a qE⟩, gH_rc hK hT hr_o0 shc_7 rfl, fun U hU hW => ⟨rfl, hU, va_K.moved hW.alike hK, hE.call hS hFc hU hW⟩⟩ rfl rfl hl.1 rfl (lv_room (Nat.le_of_ble_eq_true rfl)) dX4_readAny_22 ⟨(Nat.le_of_ble_eq_true rfl), (Nat.le_of_ble_eq_true rfl)⟩) hS (fun q _ h => hFc q h) hFc (fun r72 u t H locs ht hvm hw73 hB _ _ hS => ?_)
        obtain ⟨u74, rfl⟩ : ∃ z, z = u := ⟨_, rfl⟩
        obtain ⟨hT, hF1, m75⟩ := hB
        rw [ht] at hT hF1 m75
        have m76 := m16.kept (hF1.arr hr_th skc_40 (by decide))
        have m77 := (hF1.fld hr_o0 skc_7 (k := 0) (by decide) (by decide)).trans m17
        have m78 := (el_kept (hF1.arr hr_th skc_40 (by decide))).trans m18
        have hF := hF.more hF1 (by decide)
        try dsimp only at hw73
        obtain ⟨h80, h81, hf82, hf83, hf84⟩ := hw73
        refine lv_if_eq (tgt := 46) hx hb dX4_readAny_25 (by decide) (fun c85 => ?_) (fun c85 => ?_)
        · have t86 : r72.toInt = 0 := ti_eq c85 rfl (by decide)
          refine lv_iload_n hx hb dX4_readAny_46 rfl (lv_at hl 1 rfl) ?_
          exact W.zret (v := z14) hx hb hr (nar_b (by have q8 := ti_all z14; omega)) (fun t ht hW => ⟨⟨z14, u74, rfl, (by exact ⟨(by have q8 := ti_all u74; omega), (by have q8 := ti_all z14; omega), (by omega), (by have l9 := (hj23.1.resolve_right (fun h8 => by have := h8.1; omega)).2; have a9 := hf83.resolve_left (fun h8 => by have := h8.2.1; omega); rw [show z14.toInt = 1 from by omega, a9.2.2]; exact lp_e l9 (fun h7 => a9.1 (h7.trans (by decide))))⟩), by (try dsimp only); rw [ht]; exact ⟨hT, hF, m75⟩⟩, hS.F ht⟩) hS.2.2 dX4_readAny_47
        · have t87 : r72.toInt ≠ 0 := ti_ne c85 rfl (by decide)
          refine lv_aload_n hx hb dX4_readAny_28 rfl (lv_at hl 2 rfl) ?_
          refine lv_iload_n hx hb dX4_readAny_29 rfl (lv_at hl 3 rfl) ?_
          have hFc := gA_free hG hA hS
          refine va_calli (va_runV (As := [.int 6]) (rest := []) ⟨hx, hb, hml, hown, hts⟩ (c_readAll6 l dC dI kA adK adV G H nC nS o0 th u74 vT tv ix_tv ix_tv K X pS hT hr_o0 m77 hr_th m75 (by have q8 := ti_all ix_tv; omega) (by have q8 := ti_all u74; omega) (by have := (show u74.toInt = u74.toInt from rfl); have := (show ix_tv.toInt = ix_tv.toInt from rfl); omega) (fun m hm => hKK m (Nat.le_trans hm (Nat.le_of_eq (tn_same hx_tv rfl rfl)))) (fun m hm => hXX m (Nat.lt_of_lt_of_eq hm (tn_same hx_tv rfl rfl))) m76 (by have q9 := (show ix_tv.toInt = ix_tv.toInt from rfl); have := (show ix_tv.toInt = ix_tv.toInt from rfl); omega) m78 (by have q8 := ti_all tv; omega) (by omega) (by omega)) (cwV 1 hts (goodIn_app (goodIn_r _ [31, 32, 33, 14] rfl (by decide +kernel)) (goodIn_ca (goodIn_r _ [1, 2, 3, 4, 5, 6, 7, 8, 9, 10, 11, 12, 13, 14, 15, 16, 17, 18, 19, 20, 21, 22, 23, 24, 25, 26, 27, 28, 29, 30] rfl (by decide +kernel)) (bs2_in _ _))) rfl rfl rfl (by decide +kernel) ⟨(Nat.le_of_ble_eq_true rfl), (Nat.le_of_ble_eq_true rfl)⟩) ⟨fun a U g mk q => by obtain ⟨q0, q1, qK, qE⟩ := q; exact ⟨q0, q1, va_K.moved (u := U) (U := U.calling g mk a) (Vm.Alike.refl U.vm) qK, EVC.blind g mk a qE⟩, gH_rc hK hT hr_o0 shc_7 rfl, fun U hU hW => ⟨rfl, hU, va_K.moved hW.alike hK, hE.call hS hFc hU hW⟩⟩ rfl rfl hl.1 rfl (lv_room (Nat.le_of_ble_eq_true rfl)) dX4_readAny_30 ⟨(Nat.le_of_ble_eq_true rfl), (Nat.le_of_ble_eq_true rfl)⟩) hS (fun q _ h => hFc q h) hFc (fun r88 u t H locs ht hvm hw89 hB _ _ hS => ?_)
          obtain ⟨u90, rfl⟩ : ∃ z, z = u := ⟨_, rfl⟩
          obtain ⟨hT, hF1, m91⟩ := hB
          rw [ht] at hT hF1 m91
          have m92 := m76.kept (hF1.arr hr_th skc_40 (by decide))
          have m93 := (hF1.fld hr_o0 skc_7 (k := 0) (by decide) (by decide)).trans m77
          have m94 := (el_kept (hF1.arr hr_th skc_40 (by decide))).trans m78
          have hF := hF.more hF1 (by decide)
          try dsimp only at hw89
          obtain ⟨h96, h97, hf98, hf99⟩ := hw89
          refine lv_istore_n (lv' := [(2, .int r88), (3, .int (nI i13)), (0, .ref o0), (1, .int 6)]) hx hb dX4_readAny_33 rfl hl (by decide) rfl (fun ls hl => ?_)
          refine lv_aload_n hx hb dX4_readAny_34 rfl (lv_at hl 2 rfl) ?_
          refine lv_bipush (v := 15) hx hb dX4_readAny_35 (by decide) ?_
          have hFc := gA_free hG hA hS
          refine va_callv (va_runV (As := [.int 15]) (rest := []) ⟨hx, hb, hml, hown, hts⟩ (c_addStep l dC dI kA adK adV G H nC nS o0 15 hT hr_o0 (rg_t (a := 15) (by decide) (by first | decide | omega) (by first | decide | omega)) (by omega) (by omega)) (cwV 1 hts (goodIn_app (goodIn_r _ [11, 12, 13, 14] rfl (by decide +kernel)) (goodIn_ca (goodIn_r _ [8, 9, 10] rfl (by decide +kernel)) (bs2_in _ _))) rfl rfl rfl (by decide +kernel) ⟨(Nat.le_of_ble_eq_true rfl), (Nat.le_of_ble_eq_true rfl)⟩) ⟨fun a U g mk q => by obtain ⟨q0, q1, qK, qE⟩ := q; exact ⟨q0, q1, va_K.moved (u := U) (U := U.calling g mk a) (Vm.Alike.refl U.vm) qK, EVC.blind g mk a qE⟩, gH_rc hK hT hr_o0 shc_7 rfl, fun U hU hW => ⟨rfl, hU, va_K.moved hW.alike hK, hE.call hS hFc hU hW⟩⟩ rfl rfl hl.1 rfl (lv_room (Nat.le_of_ble_eq_true rfl)) dX4_readAny_37 ⟨(Nat.le_of_ble_eq_true rfl), (Nat.le_of_ble_eq_true rfl)⟩) hS (fun q _ h => hFc q h) hFc (fun u t H locs ht hvm hw101 hB _ _ hS => ?_)
          obtain ⟨hT, hF1⟩ := hB
          rw [ht] at hT hF1
          have m102 := m92.kept (hF1.arr hr_th skc_40 (by decide))
          have m103 := (hF1.fld hr_o0 skc_7 (k := 0) (by decide) (by decide)).trans m93
          have m104 := (el_kept (hF1.arr hr_th skc_40 (by decide))).trans m94
          have m105 := (hF1.fld hr_o0 skc_7 (k := 13) (by decide) (by decide)).trans m91
          have hF := hF.more hF1 (by decide)
          try dsimp only at hw101
          refine lv_iinc (v := nI (i13 + 1)) (lv' := [(3, .int (nI (i13 + 1))), (2, .int r88), (0, .ref o0), (1, .int 6)]) hx hb dX4_readAny_40 hl (k := 1) rfl (nI_add i13 1) (by decide) rfl (fun ls hl => ?_)
          refine lv_goto (tgt := 8) hx hb dX4_readAny_43 (by decide) ?_
          exact ih63 (i13 + 1) (by omega) (by omega) r88 u90 ⟨(by have q8 := ti_all r88; omega), (by have q8 := ti_all u90; omega), (by have := hx_tv; have := (show u90.toInt = u90.toInt from rfl); omega), ⟨(by have l9 := (hj23.1.resolve_right (fun h8 => by have := h8.1; omega)).2; have a9 := hf83.resolve_right (fun h8 => by have := h8.2.1; omega); have h9 := hf99; rw [a9.2.2] at h9; rcases (show r88.toInt = 1 ∨ r88.toInt = 0 by omega) with h8 | h8 <;> rw [h8] at h9; (exact Or.inl ⟨h8, lp_s l9 (a9.1.trans (by decide)) h9⟩); exact Or.inr ⟨h8, lp_f l9 (a9.1.trans (by decide)) h9⟩), by omega⟩⟩ _ _ hT hF hS m102 m103 m104 m105 ls (lv_sub hl [0, 1, 2, 3] rfl)
  exact key63 (400 - 0) 0 (by omega) (Nat.le_refl _) r1 u3 ⟨(by have q8 := ti_all r1; omega), (by have q8 := ti_all u3; omega), (by have := hx_tv; have := (show u3.toInt = u3.toInt from rfl); omega), ⟨(by have h9 := hf12; rcases (show r1.toInt = 1 ∨ r1.toInt = 0 by omega) with h8 | h8 <;> rw [h8] at h9; (exact Or.inl ⟨h8, lp_1 h9⟩); exact Or.inr ⟨h8, lp_0 h9⟩), by omega⟩⟩ _ _ hT hF hS m7 m5 m8 m4 ls (lv_sub hl [0, 1, 2, 3] rfl)
def w_c_readAtom5 : List Cond := .code yX4_readAtom cX4_readAtom 4 (some .boolean) :: (HAppend.hAppend (α := List Cond) (β := List Cond) (γ := List Cond) [.fieldLink RX4 11 "SeaLand$Law" "things" "[I", .fieldLink RX4 56 "SeaLand$Law" "at" "I", .code yX4_readAny cX4_readAny 4 (some .boolean), .code yX4_readAll cX4_readAll 4 (some .boolean), .code yX4_readAtom cX4_readAtom 4 (some .boolean), .code yX4_readComparison cX4_readComparison 3 (some .boolean), .code yX4_readSum cX4_readSum 3 (some .boolean), .code yX4_readPart cX4_readPart 2 (some .boolean), .code yX4_addStep cX4_addStep 2 none, .fieldLink RX4 63 "SeaLand$Law" "stepped" "I", .fieldLink RX4 39 "SeaLand$Law" "steps" "[I", .methodLink RX4 179 yX4_addStep, .instanceMethod yX4_addStep, .selects RX4 yX4_addStep yX4_addStep, .initialized RX4, .methodLink RX4 192 yX4_readPart, .instanceMethod yX4_readPart, .selects RX4 yX4_readPart yX4_readPart, .code yX4_take cX4_take 2 (some .boolean), .methodLink RX4 70 yX4_take, .instanceMethod yX4_take, .selects RX4 yX4_take yX4_take, .methodLink RX4 189 yX4_readSum, .instanceMethod yX4_readSum, .selects RX4 yX4_readSum yX4_readSum, .methodLink RX4 186 yX4_readComparison, .instanceMethod yX4_readComparison, .selects RX4 yX4_readComparison yX4_readComparison, .methodLink RX4 183 yX4_readAtom, .instanceMethod yX4_readAtom, .selects RX4 yX4_readAtom yX4_readAtom, .methodLink RX4 176 yX4_readAll, .instanceMethod yX4_readAll, .selects RX4 yX4_readAll yX4_readAll, .methodLink RX4 173 yX4_readAny, .instanceMethod yX4_readAny, .selects RX4 yX4_readAny yX4_readAny] bs2)
set_option maxHeartbeats 4000000 in
set_option maxRecDepth 100000 in
theorem c_readAtom5 (l : Launch) (dC : Nat → ClassId) (dI : Nat → Nat → Nat) (kA : Nat → ClassId) (adK adV : Nat → Nat) (G : gT) (H0 : Heap) (nC nS : Int) (o0 : Nat) (th : Nat) (a0 : Int32) (vT : Nat → Int32) (tv ix_tv : Int32) (tn : Int32) (K : Nat → Int) (X pS : Nat → Nat) (hT : gH (dC, dI) kA (SHc nC nS) G H0) (hr_o0 : G o0 = some 7) (hm_th : el H0 o0 (dI 7 0) = some (.ref th)) (hr_th : G th = some 40) (hm_a0 : el H0 o0 (dI 7 13) = some (.int a0)) (hq0 : 0 ≤ tn.toInt ∧ tn.toInt ≤ 400) (hq1 : 0 ≤ a0.toInt ∧ a0.toInt ≤ 400) (hat : a0.toInt ≤ tn.toInt) (hKK : ∀ m : Nat, m ≤ tn.toNatClampNeg → (vT m).toInt = K (pS m)) (hXX : ∀ m : Nat, m < tn.toNatClampNeg → pS (m + 1) = X (pS m)) (hc_vT : ct H0 th 401 vT) (hx_tv : ix_tv.toInt = tn.toInt) (hm_tv : el H0 th ix_tv.toNatClampNeg = some (.int tv)) (hv_tv : 21 ≤ tv.toInt ∧ tv.toInt ≤ 21) (hgC : 0 ≤ nC ∧ nC ≤ 40) (hgS : 0 ≤ nS ∧ nS ≤ 60) : Met l yX4_readAtom w_c_readAtom5 ({ frames := 7, cells := 0, slots := 0, locals := 155 }) (va_Pc [.ref o0, .int 5] (fun U => U.heap = H0 ∧ va_K (dC, dI) vwCl (tyl kA) U ∧ EVC adK adV (gA G H0.size) U U.heap)) (va_Qi (fun (r : Int32) (u : Int32) => (0 ≤ u.toInt ∧ u.toInt ≤ 400) ∧ (0 ≤ r.toInt ∧ r.toInt ≤ 1) ∧ (a0.toInt ≤ u.toInt ∧ u.toInt ≤ tn.toInt) ∧ (aR K X 1 (pS a0.toNatClampNeg) r.toInt (pS u.toNatClampNeg))) (fun (a1 : Int32) (t : State) => gH (dC, dI) kA (SHc nC nS) G t.heap ∧ gF (dC, dI) SKc G ([(7, 12), (7, 13), (49, 0)] : List (Nat × Nat)) H0 t.heap ∧ el t.heap o0 (dI 7 13) = some (.int a1)) (gA G H0.size)) 0 0 (gA G H0.size) := by
  refine Met.ofW (cc := cX4_readAtom) (maxL := 4) (ret := (some .boolean)) (by decide) rfl ?_
  intro p e s m args below meth c s₁ B hml hv
  obtain ⟨rfl, hH0, hK, hE⟩ := hv
  have hx := B.exec
  have hb := B.bytes
  have hr := B.returns
  have hts := atoms_spec (ws := w_c_readAtom5) B.pre
  have hown : s.vm.findClass RX4 = some m.cls := findClass_of_methodNamed B.named
  have hlocks := B.notSynchronized
  subst hH0
  generalize hAe : gA G s.heap.size = A at hE ⊢
  have hA : ∀ q : Nat, s.heap.size ≤ q → A q := fun q h => by rw [← hAe]; exact Or.inr h
  have hG := gA_of hAe
  have hS : va_S A s.heap s.heap [] := va_S.rf
  have hF : gF (dC, dI) SKc G ([(7, 12), (7, 13), (49, 0)] : List (Nat × Nat)) s.heap s.heap := gF.rf
  have hl := lv_entry ([.ref o0, .int 5]) (n := 4) (Nat.le_of_ble_eq_true rfl)
  rw [lg_entry_eq]
  generalize (lg_sl ([.ref o0, .int 5]) ++ List.replicate (4 - (lg_sl ([.ref o0, .int 5])).length) Slot.unset).toArray = ls at hl ⊢
  have hl : lv_has ls 4 [(0, .ref o0), (1, .int 5)] := hl
  refine lv_aload_n hx hb dX4_readAtom_0 rfl (lv_at hl 0 rfl) ?_
  refine tw_getM (v := .ref th) hx hb hts bF2_X4 hown hK hT hr_o0 shc_7 rfl 0 (by decide) (ht_at2 hts 0 rfl) (fun _ h9 => h9) hm_th dX4_readAtom_1 ?_
  refine lv_aload_n hx hb dX4_readAtom_4 rfl (lv_at hl 0 rfl) ?_
  refine tw_getM (v := .int a0) hx hb hts bF2_X4 hown hK hT hr_o0 shc_7 rfl 13 (by decide) (ht_at2 hts 1 rfl) (fun _ h9 => h9) hm_a0 dX4_readAtom_5 ?_
  refine tw_iald (i := a0) hx hb hK hT hr_th shc_40 rfl (vin_t (a := a0.toInt) rfl (by omega) (by omega)) dX4_readAtom_8 (fun v9 m1 h9 => ?_)
  obtain ⟨x2, rfl, gx2, kx2⟩ := h9
  have cx2 := hc_vT.at m1 (by have q9 := tn_of (show a0.toInt = a0.toInt from rfl) (by omega); omega)
  have t3 : a0.toInt = ix_tv.toInt → x2.toInt = tv.toInt := fun h8 => congrArg Int32.toInt (el_same m1 hm_tv h8)
  have t4 : x2.toInt = K (pS a0.toNatClampNeg) := (congrArg Int32.toInt cx2).trans (hKK _ (by have := tn_of (show a0.toInt = a0.toInt from rfl) (by omega); have := tn_of (show tn.toInt = tn.toInt from rfl) (by omega); omega))
  refine lv_bipush (v := 13) hx hb dX4_readAtom_9 (by decide) ?_
  have t5 : -2147483648 ≤ x2.toInt ∧ x2.toInt ≤ 2147483647 := ti_all x2
  refine lv_icmp_ne (tgt := 18) hx hb dX4_readAtom_11 (by decide) (fun c6 => ?_) (fun c6 => ?_)
  · have t7 : x2.toInt ≠ 13 := ti_ne c6 rfl (by decide)
    refine lv_iconst (v := 0) hx hb dX4_readAtom_18 (by decide) ?_
    refine lv_istore_n (lv' := [(2, .int 0), (0, .ref o0), (1, .int 5)]) hx hb dX4_readAtom_19 rfl hl (by decide) rfl (fun ls hl => ?_)
    refine lv_iload_n hx hb dX4_readAtom_20 rfl (lv_at hl 0 rfl) ?_
    refine lv_if_ne (tgt := 43) hx hb dX4_readAtom_21 (by decide) (fun c8 => absurd c8 (by decide)) (fun c8 => ?_)
    refine lv_aload_n hx hb dX4_readAtom_24 rfl (lv_at hl 1 rfl) ?_
    refine tw_getM (v := .ref th) hx hb hts bF2_X4 hown hK hT hr_o0 shc_7 rfl 0 (by decide) (ht_at2 hts 0 rfl) (fun _ h9 => h9) hm_th dX4_readAtom_25 ?_
    refine lv_aload_n hx hb dX4_readAtom_28 rfl (lv_at hl 1 rfl) ?_
    refine tw_getM (v := .int a0) hx hb hts bF2_X4 hown hK hT hr_o0 shc_7 rfl 13 (by decide) (ht_at2 hts 1 rfl) (fun _ h9 => h9) hm_a0 dX4_readAtom_29 ?_
    refine tw_iald (i := a0) hx hb hK hT hr_th shc_40 rfl (vin_t (a := a0.toInt) rfl (by omega) (by omega)) dX4_readAtom_32 (fun v9 m9 h9 => ?_)
    obtain ⟨x10, rfl, gx10, kx10⟩ := h9
    have cx10 := hc_vT.at m9 (by have q9 := tn_of (show a0.toInt = a0.toInt from rfl) (by omega); omega)
    have t11 : a0.toInt = ix_tv.toInt → x10.toInt = tv.toInt := fun h8 => congrArg Int32.toInt (el_same m9 hm_tv h8)
    obtain rfl : x2 = x10 := (el_same m9 m1 rfl).symm
    refine lv_bipush (v := 16) hx hb dX4_readAtom_33 (by decide) ?_
    refine lv_icmp_eq (tgt := 43) hx hb dX4_readAtom_35 (by decide) (fun c12 => ?_) (fun c12 => ?_)
    · have t13 : x2.toInt = 16 := ti_eq c12 rfl (by decide)
      refine lv_iload_n hx hb dX4_readAtom_43 rfl (lv_at hl 2 rfl) ?_
      refine lv_bipush (v := 6) hx hb dX4_readAtom_44 (by decide) ?_
      refine lv_icmp_lt (tgt := 51) hx hb dX4_readAtom_46 (by decide) (fun c14 => ?_) (fun c14 => absurd c14 (by decide))
      refine lv_aload_n hx hb dX4_readAtom_51 rfl (lv_at hl 1 rfl) ?_
      refine lv_dup hx hb dX4_readAtom_52 rfl ?_
      refine tw_getM (v := .int a0) hx hb hts bF2_X4 hown hK hT hr_o0 shc_7 rfl 13 (by decide) (ht_at2 hts 1 rfl) (fun _ h9 => h9) hm_a0 dX4_readAtom_53 ?_
      refine lv_iconst (v := 1) hx hb dX4_readAtom_56 (by decide) ?_
      refine lv_iadd hx hb dX4_readAtom_57 ?_
      refine lv_topi (fun x15 ex15 => ?_)
      have t16 : x15.toInt = a0.toInt + 1 := ti_add ex15 rfl (by decide) (by omega) (by omega)
      refine tw_put (v := .int x15) (ty := .int) hx hb hts bF2_X4 tyX4 tyX4_ok nmX4 hown hK hT hG hS hr_o0 shc_7 rfl 13 (by decide) (ht_at2 hts 1 rfl) (fun _ h9 => h9) rfl (by decide +kernel) rfl rfl (gl_at rfl (gi_of (show x15.toInt = x15.toInt from rfl) (by omega) (by omega))) dX4_readAtom_58 (fun H locs hT oq m17 oj hS => ?_)
      have hF := hF.put hr_o0 skc_7 oq oj (by decide)
      have m18 := (oj 0 (by decide) (by decide)).trans hm_th
      have m19 := hc_vT.kept (oq _ (gne hr_th hr_o0 (by decide)))
      have m20 := (el_kept (oq _ (gne hr_th hr_o0 (by decide)))).trans hm_tv
      refine lv_iload_n hx hb dX4_readAtom_61 rfl (lv_at hl 0 rfl) ?_
      refine lv_if_eq (tgt := 81) hx hb dX4_readAtom_62 (by decide) (fun c22 => ?_) (fun c22 => absurd c22 (by decide))
      refine lv_aload_n hx hb dX4_readAtom_81 rfl (lv_at hl 1 rfl) ?_
      refine lv_iload_n hx hb dX4_readAtom_82 rfl (lv_at hl 2 rfl) ?_
      refine lv_iconst (v := 1) hx hb dX4_readAtom_83 (by decide) ?_
      refine lv_iadd hx hb dX4_readAtom_84 ?_
      refine lv_topi (fun x23 ex23 => ?_)
      obtain rfl : x23 = 6 := ex23.trans (by decide)
      have hFc := gA_free hG hA hS
      refine va_calli (va_runV (As := [.int 6]) (rest := []) ⟨hx, hb, hml, hown, hts⟩ (c_readAny6 l dC dI kA adK adV G H nC nS o0 th x15 vT tv ix_tv ix_tv K X pS hT hr_o0 m18 hr_th m17 (by have q8 := ti_all ix_tv; omega) (by have q8 := ti_all x15; omega) (by have := (show x15.toInt = x15.toInt from rfl); have := (show ix_tv.toInt = ix_tv.toInt from rfl); omega) (fun m hm => hKK m (Nat.le_trans hm (Nat.le_of_eq (tn_same hx_tv rfl rfl)))) (fun m hm => hXX m (Nat.lt_of_lt_of_eq hm (tn_same hx_tv rfl rfl))) m19 (by have q9 := (show ix_tv.toInt = ix_tv.toInt from rfl); have := (show ix_tv.toInt = ix_tv.toInt from rfl); omega) m20 (by have q8 := ti_all tv; omega) (by omega) (by omega)) (cwV 1 hts (goodIn_app (goodIn_r _ [35, 36, 37, 15] rfl (by decide +kernel)) (goodIn_ca (goodIn_r _ [3, 4, 5, 1, 2, 6, 7, 8, 9, 10, 11, 12, 13, 14, 15, 16, 17, 18, 19, 20, 21, 22, 23, 24, 25, 26, 27, 28, 29, 30, 31, 32, 33, 34] rfl (by decide +kernel)) (bs2_in _ _))) rfl rfl rfl (by decide +kernel) ⟨(Nat.le_of_ble_eq_true rfl), (Nat.le_of_ble_eq_true rfl)⟩) ⟨fun a U g mk q => by obtain ⟨q0, q1, qK, qE⟩ := q; exact ⟨q0, q1, va_K.moved (u := U) (U := U.calling g mk a) (Vm.Alike.refl U.vm) qK, EVC.blind g mk a qE⟩, gH_rc hK hT hr_o0 shc_7 rfl, fun U hU hW => ⟨rfl, hU, va_K.moved hW.alike hK, hE.call hS hFc hU hW⟩⟩ rfl rfl hl.1 rfl (lv_room (Nat.le_of_ble_eq_true rfl)) dX4_readAtom_85 ⟨(Nat.le_of_ble_eq_true rfl), (Nat.le_of_ble_eq_true rfl)⟩) hS (fun q _ h => hFc q h) hFc (fun r24 u t H locs ht hvm hw25 hB _ _ hS => ?_)
      obtain ⟨u26, rfl⟩ : ∃ z, z = u := ⟨_, rfl⟩
      obtain ⟨hT, hF1, m27⟩ := hB
      rw [ht] at hT hF1 m27
      have m28 := (hF1.fld hr_o0 skc_7 (k := 0) (by decide) (by decide)).trans m18
      have m29 := m19.kept (hF1.arr hr_th skc_40 (by decide))
      have m30 := (el_kept (hF1.arr hr_th skc_40 (by decide))).trans m20
      have hF := hF.more hF1 (by decide)
      try dsimp only at hw25
      obtain ⟨h33, h34, hf35, hf36⟩ := hw25
      refine lv_if_eq (tgt := 104) hx hb dX4_readAtom_88 (by decide) (fun c37 => ?_) (fun c37 => ?_)
      · have t38 : r24.toInt = 0 := ti_eq c37 rfl (by decide)
        refine lv_iconst (v := 0) hx hb dX4_readAtom_104 (by decide) ?_
        exact W.zret (v := 0) hx hb hr (by decide) (fun t ht hW => ⟨⟨0, u26, rfl, (by exact ⟨(by have q8 := ti_all u26; omega), (rg_t (a := 0) (by decide) (by first | decide | omega) (by first | decide | omega)), (by omega), (by have h9 := hf36; rw [(show pS x15.toNatClampNeg = X (pS a0.toNatClampNeg) from by rw [show x15.toNatClampNeg = a0.toNatClampNeg + 1 from by have := tn_of (show a0.toInt = a0.toInt from rfl) (by omega); have := tn_of (show x15.toInt = x15.toInt from rfl) (by omega); omega]; exact hXX _ (by have := tn_of (show a0.toInt = a0.toInt from rfl) (by omega); have := tn_of (show tn.toInt = tn.toInt from rfl) (by omega); omega))] at h9; rw [show r24.toInt = 0 from by omega] at h9; exact Or.inr (Or.inl ⟨by omega, Or.inl ⟨h9, by decide⟩⟩))⟩), by (try dsimp only); rw [ht]; exact ⟨hT, hF, m27⟩⟩, hS.F ht⟩) hS.2.2 dX4_readAtom_105
      · have t39 : r24.toInt ≠ 0 := ti_ne c37 rfl (by decide)
        refine lv_aload_n hx hb dX4_readAtom_91 rfl (lv_at hl 1 rfl) ?_
        refine lv_bipush (v := 17) hx hb dX4_readAtom_92 (by decide) ?_
        have hFc := gA_free hG hA hS
        refine va_calli (va_runV (As := [.int 17]) (rest := []) ⟨hx, hb, hml, hown, hts⟩ (c_take l dC dI kA adK adV G H nC nS o0 17 th u26 vT tv ix_tv ix_tv K X pS hT hr_o0 m28 hr_th m27 (by have q8 := ti_all ix_tv; omega) (by have q8 := ti_all u26; omega) (by have := (show u26.toInt = u26.toInt from rfl); have := (show ix_tv.toInt = ix_tv.toInt from rfl); omega) (by have := (show (17 : Int32).toInt = 17 from (by decide)); omega) (fun m hm => hKK m (Nat.le_trans hm (Nat.le_of_eq (tn_same hx_tv rfl rfl)))) (fun m hm => hXX m (Nat.lt_of_lt_of_eq hm (tn_same hx_tv rfl rfl))) m29 (by have q9 := (show ix_tv.toInt = ix_tv.toInt from rfl); have := (show ix_tv.toInt = ix_tv.toInt from rfl); omega) m30 (by have q8 := ti_all tv; omega) (by omega) (by omega)) (cwV 1 hts (goodIn_app (goodIn_r _ [20, 21, 22, 15] rfl (by decide +kernel)) (goodIn_ca (goodIn_r _ [19, 1, 2] rfl (by decide +kernel)) (bs2_in _ _))) rfl rfl rfl (by decide +kernel) ⟨(Nat.le_of_ble_eq_true rfl), (Nat.le_of_ble_eq_true rfl)⟩) ⟨fun a U g mk q => by obtain ⟨q0, q1, qK, qE⟩ := q; exact ⟨q0, q1, va_K.moved (u := U) (U := U.calling g mk a) (Vm.Alike.refl U.vm) qK, EVC.blind g mk a qE⟩, gH_rc hK hT hr_o0 shc_7 rfl, fun U hU hW => ⟨rfl, hU, va_K.moved hW.alike hK, hE.call hS hFc hU hW⟩⟩ rfl rfl hl.1 rfl (lv_room (Nat.le_of_ble_eq_true rfl)) dX4_readAtom_94 ⟨(Nat.le_of_ble_eq_true rfl), (Nat.le_of_ble_eq_true rfl)⟩) hS (fun q _ h => hFc q h) hFc (fun r40 u t H locs ht hvm hw41 hB _ _ hS => ?_)
        obtain ⟨u42, rfl⟩ : ∃ z, z = u := ⟨_, rfl⟩
        obtain ⟨hT, hF1, m43⟩ := hB
        rw [ht] at hT hF1 m43
        have hF := hF.more hF1 (by decide)
        try dsimp only at hw41
        obtain ⟨h49, h50, hf51, hf52, hf53⟩ := hw41
        refine lv_if_eq (tgt := 104) hx hb dX4_readAtom_97 (by decide) (fun c54 => ?_) (fun c54 => ?_)
        · have t55 : r40.toInt = 0 := ti_eq c54 rfl (by decide)
          refine lv_iconst (v := 0) hx hb dX4_readAtom_104 (by decide) ?_
          exact W.zret (v := 0) hx hb hr (by decide) (fun t ht hW => ⟨⟨0, u42, rfl, (by exact ⟨(by have q8 := ti_all u42; omega), (rg_t (a := 0) (by decide) (by first | decide | omega) (by first | decide | omega)), (by omega), (by have h9 := hf36; rw [(show pS x15.toNatClampNeg = X (pS a0.toNatClampNeg) from by rw [show x15.toNatClampNeg = a0.toNatClampNeg + 1 from by have := tn_of (show a0.toInt = a0.toInt from rfl) (by omega); have := tn_of (show x15.toInt = x15.toInt from rfl) (by omega); omega]; exact hXX _ (by have := tn_of (show a0.toInt = a0.toInt from rfl) (by omega); have := tn_of (show tn.toInt = tn.toInt from rfl) (by omega); omega))] at h9; rw [show r24.toInt = 1 from by omega] at h9; have t9 := hf52; exact Or.inr (Or.inl ⟨by omega, Or.inr ⟨_, h9, (by have q0 : (0 : Int32).toInt = 0 := (by decide); have q1 : (1 : Int32).toInt = 1 := (by decide); rcases t9 with ⟨x1, x2, x3⟩ | ⟨x1, x2, x3⟩; (exact Or.inl ⟨x1.trans (by decide), by omega, x3⟩); exact Or.inr ⟨fun h7 => x1 (h7.trans (by decide)), by omega, x3⟩)⟩⟩))⟩), by (try dsimp only); rw [ht]; exact ⟨hT, hF, m43⟩⟩, hS.F ht⟩) hS.2.2 dX4_readAtom_105
        · have t56 : r40.toInt ≠ 0 := ti_ne c54 rfl (by decide)
          refine lv_iconst (v := 1) hx hb dX4_readAtom_100 (by decide) ?_
          refine lv_goto (tgt := 105) hx hb dX4_readAtom_101 (by decide) ?_
          exact W.zret (v := 1) hx hb hr (by decide) (fun t ht hW => ⟨⟨1, u42, rfl, (by exact ⟨(by have q8 := ti_all u42; omega), (rg_t (a := 1) (by decide) (by first | decide | omega) (by first | decide | omega)), (by omega), (by have h9 := hf36; rw [(show pS x15.toNatClampNeg = X (pS a0.toNatClampNeg) from by rw [show x15.toNatClampNeg = a0.toNatClampNeg + 1 from by have := tn_of (show a0.toInt = a0.toInt from rfl) (by omega); have := tn_of (show x15.toInt = x15.toInt from rfl) (by omega); omega]; exact hXX _ (by have := tn_of (show a0.toInt = a0.toInt from rfl) (by omega); have := tn_of (show tn.toInt = tn.toInt from rfl) (by omega); omega))] at h9; rw [show r24.toInt = 1 from by omega] at h9; have t9 := hf52; exact Or.inr (Or.inl ⟨by omega, Or.inr ⟨_, h9, (by have q0 : (0 : Int32).toInt = 0 := (by decide); have q1 : (1 : Int32).toInt = 1 := (by decide); rcases t9 with ⟨x1, x2, x3⟩ | ⟨x1, x2, x3⟩; (exact Or.inl ⟨x1.trans (by decide), by omega, x3⟩); exact Or.inr ⟨fun h7 => x1 (h7.trans (by decide)), by omega, x3⟩)⟩⟩))⟩), by (try dsimp only); rw [ht]; exact ⟨hT, hF, m43⟩⟩, hS.F ht⟩) hS.2.2 dX4_readAtom_105
    · have t57 : x2.toInt ≠ 16 := ti_ne c12 rfl (by decide)
      refine lv_aload_n hx hb dX4_readAtom_38 rfl (lv_at hl 1 rfl) ?_
      have hFc := gA_free hG hA hS
      refine va_calli (va_runV (As := []) (rest := []) ⟨hx, hb, hml, hown, hts⟩ (c_readComparison l dC dI kA adK adV G s.heap nC nS o0 th a0 vT tv ix_tv ix_tv K X pS hT hr_o0 hm_th hr_th hm_a0 (by have q8 := ti_all ix_tv; omega) (by have q8 := ti_all a0; omega) (by have := (show a0.toInt = a0.toInt from rfl); have := (show ix_tv.toInt = ix_tv.toInt from rfl); omega) (fun m hm => hKK m (Nat.le_trans hm (Nat.le_of_eq (tn_same hx_tv rfl rfl)))) (fun m hm => hXX m (Nat.lt_of_lt_of_eq hm (tn_same hx_tv rfl rfl))) hc_vT (by have q9 := (show ix_tv.toInt = ix_tv.toInt from rfl); have := (show ix_tv.toInt = ix_tv.toInt from rfl); omega) hm_tv (by have q8 := ti_all tv; omega) (by omega) (by omega)) (cwV 0 hts (goodIn_app (goodIn_r _ [26, 27, 28, 15] rfl (by decide +kernel)) (goodIn_ca (goodIn_r _ [6, 7, 8, 1, 2, 9, 10, 11, 12, 13, 14, 15, 16, 17, 18, 19, 20, 21, 22, 23, 24, 25] rfl (by decide +kernel)) (bs2_in _ _))) rfl rfl rfl (by decide +kernel) ⟨(Nat.le_of_ble_eq_true rfl), (Nat.le_of_ble_eq_true rfl)⟩) ⟨fun a U g mk q => by obtain ⟨q0, q1, qK, qE⟩ := q; exact ⟨q0, q1, va_K.moved (u := U) (U := U.calling g mk a) (Vm.Alike.refl U.vm) qK, EVC.blind g mk a qE⟩, gH_rc hK hT hr_o0 shc_7 rfl, fun U hU hW => ⟨rfl, hU, va_K.moved hW.alike hK, hE.call hS hFc hU hW⟩⟩ rfl rfl hl.1 rfl (lv_room (Nat.le_of_ble_eq_true rfl)) dX4_readAtom_39 ⟨(Nat.le_of_ble_eq_true rfl), (Nat.le_of_ble_eq_true rfl)⟩) hS (fun q _ h => hFc q h) hFc (fun r58 u t H locs ht hvm hw59 hB _ _ hS => ?_)
      obtain ⟨u60, rfl⟩ : ∃ z, z = u := ⟨_, rfl⟩
      obtain ⟨hT, hF1, m61⟩ := hB
      rw [ht] at hT hF1 m61
      have hF := hF.more hF1 (by decide)
      try dsimp only at hw59
      obtain ⟨h67, h68, hf69, hf70⟩ := hw59
      exact W.zret (v := r58) hx hb hr (nar_b (by have q8 := ti_all r58; omega)) (fun t ht hW => ⟨⟨r58, u60, rfl, (by exact ⟨(by have q8 := ti_all u60; omega), (by have q8 := ti_all r58; omega), (by omega), (Or.inr (Or.inr ⟨by omega, hf70⟩))⟩), by (try dsimp only); rw [ht]; exact ⟨hT, hF, m61⟩⟩, hS.F ht⟩) hS.2.2 dX4_readAtom_42
  · have t71 : x2.toInt = 13 := ti_eq c6 rfl (by decide)
    refine lv_iconst (v := 1) hx hb dX4_readAtom_14 (by decide) ?_
    refine lv_goto (tgt := 19) hx hb dX4_readAtom_15 (by decide) ?_
    refine lv_istore_n (lv' := [(2, .int 1), (0, .ref o0), (1, .int 5)]) hx hb dX4_readAtom_19 rfl hl (by decide) rfl (fun ls hl => ?_)
    refine lv_iload_n hx hb dX4_readAtom_20 rfl (lv_at hl 0 rfl) ?_
    refine lv_if_ne (tgt := 43) hx hb dX4_readAtom_21 (by decide) (fun c72 => ?_) (fun c72 => absurd c72 (by decide))
    refine lv_iload_n hx hb dX4_readAtom_43 rfl (lv_at hl 2 rfl) ?_
    refine lv_bipush (v := 6) hx hb dX4_readAtom_44 (by decide) ?_
    refine lv_icmp_lt (tgt := 51) hx hb dX4_readAtom_46 (by decide) (fun c73 => ?_) (fun c73 => absurd c73 (by decide))
    refine lv_aload_n hx hb dX4_readAtom_51 rfl (lv_at hl 1 rfl) ?_
    refine lv_dup hx hb dX4_readAtom_52 rfl ?_
    refine tw_getM (v := .int a0) hx hb hts bF2_X4 hown hK hT hr_o0 shc_7 rfl 13 (by decide) (ht_at2 hts 1 rfl) (fun _ h9 => h9) hm_a0 dX4_readAtom_53 ?_
    refine lv_iconst (v := 1) hx hb dX4_readAtom_56 (by decide) ?_
    refine lv_iadd hx hb dX4_readAtom_57 ?_
    refine lv_topi (fun x74 ex74 => ?_)
    have t75 : x74.toInt = a0.toInt + 1 := ti_add ex74 rfl (by decide) (by omega) (by omega)
    refine tw_put (v := .int x74) (ty := .int) hx hb hts bF2_X4 tyX4 tyX4_ok nmX4 hown hK hT hG hS hr_o0 shc_7 rfl 13 (by decide) (ht_at2 hts 1 rfl) (fun _ h9 => h9) rfl (by decide +kernel) rfl rfl (gl_at rfl (gi_of (show x74.toInt = x74.toInt from rfl) (by omega) (by omega))) dX4_readAtom_58 (fun H locs hT oq m76 oj hS => ?_)
    have hF := hF.put hr_o0 skc_7 oq oj (by decide)
    have m77 := (oj 0 (by decide) (by decide)).trans hm_th
    have m78 := hc_vT.kept (oq _ (gne hr_th hr_o0 (by decide)))
    have m79 := (el_kept (oq _ (gne hr_th hr_o0 (by decide)))).trans hm_tv
    refine lv_iload_n hx hb dX4_readAtom_61 rfl (lv_at hl 0 rfl) ?_
    refine lv_if_eq (tgt := 81) hx hb dX4_readAtom_62 (by decide) (fun c81 => absurd c81 (by decide)) (fun c81 => ?_)
    refine lv_aload_n hx hb dX4_readAtom_65 rfl (lv_at hl 1 rfl) ?_
    refine lv_iload_n hx hb dX4_readAtom_66 rfl (lv_at hl 2 rfl) ?_
    refine lv_iconst (v := 1) hx hb dX4_readAtom_67 (by decide) ?_
    refine lv_iadd hx hb dX4_readAtom_68 ?_
    refine lv_topi (fun x82 ex82 => ?_)
    obtain rfl : x82 = 6 := ex82.trans (by decide)
    have hFc := gA_free hG hA hS
    refine va_calli (va_runV (As := [.int 6]) (rest := []) ⟨hx, hb, hml, hown, hts⟩ (c_readAtom6 l dC dI kA adK adV G H nC nS o0 th x74 vT tv ix_tv ix_tv K X pS hT hr_o0 m77 hr_th m76 (by have q8 := ti_all ix_tv; omega) (by have q8 := ti_all x74; omega) (by have := (show x74.toInt = x74.toInt from rfl); have := (show ix_tv.toInt = ix_tv.toInt from rfl); omega) (fun m hm => hKK m (Nat.le_trans hm (Nat.le_of_eq (tn_same hx_tv rfl rfl)))) (fun m hm => hXX m (Nat.lt_of_lt_of_eq hm (tn_same hx_tv rfl rfl))) m78 (by have q9 := (show ix_tv.toInt = ix_tv.toInt from rfl); have := (show ix_tv.toInt = ix_tv.toInt from rfl); omega) m79 (by have q8 := ti_all tv; omega) (by omega) (by omega)) (cwV 1 hts (goodIn_app (goodIn_r _ [29, 30, 31, 15] rfl (by decide +kernel)) (goodIn_ca (goodIn_r _ [5, 1, 2, 6, 7, 8, 9, 10, 11, 12, 13, 14, 15, 16, 17, 18, 19, 20, 21, 22, 23, 24, 25, 26, 27, 28] rfl (by decide +kernel)) (bs2_in _ _))) rfl rfl rfl (by decide +kernel) ⟨(Nat.le_of_ble_eq_true rfl), (Nat.le_of_ble_eq_true rfl)⟩) ⟨fun a U g mk q => by obtain ⟨q0, q1, qK, qE⟩ := q; exact ⟨q0, q1, va_K.moved (u := U) (U := U.calling g mk a) (Vm.Alike.refl U.vm) qK, EVC.blind g mk a qE⟩, gH_rc hK hT hr_o0 shc_7 rfl, fun U hU hW => ⟨rfl, hU, va_K.moved hW.alike hK, hE.call hS hFc hU hW⟩⟩ rfl rfl hl.1 rfl (lv_room (Nat.le_of_ble_eq_true rfl)) dX4_readAtom_69 ⟨(Nat.le_of_ble_eq_true rfl), (Nat.le_of_ble_eq_true rfl)⟩) hS (fun q _ h => hFc q h) hFc (fun r83 u t H locs ht hvm hw84 hB _ _ hS => ?_)
    obtain ⟨u85, rfl⟩ : ∃ z, z = u := ⟨_, rfl⟩
    obtain ⟨hT, hF1, m86⟩ := hB
    rw [ht] at hT hF1 m86
    have hF := hF.more hF1 (by decide)
    try dsimp only at hw84
    obtain ⟨h92, h93, hf94, hf95⟩ := hw84
    refine lv_istore_n (lv' := [(3, .int r83), (2, .int 1), (0, .ref o0), (1, .int 5)]) hx hb dX4_readAtom_72 rfl hl (by decide) rfl (fun ls hl => ?_)
    refine lv_aload_n hx hb dX4_readAtom_73 rfl (lv_at hl 2 rfl) ?_
    refine lv_bipush (v := 13) hx hb dX4_readAtom_74 (by decide) ?_
    have hFc := gA_free hG hA hS
    refine va_callv (va_runV (As := [.int 13]) (rest := []) ⟨hx, hb, hml, hown, hts⟩ (c_addStep l dC dI kA adK adV G H nC nS o0 13 hT hr_o0 (rg_t (a := 13) (by decide) (by first | decide | omega) (by first | decide | omega)) (by omega) (by omega)) (cwV 1 hts (goodIn_app (goodIn_r _ [12, 13, 14, 15] rfl (by decide +kernel)) (goodIn_ca (goodIn_r _ [9, 10, 11] rfl (by decide +kernel)) (bs2_in _ _))) rfl rfl rfl (by decide +kernel) ⟨(Nat.le_of_ble_eq_true rfl), (Nat.le_of_ble_eq_true rfl)⟩) ⟨fun a U g mk q => by obtain ⟨q0, q1, qK, qE⟩ := q; exact ⟨q0, q1, va_K.moved (u := U) (U := U.calling g mk a) (Vm.Alike.refl U.vm) qK, EVC.blind g mk a qE⟩, gH_rc hK hT hr_o0 shc_7 rfl, fun U hU hW => ⟨rfl, hU, va_K.moved hW.alike hK, hE.call hS hFc hU hW⟩⟩ rfl rfl hl.1 rfl (lv_room (Nat.le_of_ble_eq_true rfl)) dX4_readAtom_76 ⟨(Nat.le_of_ble_eq_true rfl), (Nat.le_of_ble_eq_true rfl)⟩) hS (fun q _ h => hFc q h) hFc (fun u t H locs ht hvm hw97 hB _ _ hS => ?_)
    obtain ⟨hT, hF1⟩ := hB
    rw [ht] at hT hF1
    have m102 := (hF1.fld hr_o0 skc_7 (k := 13) (by decide) (by decide)).trans m86
    have hF := hF.more hF1 (by decide)
    try dsimp only at hw97
    refine lv_iload_n hx hb dX4_readAtom_79 rfl (lv_at hl 0 rfl) ?_
    exact W.zret (v := r83) hx hb hr (nar_b (by have q8 := ti_all r83; omega)) (fun t ht hW => ⟨⟨r83, u85, rfl, (by exact ⟨(by have q8 := ti_all u85; omega), (by have q8 := ti_all r83; omega), (by omega), (by have h9 := hf95; rw [(show pS x74.toNatClampNeg = X (pS a0.toNatClampNeg) from by rw [show x74.toNatClampNeg = a0.toNatClampNeg + 1 from by have := tn_of (show a0.toInt = a0.toInt from rfl) (by omega); have := tn_of (show x74.toInt = x74.toInt from rfl) (by omega); omega]; exact hXX _ (by have := tn_of (show a0.toInt = a0.toInt from rfl) (by omega); have := tn_of (show tn.toInt = tn.toInt from rfl) (by omega); omega))] at h9; exact Or.inl ⟨by omega, h9⟩)⟩), by (try dsimp only); rw [ht]; exact ⟨hT, hF, m102⟩⟩, hS.F ht⟩) hS.2.2 dX4_readAtom_80
def w_c_readAll5 : List Cond := .code yX4_readAll cX4_readAll 4 (some .boolean) :: (HAppend.hAppend (α := List Cond) (β := List Cond) (γ := List Cond) [.code yX4_readAtom cX4_readAtom 4 (some .boolean), .fieldLink RX4 11 "SeaLand$Law" "things" "[I", .fieldLink RX4 56 "SeaLand$Law" "at" "I", .code yX4_readAny cX4_readAny 4 (some .boolean), .code yX4_readAll cX4_readAll 4 (some .boolean), .code yX4_readComparison cX4_readComparison 3 (some .boolean), .code yX4_readSum cX4_readSum 3 (some .boolean), .code yX4_readPart cX4_readPart 2 (some .boolean), .code yX4_addStep cX4_addStep 2 none, .fieldLink RX4 63 "SeaLand$Law" "stepped" "I", .fieldLink RX4 39 "SeaLand$Law" "steps" "[I", .methodLink RX4 179 yX4_addStep, .instanceMethod yX4_addStep, .selects RX4 yX4_addStep yX4_addStep, .initialized RX4, .methodLink RX4 192 yX4_readPart, .instanceMethod yX4_readPart, .selects RX4 yX4_readPart yX4_readPart, .code yX4_take cX4_take 2 (some .boolean), .methodLink RX4 70 yX4_take, .instanceMethod yX4_take, .selects RX4 yX4_take yX4_take, .methodLink RX4 189 yX4_readSum, .instanceMethod yX4_readSum, .selects RX4 yX4_readSum yX4_readSum, .methodLink RX4 186 yX4_readComparison, .instanceMethod yX4_readComparison, .selects RX4 yX4_readComparison yX4_readComparison, .methodLink RX4 183 yX4_readAtom, .instanceMethod yX4_readAtom, .selects RX4 yX4_readAtom yX4_readAtom, .methodLink RX4 176 yX4_readAll, .instanceMethod yX4_readAll, .selects RX4 yX4_readAll yX4_readAll, .methodLink RX4 173 yX4_readAny, .instanceMethod yX4_readAny, .selects RX4 yX4_readAny yX4_readAny] bs2)
set_option maxHeartbeats 4000000 in
set_option maxRecDepth 100000 in
theorem c_readAll5 (l : Launch) (dC : Nat → ClassId) (dI : Nat → Nat → Nat) (kA : Nat → ClassId) (adK adV : Nat → Nat) (G : gT) (H0 : Heap) (nC nS : Int) (o0 : Nat) (th : Nat) (a0 : Int32) (vT : Nat → Int32) (tv ix_tv : Int32) (tn : Int32) (K : Nat → Int) (X pS : Nat → Nat) (hT : gH (dC, dI) kA (SHc nC nS) G H0) (hr_o0 : G o0 = some 7) (hm_th : el H0 o0 (dI 7 0) = some (.ref th)) (hr_th : G th = some 40) (hm_a0 : el H0 o0 (dI 7 13) = some (.int a0)) (hq0 : 0 ≤ tn.toInt ∧ tn.toInt ≤ 400) (hq1 : 0 ≤ a0.toInt ∧ a0.toInt ≤ 400) (hat : a0.toInt ≤ tn.toInt) (hKK : ∀ m : Nat, m ≤ tn.toNatClampNeg → (vT m).toInt = K (pS m)) (hXX : ∀ m : Nat, m < tn.toNatClampNeg → pS (m + 1) = X (pS m)) (hc_vT : ct H0 th 401 vT) (hx_tv : ix_tv.toInt = tn.toInt) (hm_tv : el H0 th ix_tv.toNatClampNeg = some (.int tv)) (hv_tv : 21 ≤ tv.toInt ∧ tv.toInt ≤ 21) (hgC : 0 ≤ nC ∧ nC ≤ 40) (hgS : 0 ≤ nS ∧ nS ≤ 60) : Met l yX4_readAll w_c_readAll5 ({ frames := 8, cells := 0, slots := 0, locals := 178 }) (va_Pc [.ref o0, .int 5] (fun U => U.heap = H0 ∧ va_K (dC, dI) vwCl (tyl kA) U ∧ EVC adK adV (gA G H0.size) U U.heap)) (va_Qi (fun (r : Int32) (u : Int32) => (0 ≤ u.toInt ∧ u.toInt ≤ 400) ∧ (0 ≤ r.toInt ∧ r.toInt ≤ 1) ∧ (a0.toInt ≤ u.toInt ∧ u.toInt ≤ tn.toInt) ∧ (lpR K X (aR K X 1) 14 (pS a0.toNatClampNeg) r.toInt (pS u.toNatClampNeg))) (fun (a1 : Int32) (t : State) => gH (dC, dI) kA (SHc nC nS) G t.heap ∧ gF (dC, dI) SKc G ([(7, 12), (7, 13), (49, 0)] : List (Nat × Nat)) H0 t.heap ∧ el t.heap o0 (dI 7 13) = some (.int a1)) (gA G H0.size)) 0 0 (gA G H0.size) := by
  refine Met.ofW (cc := cX4_readAll) (maxL := 4) (ret := (some .boolean)) (by decide) rfl ?_
  intro p e s m args below meth c s₁ B hml hv
  obtain ⟨rfl, hH0, hK, hE⟩ := hv
  have hx := B.exec
  have hb := B.bytes
  have hr := B.returns
  have hts := atoms_spec (ws := w_c_readAll5) B.pre
  have hown : s.vm.findClass RX4 = some m.cls := findClass_of_methodNamed B.named
  have hlocks := B.notSynchronized
  subst hH0
  generalize hAe : gA G s.heap.size = A at hE ⊢
  have hA : ∀ q : Nat, s.heap.size ≤ q → A q := fun q h => by rw [← hAe]; exact Or.inr h
  have hG := gA_of hAe
  have hS : va_S A s.heap s.heap [] := va_S.rf
  have hF : gF (dC, dI) SKc G ([(7, 12), (7, 13), (49, 0)] : List (Nat × Nat)) s.heap s.heap := gF.rf
  have hl := lv_entry ([.ref o0, .int 5]) (n := 4) (Nat.le_of_ble_eq_true rfl)
  rw [lg_entry_eq]
  generalize (lg_sl ([.ref o0, .int 5]) ++ List.replicate (4 - (lg_sl ([.ref o0, .int 5])).length) Slot.unset).toArray = ls at hl ⊢
  have hl : lv_has ls 4 [(0, .ref o0), (1, .int 5)] := hl
  refine lv_aload_n hx hb dX4_readAll_0 rfl (lv_at hl 0 rfl) ?_
  refine lv_iload_n hx hb dX4_readAll_1 rfl (lv_at hl 1 rfl) ?_
  have hFc := gA_free hG hA hS
  refine va_calli (va_runV (As := [.int 5]) (rest := []) ⟨hx, hb, hml, hown, hts⟩ (c_readAtom5 l dC dI kA adK adV G s.heap nC nS o0 th a0 vT tv ix_tv ix_tv K X pS hT hr_o0 hm_th hr_th hm_a0 (by have q8 := ti_all ix_tv; omega) (by have q8 := ti_all a0; omega) (by have := (show a0.toInt = a0.toInt from rfl); have := (show ix_tv.toInt = ix_tv.toInt from rfl); omega) (fun m hm => hKK m (Nat.le_trans hm (Nat.le_of_eq (tn_same hx_tv rfl rfl)))) (fun m hm => hXX m (Nat.lt_of_lt_of_eq hm (tn_same hx_tv rfl rfl))) hc_vT (by have q9 := (show ix_tv.toInt = ix_tv.toInt from rfl); have := (show ix_tv.toInt = ix_tv.toInt from rfl); omega) hm_tv (by have q8 := ti_all tv; omega) (by omega) (by omega)) (cwV 1 hts (goodIn_app (goodIn_r _ [29, 30, 31, 15] rfl (by decide +kernel)) (goodIn_ca (goodIn_r _ [1, 2, 3, 4, 5, 1, 6, 7, 8, 9, 10, 11, 12, 13, 14, 15, 16, 17, 18, 19, 20, 21, 22, 23, 24, 25, 26, 27, 28, 29, 30, 31, 32, 33, 34, 35, 36, 37] rfl (by decide +kernel)) (bs2_in _ _))) rfl rfl rfl (by decide +kernel) ⟨(Nat.le_of_ble_eq_true rfl), (Nat.le_of_ble_eq_true rfl)⟩) ⟨fun a U g mk q => by obtain ⟨q0, q1, qK, qE⟩ := q; exact ⟨q0, q1, va_K.moved (u := U) (U := U.calling g mk a) (Vm.Alike.refl U.vm) qK, EVC.blind g mk a qE⟩, gH_rc hK hT hr_o0 shc_7 rfl, fun U hU hW => ⟨rfl, hU, va_K.moved hW.alike hK, hE.call hS hFc hU hW⟩⟩ rfl rfl hl.1 rfl (lv_room (Nat.le_of_ble_eq_true rfl)) dX4_readAll_2 ⟨(Nat.le_of_ble_eq_true rfl), (Nat.le_of_ble_eq_true rfl)⟩) hS (fun q _ h => hFc q h) hFc (fun r1 u t H locs ht hvm hw2 hB _ _ hS => ?_)
  obtain ⟨u3, rfl⟩ : ∃ z, z = u := ⟨_, rfl⟩
  obtain ⟨hT, hF1, m4⟩ := hB
  rw [ht] at hT hF1 m4
  have m5 := (hF1.fld hr_o0 skc_7 (k := 0) (by decide) (by decide)).trans hm_th
  have m7 := hc_vT.kept (hF1.arr hr_th skc_40 (by decide))
  have m8 := (el_kept (hF1.arr hr_th skc_40 (by decide))).trans hm_tv
  have hF := hF.more hF1 (by decide)
  try dsimp only at hw2
  obtain ⟨h9, h10, hf11, hf12⟩ := hw2
  refine lv_istore_n (lv' := [(2, .int r1), (0, .ref o0), (1, .int 5)]) hx hb dX4_readAll_5 rfl hl (by decide) rfl (fun ls hl => ?_)
  refine lv_iconst (v := 0) hx hb dX4_readAll_6 (by decide) ?_
  refine lv_istore_n (lv' := [(3, .int 0), (2, .int r1), (0, .ref o0), (1, .int 5)]) hx hb dX4_readAll_7 rfl hl (by decide) rfl (fun ls hl => ?_)
  have key63 : ∀ (n63 i13 : Nat), i13 + n63 = 400 → 0 ≤ i13 → ∀ (z14 : Int32), ∀ (z19 : Int32), ((0 ≤ z14.toInt ∧ z14.toInt ≤ 1) ∧ (0 ≤ z19.toInt ∧ z19.toInt ≤ 400) ∧ (a0.toInt ≤ z19.toInt ∧ z19.toInt ≤ tn.toInt) ∧ (((z14.toInt = 1 ∧ ∀ (r : Int) (f : Nat), lpQ K X (aR K X 1) 14 (pS z19.toNatClampNeg) r f → lpR K X (aR K X 1) 14 (pS a0.toNatClampNeg) r f) ∨ (z14.toInt = 0 ∧ lpR K X (aR K X 1) 14 (pS a0.toNatClampNeg) 0 (pS z19.toNatClampNeg))) ∧ ((i13 : Nat) : Int) ≤ z19.toInt)) → ∀ (H : Heap) (locs : List Loc), gH (dC, dI) kA (SHc nC nS) G H → gF (dC, dI) SKc G ([(7, 12), (7, 13), (49, 0)] : List (Nat × Nat)) s.heap H → va_S A s.heap H locs → ct H th 401 vT → el H o0 (dI 7 0) = some (.ref th) → el H th ix_tv.toNatClampNeg = some (.int tv) → el H o0 (dI 7 13) = some (.int z19) → ∀ ls : Array Slot, lv_has ls 4 [(3, .int (nI i13)), (2, .int z14), (0, .ref o0), (1, .int 5)] → W p l e (headSpec w_c_readAll5 ({ frames := 8, cells := 0, slots := 0, locals := 178 })).room s m #[.ref o0, .int 5] below meth c H locs 0 0 (MQ below (va_Qi (fun (r : Int32) (u : Int32) => (0 ≤ u.toInt ∧ u.toInt ≤ 400) ∧ (0 ≤ r.toInt ∧ r.toInt ≤ 1) ∧ (a0.toInt ≤ u.toInt ∧ u.toInt ≤ tn.toInt) ∧ (lpR K X (aR K X 1) 14 (pS a0.toNatClampNeg) r.toInt (pS u.toNatClampNeg))) (fun (a1 : Int32) (t : State) => gH (dC, dI) kA (SHc nC nS) G t.heap ∧ gF (dC, dI) SKc G ([(7, 12), (7, 13), (49, 0)] : List (Nat × Nat)) s.heap t.heap ∧ el t.heap o0 (dI 7 13) = some (.int a1)) A) #[.ref o0, .int 5] s 0 0 A) (F0 m 8 ls []) := by
    intro n63
    induction n63 with
    | zero =>
      intro i13 hn63 hlo64 z14 z19 ⟨h15, h20, hj22, hj23⟩ H locs hT hF hS m16 m17 m18 m21 ls hl
      obtain rfl : 400 = i13 := by omega
      refine lv_iload_n hx hb dX4_readAll_8 rfl (lv_at hl 0 rfl) ?_
      refine lv_sipush (v := 400) hx hb dX4_readAll_9 (by decide) ?_
      refine lv_icmp_ge (tgt := 46) hx hb dX4_readAll_12 (by decide) (fun c65 => ?_) (fun c65 => (by exfalso; have q9 : ((400 : Nat) : Int) < 400 := ti_nle c65 (by decide) (nI_toInt (by omega)); omega))
      have t66 : 400 ≤ ((400 : Nat) : Int) := ti_le c65 (by decide) (nI_toInt (by omega))
      refine lv_iload_n hx hb dX4_readAll_46 rfl (lv_at hl 1 rfl) ?_
      exact W.zret (v := z14) hx hb hr (nar_b (by have q8 := ti_all z14; omega)) (fun t ht hW => ⟨⟨z14, z19, rfl, (by exact ⟨(by have q8 := ti_all z19; omega), (by have q8 := ti_all z14; omega), (by omega), (by rcases hj23.1 with ⟨h8, l9⟩ | ⟨h8, l9⟩; (rw [h8]; exact lp_e l9 (fun h7 => by have := tn_of (show z19.toInt = z19.toInt from rfl) (by omega); have := tn_of (show tn.toInt = tn.toInt from rfl) (by omega); have k9 := hKK tn.toNatClampNeg (Nat.le_refl _); have e9 := hc_vT.at hm_tv (by have q9 := tn_of hx_tv (by omega); omega); have k8 : (vT tn.toNatClampNeg).toInt = 21 := (by have q8 := congrArg Int32.toInt e9; rw [show ix_tv.toNatClampNeg = tn.toNatClampNeg from tn_same hx_tv rfl rfl] at q8; omega); rw [show z19.toNatClampNeg = tn.toNatClampNeg from by omega] at h7; omega)); rw [h8]; exact l9)⟩), by (try dsimp only); rw [ht]; exact ⟨hT, hF, m21⟩⟩, hS.F ht⟩) hS.2.2 dX4_readAll_47
    | succ n63 ih63 =>
      intro i13 hn63 hlo64 z14 z19 ⟨h15, h20, hj22, hj23⟩ H locs hT hF hS m16 m17 m18 m21 ls hl
      have hlt66 : i13 < 400 := by omega
      refine lv_iload_n hx hb dX4_readAll_8 rfl (lv_at hl 0 rfl) ?_
      refine lv_sipush (v := 400) hx hb dX4_readAll_9 (by decide) ?_
      refine lv_icmp_ge (tgt := 46) hx hb dX4_readAll_12 (by decide) (fun c67 => (by exfalso; have q9 : 400 ≤ ((i13 : Nat) : Int) := ti_le c67 (by decide) (nI_toInt (by omega)); omega)) (fun c67 => ?_)
      have t68 : ((i13 : Nat) : Int) < 400 := ti_nle c67 (by decide) (nI_toInt (by omega))
      refine lv_iload_n hx hb dX4_readAll_15 rfl (lv_at hl 1 rfl) ?_
      refine lv_if_eq (tgt := 46) hx hb dX4_readAll_16 (by decide) (fun c69 => ?_) (fun c69 => ?_)
      · have t70 : z14.toInt = 0 := ti_eq c69 rfl (by decide)
        refine lv_iload_n hx hb dX4_readAll_46 rfl (lv_at hl 1 rfl) ?_
        exact W.zret (v := z14) hx hb hr (nar_b (by have q8 := ti_all z14; omega)) (fun t ht hW => ⟨⟨z14, z19, rfl, (by exact ⟨(by have q8 := ti_all z19; omega), (by have q8 := ti_all z14; omega), (by omega), (by rcases hj23.1 with ⟨h8, l9⟩ | ⟨h8, l9⟩; (rw [h8]; exact lp_e l9 (fun h7 => by have := tn_of (show z19.toInt = z19.toInt from rfl) (by omega); have := tn_of (show tn.toInt = tn.toInt from rfl) (by omega); have k9 := hKK tn.toNatClampNeg (Nat.le_refl _); have e9 := hc_vT.at hm_tv (by have q9 := tn_of hx_tv (by omega); omega); have k8 : (vT tn.toNatClampNeg).toInt = 21 := (by have q8 := congrArg Int32.toInt e9; rw [show ix_tv.toNatClampNeg = tn.toNatClampNeg from tn_same hx_tv rfl rfl] at q8; omega); rw [show z19.toNatClampNeg = tn.toNatClampNeg from by omega] at h7; omega)); rw [h8]; exact l9)⟩), by (try dsimp only); rw [ht]; exact ⟨hT, hF, m21⟩⟩, hS.F ht⟩) hS.2.2 dX4_readAll_47
      · have t71 : z14.toInt ≠ 0 := ti_ne c69 rfl (by decide)
        refine lv_aload_n hx hb dX4_readAll_19 rfl (lv_at hl 2 rfl) ?_
        refine lv_bipush (v := 14) hx hb dX4_readAll_20 (by decide) ?_
        have hFc := gA_free hG hA hS
        refine va_calli (va_runV (As := [.int 14]) (rest := []) ⟨hx, hb, hml, hown, hts⟩ (c_take l dC dI kA adK adV G H nC nS o0 14 th z19 vT tv ix_tv ix_tv K X pS hT hr_o0 m17 hr_th m21 (by have q8 := ti_all ix_tv; omega) (by have q8 := ti_all z19; omega) (by have := (show z19.toInt = z19.toInt from rfl); have := (show ix_tv.toInt = ix_tv.toInt from rfl); omega) (by have := (show (14 : Int32).toInt = 14 from (by decide)); omega) (fun m hm => hKK m (Nat.le_trans hm (Nat.le_of_eq (tn_same hx_tv rfl rfl)))) (fun m hm => hXX m (Nat.lt_of_lt_of_eq hm (tn_same hx_tv rfl rfl))) m16 (by have q9 := (show ix_tv.toInt = ix_tv.toInt from rfl); have := (show ix_tv.toInt = ix_tv.toInt from rfl); omega) m18 (by have q8 := ti_all tv; omega) (by omega) (by omega)) (cwV 1 hts (goodIn_app (goodIn_r _ [20, 21, 22, 15] rfl (by decide +kernel)) (goodIn_ca (goodIn_r _ [19, 2, 3] rfl (by decide +kernel)) (bs2_in _ _))) rfl rfl rfl (by decide +kernel) ⟨(Nat.le_of_ble_eq_true rfl), (Nat.le_of_ble_eq_true rfl)⟩) ⟨fun a U g mk q => by obtain ⟨q0, q1, qK, qE⟩ := q; exact ⟨q0, q1, va_K.moved (u := U) (U := U.calling g mk a) (Vm.Alike.refl U.vm) qK, EVC.blind g mk a qE⟩, gH_rc hK hT hr_o0 shc_7 rfl, fun U hU hW => ⟨rfl, hU, va_K.moved hW.alike hK, hE.call hS hFc hU hW⟩⟩ rfl rfl hl.1 rfl (lv_room (Nat.le_of_ble_eq_true rfl)) dX4_readAll_22 ⟨(Nat.le_of_ble_eq_true rfl), (Nat.le_of_ble_eq_true rfl)⟩) hS (fun q _ h => hFc q h) hFc (fun r72 u t H locs ht hvm hw73 hB _ _ hS => ?_)
        obtain ⟨u74, rfl⟩ : ∃ z, z = u := ⟨_, rfl⟩
        obtain ⟨hT, hF1, m75⟩ := hB
        rw [ht] at hT hF1 m75
        have m76 := m16.kept (hF1.arr hr_th skc_40 (by decide))
        have m77 := (hF1.fld hr_o0 skc_7 (k := 0) (by decide) (by decide)).trans m17
        have m78 := (el_kept (hF1.arr hr_th skc_40 (by decide))).trans m18
        have hF := hF.more hF1 (by decide)
        try dsimp only at hw73
        obtain ⟨h80, h81, hf82, hf83, hf84⟩ := hw73
        refine lv_if_eq (tgt := 46) hx hb dX4_readAll_25 (by decide) (fun c85 => ?_) (fun c85 => ?_)
        · have t86 : r72.toInt = 0 := ti_eq c85 rfl (by decide)
          refine lv_iload_n hx hb dX4_readAll_46 rfl (lv_at hl 1 rfl) ?_
          exact W.zret (v := z14) hx hb hr (nar_b (by have q8 := ti_all z14; omega)) (fun t ht hW => ⟨⟨z14, u74, rfl, (by exact ⟨(by have q8 := ti_all u74; omega), (by have q8 := ti_all z14; omega), (by omega), (by have l9 := (hj23.1.resolve_right (fun h8 => by have := h8.1; omega)).2; have a9 := hf83.resolve_left (fun h8 => by have := h8.2.1; omega); rw [show z14.toInt = 1 from by omega, a9.2.2]; exact lp_e l9 (fun h7 => a9.1 (h7.trans (by decide))))⟩), by (try dsimp only); rw [ht]; exact ⟨hT, hF, m75⟩⟩, hS.F ht⟩) hS.2.2 dX4_readAll_47
        · have t87 : r72.toInt ≠ 0 := ti_ne c85 rfl (by decide)
          refine lv_aload_n hx hb dX4_readAll_28 rfl (lv_at hl 2 rfl) ?_
          refine lv_iload_n hx hb dX4_readAll_29 rfl (lv_at hl 3 rfl) ?_
          have hFc := gA_free hG hA hS
          refine va_calli (va_runV (As := [.int 5]) (rest := []) ⟨hx, hb, hml, hown, hts⟩ (c_readAtom5 l dC dI kA adK adV G H nC nS o0 th u74 vT tv ix_tv ix_tv K X pS hT hr_o0 m77 hr_th m75 (by have q8 := ti_all ix_tv; omega) (by have q8 := ti_all u74; omega) (by have := (show u74.toInt = u74.toInt from rfl); have := (show ix_tv.toInt = ix_tv.toInt from rfl); omega) (fun m hm => hKK m (Nat.le_trans hm (Nat.le_of_eq (tn_same hx_tv rfl rfl)))) (fun m hm => hXX m (Nat.lt_of_lt_of_eq hm (tn_same hx_tv rfl rfl))) m76 (by have q9 := (show ix_tv.toInt = ix_tv.toInt from rfl); have := (show ix_tv.toInt = ix_tv.toInt from rfl); omega) m78 (by have q8 := ti_all tv; omega) (by omega) (by omega)) (cwV 1 hts (goodIn_app (goodIn_r _ [29, 30, 31, 15] rfl (by decide +kernel)) (goodIn_ca (goodIn_r _ [1, 2, 3, 4, 5, 1, 6, 7, 8, 9, 10, 11, 12, 13, 14, 15, 16, 17, 18, 19, 20, 21, 22, 23, 24, 25, 26, 27, 28, 29, 30, 31, 32, 33, 34, 35, 36, 37] rfl (by decide +kernel)) (bs2_in _ _))) rfl rfl rfl (by decide +kernel) ⟨(Nat.le_of_ble_eq_true rfl), (Nat.le_of_ble_eq_true rfl)⟩) ⟨fun a U g mk q => by obtain ⟨q0, q1, qK, qE⟩ := q; exact ⟨q0, q1, va_K.moved (u := U) (U := U.calling g mk a) (Vm.Alike.refl U.vm) qK, EVC.blind g mk a qE⟩, gH_rc hK hT hr_o0 shc_7 rfl, fun U hU hW => ⟨rfl, hU, va_K.moved hW.alike hK, hE.call hS hFc hU hW⟩⟩ rfl rfl hl.1 rfl (lv_room (Nat.le_of_ble_eq_true rfl)) dX4_readAll_30 ⟨(Nat.le_of_ble_eq_true rfl), (Nat.le_of_ble_eq_true rfl)⟩) hS (fun q _ h => hFc q h) hFc (fun r88 u t H locs ht hvm hw89 hB _ _ hS => ?_)
          obtain ⟨u90, rfl⟩ : ∃ z, z = u := ⟨_, rfl⟩
          obtain ⟨hT, hF1, m91⟩ := hB
          rw [ht] at hT hF1 m91
          have m92 := m76.kept (hF1.arr hr_th skc_40 (by decide))
          have m93 := (hF1.fld hr_o0 skc_7 (k := 0) (by decide) (by decide)).trans m77
          have m94 := (el_kept (hF1.arr hr_th skc_40 (by decide))).trans m78
          have hF := hF.more hF1 (by decide)
          try dsimp only at hw89
          obtain ⟨h96, h97, hf98, hf99⟩ := hw89
          refine lv_istore_n (lv' := [(2, .int r88), (3, .int (nI i13)), (0, .ref o0), (1, .int 5)]) hx hb dX4_readAll_33 rfl hl (by decide) rfl (fun ls hl => ?_)
          refine lv_aload_n hx hb dX4_readAll_34 rfl (lv_at hl 2 rfl) ?_
          refine lv_bipush (v := 14) hx hb dX4_readAll_35 (by decide) ?_
          have hFc := gA_free hG hA hS
          refine va_callv (va_runV (As := [.int 14]) (rest := []) ⟨hx, hb, hml, hown, hts⟩ (c_addStep l dC dI kA adK adV G H nC nS o0 14 hT hr_o0 (rg_t (a := 14) (by decide) (by first | decide | omega) (by first | decide | omega)) (by omega) (by omega)) (cwV 1 hts (goodIn_app (goodIn_r _ [12, 13, 14, 15] rfl (by decide +kernel)) (goodIn_ca (goodIn_r _ [9, 10, 11] rfl (by decide +kernel)) (bs2_in _ _))) rfl rfl rfl (by decide +kernel) ⟨(Nat.le_of_ble_eq_true rfl), (Nat.le_of_ble_eq_true rfl)⟩) ⟨fun a U g mk q => by obtain ⟨q0, q1, qK, qE⟩ := q; exact ⟨q0, q1, va_K.moved (u := U) (U := U.calling g mk a) (Vm.Alike.refl U.vm) qK, EVC.blind g mk a qE⟩, gH_rc hK hT hr_o0 shc_7 rfl, fun U hU hW => ⟨rfl, hU, va_K.moved hW.alike hK, hE.call hS hFc hU hW⟩⟩ rfl rfl hl.1 rfl (lv_room (Nat.le_of_ble_eq_true rfl)) dX4_readAll_37 ⟨(Nat.le_of_ble_eq_true rfl), (Nat.le_of_ble_eq_true rfl)⟩) hS (fun q _ h => hFc q h) hFc (fun u t H locs ht hvm hw101 hB _ _ hS => ?_)
          obtain ⟨hT, hF1⟩ := hB
          rw [ht] at hT hF1
          have m102 := m92.kept (hF1.arr hr_th skc_40 (by decide))
          have m103 := (hF1.fld hr_o0 skc_7 (k := 0) (by decide) (by decide)).trans m93
          have m104 := (el_kept (hF1.arr hr_th skc_40 (by decide))).trans m94
          have m105 := (hF1.fld hr_o0 skc_7 (k := 13) (by decide) (by decide)).trans m91
          have hF := hF.more hF1 (by decide)
          try dsimp only at hw101
          refine lv_iinc (v := nI (i13 + 1)) (lv' := [(3, .int (nI (i13 + 1))), (2, .int r88), (0, .ref o0), (1, .int 5)]) hx hb dX4_readAll_40 hl (k := 1) rfl (nI_add i13 1) (by decide) rfl (fun ls hl => ?_)
          refine lv_goto (tgt := 8) hx hb dX4_readAll_43 (by decide) ?_
          exact ih63 (i13 + 1) (by omega) (by omega) r88 u90 ⟨(by have q8 := ti_all r88; omega), (by have q8 := ti_all u90; omega), (by have := hx_tv; have := (show u90.toInt = u90.toInt from rfl); omega), ⟨(by have l9 := (hj23.1.resolve_right (fun h8 => by have := h8.1; omega)).2; have a9 := hf83.resolve_right (fun h8 => by have := h8.2.1; omega); have h9 := hf99; rw [a9.2.2] at h9; rcases (show r88.toInt = 1 ∨ r88.toInt = 0 by omega) with h8 | h8 <;> rw [h8] at h9; (exact Or.inl ⟨h8, lp_s l9 (a9.1.trans (by decide)) h9⟩); exact Or.inr ⟨h8, lp_f l9 (a9.1.trans (by decide)) h9⟩), by omega⟩⟩ _ _ hT hF hS m102 m103 m104 m105 ls (lv_sub hl [0, 1, 2, 3] rfl)
  exact key63 (400 - 0) 0 (by omega) (Nat.le_refl _) r1 u3 ⟨(by have q8 := ti_all r1; omega), (by have q8 := ti_all u3; omega), (by have := hx_tv; have := (show u3.toInt = u3.toInt from rfl); omega), ⟨(by have h9 := hf12; rcases (show r1.toInt = 1 ∨ r1.toInt = 0 by omega) with h8 | h8 <;> rw [h8] at h9; (exact Or.inl ⟨h8, lp_1 h9⟩); exact Or.inr ⟨h8, lp_0 h9⟩), by omega⟩⟩ _ _ hT hF hS m7 m5 m8 m4 ls (lv_sub hl [0, 1, 2, 3] rfl)
def w_c_readAny5 : List Cond := .code yX4_readAny cX4_readAny 4 (some .boolean) :: (HAppend.hAppend (α := List Cond) (β := List Cond) (γ := List Cond) [.code yX4_readAll cX4_readAll 4 (some .boolean), .code yX4_readAtom cX4_readAtom 4 (some .boolean), .fieldLink RX4 11 "SeaLand$Law" "things" "[I", .fieldLink RX4 56 "SeaLand$Law" "at" "I", .code yX4_readAny cX4_readAny 4 (some .boolean), .code yX4_readComparison cX4_readComparison 3 (some .boolean), .code yX4_readSum cX4_readSum 3 (some .boolean), .code yX4_readPart cX4_readPart 2 (some .boolean), .code yX4_addStep cX4_addStep 2 none, .fieldLink RX4 63 "SeaLand$Law" "stepped" "I", .fieldLink RX4 39 "SeaLand$Law" "steps" "[I", .methodLink RX4 179 yX4_addStep, .instanceMethod yX4_addStep, .selects RX4 yX4_addStep yX4_addStep, .initialized RX4, .methodLink RX4 192 yX4_readPart, .instanceMethod yX4_readPart, .selects RX4 yX4_readPart yX4_readPart, .code yX4_take cX4_take 2 (some .boolean), .methodLink RX4 70 yX4_take, .instanceMethod yX4_take, .selects RX4 yX4_take yX4_take, .methodLink RX4 189 yX4_readSum, .instanceMethod yX4_readSum, .selects RX4 yX4_readSum yX4_readSum, .methodLink RX4 186 yX4_readComparison, .instanceMethod yX4_readComparison, .selects RX4 yX4_readComparison yX4_readComparison, .methodLink RX4 183 yX4_readAtom, .instanceMethod yX4_readAtom, .selects RX4 yX4_readAtom yX4_readAtom, .methodLink RX4 176 yX4_readAll, .instanceMethod yX4_readAll, .selects RX4 yX4_readAll yX4_readAll, .methodLink RX4 173 yX4_readAny, .instanceMethod yX4_readAny, .selects RX4 yX4_readAny yX4_readAny] bs2)
set_option maxHeartbeats 4000000 in
set_option maxRecDepth 100000 in
theorem c_readAny5 (l : Launch) (dC : Nat → ClassId) (dI : Nat → Nat → Nat) (kA : Nat → ClassId) (adK adV : Nat → Nat) (G : gT) (H0 : Heap) (nC nS : Int) (o0 : Nat) (th : Nat) (a0 : Int32) (vT : Nat → Int32) (tv ix_tv : Int32) (tn : Int32) (K : Nat → Int) (X pS : Nat → Nat) (hT : gH (dC, dI) kA (SHc nC nS) G H0) (hr_o0 : G o0 = some 7) (hm_th : el H0 o0 (dI 7 0) = some (.ref th)) (hr_th : G th = some 40) (hm_a0 : el H0 o0 (dI 7 13) = some (.int a0)) (hq0 : 0 ≤ tn.toInt ∧ tn.toInt ≤ 400) (hq1 : 0 ≤ a0.toInt ∧ a0.toInt ≤ 400) (hat : a0.toInt ≤ tn.toInt) (hKK : ∀ m : Nat, m ≤ tn.toNatClampNeg → (vT m).toInt = K (pS m)) (hXX : ∀ m : Nat, m < tn.toNatClampNeg → pS (m + 1) = X (pS m)) (hc_vT : ct H0 th 401 vT) (hx_tv : ix_tv.toInt = tn.toInt) (hm_tv : el H0 th ix_tv.toNatClampNeg = some (.int tv)) (hv_tv : 21 ≤ tv.toInt ∧ tv.toInt ≤ 21) (hgC : 0 ≤ nC ∧ nC ≤ 40) (hgS : 0 ≤ nS ∧ nS ≤ 60) : Met l yX4_readAny w_c_readAny5 ({ frames := 9, cells := 0, slots := 0, locals := 201 }) (va_Pc [.ref o0, .int 5] (fun U => U.heap = H0 ∧ va_K (dC, dI) vwCl (tyl kA) U ∧ EVC adK adV (gA G H0.size) U U.heap)) (va_Qi (fun (r : Int32) (u : Int32) => (0 ≤ u.toInt ∧ u.toInt ≤ 400) ∧ (0 ≤ r.toInt ∧ r.toInt ≤ 1) ∧ (a0.toInt ≤ u.toInt ∧ u.toInt ≤ tn.toInt) ∧ (coR K X (aR K X 1) (pS a0.toNatClampNeg) r.toInt (pS u.toNatClampNeg))) (fun (a1 : Int32) (t : State) => gH (dC, dI) kA (SHc nC nS) G t.heap ∧ gF (dC, dI) SKc G ([(7, 12), (7, 13), (49, 0)] : List (Nat × Nat)) H0 t.heap ∧ el t.heap o0 (dI 7 13) = some (.int a1)) (gA G H0.size)) 0 0 (gA G H0.size) := by
  refine Met.ofW (cc := cX4_readAny) (maxL := 4) (ret := (some .boolean)) (by decide) rfl ?_
  intro p e s m args below meth c s₁ B hml hv
  obtain ⟨rfl, hH0, hK, hE⟩ := hv
  have hx := B.exec
  have hb := B.bytes
  have hr := B.returns
  have hts := atoms_spec (ws := w_c_readAny5) B.pre
  have hown : s.vm.findClass RX4 = some m.cls := findClass_of_methodNamed B.named
  have hlocks := B.notSynchronized
  subst hH0
  generalize hAe : gA G s.heap.size = A at hE ⊢
  have hA : ∀ q : Nat, s.heap.size ≤ q → A q := fun q h => by rw [← hAe]; exact Or.inr h
  have hG := gA_of hAe
  have hS : va_S A s.heap s.heap [] := va_S.rf
  have hF : gF (dC, dI) SKc G ([(7, 12), (7, 13), (49, 0)] : List (Nat × Nat)) s.heap s.heap := gF.rf
  have hl := lv_entry ([.ref o0, .int 5]) (n := 4) (Nat.le_of_ble_eq_true rfl)
  rw [lg_entry_eq]
  generalize (lg_sl ([.ref o0, .int 5]) ++ List.replicate (4 - (lg_sl ([.ref o0, .int 5])).length) Slot.unset).toArray = ls at hl ⊢
  have hl : lv_has ls 4 [(0, .ref o0), (1, .int 5)] := hl
  refine lv_aload_n hx hb dX4_readAny_0 rfl (lv_at hl 0 rfl) ?_
  refine lv_iload_n hx hb dX4_readAny_1 rfl (lv_at hl 1 rfl) ?_
  have hFc := gA_free hG hA hS
  refine va_calli (va_runV (As := [.int 5]) (rest := []) ⟨hx, hb, hml, hown, hts⟩ (c_readAll5 l dC dI kA adK adV G s.heap nC nS o0 th a0 vT tv ix_tv ix_tv K X pS hT hr_o0 hm_th hr_th hm_a0 (by have q8 := ti_all ix_tv; omega) (by have q8 := ti_all a0; omega) (by have := (show a0.toInt = a0.toInt from rfl); have := (show ix_tv.toInt = ix_tv.toInt from rfl); omega) (fun m hm => hKK m (Nat.le_trans hm (Nat.le_of_eq (tn_same hx_tv rfl rfl)))) (fun m hm => hXX m (Nat.lt_of_lt_of_eq hm (tn_same hx_tv rfl rfl))) hc_vT (by have q9 := (show ix_tv.toInt = ix_tv.toInt from rfl); have := (show ix_tv.toInt = ix_tv.toInt from rfl); omega) hm_tv (by have q8 := ti_all tv; omega) (by omega) (by omega)) (cwV 1 hts (goodIn_app (goodIn_r _ [32, 33, 34, 15] rfl (by decide +kernel)) (goodIn_ca (goodIn_r _ [1, 2, 3, 4, 5, 1, 6, 7, 8, 9, 10, 11, 12, 13, 14, 15, 16, 17, 18, 19, 20, 21, 22, 23, 24, 25, 26, 27, 28, 29, 30, 31, 32, 33, 34, 35, 36, 37] rfl (by decide +kernel)) (bs2_in _ _))) rfl rfl rfl (by decide +kernel) ⟨(Nat.le_of_ble_eq_true rfl), (Nat.le_of_ble_eq_true rfl)⟩) ⟨fun a U g mk q => by obtain ⟨q0, q1, qK, qE⟩ := q; exact ⟨q0, q1, va_K.moved (u := U) (U := U.calling g mk a) (Vm.Alike.refl U.vm) qK, EVC.blind g mk a qE⟩, gH_rc hK hT hr_o0 shc_7 rfl, fun U hU hW => ⟨rfl, hU, va_K.moved hW.alike hK, hE.call hS hFc hU hW⟩⟩ rfl rfl hl.1 rfl (lv_room (Nat.le_of_ble_eq_true rfl)) dX4_readAny_2 ⟨(Nat.le_of_ble_eq_true rfl), (Nat.le_of_ble_eq_true rfl)⟩) hS (fun q _ h => hFc q h) hFc (fun r1 u t H locs ht hvm hw2 hB _ _ hS => ?_)
  obtain ⟨u3, rfl⟩ : ∃ z, z = u := ⟨_, rfl⟩
  obtain ⟨hT, hF1, m4⟩ := hB
  rw [ht] at hT hF1 m4
  have m5 := (hF1.fld hr_o0 skc_7 (k := 0) (by decide) (by decide)).trans hm_th
  have m7 := hc_vT.kept (hF1.arr hr_th skc_40 (by decide))
  have m8 := (el_kept (hF1.arr hr_th skc_40 (by decide))).trans hm_tv
  have hF := hF.more hF1 (by decide)
  try dsimp only at hw2
  obtain ⟨h9, h10, hf11, hf12⟩ := hw2
  refine lv_istore_n (lv' := [(2, .int r1), (0, .ref o0), (1, .int 5)]) hx hb dX4_readAny_5 rfl hl (by decide) rfl (fun ls hl => ?_)
  refine lv_iconst (v := 0) hx hb dX4_readAny_6 (by decide) ?_
  refine lv_istore_n (lv' := [(3, .int 0), (2, .int r1), (0, .ref o0), (1, .int 5)]) hx hb dX4_readAny_7 rfl hl (by decide) rfl (fun ls hl => ?_)
  have key63 : ∀ (n63 i13 : Nat), i13 + n63 = 400 → 0 ≤ i13 → ∀ (z14 : Int32), ∀ (z19 : Int32), ((0 ≤ z14.toInt ∧ z14.toInt ≤ 1) ∧ (0 ≤ z19.toInt ∧ z19.toInt ≤ 400) ∧ (a0.toInt ≤ z19.toInt ∧ z19.toInt ≤ tn.toInt) ∧ (((z14.toInt = 1 ∧ ∀ (r : Int) (f : Nat), lpQ K X (lpR K X (aR K X 1) 14) 15 (pS z19.toNatClampNeg) r f → coR K X (aR K X 1) (pS a0.toNatClampNeg) r f) ∨ (z14.toInt = 0 ∧ coR K X (aR K X 1) (pS a0.toNatClampNeg) 0 (pS z19.toNatClampNeg))) ∧ ((i13 : Nat) : Int) ≤ z19.toInt)) → ∀ (H : Heap) (locs : List Loc), gH (dC, dI) kA (SHc nC nS) G H → gF (dC, dI) SKc G ([(7, 12), (7, 13), (49, 0)] : List (Nat × Nat)) s.heap H → va_S A s.heap H locs → ct H th 401 vT → el H o0 (dI 7 0) = some (.ref th) → el H th ix_tv.toNatClampNeg = some (.int tv) → el H o0 (dI 7 13) = some (.int z19) → ∀ ls : Array Slot, lv_has ls 4 [(3, .int (nI i13)), (2, .int z14), (0, .ref o0), (1, .int 5)] → W p l e (headSpec w_c_readAny5 ({ frames := 9, cells := 0, slots := 0, locals := 201 })).room s m #[.ref o0, .int 5] below meth c H locs 0 0 (MQ below (va_Qi (fun (r : Int32) (u : Int32) => (0 ≤ u.toInt ∧ u.toInt ≤ 400) ∧ (0 ≤ r.toInt ∧ r.toInt ≤ 1) ∧ (a0.toInt ≤ u.toInt ∧ u.toInt ≤ tn.toInt) ∧ (coR K X (aR K X 1) (pS a0.toNatClampNeg) r.toInt (pS u.toNatClampNeg))) (fun (a1 : Int32) (t : State) => gH (dC, dI) kA (SHc nC nS) G t.heap ∧ gF (dC, dI) SKc G ([(7, 12), (7, 13), (49, 0)] : List (Nat × Nat)) s.heap t.heap ∧ el t.heap o0 (dI 7 13) = some (.int a1)) A) #[.ref o0, .int 5] s 0 0 A) (F0 m 8 ls []) := by
    intro n63
    induction n63 with
    | zero =>
      intro i13 hn63 hlo64 z14 z19 ⟨h15, h20, hj22, hj23⟩ H locs hT hF hS m16 m17 m18 m21 ls hl
      obtain rfl : 400 = i13 := by omega
      refine lv_iload_n hx hb dX4_readAny_8 rfl (lv_at hl 0 rfl) ?_
      refine lv_sipush (v := 400) hx hb dX4_readAny_9 (by decide) ?_
      refine lv_icmp_ge (tgt := 46) hx hb dX4_readAny_12 (by decide) (fun c65 => ?_) (fun c65 => (by exfalso; have q9 : ((400 : Nat) : Int) < 400 := ti_nle c65 (by decide) (nI_toInt (by omega)); omega))
      have t66 : 400 ≤ ((400 : Nat) : Int) := ti_le c65 (by decide) (nI_toInt (by omega))
      refine lv_iload_n hx hb dX4_readAny_46 rfl (lv_at hl 1 rfl) ?_
      exact W.zret (v := z14) hx hb hr (nar_b (by have q8 := ti_all z14; omega)) (fun t ht hW => ⟨⟨z14, z19, rfl, (by exact ⟨(by have q8 := ti_all z19; omega), (by have q8 := ti_all z14; omega), (by omega), (by rcases hj23.1 with ⟨h8, l9⟩ | ⟨h8, l9⟩; (rw [h8]; exact lp_e l9 (fun h7 => by have := tn_of (show z19.toInt = z19.toInt from rfl) (by omega); have := tn_of (show tn.toInt = tn.toInt from rfl) (by omega); have k9 := hKK tn.toNatClampNeg (Nat.le_refl _); have e9 := hc_vT.at hm_tv (by have q9 := tn_of hx_tv (by omega); omega); have k8 : (vT tn.toNatClampNeg).toInt = 21 := (by have q8 := congrArg Int32.toInt e9; rw [show ix_tv.toNatClampNeg = tn.toNatClampNeg from tn_same hx_tv rfl rfl] at q8; omega); rw [show z19.toNatClampNeg = tn.toNatClampNeg from by omega] at h7; omega)); rw [h8]; exact l9)⟩), by (try dsimp only); rw [ht]; exact ⟨hT, hF, m21⟩⟩, hS.F ht⟩) hS.2.2 dX4_readAny_47
    | succ n63 ih63 =>
      intro i13 hn63 hlo64 z14 z19 ⟨h15, h20, hj22, hj23⟩ H locs hT hF hS m16 m17 m18 m21 ls hl
      have hlt66 : i13 < 400 := by omega
      refine lv_iload_n hx hb dX4_readAny_8 rfl (lv_at hl 0 rfl) ?_
      refine lv_sipush (v := 400) hx hb dX4_readAny_9 (by decide) ?_
      refine lv_icmp_ge (tgt := 46) hx hb dX4_readAny_12 (by decide) (fun c67 => (by exfalso; have q9 : 400 ≤ ((i13 : Nat) : Int) := ti_le c67 (by decide) (nI_toInt (by omega)); omega)) (fun c67 => ?_)
      have t68 : ((i13 : Nat) : Int) < 400 := ti_nle c67 (by decide) (nI_toInt (by omega))
      refine lv_iload_n hx hb dX4_readAny_15 rfl (lv_at hl 1 rfl) ?_
      refine lv_if_eq (tgt := 46) hx hb dX4_readAny_16 (by decide) (fun c69 => ?_) (fun c69 => ?_)
      · have t70 : z14.toInt = 0 := ti_eq c69 rfl (by decide)
        refine lv_iload_n hx hb dX4_readAny_46 rfl (lv_at hl 1 rfl) ?_
        exact W.zret (v := z14) hx hb hr (nar_b (by have q8 := ti_all z14; omega)) (fun t ht hW => ⟨⟨z14, z19, rfl, (by exact ⟨(by have q8 := ti_all z19; omega), (by have q8 := ti_all z14; omega), (by omega), (by rcases hj23.1 with ⟨h8, l9⟩ | ⟨h8, l9⟩; (rw [h8]; exact lp_e l9 (fun h7 => by have := tn_of (show z19.toInt = z19.toInt from rfl) (by omega); have := tn_of (show tn.toInt = tn.toInt from rfl) (by omega); have k9 := hKK tn.toNatClampNeg (Nat.le_refl _); have e9 := hc_vT.at hm_tv (by have q9 := tn_of hx_tv (by omega); omega); have k8 : (vT tn.toNatClampNeg).toInt = 21 := (by have q8 := congrArg Int32.toInt e9; rw [show ix_tv.toNatClampNeg = tn.toNatClampNeg from tn_same hx_tv rfl rfl] at q8; omega); rw [show z19.toNatClampNeg = tn.toNatClampNeg from by omega] at h7; omega)); rw [h8]; exact l9)⟩), by (try dsimp only); rw [ht]; exact ⟨hT, hF, m21⟩⟩, hS.F ht⟩) hS.2.2 dX4_readAny_47
      · have t71 : z14.toInt ≠ 0 := ti_ne c69 rfl (by decide)
        refine lv_aload_n hx hb dX4_readAny_19 rfl (lv_at hl 2 rfl) ?_
        refine lv_bipush (v := 15) hx hb dX4_readAny_20 (by decide) ?_
        have hFc := gA_free hG hA hS
        refine va_calli (va_runV (As := [.int 15]) (rest := []) ⟨hx, hb, hml, hown, hts⟩ (c_take l dC dI kA adK adV G H nC nS o0 15 th z19 vT tv ix_tv ix_tv K X pS hT hr_o0 m17 hr_th m21 (by have q8 := ti_all ix_tv; omega) (by have q8 := ti_all z19; omega) (by have := (show z19.toInt = z19.toInt from rfl); have := (show ix_tv.toInt = ix_tv.toInt from rfl); omega) (by have := (show (15 : Int32).toInt = 15 from (by decide)); omega) (fun m hm => hKK m (Nat.le_trans hm (Nat.le_of_eq (tn_same hx_tv rfl rfl)))) (fun m hm => hXX m (Nat.lt_of_lt_of_eq hm (tn_same hx_tv rfl rfl))) m16 (by have q9 := (show ix_tv.toInt = ix_tv.toInt from rfl); have := (show ix_tv.toInt = ix_tv.toInt from rfl); omega) m18 (by have q8 := ti_all tv; omega) (by omega) (by omega)) (cwV 1 hts (goodIn_app (goodIn_r _ [20, 21, 22, 15] rfl (by decide +kernel)) (goodIn_ca (goodIn_r _ [19, 3, 4] rfl (by decide +kernel)) (bs2_in _ _))) rfl rfl rfl (by decide +kernel) ⟨(Nat.le_of_ble_eq_true rfl), (Nat.le_of_ble_eq_true rfl)⟩) ⟨fun a U g mk q => by obtain ⟨q0, q1, qK, qE⟩ := q; exact ⟨q0, q1, va_K.moved (u := U) (U := U.calling g mk a) (Vm.Alike.refl U.vm) qK, EVC.blind g mk a qE⟩, gH_rc hK hT hr_o0 shc_7 rfl, fun U hU hW => ⟨rfl, hU, va_K.moved hW.alike hK, hE.call hS hFc hU hW⟩⟩ rfl rfl hl.1 rfl (lv_room (Nat.le_of_ble_eq_true rfl)) dX4_readAny_22 ⟨(Nat.le_of_ble_eq_true rfl), (Nat.le_of_ble_eq_true rfl)⟩) hS (fun q _ h => hFc q h) hFc (fun r72 u t H locs ht hvm hw73 hB _ _ hS => ?_)
        obtain ⟨u74, rfl⟩ : ∃ z, z = u := ⟨_, rfl⟩
        obtain ⟨hT, hF1, m75⟩ := hB
        rw [ht] at hT hF1 m75
        have m76 := m16.kept (hF1.arr hr_th skc_40 (by decide))
        have m77 := (hF1.fld hr_o0 skc_7 (k := 0) (by decide) (by decide)).trans m17
        have m78 := (el_kept (hF1.arr hr_th skc_40 (by decide))).trans m18
        have hF := hF.more hF1 (by decide)
        try dsimp only at hw73
        obtain ⟨h80, h81, hf82, hf83, hf84⟩ := hw73
        refine lv_if_eq (tgt := 46) hx hb dX4_readAny_25 (by decide) (fun c85 => ?_) (fun c85 => ?_)
        · have t86 : r72.toInt = 0 := ti_eq c85 rfl (by decide)
          refine lv_iload_n hx hb dX4_readAny_46 rfl (lv_at hl 1 rfl) ?_
          exact W.zret (v := z14) hx hb hr (nar_b (by have q8 := ti_all z14; omega)) (fun t ht hW => ⟨⟨z14, u74, rfl, (by exact ⟨(by have q8 := ti_all u74; omega), (by have q8 := ti_all z14; omega), (by omega), (by have l9 := (hj23.1.resolve_right (fun h8 => by have := h8.1; omega)).2; have a9 := hf83.resolve_left (fun h8 => by have := h8.2.1; omega); rw [show z14.toInt = 1 from by omega, a9.2.2]; exact lp_e l9 (fun h7 => a9.1 (h7.trans (by decide))))⟩), by (try dsimp only); rw [ht]; exact ⟨hT, hF, m75⟩⟩, hS.F ht⟩) hS.2.2 dX4_readAny_47
        · have t87 : r72.toInt ≠ 0 := ti_ne c85 rfl (by decide)
          refine lv_aload_n hx hb dX4_readAny_28 rfl (lv_at hl 2 rfl) ?_
          refine lv_iload_n hx hb dX4_readAny_29 rfl (lv_at hl 3 rfl) ?_
          have hFc := gA_free hG hA hS
          refine va_calli (va_runV (As := [.int 5]) (rest := []) ⟨hx, hb, hml, hown, hts⟩ (c_readAll5 l dC dI kA adK adV G H nC nS o0 th u74 vT tv ix_tv ix_tv K X pS hT hr_o0 m77 hr_th m75 (by have q8 := ti_all ix_tv; omega) (by have q8 := ti_all u74; omega) (by have := (show u74.toInt = u74.toInt from rfl); have := (show ix_tv.toInt = ix_tv.toInt from rfl); omega) (fun m hm => hKK m (Nat.le_trans hm (Nat.le_of_eq (tn_same hx_tv rfl rfl)))) (fun m hm => hXX m (Nat.lt_of_lt_of_eq hm (tn_same hx_tv rfl rfl))) m76 (by have q9 := (show ix_tv.toInt = ix_tv.toInt from rfl); have := (show ix_tv.toInt = ix_tv.toInt from rfl); omega) m78 (by have q8 := ti_all tv; omega) (by omega) (by omega)) (cwV 1 hts (goodIn_app (goodIn_r _ [32, 33, 34, 15] rfl (by decide +kernel)) (goodIn_ca (goodIn_r _ [1, 2, 3, 4, 5, 1, 6, 7, 8, 9, 10, 11, 12, 13, 14, 15, 16, 17, 18, 19, 20, 21, 22, 23, 24, 25, 26, 27, 28, 29, 30, 31, 32, 33, 34, 35, 36, 37] rfl (by decide +kernel)) (bs2_in _ _))) rfl rfl rfl (by decide +kernel) ⟨(Nat.le_of_ble_eq_true rfl), (Nat.le_of_ble_eq_true rfl)⟩) ⟨fun a U g mk q => by obtain ⟨q0, q1, qK, qE⟩ := q; exact ⟨q0, q1, va_K.moved (u := U) (U := U.calling g mk a) (Vm.Alike.refl U.vm) qK, EVC.blind g mk a qE⟩, gH_rc hK hT hr_o0 shc_7 rfl, fun U hU hW => ⟨rfl, hU, va_K.moved hW.alike hK, hE.call hS hFc hU hW⟩⟩ rfl rfl hl.1 rfl (lv_room (Nat.le_of_ble_eq_true rfl)) dX4_readAny_30 ⟨(Nat.le_of_ble_eq_true rfl), (Nat.le_of_ble_eq_true rfl)⟩) hS (fun q _ h => hFc q h) hFc (fun r88 u t H locs ht hvm hw89 hB _ _ hS => ?_)
          obtain ⟨u90, rfl⟩ : ∃ z, z = u := ⟨_, rfl⟩
          obtain ⟨hT, hF1, m91⟩ := hB
          rw [ht] at hT hF1 m91
          have m92 := m76.kept (hF1.arr hr_th skc_40 (by decide))
          have m93 := (hF1.fld hr_o0 skc_7 (k := 0) (by decide) (by decide)).trans m77
          have m94 := (el_kept (hF1.arr hr_th skc_40 (by decide))).trans m78
          have hF := hF.more hF1 (by decide)
          try dsimp only at hw89
          obtain ⟨h96, h97, hf98, hf99⟩ := hw89
          refine lv_istore_n (lv' := [(2, .int r88), (3, .int (nI i13)), (0, .ref o0), (1, .int 5)]) hx hb dX4_readAny_33 rfl hl (by decide) rfl (fun ls hl => ?_)
          refine lv_aload_n hx hb dX4_readAny_34 rfl (lv_at hl 2 rfl) ?_
          refine lv_bipush (v := 15) hx hb dX4_readAny_35 (by decide) ?_
          have hFc := gA_free hG hA hS
          refine va_callv (va_runV (As := [.int 15]) (rest := []) ⟨hx, hb, hml, hown, hts⟩ (c_addStep l dC dI kA adK adV G H nC nS o0 15 hT hr_o0 (rg_t (a := 15) (by decide) (by first | decide | omega) (by first | decide | omega)) (by omega) (by omega)) (cwV 1 hts (goodIn_app (goodIn_r _ [12, 13, 14, 15] rfl (by decide +kernel)) (goodIn_ca (goodIn_r _ [9, 10, 11] rfl (by decide +kernel)) (bs2_in _ _))) rfl rfl rfl (by decide +kernel) ⟨(Nat.le_of_ble_eq_true rfl), (Nat.le_of_ble_eq_true rfl)⟩) ⟨fun a U g mk q => by obtain ⟨q0, q1, qK, qE⟩ := q; exact ⟨q0, q1, va_K.moved (u := U) (U := U.calling g mk a) (Vm.Alike.refl U.vm) qK, EVC.blind g mk a qE⟩, gH_rc hK hT hr_o0 shc_7 rfl, fun U hU hW => ⟨rfl, hU, va_K.moved hW.alike hK, hE.call hS hFc hU hW⟩⟩ rfl rfl hl.1 rfl (lv_room (Nat.le_of_ble_eq_true rfl)) dX4_readAny_37 ⟨(Nat.le_of_ble_eq_true rfl), (Nat.le_of_ble_eq_true rfl)⟩) hS (fun q _ h => hFc q h) hFc (fun u t H locs ht hvm hw101 hB _ _ hS => ?_)
          obtain ⟨hT, hF1⟩ := hB
          rw [ht] at hT hF1
          have m102 := m92.kept (hF1.arr hr_th skc_40 (by decide))
          have m103 := (hF1.fld hr_o0 skc_7 (k := 0) (by decide) (by decide)).trans m93
          have m104 := (el_kept (hF1.arr hr_th skc_40 (by decide))).trans m94
          have m105 := (hF1.fld hr_o0 skc_7 (k := 13) (by decide) (by decide)).trans m91
          have hF := hF.more hF1 (by decide)
          try dsimp only at hw101
          refine lv_iinc (v := nI (i13 + 1)) (lv' := [(3, .int (nI (i13 + 1))), (2, .int r88), (0, .ref o0), (1, .int 5)]) hx hb dX4_readAny_40 hl (k := 1) rfl (nI_add i13 1) (by decide) rfl (fun ls hl => ?_)
          refine lv_goto (tgt := 8) hx hb dX4_readAny_43 (by decide) ?_
          exact ih63 (i13 + 1) (by omega) (by omega) r88 u90 ⟨(by have q8 := ti_all r88; omega), (by have q8 := ti_all u90; omega), (by have := hx_tv; have := (show u90.toInt = u90.toInt from rfl); omega), ⟨(by have l9 := (hj23.1.resolve_right (fun h8 => by have := h8.1; omega)).2; have a9 := hf83.resolve_right (fun h8 => by have := h8.2.1; omega); have h9 := hf99; rw [a9.2.2] at h9; rcases (show r88.toInt = 1 ∨ r88.toInt = 0 by omega) with h8 | h8 <;> rw [h8] at h9; (exact Or.inl ⟨h8, lp_s l9 (a9.1.trans (by decide)) h9⟩); exact Or.inr ⟨h8, lp_f l9 (a9.1.trans (by decide)) h9⟩), by omega⟩⟩ _ _ hT hF hS m102 m103 m104 m105 ls (lv_sub hl [0, 1, 2, 3] rfl)
  exact key63 (400 - 0) 0 (by omega) (Nat.le_refl _) r1 u3 ⟨(by have q8 := ti_all r1; omega), (by have q8 := ti_all u3; omega), (by have := hx_tv; have := (show u3.toInt = u3.toInt from rfl); omega), ⟨(by have h9 := hf12; rcases (show r1.toInt = 1 ∨ r1.toInt = 0 by omega) with h8 | h8 <;> rw [h8] at h9; (exact Or.inl ⟨h8, lp_1 h9⟩); exact Or.inr ⟨h8, lp_0 h9⟩), by omega⟩⟩ _ _ hT hF hS m7 m5 m8 m4 ls (lv_sub hl [0, 1, 2, 3] rfl)
def w_c_readAtom4 : List Cond := .code yX4_readAtom cX4_readAtom 4 (some .boolean) :: (HAppend.hAppend (α := List Cond) (β := List Cond) (γ := List Cond) [.fieldLink RX4 11 "SeaLand$Law" "things" "[I", .fieldLink RX4 56 "SeaLand$Law" "at" "I", .code yX4_readAny cX4_readAny 4 (some .boolean), .code yX4_readAll cX4_readAll 4 (some .boolean), .code yX4_readAtom cX4_readAtom 4 (some .boolean), .code yX4_readComparison cX4_readComparison 3 (some .boolean), .code yX4_readSum cX4_readSum 3 (some .boolean), .code yX4_readPart cX4_readPart 2 (some .boolean), .code yX4_addStep cX4_addStep 2 none, .fieldLink RX4 63 "SeaLand$Law" "stepped" "I", .fieldLink RX4 39 "SeaLand$Law" "steps" "[I", .methodLink RX4 179 yX4_addStep, .instanceMethod yX4_addStep, .selects RX4 yX4_addStep yX4_addStep, .initialized RX4, .methodLink RX4 192 yX4_readPart, .instanceMethod yX4_readPart, .selects RX4 yX4_readPart yX4_readPart, .code yX4_take cX4_take 2 (some .boolean), .methodLink RX4 70 yX4_take, .instanceMethod yX4_take, .selects RX4 yX4_take yX4_take, .methodLink RX4 189 yX4_readSum, .instanceMethod yX4_readSum, .selects RX4 yX4_readSum yX4_readSum, .methodLink RX4 186 yX4_readComparison, .instanceMethod yX4_readComparison, .selects RX4 yX4_readComparison yX4_readComparison, .methodLink RX4 183 yX4_readAtom, .instanceMethod yX4_readAtom, .selects RX4 yX4_readAtom yX4_readAtom, .methodLink RX4 176 yX4_readAll, .instanceMethod yX4_readAll, .selects RX4 yX4_readAll yX4_readAll, .methodLink RX4 173 yX4_readAny, .instanceMethod yX4_readAny, .selects RX4 yX4_readAny yX4_readAny] bs2)
set_option maxHeartbeats 4000000 in
set_option maxRecDepth 100000 in
theorem c_readAtom4 (l : Launch) (dC : Nat → ClassId) (dI : Nat → Nat → Nat) (kA : Nat → ClassId) (adK adV : Nat → Nat) (G : gT) (H0 : Heap) (nC nS : Int) (o0 : Nat) (th : Nat) (a0 : Int32) (vT : Nat → Int32) (tv ix_tv : Int32) (tn : Int32) (K : Nat → Int) (X pS : Nat → Nat) (hT : gH (dC, dI) kA (SHc nC nS) G H0) (hr_o0 : G o0 = some 7) (hm_th : el H0 o0 (dI 7 0) = some (.ref th)) (hr_th : G th = some 40) (hm_a0 : el H0 o0 (dI 7 13) = some (.int a0)) (hq0 : 0 ≤ tn.toInt ∧ tn.toInt ≤ 400) (hq1 : 0 ≤ a0.toInt ∧ a0.toInt ≤ 400) (hat : a0.toInt ≤ tn.toInt) (hKK : ∀ m : Nat, m ≤ tn.toNatClampNeg → (vT m).toInt = K (pS m)) (hXX : ∀ m : Nat, m < tn.toNatClampNeg → pS (m + 1) = X (pS m)) (hc_vT : ct H0 th 401 vT) (hx_tv : ix_tv.toInt = tn.toInt) (hm_tv : el H0 th ix_tv.toNatClampNeg = some (.int tv)) (hv_tv : 21 ≤ tv.toInt ∧ tv.toInt ≤ 21) (hgC : 0 ≤ nC ∧ nC ≤ 40) (hgS : 0 ≤ nS ∧ nS ≤ 60) : Met l yX4_readAtom w_c_readAtom4 ({ frames := 10, cells := 0, slots := 0, locals := 224 }) (va_Pc [.ref o0, .int 4] (fun U => U.heap = H0 ∧ va_K (dC, dI) vwCl (tyl kA) U ∧ EVC adK adV (gA G H0.size) U U.heap)) (va_Qi (fun (r : Int32) (u : Int32) => (0 ≤ u.toInt ∧ u.toInt ≤ 400) ∧ (0 ≤ r.toInt ∧ r.toInt ≤ 1) ∧ (a0.toInt ≤ u.toInt ∧ u.toInt ≤ tn.toInt) ∧ (aR K X 2 (pS a0.toNatClampNeg) r.toInt (pS u.toNatClampNeg))) (fun (a1 : Int32) (t : State) => gH (dC, dI) kA (SHc nC nS) G t.heap ∧ gF (dC, dI) SKc G ([(7, 12), (7, 13), (49, 0)] : List (Nat × Nat)) H0 t.heap ∧ el t.heap o0 (dI 7 13) = some (.int a1)) (gA G H0.size)) 0 0 (gA G H0.size) := by
  refine Met.ofW (cc := cX4_readAtom) (maxL := 4) (ret := (some .boolean)) (by decide) rfl ?_
  intro p e s m args below meth c s₁ B hml hv
  obtain ⟨rfl, hH0, hK, hE⟩ := hv
  have hx := B.exec
  have hb := B.bytes
  have hr := B.returns
  have hts := atoms_spec (ws := w_c_readAtom4) B.pre
  have hown : s.vm.findClass RX4 = some m.cls := findClass_of_methodNamed B.named
  have hlocks := B.notSynchronized
  subst hH0
  generalize hAe : gA G s.heap.size = A at hE ⊢
  have hA : ∀ q : Nat, s.heap.size ≤ q → A q := fun q h => by rw [← hAe]; exact Or.inr h
  have hG := gA_of hAe
  have hS : va_S A s.heap s.heap [] := va_S.rf
  have hF : gF (dC, dI) SKc G ([(7, 12), (7, 13), (49, 0)] : List (Nat × Nat)) s.heap s.heap := gF.rf
  have hl := lv_entry ([.ref o0, .int 4]) (n := 4) (Nat.le_of_ble_eq_true rfl)
  rw [lg_entry_eq]
  generalize (lg_sl ([.ref o0, .int 4]) ++ List.replicate (4 - (lg_sl ([.ref o0, .int 4])).length) Slot.unset).toArray = ls at hl ⊢
  have hl : lv_has ls 4 [(0, .ref o0), (1, .int 4)] := hl
  refine lv_aload_n hx hb dX4_readAtom_0 rfl (lv_at hl 0 rfl) ?_
  refine tw_getM (v := .ref th) hx hb hts bF2_X4 hown hK hT hr_o0 shc_7 rfl 0 (by decide) (ht_at2 hts 0 rfl) (fun _ h9 => h9) hm_th dX4_readAtom_1 ?_
  refine lv_aload_n hx hb dX4_readAtom_4 rfl (lv_at hl 0 rfl) ?_
  refine tw_getM (v := .int a0) hx hb hts bF2_X4 hown hK hT hr_o0 shc_7 rfl 13 (by decide) (ht_at2 hts 1 rfl) (fun _ h9 => h9) hm_a0 dX4_readAtom_5 ?_
  refine tw_iald (i := a0) hx hb hK hT hr_th shc_40 rfl (vin_t (a := a0.toInt) rfl (by omega) (by omega)) dX4_readAtom_8 (fun v9 m1 h9 => ?_)
  obtain ⟨x2, rfl, gx2, kx2⟩ := h9
  have cx2 := hc_vT.at m1 (by have q9 := tn_of (show a0.toInt = a0.toInt from rfl) (by omega); omega)
  have t3 : a0.toInt = ix_tv.toInt → x2.toInt = tv.toInt := fun h8 => congrArg Int32.toInt (el_same m1 hm_tv h8)
  have t4 : x2.toInt = K (pS a0.toNatClampNeg) := (congrArg Int32.toInt cx2).trans (hKK _ (by have := tn_of (show a0.toInt = a0.toInt from rfl) (by omega); have := tn_of (show tn.toInt = tn.toInt from rfl) (by omega); omega))
  refine lv_bipush (v := 13) hx hb dX4_readAtom_9 (by decide) ?_
  have t5 : -2147483648 ≤ x2.toInt ∧ x2.toInt ≤ 2147483647 := ti_all x2
  refine lv_icmp_ne (tgt := 18) hx hb dX4_readAtom_11 (by decide) (fun c6 => ?_) (fun c6 => ?_)
  · have t7 : x2.toInt ≠ 13 := ti_ne c6 rfl (by decide)
    refine lv_iconst (v := 0) hx hb dX4_readAtom_18 (by decide) ?_
    refine lv_istore_n (lv' := [(2, .int 0), (0, .ref o0), (1, .int 4)]) hx hb dX4_readAtom_19 rfl hl (by decide) rfl (fun ls hl => ?_)
    refine lv_iload_n hx hb dX4_readAtom_20 rfl (lv_at hl 0 rfl) ?_
    refine lv_if_ne (tgt := 43) hx hb dX4_readAtom_21 (by decide) (fun c8 => absurd c8 (by decide)) (fun c8 => ?_)
    refine lv_aload_n hx hb dX4_readAtom_24 rfl (lv_at hl 1 rfl) ?_
    refine tw_getM (v := .ref th) hx hb hts bF2_X4 hown hK hT hr_o0 shc_7 rfl 0 (by decide) (ht_at2 hts 0 rfl) (fun _ h9 => h9) hm_th dX4_readAtom_25 ?_
    refine lv_aload_n hx hb dX4_readAtom_28 rfl (lv_at hl 1 rfl) ?_
    refine tw_getM (v := .int a0) hx hb hts bF2_X4 hown hK hT hr_o0 shc_7 rfl 13 (by decide) (ht_at2 hts 1 rfl) (fun _ h9 => h9) hm_a0 dX4_readAtom_29 ?_
    refine tw_iald (i := a0) hx hb hK hT hr_th shc_40 rfl (vin_t (a := a0.toInt) rfl (by omega) (by omega)) dX4_readAtom_32 (fun v9 m9 h9 => ?_)
    obtain ⟨x10, rfl, gx10, kx10⟩ := h9
    have cx10 := hc_vT.at m9 (by have q9 := tn_of (show a0.toInt = a0.toInt from rfl) (by omega); omega)
    have t11 : a0.toInt = ix_tv.toInt → x10.toInt = tv.toInt := fun h8 => congrArg Int32.toInt (el_same m9 hm_tv h8)
    obtain rfl : x2 = x10 := (el_same m9 m1 rfl).symm
    refine lv_bipush (v := 16) hx hb dX4_readAtom_33 (by decide) ?_
    refine lv_icmp_eq (tgt := 43) hx hb dX4_readAtom_35 (by decide) (fun c12 => ?_) (fun c12 => ?_)
    · have t13 : x2.toInt = 16 := ti_eq c12 rfl (by decide)
      refine lv_iload_n hx hb dX4_readAtom_43 rfl (lv_at hl 2 rfl) ?_
      refine lv_bipush (v := 6) hx hb dX4_readAtom_44 (by decide) ?_
      refine lv_icmp_lt (tgt := 51) hx hb dX4_readAtom_46 (by decide) (fun c14 => ?_) (fun c14 => absurd c14 (by decide))
      refine lv_aload_n hx hb dX4_readAtom_51 rfl (lv_at hl 1 rfl) ?_
      refine lv_dup hx hb dX4_readAtom_52 rfl ?_
      refine tw_getM (v := .int a0) hx hb hts bF2_X4 hown hK hT hr_o0 shc_7 rfl 13 (by decide) (ht_at2 hts 1 rfl) (fun _ h9 => h9) hm_a0 dX4_readAtom_53 ?_
      refine lv_iconst (v := 1) hx hb dX4_readAtom_56 (by decide) ?_
      refine lv_iadd hx hb dX4_readAtom_57 ?_
      refine lv_topi (fun x15 ex15 => ?_)
      have t16 : x15.toInt = a0.toInt + 1 := ti_add ex15 rfl (by decide) (by omega) (by omega)
      refine tw_put (v := .int x15) (ty := .int) hx hb hts bF2_X4 tyX4 tyX4_ok nmX4 hown hK hT hG hS hr_o0 shc_7 rfl 13 (by decide) (ht_at2 hts 1 rfl) (fun _ h9 => h9) rfl (by decide +kernel) rfl rfl (gl_at rfl (gi_of (show x15.toInt = x15.toInt from rfl) (by omega) (by omega))) dX4_readAtom_58 (fun H locs hT oq m17 oj hS => ?_)
      have hF := hF.put hr_o0 skc_7 oq oj (by decide)
      have m18 := (oj 0 (by decide) (by decide)).trans hm_th
      have m19 := hc_vT.kept (oq _ (gne hr_th hr_o0 (by decide)))
      have m20 := (el_kept (oq _ (gne hr_th hr_o0 (by decide)))).trans hm_tv
      refine lv_iload_n hx hb dX4_readAtom_61 rfl (lv_at hl 0 rfl) ?_
      refine lv_if_eq (tgt := 81) hx hb dX4_readAtom_62 (by decide) (fun c22 => ?_) (fun c22 => absurd c22 (by decide))
      refine lv_aload_n hx hb dX4_readAtom_81 rfl (lv_at hl 1 rfl) ?_
      refine lv_iload_n hx hb dX4_readAtom_82 rfl (lv_at hl 2 rfl) ?_
      refine lv_iconst (v := 1) hx hb dX4_readAtom_83 (by decide) ?_
      refine lv_iadd hx hb dX4_readAtom_84 ?_
      refine lv_topi (fun x23 ex23 => ?_)
      obtain rfl : x23 = 5 := ex23.trans (by decide)
      have hFc := gA_free hG hA hS
      refine va_calli (va_runV (As := [.int 5]) (rest := []) ⟨hx, hb, hml, hown, hts⟩ (c_readAny5 l dC dI kA adK adV G H nC nS o0 th x15 vT tv ix_tv ix_tv K X pS hT hr_o0 m18 hr_th m17 (by have q8 := ti_all ix_tv; omega) (by have q8 := ti_all x15; omega) (by have := (show x15.toInt = x15.toInt from rfl); have := (show ix_tv.toInt = ix_tv.toInt from rfl); omega) (fun m hm => hKK m (Nat.le_trans hm (Nat.le_of_eq (tn_same hx_tv rfl rfl)))) (fun m hm => hXX m (Nat.lt_of_lt_of_eq hm (tn_same hx_tv rfl rfl))) m19 (by have q9 := (show ix_tv.toInt = ix_tv.toInt from rfl); have := (show ix_tv.toInt = ix_tv.toInt from rfl); omega) m20 (by have q8 := ti_all tv; omega) (by omega) (by omega)) (cwV 1 hts (goodIn_app (goodIn_r _ [35, 36, 37, 15] rfl (by decide +kernel)) (goodIn_ca (goodIn_r _ [3, 4, 5, 1, 2, 3, 6, 7, 8, 9, 10, 11, 12, 13, 14, 15, 16, 17, 18, 19, 20, 21, 22, 23, 24, 25, 26, 27, 28, 29, 30, 31, 32, 33, 34, 35, 36, 37] rfl (by decide +kernel)) (bs2_in _ _))) rfl rfl rfl (by decide +kernel) ⟨(Nat.le_of_ble_eq_true rfl), (Nat.le_of_ble_eq_true rfl)⟩) ⟨fun a U g mk q => by obtain ⟨q0, q1, qK, qE⟩ := q; exact ⟨q0, q1, va_K.moved (u := U) (U := U.calling g mk a) (Vm.Alike.refl U.vm) qK, EVC.blind g mk a qE⟩, gH_rc hK hT hr_o0 shc_7 rfl, fun U hU hW => ⟨rfl, hU, va_K.moved hW.alike hK, hE.call hS hFc hU hW⟩⟩ rfl rfl hl.1 rfl (lv_room (Nat.le_of_ble_eq_true rfl)) dX4_readAtom_85 ⟨(Nat.le_of_ble_eq_true rfl), (Nat.le_of_ble_eq_true rfl)⟩) hS (fun q _ h => hFc q h) hFc (fun r24 u t H locs ht hvm hw25 hB _ _ hS => ?_)
      obtain ⟨u26, rfl⟩ : ∃ z, z = u := ⟨_, rfl⟩
      obtain ⟨hT, hF1, m27⟩ := hB
      rw [ht] at hT hF1 m27
      have m28 := (hF1.fld hr_o0 skc_7 (k := 0) (by decide) (by decide)).trans m18
      have m29 := m19.kept (hF1.arr hr_th skc_40 (by decide))
      have m30 := (el_kept (hF1.arr hr_th skc_40 (by decide))).trans m20
      have hF := hF.more hF1 (by decide)
      try dsimp only at hw25
      obtain ⟨h33, h34, hf35, hf36⟩ := hw25
      refine lv_if_eq (tgt := 104) hx hb dX4_readAtom_88 (by decide) (fun c37 => ?_) (fun c37 => ?_)
      · have t38 : r24.toInt = 0 := ti_eq c37 rfl (by decide)
        refine lv_iconst (v := 0) hx hb dX4_readAtom_104 (by decide) ?_
        exact W.zret (v := 0) hx hb hr (by decide) (fun t ht hW => ⟨⟨0, u26, rfl, (by exact ⟨(by have q8 := ti_all u26; omega), (rg_t (a := 0) (by decide) (by first | decide | omega) (by first | decide | omega)), (by omega), (by have h9 := hf36; rw [(show pS x15.toNatClampNeg = X (pS a0.toNatClampNeg) from by rw [show x15.toNatClampNeg = a0.toNatClampNeg + 1 from by have := tn_of (show a0.toInt = a0.toInt from rfl) (by omega); have := tn_of (show x15.toInt = x15.toInt from rfl) (by omega); omega]; exact hXX _ (by have := tn_of (show a0.toInt = a0.toInt from rfl) (by omega); have := tn_of (show tn.toInt = tn.toInt from rfl) (by omega); omega))] at h9; rw [show r24.toInt = 0 from by omega] at h9; exact Or.inr (Or.inl ⟨by omega, Or.inl ⟨h9, by decide⟩⟩))⟩), by (try dsimp only); rw [ht]; exact ⟨hT, hF, m27⟩⟩, hS.F ht⟩) hS.2.2 dX4_readAtom_105
      · have t39 : r24.toInt ≠ 0 := ti_ne c37 rfl (by decide)
        refine lv_aload_n hx hb dX4_readAtom_91 rfl (lv_at hl 1 rfl) ?_
        refine lv_bipush (v := 17) hx hb dX4_readAtom_92 (by decide) ?_
        have hFc := gA_free hG hA hS
        refine va_calli (va_runV (As := [.int 17]) (rest := []) ⟨hx, hb, hml, hown, hts⟩ (c_take l dC dI kA adK adV G H nC nS o0 17 th u26 vT tv ix_tv ix_tv K X pS hT hr_o0 m28 hr_th m27 (by have q8 := ti_all ix_tv; omega) (by have q8 := ti_all u26; omega) (by have := (show u26.toInt = u26.toInt from rfl); have := (show ix_tv.toInt = ix_tv.toInt from rfl); omega) (by have := (show (17 : Int32).toInt = 17 from (by decide)); omega) (fun m hm => hKK m (Nat.le_trans hm (Nat.le_of_eq (tn_same hx_tv rfl rfl)))) (fun m hm => hXX m (Nat.lt_of_lt_of_eq hm (tn_same hx_tv rfl rfl))) m29 (by have q9 := (show ix_tv.toInt = ix_tv.toInt from rfl); have := (show ix_tv.toInt = ix_tv.toInt from rfl); omega) m30 (by have q8 := ti_all tv; omega) (by omega) (by omega)) (cwV 1 hts (goodIn_app (goodIn_r _ [20, 21, 22, 15] rfl (by decide +kernel)) (goodIn_ca (goodIn_r _ [19, 1, 2] rfl (by decide +kernel)) (bs2_in _ _))) rfl rfl rfl (by decide +kernel) ⟨(Nat.le_of_ble_eq_true rfl), (Nat.le_of_ble_eq_true rfl)⟩) ⟨fun a U g mk q => by obtain ⟨q0, q1, qK, qE⟩ := q; exact ⟨q0, q1, va_K.moved (u := U) (U := U.calling g mk a) (Vm.Alike.refl U.vm) qK, EVC.blind g mk a qE⟩, gH_rc hK hT hr_o0 shc_7 rfl, fun U hU hW => ⟨rfl, hU, va_K.moved hW.alike hK, hE.call hS hFc hU hW⟩⟩ rfl rfl hl.1 rfl (lv_room (Nat.le_of_ble_eq_true rfl)) dX4_readAtom_94 ⟨(Nat.le_of_ble_eq_true rfl), (Nat.le_of_ble_eq_true rfl)⟩) hS (fun q _ h => hFc q h) hFc (fun r40 u t H locs ht hvm hw41 hB _ _ hS => ?_)
        obtain ⟨u42, rfl⟩ : ∃ z, z = u := ⟨_, rfl⟩
        obtain ⟨hT, hF1, m43⟩ := hB
        rw [ht] at hT hF1 m43
        have hF := hF.more hF1 (by decide)
        try dsimp only at hw41
        obtain ⟨h49, h50, hf51, hf52, hf53⟩ := hw41
        refine lv_if_eq (tgt := 104) hx hb dX4_readAtom_97 (by decide) (fun c54 => ?_) (fun c54 => ?_)
        · have t55 : r40.toInt = 0 := ti_eq c54 rfl (by decide)
          refine lv_iconst (v := 0) hx hb dX4_readAtom_104 (by decide) ?_
          exact W.zret (v := 0) hx hb hr (by decide) (fun t ht hW => ⟨⟨0, u42, rfl, (by exact ⟨(by have q8 := ti_all u42; omega), (rg_t (a := 0) (by decide) (by first | decide | omega) (by first | decide | omega)), (by omega), (by have h9 := hf36; rw [(show pS x15.toNatClampNeg = X (pS a0.toNatClampNeg) from by rw [show x15.toNatClampNeg = a0.toNatClampNeg + 1 from by have := tn_of (show a0.toInt = a0.toInt from rfl) (by omega); have := tn_of (show x15.toInt = x15.toInt from rfl) (by omega); omega]; exact hXX _ (by have := tn_of (show a0.toInt = a0.toInt from rfl) (by omega); have := tn_of (show tn.toInt = tn.toInt from rfl) (by omega); omega))] at h9; rw [show r24.toInt = 1 from by omega] at h9; have t9 := hf52; exact Or.inr (Or.inl ⟨by omega, Or.inr ⟨_, h9, (by have q0 : (0 : Int32).toInt = 0 := (by decide); have q1 : (1 : Int32).toInt = 1 := (by decide); rcases t9 with ⟨x1, x2, x3⟩ | ⟨x1, x2, x3⟩; (exact Or.inl ⟨x1.trans (by decide), by omega, x3⟩); exact Or.inr ⟨fun h7 => x1 (h7.trans (by decide)), by omega, x3⟩)⟩⟩))⟩), by (try dsimp only); rw [ht]; exact ⟨hT, hF, m43⟩⟩, hS.F ht⟩) hS.2.2 dX4_readAtom_105
        · have t56 : r40.toInt ≠ 0 := ti_ne c54 rfl (by decide)
          refine lv_iconst (v := 1) hx hb dX4_readAtom_100 (by decide) ?_
          refine lv_goto (tgt := 105) hx hb dX4_readAtom_101 (by decide) ?_
          exact W.zret (v := 1) hx hb hr (by decide) (fun t ht hW => ⟨⟨1, u42, rfl, (by exact ⟨(by have q8 := ti_all u42; omega), (rg_t (a := 1) (by decide) (by first | decide | omega) (by first | decide | omega)), (by omega), (by have h9 := hf36; rw [(show pS x15.toNatClampNeg = X (pS a0.toNatClampNeg) from by rw [show x15.toNatClampNeg = a0.toNatClampNeg + 1 from by have := tn_of (show a0.toInt = a0.toInt from rfl) (by omega); have := tn_of (show x15.toInt = x15.toInt from rfl) (by omega); omega]; exact hXX _ (by have := tn_of (show a0.toInt = a0.toInt from rfl) (by omega); have := tn_of (show tn.toInt = tn.toInt from rfl) (by omega); omega))] at h9; rw [show r24.toInt = 1 from by omega] at h9; have t9 := hf52; exact Or.inr (Or.inl ⟨by omega, Or.inr ⟨_, h9, (by have q0 : (0 : Int32).toInt = 0 := (by decide); have q1 : (1 : Int32).toInt = 1 := (by decide); rcases t9 with ⟨x1, x2, x3⟩ | ⟨x1, x2, x3⟩; (exact Or.inl ⟨x1.trans (by decide), by omega, x3⟩); exact Or.inr ⟨fun h7 => x1 (h7.trans (by decide)), by omega, x3⟩)⟩⟩))⟩), by (try dsimp only); rw [ht]; exact ⟨hT, hF, m43⟩⟩, hS.F ht⟩) hS.2.2 dX4_readAtom_105
    · have t57 : x2.toInt ≠ 16 := ti_ne c12 rfl (by decide)
      refine lv_aload_n hx hb dX4_readAtom_38 rfl (lv_at hl 1 rfl) ?_
      have hFc := gA_free hG hA hS
      refine va_calli (va_runV (As := []) (rest := []) ⟨hx, hb, hml, hown, hts⟩ (c_readComparison l dC dI kA adK adV G s.heap nC nS o0 th a0 vT tv ix_tv ix_tv K X pS hT hr_o0 hm_th hr_th hm_a0 (by have q8 := ti_all ix_tv; omega) (by have q8 := ti_all a0; omega) (by have := (show a0.toInt = a0.toInt from rfl); have := (show ix_tv.toInt = ix_tv.toInt from rfl); omega) (fun m hm => hKK m (Nat.le_trans hm (Nat.le_of_eq (tn_same hx_tv rfl rfl)))) (fun m hm => hXX m (Nat.lt_of_lt_of_eq hm (tn_same hx_tv rfl rfl))) hc_vT (by have q9 := (show ix_tv.toInt = ix_tv.toInt from rfl); have := (show ix_tv.toInt = ix_tv.toInt from rfl); omega) hm_tv (by have q8 := ti_all tv; omega) (by omega) (by omega)) (cwV 0 hts (goodIn_app (goodIn_r _ [26, 27, 28, 15] rfl (by decide +kernel)) (goodIn_ca (goodIn_r _ [6, 7, 8, 1, 2, 9, 10, 11, 12, 13, 14, 15, 16, 17, 18, 19, 20, 21, 22, 23, 24, 25] rfl (by decide +kernel)) (bs2_in _ _))) rfl rfl rfl (by decide +kernel) ⟨(Nat.le_of_ble_eq_true rfl), (Nat.le_of_ble_eq_true rfl)⟩) ⟨fun a U g mk q => by obtain ⟨q0, q1, qK, qE⟩ := q; exact ⟨q0, q1, va_K.moved (u := U) (U := U.calling g mk a) (Vm.Alike.refl U.vm) qK, EVC.blind g mk a qE⟩, gH_rc hK hT hr_o0 shc_7 rfl, fun U hU hW => ⟨rfl, hU, va_K.moved hW.alike hK, hE.call hS hFc hU hW⟩⟩ rfl rfl hl.1 rfl (lv_room (Nat.le_of_ble_eq_true rfl)) dX4_readAtom_39 ⟨(Nat.le_of_ble_eq_true rfl), (Nat.le_of_ble_eq_true rfl)⟩) hS (fun q _ h => hFc q h) hFc (fun r58 u t H locs ht hvm hw59 hB _ _ hS => ?_)
      obtain ⟨u60, rfl⟩ : ∃ z, z = u := ⟨_, rfl⟩
      obtain ⟨hT, hF1, m61⟩ := hB
      rw [ht] at hT hF1 m61
      have hF := hF.more hF1 (by decide)
      try dsimp only at hw59
      obtain ⟨h67, h68, hf69, hf70⟩ := hw59
      exact W.zret (v := r58) hx hb hr (nar_b (by have q8 := ti_all r58; omega)) (fun t ht hW => ⟨⟨r58, u60, rfl, (by exact ⟨(by have q8 := ti_all u60; omega), (by have q8 := ti_all r58; omega), (by omega), (Or.inr (Or.inr ⟨by omega, hf70⟩))⟩), by (try dsimp only); rw [ht]; exact ⟨hT, hF, m61⟩⟩, hS.F ht⟩) hS.2.2 dX4_readAtom_42
  · have t71 : x2.toInt = 13 := ti_eq c6 rfl (by decide)
    refine lv_iconst (v := 1) hx hb dX4_readAtom_14 (by decide) ?_
    refine lv_goto (tgt := 19) hx hb dX4_readAtom_15 (by decide) ?_
    refine lv_istore_n (lv' := [(2, .int 1), (0, .ref o0), (1, .int 4)]) hx hb dX4_readAtom_19 rfl hl (by decide) rfl (fun ls hl => ?_)
    refine lv_iload_n hx hb dX4_readAtom_20 rfl (lv_at hl 0 rfl) ?_
    refine lv_if_ne (tgt := 43) hx hb dX4_readAtom_21 (by decide) (fun c72 => ?_) (fun c72 => absurd c72 (by decide))
    refine lv_iload_n hx hb dX4_readAtom_43 rfl (lv_at hl 2 rfl) ?_
    refine lv_bipush (v := 6) hx hb dX4_readAtom_44 (by decide) ?_
    refine lv_icmp_lt (tgt := 51) hx hb dX4_readAtom_46 (by decide) (fun c73 => ?_) (fun c73 => absurd c73 (by decide))
    refine lv_aload_n hx hb dX4_readAtom_51 rfl (lv_at hl 1 rfl) ?_
    refine lv_dup hx hb dX4_readAtom_52 rfl ?_
    refine tw_getM (v := .int a0) hx hb hts bF2_X4 hown hK hT hr_o0 shc_7 rfl 13 (by decide) (ht_at2 hts 1 rfl) (fun _ h9 => h9) hm_a0 dX4_readAtom_53 ?_
    refine lv_iconst (v := 1) hx hb dX4_readAtom_56 (by decide) ?_
    refine lv_iadd hx hb dX4_readAtom_57 ?_
    refine lv_topi (fun x74 ex74 => ?_)
    have t75 : x74.toInt = a0.toInt + 1 := ti_add ex74 rfl (by decide) (by omega) (by omega)
    refine tw_put (v := .int x74) (ty := .int) hx hb hts bF2_X4 tyX4 tyX4_ok nmX4 hown hK hT hG hS hr_o0 shc_7 rfl 13 (by decide) (ht_at2 hts 1 rfl) (fun _ h9 => h9) rfl (by decide +kernel) rfl rfl (gl_at rfl (gi_of (show x74.toInt = x74.toInt from rfl) (by omega) (by omega))) dX4_readAtom_58 (fun H locs hT oq m76 oj hS => ?_)
    have hF := hF.put hr_o0 skc_7 oq oj (by decide)
    have m77 := (oj 0 (by decide) (by decide)).trans hm_th
    have m78 := hc_vT.kept (oq _ (gne hr_th hr_o0 (by decide)))
    have m79 := (el_kept (oq _ (gne hr_th hr_o0 (by decide)))).trans hm_tv
    refine lv_iload_n hx hb dX4_readAtom_61 rfl (lv_at hl 0 rfl) ?_
    refine lv_if_eq (tgt := 81) hx hb dX4_readAtom_62 (by decide) (fun c81 => absurd c81 (by decide)) (fun c81 => ?_)
    refine lv_aload_n hx hb dX4_readAtom_65 rfl (lv_at hl 1 rfl) ?_
    refine lv_iload_n hx hb dX4_readAtom_66 rfl (lv_at hl 2 rfl) ?_
    refine lv_iconst (v := 1) hx hb dX4_readAtom_67 (by decide) ?_
    refine lv_iadd hx hb dX4_readAtom_68 ?_
    refine lv_topi (fun x82 ex82 => ?_)
    obtain rfl : x82 = 5 := ex82.trans (by decide)
    have hFc := gA_free hG hA hS
    refine va_calli (va_runV (As := [.int 5]) (rest := []) ⟨hx, hb, hml, hown, hts⟩ (c_readAtom5 l dC dI kA adK adV G H nC nS o0 th x74 vT tv ix_tv ix_tv K X pS hT hr_o0 m77 hr_th m76 (by have q8 := ti_all ix_tv; omega) (by have q8 := ti_all x74; omega) (by have := (show x74.toInt = x74.toInt from rfl); have := (show ix_tv.toInt = ix_tv.toInt from rfl); omega) (fun m hm => hKK m (Nat.le_trans hm (Nat.le_of_eq (tn_same hx_tv rfl rfl)))) (fun m hm => hXX m (Nat.lt_of_lt_of_eq hm (tn_same hx_tv rfl rfl))) m78 (by have q9 := (show ix_tv.toInt = ix_tv.toInt from rfl); have := (show ix_tv.toInt = ix_tv.toInt from rfl); omega) m79 (by have q8 := ti_all tv; omega) (by omega) (by omega)) (cwV 1 hts (goodIn_app (goodIn_r _ [29, 30, 31, 15] rfl (by decide +kernel)) (goodIn_ca (goodIn_r _ [5, 1, 2, 3, 4, 5, 6, 7, 8, 9, 10, 11, 12, 13, 14, 15, 16, 17, 18, 19, 20, 21, 22, 23, 24, 25, 26, 27, 28, 29, 30, 31, 32, 33, 34, 35, 36, 37] rfl (by decide +kernel)) (bs2_in _ _))) rfl rfl rfl (by decide +kernel) ⟨(Nat.le_of_ble_eq_true rfl), (Nat.le_of_ble_eq_true rfl)⟩) ⟨fun a U g mk q => by obtain ⟨q0, q1, qK, qE⟩ := q; exact ⟨q0, q1, va_K.moved (u := U) (U := U.calling g mk a) (Vm.Alike.refl U.vm) qK, EVC.blind g mk a qE⟩, gH_rc hK hT hr_o0 shc_7 rfl, fun U hU hW => ⟨rfl, hU, va_K.moved hW.alike hK, hE.call hS hFc hU hW⟩⟩ rfl rfl hl.1 rfl (lv_room (Nat.le_of_ble_eq_true rfl)) dX4_readAtom_69 ⟨(Nat.le_of_ble_eq_true rfl), (Nat.le_of_ble_eq_true rfl)⟩) hS (fun q _ h => hFc q h) hFc (fun r83 u t H locs ht hvm hw84 hB _ _ hS => ?_)
    obtain ⟨u85, rfl⟩ : ∃ z, z = u := ⟨_, rfl⟩
    obtain ⟨hT, hF1, m86⟩ := hB
    rw [ht] at hT hF1 m86
    have hF := hF.more hF1 (by decide)
    try dsimp only at hw84
    obtain ⟨h92, h93, hf94, hf95⟩ := hw84
    refine lv_istore_n (lv' := [(3, .int r83), (2, .int 1), (0, .ref o0), (1, .int 4)]) hx hb dX4_readAtom_72 rfl hl (by decide) rfl (fun ls hl => ?_)
    refine lv_aload_n hx hb dX4_readAtom_73 rfl (lv_at hl 2 rfl) ?_
    refine lv_bipush (v := 13) hx hb dX4_readAtom_74 (by decide) ?_
    have hFc := gA_free hG hA hS
    refine va_callv (va_runV (As := [.int 13]) (rest := []) ⟨hx, hb, hml, hown, hts⟩ (c_addStep l dC dI kA adK adV G H nC nS o0 13 hT hr_o0 (rg_t (a := 13) (by decide) (by first | decide | omega) (by first | decide | omega)) (by omega) (by omega)) (cwV 1 hts (goodIn_app (goodIn_r _ [12, 13, 14, 15] rfl (by decide +kernel)) (goodIn_ca (goodIn_r _ [9, 10, 11] rfl (by decide +kernel)) (bs2_in _ _))) rfl rfl rfl (by decide +kernel) ⟨(Nat.le_of_ble_eq_true rfl), (Nat.le_of_ble_eq_true rfl)⟩) ⟨fun a U g mk q => by obtain ⟨q0, q1, qK, qE⟩ := q; exact ⟨q0, q1, va_K.moved (u := U) (U := U.calling g mk a) (Vm.Alike.refl U.vm) qK, EVC.blind g mk a qE⟩, gH_rc hK hT hr_o0 shc_7 rfl, fun U hU hW => ⟨rfl, hU, va_K.moved hW.alike hK, hE.call hS hFc hU hW⟩⟩ rfl rfl hl.1 rfl (lv_room (Nat.le_of_ble_eq_true rfl)) dX4_readAtom_76 ⟨(Nat.le_of_ble_eq_true rfl), (Nat.le_of_ble_eq_true rfl)⟩) hS (fun q _ h => hFc q h) hFc (fun u t H locs ht hvm hw97 hB _ _ hS => ?_)
    obtain ⟨hT, hF1⟩ := hB
    rw [ht] at hT hF1
    have m102 := (hF1.fld hr_o0 skc_7 (k := 13) (by decide) (by decide)).trans m86
    have hF := hF.more hF1 (by decide)
    try dsimp only at hw97
    refine lv_iload_n hx hb dX4_readAtom_79 rfl (lv_at hl 0 rfl) ?_
    exact W.zret (v := r83) hx hb hr (nar_b (by have q8 := ti_all r83; omega)) (fun t ht hW => ⟨⟨r83, u85, rfl, (by exact ⟨(by have q8 := ti_all u85; omega), (by have q8 := ti_all r83; omega), (by omega), (by have h9 := hf95; rw [(show pS x74.toNatClampNeg = X (pS a0.toNatClampNeg) from by rw [show x74.toNatClampNeg = a0.toNatClampNeg + 1 from by have := tn_of (show a0.toInt = a0.toInt from rfl) (by omega); have := tn_of (show x74.toInt = x74.toInt from rfl) (by omega); omega]; exact hXX _ (by have := tn_of (show a0.toInt = a0.toInt from rfl) (by omega); have := tn_of (show tn.toInt = tn.toInt from rfl) (by omega); omega))] at h9; exact Or.inl ⟨by omega, h9⟩)⟩), by (try dsimp only); rw [ht]; exact ⟨hT, hF, m102⟩⟩, hS.F ht⟩) hS.2.2 dX4_readAtom_80
def w_c_readAll4 : List Cond := .code yX4_readAll cX4_readAll 4 (some .boolean) :: (HAppend.hAppend (α := List Cond) (β := List Cond) (γ := List Cond) [.code yX4_readAtom cX4_readAtom 4 (some .boolean), .fieldLink RX4 11 "SeaLand$Law" "things" "[I", .fieldLink RX4 56 "SeaLand$Law" "at" "I", .code yX4_readAny cX4_readAny 4 (some .boolean), .code yX4_readAll cX4_readAll 4 (some .boolean), .code yX4_readComparison cX4_readComparison 3 (some .boolean), .code yX4_readSum cX4_readSum 3 (some .boolean), .code yX4_readPart cX4_readPart 2 (some .boolean), .code yX4_addStep cX4_addStep 2 none, .fieldLink RX4 63 "SeaLand$Law" "stepped" "I", .fieldLink RX4 39 "SeaLand$Law" "steps" "[I", .methodLink RX4 179 yX4_addStep, .instanceMethod yX4_addStep, .selects RX4 yX4_addStep yX4_addStep, .initialized RX4, .methodLink RX4 192 yX4_readPart, .instanceMethod yX4_readPart, .selects RX4 yX4_readPart yX4_readPart, .code yX4_take cX4_take 2 (some .boolean), .methodLink RX4 70 yX4_take, .instanceMethod yX4_take, .selects RX4 yX4_take yX4_take, .methodLink RX4 189 yX4_readSum, .instanceMethod yX4_readSum, .selects RX4 yX4_readSum yX4_readSum, .methodLink RX4 186 yX4_readComparison, .instanceMethod yX4_readComparison, .selects RX4 yX4_readComparison yX4_readComparison, .methodLink RX4 183 yX4_readAtom, .instanceMethod yX4_readAtom, .selects RX4 yX4_readAtom yX4_readAtom, .methodLink RX4 176 yX4_readAll, .instanceMethod yX4_readAll, .selects RX4 yX4_readAll yX4_readAll, .methodLink RX4 173 yX4_readAny, .instanceMethod yX4_readAny, .selects RX4 yX4_readAny yX4_readAny] bs2)
set_option maxHeartbeats 4000000 in
set_option maxRecDepth 100000 in
theorem c_readAll4 (l : Launch) (dC : Nat → ClassId) (dI : Nat → Nat → Nat) (kA : Nat → ClassId) (adK adV : Nat → Nat) (G : gT) (H0 : Heap) (nC nS : Int) (o0 : Nat) (th : Nat) (a0 : Int32) (vT : Nat → Int32) (tv ix_tv : Int32) (tn : Int32) (K : Nat → Int) (X pS : Nat → Nat) (hT : gH (dC, dI) kA (SHc nC nS) G H0) (hr_o0 : G o0 = some 7) (hm_th : el H0 o0 (dI 7 0) = some (.ref th)) (hr_th : G th = some 40) (hm_a0 : el H0 o0 (dI 7 13) = some (.int a0)) (hq0 : 0 ≤ tn.toInt ∧ tn.toInt ≤ 400) (hq1 : 0 ≤ a0.toInt ∧ a0.toInt ≤ 400) (hat : a0.toInt ≤ tn.toInt) (hKK : ∀ m : Nat, m ≤ tn.toNatClampNeg → (vT m).toInt = K (pS m)) (hXX : ∀ m : Nat, m < tn.toNatClampNeg → pS (m + 1) = X (pS m)) (hc_vT : ct H0 th 401 vT) (hx_tv : ix_tv.toInt = tn.toInt) (hm_tv : el H0 th ix_tv.toNatClampNeg = some (.int tv)) (hv_tv : 21 ≤ tv.toInt ∧ tv.toInt ≤ 21) (hgC : 0 ≤ nC ∧ nC ≤ 40) (hgS : 0 ≤ nS ∧ nS ≤ 60) : Met l yX4_readAll w_c_readAll4 ({ frames := 11, cells := 0, slots := 0, locals := 247 }) (va_Pc [.ref o0, .int 4] (fun U => U.heap = H0 ∧ va_K (dC, dI) vwCl (tyl kA) U ∧ EVC adK adV (gA G H0.size) U U.heap)) (va_Qi (fun (r : Int32) (u : Int32) => (0 ≤ u.toInt ∧ u.toInt ≤ 400) ∧ (0 ≤ r.toInt ∧ r.toInt ≤ 1) ∧ (a0.toInt ≤ u.toInt ∧ u.toInt ≤ tn.toInt) ∧ (lpR K X (aR K X 2) 14 (pS a0.toNatClampNeg) r.toInt (pS u.toNatClampNeg))) (fun (a1 : Int32) (t : State) => gH (dC, dI) kA (SHc nC nS) G t.heap ∧ gF (dC, dI) SKc G ([(7, 12), (7, 13), (49, 0)] : List (Nat × Nat)) H0 t.heap ∧ el t.heap o0 (dI 7 13) = some (.int a1)) (gA G H0.size)) 0 0 (gA G H0.size) := by
  refine Met.ofW (cc := cX4_readAll) (maxL := 4) (ret := (some .boolean)) (by decide) rfl ?_
  intro p e s m args below meth c s₁ B hml hv
  obtain ⟨rfl, hH0, hK, hE⟩ := hv
  have hx := B.exec
  have hb := B.bytes
  have hr := B.returns
  have hts := atoms_spec (ws := w_c_readAll4) B.pre
  have hown : s.vm.findClass RX4 = some m.cls := findClass_of_methodNamed B.named
  have hlocks := B.notSynchronized
  subst hH0
  generalize hAe : gA G s.heap.size = A at hE ⊢
  have hA : ∀ q : Nat, s.heap.size ≤ q → A q := fun q h => by rw [← hAe]; exact Or.inr h
  have hG := gA_of hAe
  have hS : va_S A s.heap s.heap [] := va_S.rf
  have hF : gF (dC, dI) SKc G ([(7, 12), (7, 13), (49, 0)] : List (Nat × Nat)) s.heap s.heap := gF.rf
  have hl := lv_entry ([.ref o0, .int 4]) (n := 4) (Nat.le_of_ble_eq_true rfl)
  rw [lg_entry_eq]
  generalize (lg_sl ([.ref o0, .int 4]) ++ List.replicate (4 - (lg_sl ([.ref o0, .int 4])).length) Slot.unset).toArray = ls at hl ⊢
  have hl : lv_has ls 4 [(0, .ref o0), (1, .int 4)] := hl
  refine lv_aload_n hx hb dX4_readAll_0 rfl (lv_at hl 0 rfl) ?_
  refine lv_iload_n hx hb dX4_readAll_1 rfl (lv_at hl 1 rfl) ?_
  have hFc := gA_free hG hA hS
  refine va_calli (va_runV (As := [.int 4]) (rest := []) ⟨hx, hb, hml, hown, hts⟩ (c_readAtom4 l dC dI kA adK adV G s.heap nC nS o0 th a0 vT tv ix_tv ix_tv K X pS hT hr_o0 hm_th hr_th hm_a0 (by have q8 := ti_all ix_tv; omega) (by have q8 := ti_all a0; omega) (by have := (show a0.toInt = a0.toInt from rfl); have := (show ix_tv.toInt = ix_tv.toInt from rfl); omega) (fun m hm => hKK m (Nat.le_trans hm (Nat.le_of_eq (tn_same hx_tv rfl rfl)))) (fun m hm => hXX m (Nat.lt_of_lt_of_eq hm (tn_same hx_tv rfl rfl))) hc_vT (by have q9 := (show ix_tv.toInt = ix_tv.toInt from rfl); have := (show ix_tv.toInt = ix_tv.toInt from rfl); omega) hm_tv (by have q8 := ti_all tv; omega) (by omega) (by omega)) (cwV 1 hts (goodIn_app (goodIn_r _ [29, 30, 31, 15] rfl (by decide +kernel)) (goodIn_ca (goodIn_r _ [1, 2, 3, 4, 5, 1, 6, 7, 8, 9, 10, 11, 12, 13, 14, 15, 16, 17, 18, 19, 20, 21, 22, 23, 24, 25, 26, 27, 28, 29, 30, 31, 32, 33, 34, 35, 36, 37] rfl (by decide +kernel)) (bs2_in _ _))) rfl rfl rfl (by decide +kernel) ⟨(Nat.le_of_ble_eq_true rfl), (Nat.le_of_ble_eq_true rfl)⟩) ⟨fun a U g mk q => by obtain ⟨q0, q1, qK, qE⟩ := q; exact ⟨q0, q1, va_K.moved (u := U) (U := U.calling g mk a) (Vm.Alike.refl U.vm) qK, EVC.blind g mk a qE⟩, gH_rc hK hT hr_o0 shc_7 rfl, fun U hU hW => ⟨rfl, hU, va_K.moved hW.alike hK, hE.call hS hFc hU hW⟩⟩ rfl rfl hl.1 rfl (lv_room (Nat.le_of_ble_eq_true rfl)) dX4_readAll_2 ⟨(Nat.le_of_ble_eq_true rfl), (Nat.le_of_ble_eq_true rfl)⟩) hS (fun q _ h => hFc q h) hFc (fun r1 u t H locs ht hvm hw2 hB _ _ hS => ?_)
  obtain ⟨u3, rfl⟩ : ∃ z, z = u := ⟨_, rfl⟩
  obtain ⟨hT, hF1, m4⟩ := hB
  rw [ht] at hT hF1 m4
  have m5 := (hF1.fld hr_o0 skc_7 (k := 0) (by decide) (by decide)).trans hm_th
  have m7 := hc_vT.kept (hF1.arr hr_th skc_40 (by decide))
  have m8 := (el_kept (hF1.arr hr_th skc_40 (by decide))).trans hm_tv
  have hF := hF.more hF1 (by decide)
  try dsimp only at hw2
  obtain ⟨h9, h10, hf11, hf12⟩ := hw2
  refine lv_istore_n (lv' := [(2, .int r1), (0, .ref o0), (1, .int 4)]) hx hb dX4_readAll_5 rfl hl (by decide) rfl (fun ls hl => ?_)
  refine lv_iconst (v := 0) hx hb dX4_readAll_6 (by decide) ?_
  refine lv_istore_n (lv' := [(3, .int 0), (2, .int r1), (0, .ref o0), (1, .int 4)]) hx hb dX4_readAll_7 rfl hl (by decide) rfl (fun ls hl => ?_)
  have key63 : ∀ (n63 i13 : Nat), i13 + n63 = 400 → 0 ≤ i13 → ∀ (z14 : Int32), ∀ (z19 : Int32), ((0 ≤ z14.toInt ∧ z14.toInt ≤ 1) ∧ (0 ≤ z19.toInt ∧ z19.toInt ≤ 400) ∧ (a0.toInt ≤ z19.toInt ∧ z19.toInt ≤ tn.toInt) ∧ (((z14.toInt = 1 ∧ ∀ (r : Int) (f : Nat), lpQ K X (aR K X 2) 14 (pS z19.toNatClampNeg) r f → lpR K X (aR K X 2) 14 (pS a0.toNatClampNeg) r f) ∨ (z14.toInt = 0 ∧ lpR K X (aR K X 2) 14 (pS a0.toNatClampNeg) 0 (pS z19.toNatClampNeg))) ∧ ((i13 : Nat) : Int) ≤ z19.toInt)) → ∀ (H : Heap) (locs : List Loc), gH (dC, dI) kA (SHc nC nS) G H → gF (dC, dI) SKc G ([(7, 12), (7, 13), (49, 0)] : List (Nat × Nat)) s.heap H → va_S A s.heap H locs → ct H th 401 vT → el H o0 (dI 7 0) = some (.ref th) → el H th ix_tv.toNatClampNeg = some (.int tv) → el H o0 (dI 7 13) = some (.int z19) → ∀ ls : Array Slot, lv_has ls 4 [(3, .int (nI i13)), (2, .int z14), (0, .ref o0), (1, .int 4)] → W p l e (headSpec w_c_readAll4 ({ frames := 11, cells := 0, slots := 0, locals := 247 })).room s m #[.ref o0, .int 4] below meth c H locs 0 0 (MQ below (va_Qi (fun (r : Int32) (u : Int32) => (0 ≤ u.toInt ∧ u.toInt ≤ 400) ∧ (0 ≤ r.toInt ∧ r.toInt ≤ 1) ∧ (a0.toInt ≤ u.toInt ∧ u.toInt ≤ tn.toInt) ∧ (lpR K X (aR K X 2) 14 (pS a0.toNatClampNeg) r.toInt (pS u.toNatClampNeg))) (fun (a1 : Int32) (t : State) => gH (dC, dI) kA (SHc nC nS) G t.heap ∧ gF (dC, dI) SKc G ([(7, 12), (7, 13), (49, 0)] : List (Nat × Nat)) s.heap t.heap ∧ el t.heap o0 (dI 7 13) = some (.int a1)) A) #[.ref o0, .int 4] s 0 0 A) (F0 m 8 ls []) := by
    intro n63
    induction n63 with
    | zero =>
      intro i13 hn63 hlo64 z14 z19 ⟨h15, h20, hj22, hj23⟩ H locs hT hF hS m16 m17 m18 m21 ls hl
      obtain rfl : 400 = i13 := by omega
      refine lv_iload_n hx hb dX4_readAll_8 rfl (lv_at hl 0 rfl) ?_
      refine lv_sipush (v := 400) hx hb dX4_readAll_9 (by decide) ?_
      refine lv_icmp_ge (tgt := 46) hx hb dX4_readAll_12 (by decide) (fun c65 => ?_) (fun c65 => (by exfalso; have q9 : ((400 : Nat) : Int) < 400 := ti_nle c65 (by decide) (nI_toInt (by omega)); omega))
      have t66 : 400 ≤ ((400 : Nat) : Int) := ti_le c65 (by decide) (nI_toInt (by omega))
      refine lv_iload_n hx hb dX4_readAll_46 rfl (lv_at hl 1 rfl) ?_
      exact W.zret (v := z14) hx hb hr (nar_b (by have q8 := ti_all z14; omega)) (fun t ht hW => ⟨⟨z14, z19, rfl, (by exact ⟨(by have q8 := ti_all z19; omega), (by have q8 := ti_all z14; omega), (by omega), (by rcases hj23.1 with ⟨h8, l9⟩ | ⟨h8, l9⟩; (rw [h8]; exact lp_e l9 (fun h7 => by have := tn_of (show z19.toInt = z19.toInt from rfl) (by omega); have := tn_of (show tn.toInt = tn.toInt from rfl) (by omega); have k9 := hKK tn.toNatClampNeg (Nat.le_refl _); have e9 := hc_vT.at hm_tv (by have q9 := tn_of hx_tv (by omega); omega); have k8 : (vT tn.toNatClampNeg).toInt = 21 := (by have q8 := congrArg Int32.toInt e9; rw [show ix_tv.toNatClampNeg = tn.toNatClampNeg from tn_same hx_tv rfl rfl] at q8; omega); rw [show z19.toNatClampNeg = tn.toNatClampNeg from by omega] at h7; omega)); rw [h8]; exact l9)⟩), by (try dsimp only); rw [ht]; exact ⟨hT, hF, m21⟩⟩, hS.F ht⟩) hS.2.2 dX4_readAll_47
    | succ n63 ih63 =>
      intro i13 hn63 hlo64 z14 z19 ⟨h15, h20, hj22, hj23⟩ H locs hT hF hS m16 m17 m18 m21 ls hl
      have hlt66 : i13 < 400 := by omega
      refine lv_iload_n hx hb dX4_readAll_8 rfl (lv_at hl 0 rfl) ?_
      refine lv_sipush (v := 400) hx hb dX4_readAll_9 (by decide) ?_
      refine lv_icmp_ge (tgt := 46) hx hb dX4_readAll_12 (by decide) (fun c67 => (by exfalso; have q9 : 400 ≤ ((i13 : Nat) : Int) := ti_le c67 (by decide) (nI_toInt (by omega)); omega)) (fun c67 => ?_)
      have t68 : ((i13 : Nat) : Int) < 400 := ti_nle c67 (by decide) (nI_toInt (by omega))
      refine lv_iload_n hx hb dX4_readAll_15 rfl (lv_at hl 1 rfl) ?_
      refine lv_if_eq (tgt := 46) hx hb dX4_readAll_16 (by decide) (fun c69 => ?_) (fun c69 => ?_)
      · have t70 : z14.toInt = 0 := ti_eq c69 rfl (by decide)
        refine lv_iload_n hx hb dX4_readAll_46 rfl (lv_at hl 1 rfl) ?_
        exact W.zret (v := z14) hx hb hr (nar_b (by have q8 := ti_all z14; omega)) (fun t ht hW => ⟨⟨z14, z19, rfl, (by exact ⟨(by have q8 := ti_all z19; omega), (by have q8 := ti_all z14; omega), (by omega), (by rcases hj23.1 with ⟨h8, l9⟩ | ⟨h8, l9⟩; (rw [h8]; exact lp_e l9 (fun h7 => by have := tn_of (show z19.toInt = z19.toInt from rfl) (by omega); have := tn_of (show tn.toInt = tn.toInt from rfl) (by omega); have k9 := hKK tn.toNatClampNeg (Nat.le_refl _); have e9 := hc_vT.at hm_tv (by have q9 := tn_of hx_tv (by omega); omega); have k8 : (vT tn.toNatClampNeg).toInt = 21 := (by have q8 := congrArg Int32.toInt e9; rw [show ix_tv.toNatClampNeg = tn.toNatClampNeg from tn_same hx_tv rfl rfl] at q8; omega); rw [show z19.toNatClampNeg = tn.toNatClampNeg from by omega] at h7; omega)); rw [h8]; exact l9)⟩), by (try dsimp only); rw [ht]; exact ⟨hT, hF, m21⟩⟩, hS.F ht⟩) hS.2.2 dX4_readAll_47
      · have t71 : z14.toInt ≠ 0 := ti_ne c69 rfl (by decide)
        refine lv_aload_n hx hb dX4_readAll_19 rfl (lv_at hl 2 rfl) ?_
        refine lv_bipush (v := 14) hx hb dX4_readAll_20 (by decide) ?_
        have hFc := gA_free hG hA hS
        refine va_calli (va_runV (As := [.int 14]) (rest := []) ⟨hx, hb, hml, hown, hts⟩ (c_take l dC dI kA adK adV G H nC nS o0 14 th z19 vT tv ix_tv ix_tv K X pS hT hr_o0 m17 hr_th m21 (by have q8 := ti_all ix_tv; omega) (by have q8 := ti_all z19; omega) (by have := (show z19.toInt = z19.toInt from rfl); have := (show ix_tv.toInt = ix_tv.toInt from rfl); omega) (by have := (show (14 : Int32).toInt = 14 from (by decide)); omega) (fun m hm => hKK m (Nat.le_trans hm (Nat.le_of_eq (tn_same hx_tv rfl rfl)))) (fun m hm => hXX m (Nat.lt_of_lt_of_eq hm (tn_same hx_tv rfl rfl))) m16 (by have q9 := (show ix_tv.toInt = ix_tv.toInt from rfl); have := (show ix_tv.toInt = ix_tv.toInt from rfl); omega) m18 (by have q8 := ti_all tv; omega) (by omega) (by omega)) (cwV 1 hts (goodIn_app (goodIn_r _ [20, 21, 22, 15] rfl (by decide +kernel)) (goodIn_ca (goodIn_r _ [19, 2, 3] rfl (by decide +kernel)) (bs2_in _ _))) rfl rfl rfl (by decide +kernel) ⟨(Nat.le_of_ble_eq_true rfl), (Nat.le_of_ble_eq_true rfl)⟩) ⟨fun a U g mk q => by obtain ⟨q0, q1, qK, qE⟩ := q; exact ⟨q0, q1, va_K.moved (u := U) (U := U.calling g mk a) (Vm.Alike.refl U.vm) qK, EVC.blind g mk a qE⟩, gH_rc hK hT hr_o0 shc_7 rfl, fun U hU hW => ⟨rfl, hU, va_K.moved hW.alike hK, hE.call hS hFc hU hW⟩⟩ rfl rfl hl.1 rfl (lv_room (Nat.le_of_ble_eq_true rfl)) dX4_readAll_22 ⟨(Nat.le_of_ble_eq_true rfl), (Nat.le_of_ble_eq_true rfl)⟩) hS (fun q _ h => hFc q h) hFc (fun r72 u t H locs ht hvm hw73 hB _ _ hS => ?_)
        obtain ⟨u74, rfl⟩ : ∃ z, z = u := ⟨_, rfl⟩
        obtain ⟨hT, hF1, m75⟩ := hB
        rw [ht] at hT hF1 m75
        have m76 := m16.kept (hF1.arr hr_th skc_40 (by decide))
        have m77 := (hF1.fld hr_o0 skc_7 (k := 0) (by decide) (by decide)).trans m17
        have m78 := (el_kept (hF1.arr hr_th skc_40 (by decide))).trans m18
        have hF := hF.more hF1 (by decide)
        try dsimp only at hw73
        obtain ⟨h80, h81, hf82, hf83, hf84⟩ := hw73
        refine lv_if_eq (tgt := 46) hx hb dX4_readAll_25 (by decide) (fun c85 => ?_) (fun c85 => ?_)
        · have t86 : r72.toInt = 0 := ti_eq c85 rfl (by decide)
          refine lv_iload_n hx hb dX4_readAll_46 rfl (lv_at hl 1 rfl) ?_
          exact W.zret (v := z14) hx hb hr (nar_b (by have q8 := ti_all z14; omega)) (fun t ht hW => ⟨⟨z14, u74, rfl, (by exact ⟨(by have q8 := ti_all u74; omega), (by have q8 := ti_all z14; omega), (by omega), (by have l9 := (hj23.1.resolve_right (fun h8 => by have := h8.1; omega)).2; have a9 := hf83.resolve_left (fun h8 => by have := h8.2.1; omega); rw [show z14.toInt = 1 from by omega, a9.2.2]; exact lp_e l9 (fun h7 => a9.1 (h7.trans (by decide))))⟩), by (try dsimp only); rw [ht]; exact ⟨hT, hF, m75⟩⟩, hS.F ht⟩) hS.2.2 dX4_readAll_47
        · have t87 : r72.toInt ≠ 0 := ti_ne c85 rfl (by decide)
          refine lv_aload_n hx hb dX4_readAll_28 rfl (lv_at hl 2 rfl) ?_
          refine lv_iload_n hx hb dX4_readAll_29 rfl (lv_at hl 3 rfl) ?_
          have hFc := gA_free hG hA hS
          refine va_calli (va_runV (As := [.int 4]) (rest := []) ⟨hx, hb, hml, hown, hts⟩ (c_readAtom4 l dC dI kA adK adV G H nC nS o0 th u74 vT tv ix_tv ix_tv K X pS hT hr_o0 m77 hr_th m75 (by have q8 := ti_all ix_tv; omega) (by have q8 := ti_all u74; omega) (by have := (show u74.toInt = u74.toInt from rfl); have := (show ix_tv.toInt = ix_tv.toInt from rfl); omega) (fun m hm => hKK m (Nat.le_trans hm (Nat.le_of_eq (tn_same hx_tv rfl rfl)))) (fun m hm => hXX m (Nat.lt_of_lt_of_eq hm (tn_same hx_tv rfl rfl))) m76 (by have q9 := (show ix_tv.toInt = ix_tv.toInt from rfl); have := (show ix_tv.toInt = ix_tv.toInt from rfl); omega) m78 (by have q8 := ti_all tv; omega) (by omega) (by omega)) (cwV 1 hts (goodIn_app (goodIn_r _ [29, 30, 31, 15] rfl (by decide +kernel)) (goodIn_ca (goodIn_r _ [1, 2, 3, 4, 5, 1, 6, 7, 8, 9, 10, 11, 12, 13, 14, 15, 16, 17, 18, 19, 20, 21, 22, 23, 24, 25, 26, 27, 28, 29, 30, 31, 32, 33, 34, 35, 36, 37] rfl (by decide +kernel)) (bs2_in _ _))) rfl rfl rfl (by decide +kernel) ⟨(Nat.le_of_ble_eq_true rfl), (Nat.le_of_ble_eq_true rfl)⟩) ⟨fun a U g mk q => by obtain ⟨q0, q1, qK, qE⟩ := q; exact ⟨q0, q1, va_K.moved (u := U) (U := U.calling g mk a) (Vm.Alike.refl U.vm) qK, EVC.blind g mk a qE⟩, gH_rc hK hT hr_o0 shc_7 rfl, fun U hU hW => ⟨rfl, hU, va_K.moved hW.alike hK, hE.call hS hFc hU hW⟩⟩ rfl rfl hl.1 rfl (lv_room (Nat.le_of_ble_eq_true rfl)) dX4_readAll_30 ⟨(Nat.le_of_ble_eq_true rfl), (Nat.le_of_ble_eq_true rfl)⟩) hS (fun q _ h => hFc q h) hFc (fun r88 u t H locs ht hvm hw89 hB _ _ hS => ?_)
          obtain ⟨u90, rfl⟩ : ∃ z, z = u := ⟨_, rfl⟩
          obtain ⟨hT, hF1, m91⟩ := hB
          rw [ht] at hT hF1 m91
          have m92 := m76.kept (hF1.arr hr_th skc_40 (by decide))
          have m93 := (hF1.fld hr_o0 skc_7 (k := 0) (by decide) (by decide)).trans m77
          have m94 := (el_kept (hF1.arr hr_th skc_40 (by decide))).trans m78
          have hF := hF.more hF1 (by decide)
          try dsimp only at hw89
          obtain ⟨h96, h97, hf98, hf99⟩ := hw89
          refine lv_istore_n (lv' := [(2, .int r88), (3, .int (nI i13)), (0, .ref o0), (1, .int 4)]) hx hb dX4_readAll_33 rfl hl (by decide) rfl (fun ls hl => ?_)
          refine lv_aload_n hx hb dX4_readAll_34 rfl (lv_at hl 2 rfl) ?_
          refine lv_bipush (v := 14) hx hb dX4_readAll_35 (by decide) ?_
          have hFc := gA_free hG hA hS
          refine va_callv (va_runV (As := [.int 14]) (rest := []) ⟨hx, hb, hml, hown, hts⟩ (c_addStep l dC dI kA adK adV G H nC nS o0 14 hT hr_o0 (rg_t (a := 14) (by decide) (by first | decide | omega) (by first | decide | omega)) (by omega) (by omega)) (cwV 1 hts (goodIn_app (goodIn_r _ [12, 13, 14, 15] rfl (by decide +kernel)) (goodIn_ca (goodIn_r _ [9, 10, 11] rfl (by decide +kernel)) (bs2_in _ _))) rfl rfl rfl (by decide +kernel) ⟨(Nat.le_of_ble_eq_true rfl), (Nat.le_of_ble_eq_true rfl)⟩) ⟨fun a U g mk q => by obtain ⟨q0, q1, qK, qE⟩ := q; exact ⟨q0, q1, va_K.moved (u := U) (U := U.calling g mk a) (Vm.Alike.refl U.vm) qK, EVC.blind g mk a qE⟩, gH_rc hK hT hr_o0 shc_7 rfl, fun U hU hW => ⟨rfl, hU, va_K.moved hW.alike hK, hE.call hS hFc hU hW⟩⟩ rfl rfl hl.1 rfl (lv_room (Nat.le_of_ble_eq_true rfl)) dX4_readAll_37 ⟨(Nat.le_of_ble_eq_true rfl), (Nat.le_of_ble_eq_true rfl)⟩) hS (fun q _ h => hFc q h) hFc (fun u t H locs ht hvm hw101 hB _ _ hS => ?_)
          obtain ⟨hT, hF1⟩ := hB
          rw [ht] at hT hF1
          have m102 := m92.kept (hF1.arr hr_th skc_40 (by decide))
          have m103 := (hF1.fld hr_o0 skc_7 (k := 0) (by decide) (by decide)).trans m93
          have m104 := (el_kept (hF1.arr hr_th skc_40 (by decide))).trans m94
          have m105 := (hF1.fld hr_o0 skc_7 (k := 13) (by decide) (by decide)).trans m91
          have hF := hF.more hF1 (by decide)
          try dsimp only at hw101
          refine lv_iinc (v := nI (i13 + 1)) (lv' := [(3, .int (nI (i13 + 1))), (2, .int r88), (0, .ref o0), (1, .int 4)]) hx hb dX4_readAll_40 hl (k := 1) rfl (nI_add i13 1) (by decide) rfl (fun ls hl => ?_)
          refine lv_goto (tgt := 8) hx hb dX4_readAll_43 (by decide) ?_
          exact ih63 (i13 + 1) (by omega) (by omega) r88 u90 ⟨(by have q8 := ti_all r88; omega), (by have q8 := ti_all u90; omega), (by have := hx_tv; have := (show u90.toInt = u90.toInt from rfl); omega), ⟨(by have l9 := (hj23.1.resolve_right (fun h8 => by have := h8.1; omega)).2; have a9 := hf83.resolve_right (fun h8 => by have := h8.2.1; omega); have h9 := hf99; rw [a9.2.2] at h9; rcases (show r88.toInt = 1 ∨ r88.toInt = 0 by omega) with h8 | h8 <;> rw [h8] at h9; (exact Or.inl ⟨h8, lp_s l9 (a9.1.trans (by decide)) h9⟩); exact Or.inr ⟨h8, lp_f l9 (a9.1.trans (by decide)) h9⟩), by omega⟩⟩ _ _ hT hF hS m102 m103 m104 m105 ls (lv_sub hl [0, 1, 2, 3] rfl)
  exact key63 (400 - 0) 0 (by omega) (Nat.le_refl _) r1 u3 ⟨(by have q8 := ti_all r1; omega), (by have q8 := ti_all u3; omega), (by have := hx_tv; have := (show u3.toInt = u3.toInt from rfl); omega), ⟨(by have h9 := hf12; rcases (show r1.toInt = 1 ∨ r1.toInt = 0 by omega) with h8 | h8 <;> rw [h8] at h9; (exact Or.inl ⟨h8, lp_1 h9⟩); exact Or.inr ⟨h8, lp_0 h9⟩), by omega⟩⟩ _ _ hT hF hS m7 m5 m8 m4 ls (lv_sub hl [0, 1, 2, 3] rfl)
def w_c_readAny4 : List Cond := .code yX4_readAny cX4_readAny 4 (some .boolean) :: (HAppend.hAppend (α := List Cond) (β := List Cond) (γ := List Cond) [.code yX4_readAll cX4_readAll 4 (some .boolean), .code yX4_readAtom cX4_readAtom 4 (some .boolean), .fieldLink RX4 11 "SeaLand$Law" "things" "[I", .fieldLink RX4 56 "SeaLand$Law" "at" "I", .code yX4_readAny cX4_readAny 4 (some .boolean), .code yX4_readComparison cX4_readComparison 3 (some .boolean), .code yX4_readSum cX4_readSum 3 (some .boolean), .code yX4_readPart cX4_readPart 2 (some .boolean), .code yX4_addStep cX4_addStep 2 none, .fieldLink RX4 63 "SeaLand$Law" "stepped" "I", .fieldLink RX4 39 "SeaLand$Law" "steps" "[I", .methodLink RX4 179 yX4_addStep, .instanceMethod yX4_addStep, .selects RX4 yX4_addStep yX4_addStep, .initialized RX4, .methodLink RX4 192 yX4_readPart, .instanceMethod yX4_readPart, .selects RX4 yX4_readPart yX4_readPart, .code yX4_take cX4_take 2 (some .boolean), .methodLink RX4 70 yX4_take, .instanceMethod yX4_take, .selects RX4 yX4_take yX4_take, .methodLink RX4 189 yX4_readSum, .instanceMethod yX4_readSum, .selects RX4 yX4_readSum yX4_readSum, .methodLink RX4 186 yX4_readComparison, .instanceMethod yX4_readComparison, .selects RX4 yX4_readComparison yX4_readComparison, .methodLink RX4 183 yX4_readAtom, .instanceMethod yX4_readAtom, .selects RX4 yX4_readAtom yX4_readAtom, .methodLink RX4 176 yX4_readAll, .instanceMethod yX4_readAll, .selects RX4 yX4_readAll yX4_readAll, .methodLink RX4 173 yX4_readAny, .instanceMethod yX4_readAny, .selects RX4 yX4_readAny yX4_readAny] bs2)
set_option maxHeartbeats 4000000 in
set_option maxRecDepth 100000 in
theorem c_readAny4 (l : Launch) (dC : Nat → ClassId) (dI : Nat → Nat → Nat) (kA : Nat → ClassId) (adK adV : Nat → Nat) (G : gT) (H0 : Heap) (nC nS : Int) (o0 : Nat) (th : Nat) (a0 : Int32) (vT : Nat → Int32) (tv ix_tv : Int32) (tn : Int32) (K : Nat → Int) (X pS : Nat → Nat) (hT : gH (dC, dI) kA (SHc nC nS) G H0) (hr_o0 : G o0 = some 7) (hm_th : el H0 o0 (dI 7 0) = some (.ref th)) (hr_th : G th = some 40) (hm_a0 : el H0 o0 (dI 7 13) = some (.int a0)) (hq0 : 0 ≤ tn.toInt ∧ tn.toInt ≤ 400) (hq1 : 0 ≤ a0.toInt ∧ a0.toInt ≤ 400) (hat : a0.toInt ≤ tn.toInt) (hKK : ∀ m : Nat, m ≤ tn.toNatClampNeg → (vT m).toInt = K (pS m)) (hXX : ∀ m : Nat, m < tn.toNatClampNeg → pS (m + 1) = X (pS m)) (hc_vT : ct H0 th 401 vT) (hx_tv : ix_tv.toInt = tn.toInt) (hm_tv : el H0 th ix_tv.toNatClampNeg = some (.int tv)) (hv_tv : 21 ≤ tv.toInt ∧ tv.toInt ≤ 21) (hgC : 0 ≤ nC ∧ nC ≤ 40) (hgS : 0 ≤ nS ∧ nS ≤ 60) : Met l yX4_readAny w_c_readAny4 ({ frames := 12, cells := 0, slots := 0, locals := 270 }) (va_Pc [.ref o0, .int 4] (fun U => U.heap = H0 ∧ va_K (dC, dI) vwCl (tyl kA) U ∧ EVC adK adV (gA G H0.size) U U.heap)) (va_Qi (fun (r : Int32) (u : Int32) => (0 ≤ u.toInt ∧ u.toInt ≤ 400) ∧ (0 ≤ r.toInt ∧ r.toInt ≤ 1) ∧ (a0.toInt ≤ u.toInt ∧ u.toInt ≤ tn.toInt) ∧ (coR K X (aR K X 2) (pS a0.toNatClampNeg) r.toInt (pS u.toNatClampNeg))) (fun (a1 : Int32) (t : State) => gH (dC, dI) kA (SHc nC nS) G t.heap ∧ gF (dC, dI) SKc G ([(7, 12), (7, 13), (49, 0)] : List (Nat × Nat)) H0 t.heap ∧ el t.heap o0 (dI 7 13) = some (.int a1)) (gA G H0.size)) 0 0 (gA G H0.size) := by
  refine Met.ofW (cc := cX4_readAny) (maxL := 4) (ret := (some .boolean)) (by decide) rfl ?_
  intro p e s m args below meth c s₁ B hml hv
  obtain ⟨rfl, hH0, hK, hE⟩ := hv
  have hx := B.exec
  have hb := B.bytes
  have hr := B.returns
  have hts := atoms_spec (ws := w_c_readAny4) B.pre
  have hown : s.vm.findClass RX4 = some m.cls := findClass_of_methodNamed B.named
  have hlocks := B.notSynchronized
  subst hH0
  generalize hAe : gA G s.heap.size = A at hE ⊢
  have hA : ∀ q : Nat, s.heap.size ≤ q → A q := fun q h => by rw [← hAe]; exact Or.inr h
  have hG := gA_of hAe
  have hS : va_S A s.heap s.heap [] := va_S.rf
  have hF : gF (dC, dI) SKc G ([(7, 12), (7, 13), (49, 0)] : List (Nat × Nat)) s.heap s.heap := gF.rf
  have hl := lv_entry ([.ref o0, .int 4]) (n := 4) (Nat.le_of_ble_eq_true rfl)
  rw [lg_entry_eq]
  generalize (lg_sl ([.ref o0, .int 4]) ++ List.replicate (4 - (lg_sl ([.ref o0, .int 4])).length) Slot.unset).toArray = ls at hl ⊢
  have hl : lv_has ls 4 [(0, .ref o0), (1, .int 4)] := hl
  refine lv_aload_n hx hb dX4_readAny_0 rfl (lv_at hl 0 rfl) ?_
  refine lv_iload_n hx hb dX4_readAny_1 rfl (lv_at hl 1 rfl) ?_
  have hFc := gA_free hG hA hS
  refine va_calli (va_runV (As := [.int 4]) (rest := []) ⟨hx, hb, hml, hown, hts⟩ (c_readAll4 l dC dI kA adK adV G s.heap nC nS o0 th a0 vT tv ix_tv ix_tv K X pS hT hr_o0 hm_th hr_th hm_a0 (by have q8 := ti_all ix_tv; omega) (by have q8 := ti_all a0; omega) (by have := (show a0.toInt = a0.toInt from rfl); have := (show ix_tv.toInt = ix_tv.toInt from rfl); omega) (fun m hm => hKK m (Nat.le_trans hm (Nat.le_of_eq (tn_same hx_tv rfl rfl)))) (fun m hm => hXX m (Nat.lt_of_lt_of_eq hm (tn_same hx_tv rfl rfl))) hc_vT (by have q9 := (show ix_tv.toInt = ix_tv.toInt from rfl); have := (show ix_tv.toInt = ix_tv.toInt from rfl); omega) hm_tv (by have q8 := ti_all tv; omega) (by omega) (by omega)) (cwV 1 hts (goodIn_app (goodIn_r _ [32, 33, 34, 15] rfl (by decide +kernel)) (goodIn_ca (goodIn_r _ [1, 2, 3, 4, 5, 1, 6, 7, 8, 9, 10, 11, 12, 13, 14, 15, 16, 17, 18, 19, 20, 21, 22, 23, 24, 25, 26, 27, 28, 29, 30, 31, 32, 33, 34, 35, 36, 37] rfl (by decide +kernel)) (bs2_in _ _))) rfl rfl rfl (by decide +kernel) ⟨(Nat.le_of_ble_eq_true rfl), (Nat.le_of_ble_eq_true rfl)⟩) ⟨fun a U g mk q => by obtain ⟨q0, q1, qK, qE⟩ := q; exact ⟨q0, q1, va_K.moved (u := U) (U := U.calling g mk a) (Vm.Alike.refl U.vm) qK, EVC.blind g mk a qE⟩, gH_rc hK hT hr_o0 shc_7 rfl, fun U hU hW => ⟨rfl, hU, va_K.moved hW.alike hK, hE.call hS hFc hU hW⟩⟩ rfl rfl hl.1 rfl (lv_room (Nat.le_of_ble_eq_true rfl)) dX4_readAny_2 ⟨(Nat.le_of_ble_eq_true rfl), (Nat.le_of_ble_eq_true rfl)⟩) hS (fun q _ h => hFc q h) hFc (fun r1 u t H locs ht hvm hw2 hB _ _ hS => ?_)
  obtain ⟨u3, rfl⟩ : ∃ z, z = u := ⟨_, rfl⟩
  obtain ⟨hT, hF1, m4⟩ := hB
  rw [ht] at hT hF1 m4
  have m5 := (hF1.fld hr_o0 skc_7 (k := 0) (by decide) (by decide)).trans hm_th
  have m7 := hc_vT.kept (hF1.arr hr_th skc_40 (by decide))
  have m8 := (el_kept (hF1.arr hr_th skc_40 (by decide))).trans hm_tv
  have hF := hF.more hF1 (by decide)
  try dsimp only at hw2
  obtain ⟨h9, h10, hf11, hf12⟩ := hw2
  refine lv_istore_n (lv' := [(2, .int r1), (0, .ref o0), (1, .int 4)]) hx hb dX4_readAny_5 rfl hl (by decide) rfl (fun ls hl => ?_)
  refine lv_iconst (v := 0) hx hb dX4_readAny_6 (by decide) ?_
  refine lv_istore_n (lv' := [(3, .int 0), (2, .int r1), (0, .ref o0), (1, .int 4)]) hx hb dX4_readAny_7 rfl hl (by decide) rfl (fun ls hl => ?_)
  have key63 : ∀ (n63 i13 : Nat), i13 + n63 = 400 → 0 ≤ i13 → ∀ (z14 : Int32), ∀ (z19 : Int32), ((0 ≤ z14.toInt ∧ z14.toInt ≤ 1) ∧ (0 ≤ z19.toInt ∧ z19.toInt ≤ 400) ∧ (a0.toInt ≤ z19.toInt ∧ z19.toInt ≤ tn.toInt) ∧ (((z14.toInt = 1 ∧ ∀ (r : Int) (f : Nat), lpQ K X (lpR K X (aR K X 2) 14) 15 (pS z19.toNatClampNeg) r f → coR K X (aR K X 2) (pS a0.toNatClampNeg) r f) ∨ (z14.toInt = 0 ∧ coR K X (aR K X 2) (pS a0.toNatClampNeg) 0 (pS z19.toNatClampNeg))) ∧ ((i13 : Nat) : Int) ≤ z19.toInt)) → ∀ (H : Heap) (locs : List Loc), gH (dC, dI) kA (SHc nC nS) G H → gF (dC, dI) SKc G ([(7, 12), (7, 13), (49, 0)] : List (Nat × Nat)) s.heap H → va_S A s.heap H locs → ct H th 401 vT → el H o0 (dI 7 0) = some (.ref th) → el H th ix_tv.toNatClampNeg = some (.int tv) → el H o0 (dI 7 13) = some (.int z19) → ∀ ls : Array Slot, lv_has ls 4 [(3, .int (nI i13)), (2, .int z14), (0, .ref o0), (1, .int 4)] → W p l e (headSpec w_c_readAny4 ({ frames := 12, cells := 0, slots := 0, locals := 270 })).room s m #[.ref o0, .int 4] below meth c H locs 0 0 (MQ below (va_Qi (fun (r : Int32) (u : Int32) => (0 ≤ u.toInt ∧ u.toInt ≤ 400) ∧ (0 ≤ r.toInt ∧ r.toInt ≤ 1) ∧ (a0.toInt ≤ u.toInt ∧ u.toInt ≤ tn.toInt) ∧ (coR K X (aR K X 2) (pS a0.toNatClampNeg) r.toInt (pS u.toNatClampNeg))) (fun (a1 : Int32) (t : State) => gH (dC, dI) kA (SHc nC nS) G t.heap ∧ gF (dC, dI) SKc G ([(7, 12), (7, 13), (49, 0)] : List (Nat × Nat)) s.heap t.heap ∧ el t.heap o0 (dI 7 13) = some (.int a1)) A) #[.ref o0, .int 4] s 0 0 A) (F0 m 8 ls []) := by
    intro n63
    induction n63 with
    | zero =>
      intro i13 hn63 hlo64 z14 z19 ⟨h15, h20, hj22, hj23⟩ H locs hT hF hS m16 m17 m18 m21 ls hl
      obtain rfl : 400 = i13 := by omega
      refine lv_iload_n hx hb dX4_readAny_8 rfl (lv_at hl 0 rfl) ?_
      refine lv_sipush (v := 400) hx hb dX4_readAny_9 (by decide) ?_
      refine lv_icmp_ge (tgt := 46) hx hb dX4_readAny_12 (by decide) (fun c65 => ?_) (fun c65 => (by exfalso; have q9 : ((400 : Nat) : Int) < 400 := ti_nle c65 (by decide) (nI_toInt (by omega)); omega))
      have t66 : 400 ≤ ((400 : Nat) : Int) := ti_le c65 (by decide) (nI_toInt (by omega))
      refine lv_iload_n hx hb dX4_readAny_46 rfl (lv_at hl 1 rfl) ?_
      exact W.zret (v := z14) hx hb hr (nar_b (by have q8 := ti_all z14; omega)) (fun t ht hW => ⟨⟨z14, z19, rfl, (by exact ⟨(by have q8 := ti_all z19; omega), (by have q8 := ti_all z14; omega), (by omega), (by rcases hj23.1 with ⟨h8, l9⟩ | ⟨h8, l9⟩; (rw [h8]; exact lp_e l9 (fun h7 => by have := tn_of (show z19.toInt = z19.toInt from rfl) (by omega); have := tn_of (show tn.toInt = tn.toInt from rfl) (by omega); have k9 := hKK tn.toNatClampNeg (Nat.le_refl _); have e9 := hc_vT.at hm_tv (by have q9 := tn_of hx_tv (by omega); omega); have k8 : (vT tn.toNatClampNeg).toInt = 21 := (by have q8 := congrArg Int32.toInt e9; rw [show ix_tv.toNatClampNeg = tn.toNatClampNeg from tn_same hx_tv rfl rfl] at q8; omega); rw [show z19.toNatClampNeg = tn.toNatClampNeg from by omega] at h7; omega)); rw [h8]; exact l9)⟩), by (try dsimp only); rw [ht]; exact ⟨hT, hF, m21⟩⟩, hS.F ht⟩) hS.2.2 dX4_readAny_47
    | succ n63 ih63 =>
      intro i13 hn63 hlo64 z14 z19 ⟨h15, h20, hj22, hj23⟩ H locs hT hF hS m16 m17 m18 m21 ls hl
      have hlt66 : i13 < 400 := by omega
      refine lv_iload_n hx hb dX4_readAny_8 rfl (lv_at hl 0 rfl) ?_
      refine lv_sipush (v := 400) hx hb dX4_readAny_9 (by decide) ?_
      refine lv_icmp_ge (tgt := 46) hx hb dX4_readAny_12 (by decide) (fun c67 => (by exfalso; have q9 : 400 ≤ ((i13 : Nat) : Int) := ti_le c67 (by decide) (nI_toInt (by omega)); omega)) (fun c67 => ?_)
      have t68 : ((i13 : Nat) : Int) < 400 := ti_nle c67 (by decide) (nI_toInt (by omega))
      refine lv_iload_n hx hb dX4_readAny_15 rfl (lv_at hl 1 rfl) ?_
      refine lv_if_eq (tgt := 46) hx hb dX4_readAny_16 (by decide) (fun c69 => ?_) (fun c69 => ?_)
      · have t70 : z14.toInt = 0 := ti_eq c69 rfl (by decide)
        refine lv_iload_n hx hb dX4_readAny_46 rfl (lv_at hl 1 rfl) ?_
        exact W.zret (v := z14) hx hb hr (nar_b (by have q8 := ti_all z14; omega)) (fun t ht hW => ⟨⟨z14, z19, rfl, (by exact ⟨(by have q8 := ti_all z19; omega), (by have q8 := ti_all z14; omega), (by omega), (by rcases hj23.1 with ⟨h8, l9⟩ | ⟨h8, l9⟩; (rw [h8]; exact lp_e l9 (fun h7 => by have := tn_of (show z19.toInt = z19.toInt from rfl) (by omega); have := tn_of (show tn.toInt = tn.toInt from rfl) (by omega); have k9 := hKK tn.toNatClampNeg (Nat.le_refl _); have e9 := hc_vT.at hm_tv (by have q9 := tn_of hx_tv (by omega); omega); have k8 : (vT tn.toNatClampNeg).toInt = 21 := (by have q8 := congrArg Int32.toInt e9; rw [show ix_tv.toNatClampNeg = tn.toNatClampNeg from tn_same hx_tv rfl rfl] at q8; omega); rw [show z19.toNatClampNeg = tn.toNatClampNeg from by omega] at h7; omega)); rw [h8]; exact l9)⟩), by (try dsimp only); rw [ht]; exact ⟨hT, hF, m21⟩⟩, hS.F ht⟩) hS.2.2 dX4_readAny_47
      · have t71 : z14.toInt ≠ 0 := ti_ne c69 rfl (by decide)
        refine lv_aload_n hx hb dX4_readAny_19 rfl (lv_at hl 2 rfl) ?_
        refine lv_bipush (v := 15) hx hb dX4_readAny_20 (by decide) ?_
        have hFc := gA_free hG hA hS
        refine va_calli (va_runV (As := [.int 15]) (rest := []) ⟨hx, hb, hml, hown, hts⟩ (c_take l dC dI kA adK adV G H nC nS o0 15 th z19 vT tv ix_tv ix_tv K X pS hT hr_o0 m17 hr_th m21 (by have q8 := ti_all ix_tv; omega) (by have q8 := ti_all z19; omega) (by have := (show z19.toInt = z19.toInt from rfl); have := (show ix_tv.toInt = ix_tv.toInt from rfl); omega) (by have := (show (15 : Int32).toInt = 15 from (by decide)); omega) (fun m hm => hKK m (Nat.le_trans hm (Nat.le_of_eq (tn_same hx_tv rfl rfl)))) (fun m hm => hXX m (Nat.lt_of_lt_of_eq hm (tn_same hx_tv rfl rfl))) m16 (by have q9 := (show ix_tv.toInt = ix_tv.toInt from rfl); have := (show ix_tv.toInt = ix_tv.toInt from rfl); omega) m18 (by have q8 := ti_all tv; omega) (by omega) (by omega)) (cwV 1 hts (goodIn_app (goodIn_r _ [20, 21, 22, 15] rfl (by decide +kernel)) (goodIn_ca (goodIn_r _ [19, 3, 4] rfl (by decide +kernel)) (bs2_in _ _))) rfl rfl rfl (by decide +kernel) ⟨(Nat.le_of_ble_eq_true rfl), (Nat.le_of_ble_eq_true rfl)⟩) ⟨fun a U g mk q => by obtain ⟨q0, q1, qK, qE⟩ := q; exact ⟨q0, q1, va_K.moved (u := U) (U := U.calling g mk a) (Vm.Alike.refl U.vm) qK, EVC.blind g mk a qE⟩, gH_rc hK hT hr_o0 shc_7 rfl, fun U hU hW => ⟨rfl, hU, va_K.moved hW.alike hK, hE.call hS hFc hU hW⟩⟩ rfl rfl hl.1 rfl (lv_room (Nat.le_of_ble_eq_true rfl)) dX4_readAny_22 ⟨(Nat.le_of_ble_eq_true rfl), (Nat.le_of_ble_eq_true rfl)⟩) hS (fun q _ h => hFc q h) hFc (fun r72 u t H locs ht hvm hw73 hB _ _ hS => ?_)
        obtain ⟨u74, rfl⟩ : ∃ z, z = u := ⟨_, rfl⟩
        obtain ⟨hT, hF1, m75⟩ := hB
        rw [ht] at hT hF1 m75
        have m76 := m16.kept (hF1.arr hr_th skc_40 (by decide))
        have m77 := (hF1.fld hr_o0 skc_7 (k := 0) (by decide) (by decide)).trans m17
        have m78 := (el_kept (hF1.arr hr_th skc_40 (by decide))).trans m18
        have hF := hF.more hF1 (by decide)
        try dsimp only at hw73
        obtain ⟨h80, h81, hf82, hf83, hf84⟩ := hw73
        refine lv_if_eq (tgt := 46) hx hb dX4_readAny_25 (by decide) (fun c85 => ?_) (fun c85 => ?_)
        · have t86 : r72.toInt = 0 := ti_eq c85 rfl (by decide)
          refine lv_iload_n hx hb dX4_readAny_46 rfl (lv_at hl 1 rfl) ?_
          exact W.zret (v := z14) hx hb hr (nar_b (by have q8 := ti_all z14; omega)) (fun t ht hW => ⟨⟨z14, u74, rfl, (by exact ⟨(by have q8 := ti_all u74; omega), (by have q8 := ti_all z14; omega), (by omega), (by have l9 := (hj23.1.resolve_right (fun h8 => by have := h8.1; omega)).2; have a9 := hf83.resolve_left (fun h8 => by have := h8.2.1; omega); rw [show z14.toInt = 1 from by omega, a9.2.2]; exact lp_e l9 (fun h7 => a9.1 (h7.trans (by decide))))⟩), by (try dsimp only); rw [ht]; exact ⟨hT, hF, m75⟩⟩, hS.F ht⟩) hS.2.2 dX4_readAny_47
        · have t87 : r72.toInt ≠ 0 := ti_ne c85 rfl (by decide)
          refine lv_aload_n hx hb dX4_readAny_28 rfl (lv_at hl 2 rfl) ?_
          refine lv_iload_n hx hb dX4_readAny_29 rfl (lv_at hl 3 rfl) ?_
          have hFc := gA_free hG hA hS
          refine va_calli (va_runV (As := [.int 4]) (rest := []) ⟨hx, hb, hml, hown, hts⟩ (c_readAll4 l dC dI kA adK adV G H nC nS o0 th u74 vT tv ix_tv ix_tv K X pS hT hr_o0 m77 hr_th m75 (by have q8 := ti_all ix_tv; omega) (by have q8 := ti_all u74; omega) (by have := (show u74.toInt = u74.toInt from rfl); have := (show ix_tv.toInt = ix_tv.toInt from rfl); omega) (fun m hm => hKK m (Nat.le_trans hm (Nat.le_of_eq (tn_same hx_tv rfl rfl)))) (fun m hm => hXX m (Nat.lt_of_lt_of_eq hm (tn_same hx_tv rfl rfl))) m76 (by have q9 := (show ix_tv.toInt = ix_tv.toInt from rfl); have := (show ix_tv.toInt = ix_tv.toInt from rfl); omega) m78 (by have q8 := ti_all tv; omega) (by omega) (by omega)) (cwV 1 hts (goodIn_app (goodIn_r _ [32, 33, 34, 15] rfl (by decide +kernel)) (goodIn_ca (goodIn_r _ [1, 2, 3, 4, 5, 1, 6, 7, 8, 9, 10, 11, 12, 13, 14, 15, 16, 17, 18, 19, 20, 21, 22, 23, 24, 25, 26, 27, 28, 29, 30, 31, 32, 33, 34, 35, 36, 37] rfl (by decide +kernel)) (bs2_in _ _))) rfl rfl rfl (by decide +kernel) ⟨(Nat.le_of_ble_eq_true rfl), (Nat.le_of_ble_eq_true rfl)⟩) ⟨fun a U g mk q => by obtain ⟨q0, q1, qK, qE⟩ := q; exact ⟨q0, q1, va_K.moved (u := U) (U := U.calling g mk a) (Vm.Alike.refl U.vm) qK, EVC.blind g mk a qE⟩, gH_rc hK hT hr_o0 shc_7 rfl, fun U hU hW => ⟨rfl, hU, va_K.moved hW.alike hK, hE.call hS hFc hU hW⟩⟩ rfl rfl hl.1 rfl (lv_room (Nat.le_of_ble_eq_true rfl)) dX4_readAny_30 ⟨(Nat.le_of_ble_eq_true rfl), (Nat.le_of_ble_eq_true rfl)⟩) hS (fun q _ h => hFc q h) hFc (fun r88 u t H locs ht hvm hw89 hB _ _ hS => ?_)
          obtain ⟨u90, rfl⟩ : ∃ z, z = u := ⟨_, rfl⟩
          obtain ⟨hT, hF1, m91⟩ := hB
          rw [ht] at hT hF1 m91
          have m92 := m76.kept (hF1.arr hr_th skc_40 (by decide))
          have m93 := (hF1.fld hr_o0 skc_7 (k := 0) (by decide) (by decide)).trans m77
          have m94 := (el_kept (hF1.arr hr_th skc_40 (by decide))).trans m78
          have hF := hF.more hF1 (by decide)
          try dsimp only at hw89
          obtain ⟨h96, h97, hf98, hf99⟩ := hw89
          refine lv_istore_n (lv' := [(2, .int r88), (3, .int (nI i13)), (0, .ref o0), (1, .int 4)]) hx hb dX4_readAny_33 rfl hl (by decide) rfl (fun ls hl => ?_)
          refine lv_aload_n hx hb dX4_readAny_34 rfl (lv_at hl 2 rfl) ?_
          refine lv_bipush (v := 15) hx hb dX4_readAny_35 (by decide) ?_
          have hFc := gA_free hG hA hS
          refine va_callv (va_runV (As := [.int 15]) (rest := []) ⟨hx, hb, hml, hown, hts⟩ (c_addStep l dC dI kA adK adV G H nC nS o0 15 hT hr_o0 (rg_t (a := 15) (by decide) (by first | decide | omega) (by first | decide | omega)) (by omega) (by omega)) (cwV 1 hts (goodIn_app (goodIn_r _ [12, 13, 14, 15] rfl (by decide +kernel)) (goodIn_ca (goodIn_r _ [9, 10, 11] rfl (by decide +kernel)) (bs2_in _ _))) rfl rfl rfl (by decide +kernel) ⟨(Nat.le_of_ble_eq_true rfl), (Nat.le_of_ble_eq_true rfl)⟩) ⟨fun a U g mk q => by obtain ⟨q0, q1, qK, qE⟩ := q; exact ⟨q0, q1, va_K.moved (u := U) (U := U.calling g mk a) (Vm.Alike.refl U.vm) qK, EVC.blind g mk a qE⟩, gH_rc hK hT hr_o0 shc_7 rfl, fun U hU hW => ⟨rfl, hU, va_K.moved hW.alike hK, hE.call hS hFc hU hW⟩⟩ rfl rfl hl.1 rfl (lv_room (Nat.le_of_ble_eq_true rfl)) dX4_readAny_37 ⟨(Nat.le_of_ble_eq_true rfl), (Nat.le_of_ble_eq_true rfl)⟩) hS (fun q _ h => hFc q h) hFc (fun u t H locs ht hvm hw101 hB _ _ hS => ?_)
          obtain ⟨hT, hF1⟩ := hB
          rw [ht] at hT hF1
          have m102 := m92.kept (hF1.arr hr_th skc_40 (by decide))
          have m103 := (hF1.fld hr_o0 skc_7 (k := 0) (by decide) (by decide)).trans m93
          have m104 := (el_kept (hF1.arr hr_th skc_40 (by decide))).trans m94
          have m105 := (hF1.fld hr_o0 skc_7 (k := 13) (by decide) (by decide)).trans m91
          have hF := hF.more hF1 (by decide)
          try dsimp only at hw101
          refine lv_iinc (v := nI (i13 + 1)) (lv' := [(3, .int (nI (i13 + 1))), (2, .int r88), (0, .ref o0), (1, .int 4)]) hx hb dX4_readAny_40 hl (k := 1) rfl (nI_add i13 1) (by decide) rfl (fun ls hl => ?_)
          refine lv_goto (tgt := 8) hx hb dX4_readAny_43 (by decide) ?_
          exact ih63 (i13 + 1) (by omega) (by omega) r88 u90 ⟨(by have q8 := ti_all r88; omega), (by have q8 := ti_all u90; omega), (by have := hx_tv; have := (show u90.toInt = u90.toInt from rfl); omega), ⟨(by have l9 := (hj23.1.resolve_right (fun h8 => by have := h8.1; omega)).2; have a9 := hf83.resolve_right (fun h8 => by have := h8.2.1; omega); have h9 := hf99; rw [a9.2.2] at h9; rcases (show r88.toInt = 1 ∨ r88.toInt = 0 by omega) with h8 | h8 <;> rw [h8] at h9; (exact Or.inl ⟨h8, lp_s l9 (a9.1.trans (by decide)) h9⟩); exact Or.inr ⟨h8, lp_f l9 (a9.1.trans (by decide)) h9⟩), by omega⟩⟩ _ _ hT hF hS m102 m103 m104 m105 ls (lv_sub hl [0, 1, 2, 3] rfl)
  exact key63 (400 - 0) 0 (by omega) (Nat.le_refl _) r1 u3 ⟨(by have q8 := ti_all r1; omega), (by have q8 := ti_all u3; omega), (by have := hx_tv; have := (show u3.toInt = u3.toInt from rfl); omega), ⟨(by have h9 := hf12; rcases (show r1.toInt = 1 ∨ r1.toInt = 0 by omega) with h8 | h8 <;> rw [h8] at h9; (exact Or.inl ⟨h8, lp_1 h9⟩); exact Or.inr ⟨h8, lp_0 h9⟩), by omega⟩⟩ _ _ hT hF hS m7 m5 m8 m4 ls (lv_sub hl [0, 1, 2, 3] rfl)
def w_c_readAtom3 : List Cond := .code yX4_readAtom cX4_readAtom 4 (some .boolean) :: (HAppend.hAppend (α := List Cond) (β := List Cond) (γ := List Cond) [.fieldLink RX4 11 "SeaLand$Law" "things" "[I", .fieldLink RX4 56 "SeaLand$Law" "at" "I", .code yX4_readAny cX4_readAny 4 (some .boolean), .code yX4_readAll cX4_readAll 4 (some .boolean), .code yX4_readAtom cX4_readAtom 4 (some .boolean), .code yX4_readComparison cX4_readComparison 3 (some .boolean), .code yX4_readSum cX4_readSum 3 (some .boolean), .code yX4_readPart cX4_readPart 2 (some .boolean), .code yX4_addStep cX4_addStep 2 none, .fieldLink RX4 63 "SeaLand$Law" "stepped" "I", .fieldLink RX4 39 "SeaLand$Law" "steps" "[I", .methodLink RX4 179 yX4_addStep, .instanceMethod yX4_addStep, .selects RX4 yX4_addStep yX4_addStep, .initialized RX4, .methodLink RX4 192 yX4_readPart, .instanceMethod yX4_readPart, .selects RX4 yX4_readPart yX4_readPart, .code yX4_take cX4_take 2 (some .boolean), .methodLink RX4 70 yX4_take, .instanceMethod yX4_take, .selects RX4 yX4_take yX4_take, .methodLink RX4 189 yX4_readSum, .instanceMethod yX4_readSum, .selects RX4 yX4_readSum yX4_readSum, .methodLink RX4 186 yX4_readComparison, .instanceMethod yX4_readComparison, .selects RX4 yX4_readComparison yX4_readComparison, .methodLink RX4 183 yX4_readAtom, .instanceMethod yX4_readAtom, .selects RX4 yX4_readAtom yX4_readAtom, .methodLink RX4 176 yX4_readAll, .instanceMethod yX4_readAll, .selects RX4 yX4_readAll yX4_readAll, .methodLink RX4 173 yX4_readAny, .instanceMethod yX4_readAny, .selects RX4 yX4_readAny yX4_readAny] bs2)
set_option maxHeartbeats 4000000 in
set_option maxRecDepth 100000 in
theorem c_readAtom3 (l : Launch) (dC : Nat → ClassId) (dI : Nat → Nat → Nat) (kA : Nat → ClassId) (adK adV : Nat → Nat) (G : gT) (H0 : Heap) (nC nS : Int) (o0 : Nat) (th : Nat) (a0 : Int32) (vT : Nat → Int32) (tv ix_tv : Int32) (tn : Int32) (K : Nat → Int) (X pS : Nat → Nat) (hT : gH (dC, dI) kA (SHc nC nS) G H0) (hr_o0 : G o0 = some 7) (hm_th : el H0 o0 (dI 7 0) = some (.ref th)) (hr_th : G th = some 40) (hm_a0 : el H0 o0 (dI 7 13) = some (.int a0)) (hq0 : 0 ≤ tn.toInt ∧ tn.toInt ≤ 400) (hq1 : 0 ≤ a0.toInt ∧ a0.toInt ≤ 400) (hat : a0.toInt ≤ tn.toInt) (hKK : ∀ m : Nat, m ≤ tn.toNatClampNeg → (vT m).toInt = K (pS m)) (hXX : ∀ m : Nat, m < tn.toNatClampNeg → pS (m + 1) = X (pS m)) (hc_vT : ct H0 th 401 vT) (hx_tv : ix_tv.toInt = tn.toInt) (hm_tv : el H0 th ix_tv.toNatClampNeg = some (.int tv)) (hv_tv : 21 ≤ tv.toInt ∧ tv.toInt ≤ 21) (hgC : 0 ≤ nC ∧ nC ≤ 40) (hgS : 0 ≤ nS ∧ nS ≤ 60) : Met l yX4_readAtom w_c_readAtom3 ({ frames := 13, cells := 0, slots := 0, locals := 293 }) (va_Pc [.ref o0, .int 3] (fun U => U.heap = H0 ∧ va_K (dC, dI) vwCl (tyl kA) U ∧ EVC adK adV (gA G H0.size) U U.heap)) (va_Qi (fun (r : Int32) (u : Int32) => (0 ≤ u.toInt ∧ u.toInt ≤ 400) ∧ (0 ≤ r.toInt ∧ r.toInt ≤ 1) ∧ (a0.toInt ≤ u.toInt ∧ u.toInt ≤ tn.toInt) ∧ (aR K X 3 (pS a0.toNatClampNeg) r.toInt (pS u.toNatClampNeg))) (fun (a1 : Int32) (t : State) => gH (dC, dI) kA (SHc nC nS) G t.heap ∧ gF (dC, dI) SKc G ([(7, 12), (7, 13), (49, 0)] : List (Nat × Nat)) H0 t.heap ∧ el t.heap o0 (dI 7 13) = some (.int a1)) (gA G H0.size)) 0 0 (gA G H0.size) := by
  refine Met.ofW (cc := cX4_readAtom) (maxL := 4) (ret := (some .boolean)) (by decide) rfl ?_
  intro p e s m args below meth c s₁ B hml hv
  obtain ⟨rfl, hH0, hK, hE⟩ := hv
  have hx := B.exec
  have hb := B.bytes
  have hr := B.returns
  have hts := atoms_spec (ws := w_c_readAtom3) B.pre
  have hown : s.vm.findClass RX4 = some m.cls := findClass_of_methodNamed B.named
  have hlocks := B.notSynchronized
  subst hH0
  generalize hAe : gA G s.heap.size = A at hE ⊢
  have hA : ∀ q : Nat, s.heap.size ≤ q → A q := fun q h => by rw [← hAe]; exact Or.inr h
  have hG := gA_of hAe
  have hS : va_S A s.heap s.heap [] := va_S.rf
  have hF : gF (dC, dI) SKc G ([(7, 12), (7, 13), (49, 0)] : List (Nat × Nat)) s.heap s.heap := gF.rf
  have hl := lv_entry ([.ref o0, .int 3]) (n := 4) (Nat.le_of_ble_eq_true rfl)
  rw [lg_entry_eq]
  generalize (lg_sl ([.ref o0, .int 3]) ++ List.replicate (4 - (lg_sl ([.ref o0, .int 3])).length) Slot.unset).toArray = ls at hl ⊢
  have hl : lv_has ls 4 [(0, .ref o0), (1, .int 3)] := hl
  refine lv_aload_n hx hb dX4_readAtom_0 rfl (lv_at hl 0 rfl) ?_
  refine tw_getM (v := .ref th) hx hb hts bF2_X4 hown hK hT hr_o0 shc_7 rfl 0 (by decide) (ht_at2 hts 0 rfl) (fun _ h9 => h9) hm_th dX4_readAtom_1 ?_
  refine lv_aload_n hx hb dX4_readAtom_4 rfl (lv_at hl 0 rfl) ?_
  refine tw_getM (v := .int a0) hx hb hts bF2_X4 hown hK hT hr_o0 shc_7 rfl 13 (by decide) (ht_at2 hts 1 rfl) (fun _ h9 => h9) hm_a0 dX4_readAtom_5 ?_
  refine tw_iald (i := a0) hx hb hK hT hr_th shc_40 rfl (vin_t (a := a0.toInt) rfl (by omega) (by omega)) dX4_readAtom_8 (fun v9 m1 h9 => ?_)
  obtain ⟨x2, rfl, gx2, kx2⟩ := h9
  have cx2 := hc_vT.at m1 (by have q9 := tn_of (show a0.toInt = a0.toInt from rfl) (by omega); omega)
  have t3 : a0.toInt = ix_tv.toInt → x2.toInt = tv.toInt := fun h8 => congrArg Int32.toInt (el_same m1 hm_tv h8)
  have t4 : x2.toInt = K (pS a0.toNatClampNeg) := (congrArg Int32.toInt cx2).trans (hKK _ (by have := tn_of (show a0.toInt = a0.toInt from rfl) (by omega); have := tn_of (show tn.toInt = tn.toInt from rfl) (by omega); omega))
  refine lv_bipush (v := 13) hx hb dX4_readAtom_9 (by decide) ?_
  have t5 : -2147483648 ≤ x2.toInt ∧ x2.toInt ≤ 2147483647 := ti_all x2
  refine lv_icmp_ne (tgt := 18) hx hb dX4_readAtom_11 (by decide) (fun c6 => ?_) (fun c6 => ?_)
  · have t7 : x2.toInt ≠ 13 := ti_ne c6 rfl (by decide)
    refine lv_iconst (v := 0) hx hb dX4_readAtom_18 (by decide) ?_
    refine lv_istore_n (lv' := [(2, .int 0), (0, .ref o0), (1, .int 3)]) hx hb dX4_readAtom_19 rfl hl (by decide) rfl (fun ls hl => ?_)
    refine lv_iload_n hx hb dX4_readAtom_20 rfl (lv_at hl 0 rfl) ?_
    refine lv_if_ne (tgt := 43) hx hb dX4_readAtom_21 (by decide) (fun c8 => absurd c8 (by decide)) (fun c8 => ?_)
    refine lv_aload_n hx hb dX4_readAtom_24 rfl (lv_at hl 1 rfl) ?_
    refine tw_getM (v := .ref th) hx hb hts bF2_X4 hown hK hT hr_o0 shc_7 rfl 0 (by decide) (ht_at2 hts 0 rfl) (fun _ h9 => h9) hm_th dX4_readAtom_25 ?_
    refine lv_aload_n hx hb dX4_readAtom_28 rfl (lv_at hl 1 rfl) ?_
    refine tw_getM (v := .int a0) hx hb hts bF2_X4 hown hK hT hr_o0 shc_7 rfl 13 (by decide) (ht_at2 hts 1 rfl) (fun _ h9 => h9) hm_a0 dX4_readAtom_29 ?_
    refine tw_iald (i := a0) hx hb hK hT hr_th shc_40 rfl (vin_t (a := a0.toInt) rfl (by omega) (by omega)) dX4_readAtom_32 (fun v9 m9 h9 => ?_)
    obtain ⟨x10, rfl, gx10, kx10⟩ := h9
    have cx10 := hc_vT.at m9 (by have q9 := tn_of (show a0.toInt = a0.toInt from rfl) (by omega); omega)
    have t11 : a0.toInt = ix_tv.toInt → x10.toInt = tv.toInt := fun h8 => congrArg Int32.toInt (el_same m9 hm_tv h8)
    obtain rfl : x2 = x10 := (el_same m9 m1 rfl).symm
    refine lv_bipush (v := 16) hx hb dX4_readAtom_33 (by decide) ?_
    refine lv_icmp_eq (tgt := 43) hx hb dX4_readAtom_35 (by decide) (fun c12 => ?_) (fun c12 => ?_)
    · have t13 : x2.toInt = 16 := ti_eq c12 rfl (by decide)
      refine lv_iload_n hx hb dX4_readAtom_43 rfl (lv_at hl 2 rfl) ?_
      refine lv_bipush (v := 6) hx hb dX4_readAtom_44 (by decide) ?_
      refine lv_icmp_lt (tgt := 51) hx hb dX4_readAtom_46 (by decide) (fun c14 => ?_) (fun c14 => absurd c14 (by decide))
      refine lv_aload_n hx hb dX4_readAtom_51 rfl (lv_at hl 1 rfl) ?_
      refine lv_dup hx hb dX4_readAtom_52 rfl ?_
      refine tw_getM (v := .int a0) hx hb hts bF2_X4 hown hK hT hr_o0 shc_7 rfl 13 (by decide) (ht_at2 hts 1 rfl) (fun _ h9 => h9) hm_a0 dX4_readAtom_53 ?_
      refine lv_iconst (v := 1) hx hb dX4_readAtom_56 (by decide) ?_
      refine lv_iadd hx hb dX4_readAtom_57 ?_
      refine lv_topi (fun x15 ex15 => ?_)
      have t16 : x15.toInt = a0.toInt + 1 := ti_add ex15 rfl (by decide) (by omega) (by omega)
      refine tw_put (v := .int x15) (ty := .int) hx hb hts bF2_X4 tyX4 tyX4_ok nmX4 hown hK hT hG hS hr_o0 shc_7 rfl 13 (by decide) (ht_at2 hts 1 rfl) (fun _ h9 => h9) rfl (by decide +kernel) rfl rfl (gl_at rfl (gi_of (show x15.toInt = x15.toInt from rfl) (by omega) (by omega))) dX4_readAtom_58 (fun H locs hT oq m17 oj hS => ?_)
      have hF := hF.put hr_o0 skc_7 oq oj (by decide)
      have m18 := (oj 0 (by decide) (by decide)).trans hm_th
      have m19 := hc_vT.kept (oq _ (gne hr_th hr_o0 (by decide)))
      have m20 := (el_kept (oq _ (gne hr_th hr_o0 (by decide)))).trans hm_tv
      refine lv_iload_n hx hb dX4_readAtom_61 rfl (lv_at hl 0 rfl) ?_
      refine lv_if_eq (tgt := 81) hx hb dX4_readAtom_62 (by decide) (fun c22 => ?_) (fun c22 => absurd c22 (by decide))
      refine lv_aload_n hx hb dX4_readAtom_81 rfl (lv_at hl 1 rfl) ?_
      refine lv_iload_n hx hb dX4_readAtom_82 rfl (lv_at hl 2 rfl) ?_
      refine lv_iconst (v := 1) hx hb dX4_readAtom_83 (by decide) ?_
      refine lv_iadd hx hb dX4_readAtom_84 ?_
      refine lv_topi (fun x23 ex23 => ?_)
      obtain rfl : x23 = 4 := ex23.trans (by decide)
      have hFc := gA_free hG hA hS
      refine va_calli (va_runV (As := [.int 4]) (rest := []) ⟨hx, hb, hml, hown, hts⟩ (c_readAny4 l dC dI kA adK adV G H nC nS o0 th x15 vT tv ix_tv ix_tv K X pS hT hr_o0 m18 hr_th m17 (by have q8 := ti_all ix_tv; omega) (by have q8 := ti_all x15; omega) (by have := (show x15.toInt = x15.toInt from rfl); have := (show ix_tv.toInt = ix_tv.toInt from rfl); omega) (fun m hm => hKK m (Nat.le_trans hm (Nat.le_of_eq (tn_same hx_tv rfl rfl)))) (fun m hm => hXX m (Nat.lt_of_lt_of_eq hm (tn_same hx_tv rfl rfl))) m19 (by have q9 := (show ix_tv.toInt = ix_tv.toInt from rfl); have := (show ix_tv.toInt = ix_tv.toInt from rfl); omega) m20 (by have q8 := ti_all tv; omega) (by omega) (by omega)) (cwV 1 hts (goodIn_app (goodIn_r _ [35, 36, 37, 15] rfl (by decide +kernel)) (goodIn_ca (goodIn_r _ [3, 4, 5, 1, 2, 3, 6, 7, 8, 9, 10, 11, 12, 13, 14, 15, 16, 17, 18, 19, 20, 21, 22, 23, 24, 25, 26, 27, 28, 29, 30, 31, 32, 33, 34, 35, 36, 37] rfl (by decide +kernel)) (bs2_in _ _))) rfl rfl rfl (by decide +kernel) ⟨(Nat.le_of_ble_eq_true rfl), (Nat.le_of_ble_eq_true rfl)⟩) ⟨fun a U g mk q => by obtain ⟨q0, q1, qK, qE⟩ := q; exact ⟨q0, q1, va_K.moved (u := U) (U := U.calling g mk a) (Vm.Alike.refl U.vm) qK, EVC.blind g mk a qE⟩, gH_rc hK hT hr_o0 shc_7 rfl, fun U hU hW => ⟨rfl, hU, va_K.moved hW.alike hK, hE.call hS hFc hU hW⟩⟩ rfl rfl hl.1 rfl (lv_room (Nat.le_of_ble_eq_true rfl)) dX4_readAtom_85 ⟨(Nat.le_of_ble_eq_true rfl), (Nat.le_of_ble_eq_true rfl)⟩) hS (fun q _ h => hFc q h) hFc (fun r24 u t H locs ht hvm hw25 hB _ _ hS => ?_)
      obtain ⟨u26, rfl⟩ : ∃ z, z = u := ⟨_, rfl⟩
      obtain ⟨hT, hF1, m27⟩ := hB
      rw [ht] at hT hF1 m27
      have m28 := (hF1.fld hr_o0 skc_7 (k := 0) (by decide) (by decide)).trans m18
      have m29 := m19.kept (hF1.arr hr_th skc_40 (by decide))
      have m30 := (el_kept (hF1.arr hr_th skc_40 (by decide))).trans m20
      have hF := hF.more hF1 (by decide)
      try dsimp only at hw25
      obtain ⟨h33, h34, hf35, hf36⟩ := hw25
      refine lv_if_eq (tgt := 104) hx hb dX4_readAtom_88 (by decide) (fun c37 => ?_) (fun c37 => ?_)
      · have t38 : r24.toInt = 0 := ti_eq c37 rfl (by decide)
        refine lv_iconst (v := 0) hx hb dX4_readAtom_104 (by decide) ?_
        exact W.zret (v := 0) hx hb hr (by decide) (fun t ht hW => ⟨⟨0, u26, rfl, (by exact ⟨(by have q8 := ti_all u26; omega), (rg_t (a := 0) (by decide) (by first | decide | omega) (by first | decide | omega)), (by omega), (by have h9 := hf36; rw [(show pS x15.toNatClampNeg = X (pS a0.toNatClampNeg) from by rw [show x15.toNatClampNeg = a0.toNatClampNeg + 1 from by have := tn_of (show a0.toInt = a0.toInt from rfl) (by omega); have := tn_of (show x15.toInt = x15.toInt from rfl) (by omega); omega]; exact hXX _ (by have := tn_of (show a0.toInt = a0.toInt from rfl) (by omega); have := tn_of (show tn.toInt = tn.toInt from rfl) (by omega); omega))] at h9; rw [show r24.toInt = 0 from by omega] at h9; exact Or.inr (Or.inl ⟨by omega, Or.inl ⟨h9, by decide⟩⟩))⟩), by (try dsimp only); rw [ht]; exact ⟨hT, hF, m27⟩⟩, hS.F ht⟩) hS.2.2 dX4_readAtom_105
      · have t39 : r24.toInt ≠ 0 := ti_ne c37 rfl (by decide)
        refine lv_aload_n hx hb dX4_readAtom_91 rfl (lv_at hl 1 rfl) ?_
        refine lv_bipush (v := 17) hx hb dX4_readAtom_92 (by decide) ?_
        have hFc := gA_free hG hA hS
        refine va_calli (va_runV (As := [.int 17]) (rest := []) ⟨hx, hb, hml, hown, hts⟩ (c_take l dC dI kA adK adV G H nC nS o0 17 th u26 vT tv ix_tv ix_tv K X pS hT hr_o0 m28 hr_th m27 (by have q8 := ti_all ix_tv; omega) (by have q8 := ti_all u26; omega) (by have := (show u26.toInt = u26.toInt from rfl); have := (show ix_tv.toInt = ix_tv.toInt from rfl); omega) (by have := (show (17 : Int32).toInt = 17 from (by decide)); omega) (fun m hm => hKK m (Nat.le_trans hm (Nat.le_of_eq (tn_same hx_tv rfl rfl)))) (fun m hm => hXX m (Nat.lt_of_lt_of_eq hm (tn_same hx_tv rfl rfl))) m29 (by have q9 := (show ix_tv.toInt = ix_tv.toInt from rfl); have := (show ix_tv.toInt = ix_tv.toInt from rfl); omega) m30 (by have q8 := ti_all tv; omega) (by omega) (by omega)) (cwV 1 hts (goodIn_app (goodIn_r _ [20, 21, 22, 15] rfl (by decide +kernel)) (goodIn_ca (goodIn_r _ [19, 1, 2] rfl (by decide +kernel)) (bs2_in _ _))) rfl rfl rfl (by decide +kernel) ⟨(Nat.le_of_ble_eq_true rfl), (Nat.le_of_ble_eq_true rfl)⟩) ⟨fun a U g mk q => by obtain ⟨q0, q1, qK, qE⟩ := q; exact ⟨q0, q1, va_K.moved (u := U) (U := U.calling g mk a) (Vm.Alike.refl U.vm) qK, EVC.blind g mk a qE⟩, gH_rc hK hT hr_o0 shc_7 rfl, fun U hU hW => ⟨rfl, hU, va_K.moved hW.alike hK, hE.call hS hFc hU hW⟩⟩ rfl rfl hl.1 rfl (lv_room (Nat.le_of_ble_eq_true rfl)) dX4_readAtom_94 ⟨(Nat.le_of_ble_eq_true rfl), (Nat.le_of_ble_eq_true rfl)⟩) hS (fun q _ h => hFc q h) hFc (fun r40 u t H locs ht hvm hw41 hB _ _ hS => ?_)
        obtain ⟨u42, rfl⟩ : ∃ z, z = u := ⟨_, rfl⟩
        obtain ⟨hT, hF1, m43⟩ := hB
        rw [ht] at hT hF1 m43
        have hF := hF.more hF1 (by decide)
        try dsimp only at hw41
        obtain ⟨h49, h50, hf51, hf52, hf53⟩ := hw41
        refine lv_if_eq (tgt := 104) hx hb dX4_readAtom_97 (by decide) (fun c54 => ?_) (fun c54 => ?_)
        · have t55 : r40.toInt = 0 := ti_eq c54 rfl (by decide)
          refine lv_iconst (v := 0) hx hb dX4_readAtom_104 (by decide) ?_
          exact W.zret (v := 0) hx hb hr (by decide) (fun t ht hW => ⟨⟨0, u42, rfl, (by exact ⟨(by have q8 := ti_all u42; omega), (rg_t (a := 0) (by decide) (by first | decide | omega) (by first | decide | omega)), (by omega), (by have h9 := hf36; rw [(show pS x15.toNatClampNeg = X (pS a0.toNatClampNeg) from by rw [show x15.toNatClampNeg = a0.toNatClampNeg + 1 from by have := tn_of (show a0.toInt = a0.toInt from rfl) (by omega); have := tn_of (show x15.toInt = x15.toInt from rfl) (by omega); omega]; exact hXX _ (by have := tn_of (show a0.toInt = a0.toInt from rfl) (by omega); have := tn_of (show tn.toInt = tn.toInt from rfl) (by omega); omega))] at h9; rw [show r24.toInt = 1 from by omega] at h9; have t9 := hf52; exact Or.inr (Or.inl ⟨by omega, Or.inr ⟨_, h9, (by have q0 : (0 : Int32).toInt = 0 := (by decide); have q1 : (1 : Int32).toInt = 1 := (by decide); rcases t9 with ⟨x1, x2, x3⟩ | ⟨x1, x2, x3⟩; (exact Or.inl ⟨x1.trans (by decide), by omega, x3⟩); exact Or.inr ⟨fun h7 => x1 (h7.trans (by decide)), by omega, x3⟩)⟩⟩))⟩), by (try dsimp only); rw [ht]; exact ⟨hT, hF, m43⟩⟩, hS.F ht⟩) hS.2.2 dX4_readAtom_105
        · have t56 : r40.toInt ≠ 0 := ti_ne c54 rfl (by decide)
          refine lv_iconst (v := 1) hx hb dX4_readAtom_100 (by decide) ?_
          refine lv_goto (tgt := 105) hx hb dX4_readAtom_101 (by decide) ?_
          exact W.zret (v := 1) hx hb hr (by decide) (fun t ht hW => ⟨⟨1, u42, rfl, (by exact ⟨(by have q8 := ti_all u42; omega), (rg_t (a := 1) (by decide) (by first | decide | omega) (by first | decide | omega)), (by omega), (by have h9 := hf36; rw [(show pS x15.toNatClampNeg = X (pS a0.toNatClampNeg) from by rw [show x15.toNatClampNeg = a0.toNatClampNeg + 1 from by have := tn_of (show a0.toInt = a0.toInt from rfl) (by omega); have := tn_of (show x15.toInt = x15.toInt from rfl) (by omega); omega]; exact hXX _ (by have := tn_of (show a0.toInt = a0.toInt from rfl) (by omega); have := tn_of (show tn.toInt = tn.toInt from rfl) (by omega); omega))] at h9; rw [show r24.toInt = 1 from by omega] at h9; have t9 := hf52; exact Or.inr (Or.inl ⟨by omega, Or.inr ⟨_, h9, (by have q0 : (0 : Int32).toInt = 0 := (by decide); have q1 : (1 : Int32).toInt = 1 := (by decide); rcases t9 with ⟨x1, x2, x3⟩ | ⟨x1, x2, x3⟩; (exact Or.inl ⟨x1.trans (by decide), by omega, x3⟩); exact Or.inr ⟨fun h7 => x1 (h7.trans (by decide)), by omega, x3⟩)⟩⟩))⟩), by (try dsimp only); rw [ht]; exact ⟨hT, hF, m43⟩⟩, hS.F ht⟩) hS.2.2 dX4_readAtom_105
    · have t57 : x2.toInt ≠ 16 := ti_ne c12 rfl (by decide)
      refine lv_aload_n hx hb dX4_readAtom_38 rfl (lv_at hl 1 rfl) ?_
      have hFc := gA_free hG hA hS
      refine va_calli (va_runV (As := []) (rest := []) ⟨hx, hb, hml, hown, hts⟩ (c_readComparison l dC dI kA adK adV G s.heap nC nS o0 th a0 vT tv ix_tv ix_tv K X pS hT hr_o0 hm_th hr_th hm_a0 (by have q8 := ti_all ix_tv; omega) (by have q8 := ti_all a0; omega) (by have := (show a0.toInt = a0.toInt from rfl); have := (show ix_tv.toInt = ix_tv.toInt from rfl); omega) (fun m hm => hKK m (Nat.le_trans hm (Nat.le_of_eq (tn_same hx_tv rfl rfl)))) (fun m hm => hXX m (Nat.lt_of_lt_of_eq hm (tn_same hx_tv rfl rfl))) hc_vT (by have q9 := (show ix_tv.toInt = ix_tv.toInt from rfl); have := (show ix_tv.toInt = ix_tv.toInt from rfl); omega) hm_tv (by have q8 := ti_all tv; omega) (by omega) (by omega)) (cwV 0 hts (goodIn_app (goodIn_r _ [26, 27, 28, 15] rfl (by decide +kernel)) (goodIn_ca (goodIn_r _ [6, 7, 8, 1, 2, 9, 10, 11, 12, 13, 14, 15, 16, 17, 18, 19, 20, 21, 22, 23, 24, 25] rfl (by decide +kernel)) (bs2_in _ _))) rfl rfl rfl (by decide +kernel) ⟨(Nat.le_of_ble_eq_true rfl), (Nat.le_of_ble_eq_true rfl)⟩) ⟨fun a U g mk q => by obtain ⟨q0, q1, qK, qE⟩ := q; exact ⟨q0, q1, va_K.moved (u := U) (U := U.calling g mk a) (Vm.Alike.refl U.vm) qK, EVC.blind g mk a qE⟩, gH_rc hK hT hr_o0 shc_7 rfl, fun U hU hW => ⟨rfl, hU, va_K.moved hW.alike hK, hE.call hS hFc hU hW⟩⟩ rfl rfl hl.1 rfl (lv_room (Nat.le_of_ble_eq_true rfl)) dX4_readAtom_39 ⟨(Nat.le_of_ble_eq_true rfl), (Nat.le_of_ble_eq_true rfl)⟩) hS (fun q _ h => hFc q h) hFc (fun r58 u t H locs ht hvm hw59 hB _ _ hS => ?_)
      obtain ⟨u60, rfl⟩ : ∃ z, z = u := ⟨_, rfl⟩
      obtain ⟨hT, hF1, m61⟩ := hB
      rw [ht] at hT hF1 m61
      have hF := hF.more hF1 (by decide)
      try dsimp only at hw59
      obtain ⟨h67, h68, hf69, hf70⟩ := hw59
      exact W.zret (v := r58) hx hb hr (nar_b (by have q8 := ti_all r58; omega)) (fun t ht hW => ⟨⟨r58, u60, rfl, (by exact ⟨(by have q8 := ti_all u60; omega), (by have q8 := ti_all r58; omega), (by omega), (Or.inr (Or.inr ⟨by omega, hf70⟩))⟩), by (try dsimp only); rw [ht]; exact ⟨hT, hF, m61⟩⟩, hS.F ht⟩) hS.2.2 dX4_readAtom_42
  · have t71 : x2.toInt = 13 := ti_eq c6 rfl (by decide)
    refine lv_iconst (v := 1) hx hb dX4_readAtom_14 (by decide) ?_
    refine lv_goto (tgt := 19) hx hb dX4_readAtom_15 (by decide) ?_
    refine lv_istore_n (lv' := [(2, .int 1), (0, .ref o0), (1, .int 3)]) hx hb dX4_readAtom_19 rfl hl (by decide) rfl (fun ls hl => ?_)
    refine lv_iload_n hx hb dX4_readAtom_20 rfl (lv_at hl 0 rfl) ?_
    refine lv_if_ne (tgt := 43) hx hb dX4_readAtom_21 (by decide) (fun c72 => ?_) (fun c72 => absurd c72 (by decide))
    refine lv_iload_n hx hb dX4_readAtom_43 rfl (lv_at hl 2 rfl) ?_
    refine lv_bipush (v := 6) hx hb dX4_readAtom_44 (by decide) ?_
    refine lv_icmp_lt (tgt := 51) hx hb dX4_readAtom_46 (by decide) (fun c73 => ?_) (fun c73 => absurd c73 (by decide))
    refine lv_aload_n hx hb dX4_readAtom_51 rfl (lv_at hl 1 rfl) ?_
    refine lv_dup hx hb dX4_readAtom_52 rfl ?_
    refine tw_getM (v := .int a0) hx hb hts bF2_X4 hown hK hT hr_o0 shc_7 rfl 13 (by decide) (ht_at2 hts 1 rfl) (fun _ h9 => h9) hm_a0 dX4_readAtom_53 ?_
    refine lv_iconst (v := 1) hx hb dX4_readAtom_56 (by decide) ?_
    refine lv_iadd hx hb dX4_readAtom_57 ?_
    refine lv_topi (fun x74 ex74 => ?_)
    have t75 : x74.toInt = a0.toInt + 1 := ti_add ex74 rfl (by decide) (by omega) (by omega)
    refine tw_put (v := .int x74) (ty := .int) hx hb hts bF2_X4 tyX4 tyX4_ok nmX4 hown hK hT hG hS hr_o0 shc_7 rfl 13 (by decide) (ht_at2 hts 1 rfl) (fun _ h9 => h9) rfl (by decide +kernel) rfl rfl (gl_at rfl (gi_of (show x74.toInt = x74.toInt from rfl) (by omega) (by omega))) dX4_readAtom_58 (fun H locs hT oq m76 oj hS => ?_)
    have hF := hF.put hr_o0 skc_7 oq oj (by decide)
    have m77 := (oj 0 (by decide) (by decide)).trans hm_th
    have m78 := hc_vT.kept (oq _ (gne hr_th hr_o0 (by decide)))
    have m79 := (el_kept (oq _ (gne hr_th hr_o0 (by decide)))).trans hm_tv
    refine lv_iload_n hx hb dX4_readAtom_61 rfl (lv_at hl 0 rfl) ?_
    refine lv_if_eq (tgt := 81) hx hb dX4_readAtom_62 (by decide) (fun c81 => absurd c81 (by decide)) (fun c81 => ?_)
    refine lv_aload_n hx hb dX4_readAtom_65 rfl (lv_at hl 1 rfl) ?_
    refine lv_iload_n hx hb dX4_readAtom_66 rfl (lv_at hl 2 rfl) ?_
    refine lv_iconst (v := 1) hx hb dX4_readAtom_67 (by decide) ?_
    refine lv_iadd hx hb dX4_readAtom_68 ?_
    refine lv_topi (fun x82 ex82 => ?_)
    obtain rfl : x82 = 4 := ex82.trans (by decide)
    have hFc := gA_free hG hA hS
    refine va_calli (va_runV (As := [.int 4]) (rest := []) ⟨hx, hb, hml, hown, hts⟩ (c_readAtom4 l dC dI kA adK adV G H nC nS o0 th x74 vT tv ix_tv ix_tv K X pS hT hr_o0 m77 hr_th m76 (by have q8 := ti_all ix_tv; omega) (by have q8 := ti_all x74; omega) (by have := (show x74.toInt = x74.toInt from rfl); have := (show ix_tv.toInt = ix_tv.toInt from rfl); omega) (fun m hm => hKK m (Nat.le_trans hm (Nat.le_of_eq (tn_same hx_tv rfl rfl)))) (fun m hm => hXX m (Nat.lt_of_lt_of_eq hm (tn_same hx_tv rfl rfl))) m78 (by have q9 := (show ix_tv.toInt = ix_tv.toInt from rfl); have := (show ix_tv.toInt = ix_tv.toInt from rfl); omega) m79 (by have q8 := ti_all tv; omega) (by omega) (by omega)) (cwV 1 hts (goodIn_app (goodIn_r _ [29, 30, 31, 15] rfl (by decide +kernel)) (goodIn_ca (goodIn_r _ [5, 1, 2, 3, 4, 5, 6, 7, 8, 9, 10, 11, 12, 13, 14, 15, 16, 17, 18, 19, 20, 21, 22, 23, 24, 25, 26, 27, 28, 29, 30, 31, 32, 33, 34, 35, 36, 37] rfl (by decide +kernel)) (bs2_in _ _))) rfl rfl rfl (by decide +kernel) ⟨(Nat.le_of_ble_eq_true rfl), (Nat.le_of_ble_eq_true rfl)⟩) ⟨fun a U g mk q => by obtain ⟨q0, q1, qK, qE⟩ := q; exact ⟨q0, q1, va_K.moved (u := U) (U := U.calling g mk a) (Vm.Alike.refl U.vm) qK, EVC.blind g mk a qE⟩, gH_rc hK hT hr_o0 shc_7 rfl, fun U hU hW => ⟨rfl, hU, va_K.moved hW.alike hK, hE.call hS hFc hU hW⟩⟩ rfl rfl hl.1 rfl (lv_room (Nat.le_of_ble_eq_true rfl)) dX4_readAtom_69 ⟨(Nat.le_of_ble_eq_true rfl), (Nat.le_of_ble_eq_true rfl)⟩) hS (fun q _ h => hFc q h) hFc (fun r83 u t H locs ht hvm hw84 hB _ _ hS => ?_)
    obtain ⟨u85, rfl⟩ : ∃ z, z = u := ⟨_, rfl⟩
    obtain ⟨hT, hF1, m86⟩ := hB
    rw [ht] at hT hF1 m86
    have hF := hF.more hF1 (by decide)
    try dsimp only at hw84
    obtain ⟨h92, h93, hf94, hf95⟩ := hw84
    refine lv_istore_n (lv' := [(3, .int r83), (2, .int 1), (0, .ref o0), (1, .int 3)]) hx hb dX4_readAtom_72 rfl hl (by decide) rfl (fun ls hl => ?_)
    refine lv_aload_n hx hb dX4_readAtom_73 rfl (lv_at hl 2 rfl) ?_
    refine lv_bipush (v := 13) hx hb dX4_readAtom_74 (by decide) ?_
    have hFc := gA_free hG hA hS
    refine va_callv (va_runV (As := [.int 13]) (rest := []) ⟨hx, hb, hml, hown, hts⟩ (c_addStep l dC dI kA adK adV G H nC nS o0 13 hT hr_o0 (rg_t (a := 13) (by decide) (by first | decide | omega) (by first | decide | omega)) (by omega) (by omega)) (cwV 1 hts (goodIn_app (goodIn_r _ [12, 13, 14, 15] rfl (by decide +kernel)) (goodIn_ca (goodIn_r _ [9, 10, 11] rfl (by decide +kernel)) (bs2_in _ _))) rfl rfl rfl (by decide +kernel) ⟨(Nat.le_of_ble_eq_true rfl), (Nat.le_of_ble_eq_true rfl)⟩) ⟨fun a U g mk q => by obtain ⟨q0, q1, qK, qE⟩ := q; exact ⟨q0, q1, va_K.moved (u := U) (U := U.calling g mk a) (Vm.Alike.refl U.vm) qK, EVC.blind g mk a qE⟩, gH_rc hK hT hr_o0 shc_7 rfl, fun U hU hW => ⟨rfl, hU, va_K.moved hW.alike hK, hE.call hS hFc hU hW⟩⟩ rfl rfl hl.1 rfl (lv_room (Nat.le_of_ble_eq_true rfl)) dX4_readAtom_76 ⟨(Nat.le_of_ble_eq_true rfl), (Nat.le_of_ble_eq_true rfl)⟩) hS (fun q _ h => hFc q h) hFc (fun u t H locs ht hvm hw97 hB _ _ hS => ?_)
    obtain ⟨hT, hF1⟩ := hB
    rw [ht] at hT hF1
    have m102 := (hF1.fld hr_o0 skc_7 (k := 13) (by decide) (by decide)).trans m86
    have hF := hF.more hF1 (by decide)
    try dsimp only at hw97
    refine lv_iload_n hx hb dX4_readAtom_79 rfl (lv_at hl 0 rfl) ?_
    exact W.zret (v := r83) hx hb hr (nar_b (by have q8 := ti_all r83; omega)) (fun t ht hW => ⟨⟨r83, u85, rfl, (by exact ⟨(by have q8 := ti_all u85; omega), (by have q8 := ti_all r83; omega), (by omega), (by have h9 := hf95; rw [(show pS x74.toNatClampNeg = X (pS a0.toNatClampNeg) from by rw [show x74.toNatClampNeg = a0.toNatClampNeg + 1 from by have := tn_of (show a0.toInt = a0.toInt from rfl) (by omega); have := tn_of (show x74.toInt = x74.toInt from rfl) (by omega); omega]; exact hXX _ (by have := tn_of (show a0.toInt = a0.toInt from rfl) (by omega); have := tn_of (show tn.toInt = tn.toInt from rfl) (by omega); omega))] at h9; exact Or.inl ⟨by omega, h9⟩)⟩), by (try dsimp only); rw [ht]; exact ⟨hT, hF, m102⟩⟩, hS.F ht⟩) hS.2.2 dX4_readAtom_80
def w_c_readAll3 : List Cond := .code yX4_readAll cX4_readAll 4 (some .boolean) :: (HAppend.hAppend (α := List Cond) (β := List Cond) (γ := List Cond) [.code yX4_readAtom cX4_readAtom 4 (some .boolean), .fieldLink RX4 11 "SeaLand$Law" "things" "[I", .fieldLink RX4 56 "SeaLand$Law" "at" "I", .code yX4_readAny cX4_readAny 4 (some .boolean), .code yX4_readAll cX4_readAll 4 (some .boolean), .code yX4_readComparison cX4_readComparison 3 (some .boolean), .code yX4_readSum cX4_readSum 3 (some .boolean), .code yX4_readPart cX4_readPart 2 (some .boolean), .code yX4_addStep cX4_addStep 2 none, .fieldLink RX4 63 "SeaLand$Law" "stepped" "I", .fieldLink RX4 39 "SeaLand$Law" "steps" "[I", .methodLink RX4 179 yX4_addStep, .instanceMethod yX4_addStep, .selects RX4 yX4_addStep yX4_addStep, .initialized RX4, .methodLink RX4 192 yX4_readPart, .instanceMethod yX4_readPart, .selects RX4 yX4_readPart yX4_readPart, .code yX4_take cX4_take 2 (some .boolean), .methodLink RX4 70 yX4_take, .instanceMethod yX4_take, .selects RX4 yX4_take yX4_take, .methodLink RX4 189 yX4_readSum, .instanceMethod yX4_readSum, .selects RX4 yX4_readSum yX4_readSum, .methodLink RX4 186 yX4_readComparison, .instanceMethod yX4_readComparison, .selects RX4 yX4_readComparison yX4_readComparison, .methodLink RX4 183 yX4_readAtom, .instanceMethod yX4_readAtom, .selects RX4 yX4_readAtom yX4_readAtom, .methodLink RX4 176 yX4_readAll, .instanceMethod yX4_readAll, .selects RX4 yX4_readAll yX4_readAll, .methodLink RX4 173 yX4_readAny, .instanceMethod yX4_readAny, .selects RX4 yX4_readAny yX4_readAny] bs2)
set_option maxHeartbeats 4000000 in
set_option maxRecDepth 100000 in
theorem c_readAll3 (l : Launch) (dC : Nat → ClassId) (dI : Nat → Nat → Nat) (kA : Nat → ClassId) (adK adV : Nat → Nat) (G : gT) (H0 : Heap) (nC nS : Int) (o0 : Nat) (th : Nat) (a0 : Int32) (vT : Nat → Int32) (tv ix_tv : Int32) (tn : Int32) (K : Nat → Int) (X pS : Nat → Nat) (hT : gH (dC, dI) kA (SHc nC nS) G H0) (hr_o0 : G o0 = some 7) (hm_th : el H0 o0 (dI 7 0) = some (.ref th)) (hr_th : G th = some 40) (hm_a0 : el H0 o0 (dI 7 13) = some (.int a0)) (hq0 : 0 ≤ tn.toInt ∧ tn.toInt ≤ 400) (hq1 : 0 ≤ a0.toInt ∧ a0.toInt ≤ 400) (hat : a0.toInt ≤ tn.toInt) (hKK : ∀ m : Nat, m ≤ tn.toNatClampNeg → (vT m).toInt = K (pS m)) (hXX : ∀ m : Nat, m < tn.toNatClampNeg → pS (m + 1) = X (pS m)) (hc_vT : ct H0 th 401 vT) (hx_tv : ix_tv.toInt = tn.toInt) (hm_tv : el H0 th ix_tv.toNatClampNeg = some (.int tv)) (hv_tv : 21 ≤ tv.toInt ∧ tv.toInt ≤ 21) (hgC : 0 ≤ nC ∧ nC ≤ 40) (hgS : 0 ≤ nS ∧ nS ≤ 60) : Met l yX4_readAll w_c_readAll3 ({ frames := 14, cells := 0, slots := 0, locals := 316 }) (va_Pc [.ref o0, .int 3] (fun U => U.heap = H0 ∧ va_K (dC, dI) vwCl (tyl kA) U ∧ EVC adK adV (gA G H0.size) U U.heap)) (va_Qi (fun (r : Int32) (u : Int32) => (0 ≤ u.toInt ∧ u.toInt ≤ 400) ∧ (0 ≤ r.toInt ∧ r.toInt ≤ 1) ∧ (a0.toInt ≤ u.toInt ∧ u.toInt ≤ tn.toInt) ∧ (lpR K X (aR K X 3) 14 (pS a0.toNatClampNeg) r.toInt (pS u.toNatClampNeg))) (fun (a1 : Int32) (t : State) => gH (dC, dI) kA (SHc nC nS) G t.heap ∧ gF (dC, dI) SKc G ([(7, 12), (7, 13), (49, 0)] : List (Nat × Nat)) H0 t.heap ∧ el t.heap o0 (dI 7 13) = some (.int a1)) (gA G H0.size)) 0 0 (gA G H0.size) := by
  refine Met.ofW (cc := cX4_readAll) (maxL := 4) (ret := (some .boolean)) (by decide) rfl ?_
  intro p e s m args below meth c s₁ B hml hv
  obtain ⟨rfl, hH0, hK, hE⟩ := hv
  have hx := B.exec
  have hb := B.bytes
  have hr := B.returns
  have hts := atoms_spec (ws := w_c_readAll3) B.pre
  have hown : s.vm.findClass RX4 = some m.cls := findClass_of_methodNamed B.named
  have hlocks := B.notSynchronized
  subst hH0
  generalize hAe : gA G s.heap.size = A at hE ⊢
  have hA : ∀ q : Nat, s.heap.size ≤ q → A q := fun q h => by rw [← hAe]; exact Or.inr h
  have hG := gA_of hAe
  have hS : va_S A s.heap s.heap [] := va_S.rf
  have hF : gF (dC, dI) SKc G ([(7, 12), (7, 13), (49, 0)] : List (Nat × Nat)) s.heap s.heap := gF.rf
  have hl := lv_entry ([.ref o0, .int 3]) (n := 4) (Nat.le_of_ble_eq_true rfl)
  rw [lg_entry_eq]
  generalize (lg_sl ([.ref o0, .int 3]) ++ List.replicate (4 - (lg_sl ([.ref o0, .int 3])).length) Slot.unset).toArray = ls at hl ⊢
  have hl : lv_has ls 4 [(0, .ref o0), (1, .int 3)] := hl
  refine lv_aload_n hx hb dX4_readAll_0 rfl (lv_at hl 0 rfl) ?_
  refine lv_iload_n hx hb dX4_readAll_1 rfl (lv_at hl 1 rfl) ?_
  have hFc := gA_free hG hA hS
  refine va_calli (va_runV (As := [.int 3]) (rest := []) ⟨hx, hb, hml, hown, hts⟩ (c_readAtom3 l dC dI kA adK adV G s.heap nC nS o0 th a0 vT tv ix_tv ix_tv K X pS hT hr_o0 hm_th hr_th hm_a0 (by have q8 := ti_all ix_tv; omega) (by have q8 := ti_all a0; omega) (by have := (show a0.toInt = a0.toInt from rfl); have := (show ix_tv.toInt = ix_tv.toInt from rfl); omega) (fun m hm => hKK m (Nat.le_trans hm (Nat.le_of_eq (tn_same hx_tv rfl rfl)))) (fun m hm => hXX m (Nat.lt_of_lt_of_eq hm (tn_same hx_tv rfl rfl))) hc_vT (by have q9 := (show ix_tv.toInt = ix_tv.toInt from rfl); have := (show ix_tv.toInt = ix_tv.toInt from rfl); omega) hm_tv (by have q8 := ti_all tv; omega) (by omega) (by omega)) (cwV 1 hts (goodIn_app (goodIn_r _ [29, 30, 31, 15] rfl (by decide +kernel)) (goodIn_ca (goodIn_r _ [1, 2, 3, 4, 5, 1, 6, 7, 8, 9, 10, 11, 12, 13, 14, 15, 16, 17, 18, 19, 20, 21, 22, 23, 24, 25, 26, 27, 28, 29, 30, 31, 32, 33, 34, 35, 36, 37] rfl (by decide +kernel)) (bs2_in _ _))) rfl rfl rfl (by decide +kernel) ⟨(Nat.le_of_ble_eq_true rfl), (Nat.le_of_ble_eq_true rfl)⟩) ⟨fun a U g mk q => by obtain ⟨q0, q1, qK, qE⟩ := q; exact ⟨q0, q1, va_K.moved (u := U) (U := U.calling g mk a) (Vm.Alike.refl U.vm) qK, EVC.blind g mk a qE⟩, gH_rc hK hT hr_o0 shc_7 rfl, fun U hU hW => ⟨rfl, hU, va_K.moved hW.alike hK, hE.call hS hFc hU hW⟩⟩ rfl rfl hl.1 rfl (lv_room (Nat.le_of_ble_eq_true rfl)) dX4_readAll_2 ⟨(Nat.le_of_ble_eq_true rfl), (Nat.le_of_ble_eq_true rfl)⟩) hS (fun q _ h => hFc q h) hFc (fun r1 u t H locs ht hvm hw2 hB _ _ hS => ?_)
  obtain ⟨u3, rfl⟩ : ∃ z, z = u := ⟨_, rfl⟩
  obtain ⟨hT, hF1, m4⟩ := hB
  rw [ht] at hT hF1 m4
  have m5 := (hF1.fld hr_o0 skc_7 (k := 0) (by decide) (by decide)).trans hm_th
  have m7 := hc_vT.kept (hF1.arr hr_th skc_40 (by decide))
  have m8 := (el_kept (hF1.arr hr_th skc_40 (by decide))).trans hm_tv
  have hF := hF.more hF1 (by decide)
  try dsimp only at hw2
  obtain ⟨h9, h10, hf11, hf12⟩ := hw2
  refine lv_istore_n (lv' := [(2, .int r1), (0, .ref o0), (1, .int 3)]) hx hb dX4_readAll_5 rfl hl (by decide) rfl (fun ls hl => ?_)
  refine lv_iconst (v := 0) hx hb dX4_readAll_6 (by decide) ?_
  refine lv_istore_n (lv' := [(3, .int 0), (2, .int r1), (0, .ref o0), (1, .int 3)]) hx hb dX4_readAll_7 rfl hl (by decide) rfl (fun ls hl => ?_)
  have key63 : ∀ (n63 i13 : Nat), i13 + n63 = 400 → 0 ≤ i13 → ∀ (z14 : Int32), ∀ (z19 : Int32), ((0 ≤ z14.toInt ∧ z14.toInt ≤ 1) ∧ (0 ≤ z19.toInt ∧ z19.toInt ≤ 400) ∧ (a0.toInt ≤ z19.toInt ∧ z19.toInt ≤ tn.toInt) ∧ (((z14.toInt = 1 ∧ ∀ (r : Int) (f : Nat), lpQ K X (aR K X 3) 14 (pS z19.toNatClampNeg) r f → lpR K X (aR K X 3) 14 (pS a0.toNatClampNeg) r f) ∨ (z14.toInt = 0 ∧ lpR K X (aR K X 3) 14 (pS a0.toNatClampNeg) 0 (pS z19.toNatClampNeg))) ∧ ((i13 : Nat) : Int) ≤ z19.toInt)) → ∀ (H : Heap) (locs : List Loc), gH (dC, dI) kA (SHc nC nS) G H → gF (dC, dI) SKc G ([(7, 12), (7, 13), (49, 0)] : List (Nat × Nat)) s.heap H → va_S A s.heap H locs → ct H th 401 vT → el H o0 (dI 7 0) = some (.ref th) → el H th ix_tv.toNatClampNeg = some (.int tv) → el H o0 (dI 7 13) = some (.int z19) → ∀ ls : Array Slot, lv_has ls 4 [(3, .int (nI i13)), (2, .int z14), (0, .ref o0), (1, .int 3)] → W p l e (headSpec w_c_readAll3 ({ frames := 14, cells := 0, slots := 0, locals := 316 })).room s m #[.ref o0, .int 3] below meth c H locs 0 0 (MQ below (va_Qi (fun (r : Int32) (u : Int32) => (0 ≤ u.toInt ∧ u.toInt ≤ 400) ∧ (0 ≤ r.toInt ∧ r.toInt ≤ 1) ∧ (a0.toInt ≤ u.toInt ∧ u.toInt ≤ tn.toInt) ∧ (lpR K X (aR K X 3) 14 (pS a0.toNatClampNeg) r.toInt (pS u.toNatClampNeg))) (fun (a1 : Int32) (t : State) => gH (dC, dI) kA (SHc nC nS) G t.heap ∧ gF (dC, dI) SKc G ([(7, 12), (7, 13), (49, 0)] : List (Nat × Nat)) s.heap t.heap ∧ el t.heap o0 (dI 7 13) = some (.int a1)) A) #[.ref o0, .int 3] s 0 0 A) (F0 m 8 ls []) := by
    intro n63
    induction n63 with
    | zero =>
      intro i13 hn63 hlo64 z14 z19 ⟨h15, h20, hj22, hj23⟩ H locs hT hF hS m16 m17 m18 m21 ls hl
      obtain rfl : 400 = i13 := by omega
      refine lv_iload_n hx hb dX4_readAll_8 rfl (lv_at hl 0 rfl) ?_
      refine lv_sipush (v := 400) hx hb dX4_readAll_9 (by decide) ?_
      refine lv_icmp_ge (tgt := 46) hx hb dX4_readAll_12 (by decide) (fun c65 => ?_) (fun c65 => (by exfalso; have q9 : ((400 : Nat) : Int) < 400 := ti_nle c65 (by decide) (nI_toInt (by omega)); omega))
      have t66 : 400 ≤ ((400 : Nat) : Int) := ti_le c65 (by decide) (nI_toInt (by omega))
      refine lv_iload_n hx hb dX4_readAll_46 rfl (lv_at hl 1 rfl) ?_
      exact W.zret (v := z14) hx hb hr (nar_b (by have q8 := ti_all z14; omega)) (fun t ht hW => ⟨⟨z14, z19, rfl, (by exact ⟨(by have q8 := ti_all z19; omega), (by have q8 := ti_all z14; omega), (by omega), (by rcases hj23.1 with ⟨h8, l9⟩ | ⟨h8, l9⟩; (rw [h8]; exact lp_e l9 (fun h7 => by have := tn_of (show z19.toInt = z19.toInt from rfl) (by omega); have := tn_of (show tn.toInt = tn.toInt from rfl) (by omega); have k9 := hKK tn.toNatClampNeg (Nat.le_refl _); have e9 := hc_vT.at hm_tv (by have q9 := tn_of hx_tv (by omega); omega); have k8 : (vT tn.toNatClampNeg).toInt = 21 := (by have q8 := congrArg Int32.toInt e9; rw [show ix_tv.toNatClampNeg = tn.toNatClampNeg from tn_same hx_tv rfl rfl] at q8; omega); rw [show z19.toNatClampNeg = tn.toNatClampNeg from by omega] at h7; omega)); rw [h8]; exact l9)⟩), by (try dsimp only); rw [ht]; exact ⟨hT, hF, m21⟩⟩, hS.F ht⟩) hS.2.2 dX4_readAll_47
    | succ n63 ih63 =>
      intro i13 hn63 hlo64 z14 z19 ⟨h15, h20, hj22, hj23⟩ H locs hT hF hS m16 m17 m18 m21 ls hl
      have hlt66 : i13 < 400 := by omega
      refine lv_iload_n hx hb dX4_readAll_8 rfl (lv_at hl 0 rfl) ?_
      refine lv_sipush (v := 400) hx hb dX4_readAll_9 (by decide) ?_
      refine lv_icmp_ge (tgt := 46) hx hb dX4_readAll_12 (by decide) (fun c67 => (by exfalso; have q9 : 400 ≤ ((i13 : Nat) : Int) := ti_le c67 (by decide) (nI_toInt (by omega)); omega)) (fun c67 => ?_)
      have t68 : ((i13 : Nat) : Int) < 400 := ti_nle c67 (by decide) (nI_toInt (by omega))
      refine lv_iload_n hx hb dX4_readAll_15 rfl (lv_at hl 1 rfl) ?_
      refine lv_if_eq (tgt := 46) hx hb dX4_readAll_16 (by decide) (fun c69 => ?_) (fun c69 => ?_)
      · have t70 : z14.toInt = 0 := ti_eq c69 rfl (by decide)
        refine lv_iload_n hx hb dX4_readAll_46 rfl (lv_at hl 1 rfl) ?_
        exact W.zret (v := z14) hx hb hr (nar_b (by have q8 := ti_all z14; omega)) (fun t ht hW => ⟨⟨z14, z19, rfl, (by exact ⟨(by have q8 := ti_all z19; omega), (by have q8 := ti_all z14; omega), (by omega), (by rcases hj23.1 with ⟨h8, l9⟩ | ⟨h8, l9⟩; (rw [h8]; exact lp_e l9 (fun h7 => by have := tn_of (show z19.toInt = z19.toInt from rfl) (by omega); have := tn_of (show tn.toInt = tn.toInt from rfl) (by omega); have k9 := hKK tn.toNatClampNeg (Nat.le_refl _); have e9 := hc_vT.at hm_tv (by have q9 := tn_of hx_tv (by omega); omega); have k8 : (vT tn.toNatClampNeg).toInt = 21 := (by have q8 := congrArg Int32.toInt e9; rw [show ix_tv.toNatClampNeg = tn.toNatClampNeg from tn_same hx_tv rfl rfl] at q8; omega); rw [show z19.toNatClampNeg = tn.toNatClampNeg from by omega] at h7; omega)); rw [h8]; exact l9)⟩), by (try dsimp only); rw [ht]; exact ⟨hT, hF, m21⟩⟩, hS.F ht⟩) hS.2.2 dX4_readAll_47
      · have t71 : z14.toInt ≠ 0 := ti_ne c69 rfl (by decide)
        refine lv_aload_n hx hb dX4_readAll_19 rfl (lv_at hl 2 rfl) ?_
        refine lv_bipush (v := 14) hx hb dX4_readAll_20 (by decide) ?_
        have hFc := gA_free hG hA hS
        refine va_calli (va_runV (As := [.int 14]) (rest := []) ⟨hx, hb, hml, hown, hts⟩ (c_take l dC dI kA adK adV G H nC nS o0 14 th z19 vT tv ix_tv ix_tv K X pS hT hr_o0 m17 hr_th m21 (by have q8 := ti_all ix_tv; omega) (by have q8 := ti_all z19; omega) (by have := (show z19.toInt = z19.toInt from rfl); have := (show ix_tv.toInt = ix_tv.toInt from rfl); omega) (by have := (show (14 : Int32).toInt = 14 from (by decide)); omega) (fun m hm => hKK m (Nat.le_trans hm (Nat.le_of_eq (tn_same hx_tv rfl rfl)))) (fun m hm => hXX m (Nat.lt_of_lt_of_eq hm (tn_same hx_tv rfl rfl))) m16 (by have q9 := (show ix_tv.toInt = ix_tv.toInt from rfl); have := (show ix_tv.toInt = ix_tv.toInt from rfl); omega) m18 (by have q8 := ti_all tv; omega) (by omega) (by omega)) (cwV 1 hts (goodIn_app (goodIn_r _ [20, 21, 22, 15] rfl (by decide +kernel)) (goodIn_ca (goodIn_r _ [19, 2, 3] rfl (by decide +kernel)) (bs2_in _ _))) rfl rfl rfl (by decide +kernel) ⟨(Nat.le_of_ble_eq_true rfl), (Nat.le_of_ble_eq_true rfl)⟩) ⟨fun a U g mk q => by obtain ⟨q0, q1, qK, qE⟩ := q; exact ⟨q0, q1, va_K.moved (u := U) (U := U.calling g mk a) (Vm.Alike.refl U.vm) qK, EVC.blind g mk a qE⟩, gH_rc hK hT hr_o0 shc_7 rfl, fun U hU hW => ⟨rfl, hU, va_K.moved hW.alike hK, hE.call hS hFc hU hW⟩⟩ rfl rfl hl.1 rfl (lv_room (Nat.le_of_ble_eq_true rfl)) dX4_readAll_22 ⟨(Nat.le_of_ble_eq_true rfl), (Nat.le_of_ble_eq_true rfl)⟩) hS (fun q _ h => hFc q h) hFc (fun r72 u t H locs ht hvm hw73 hB _ _ hS => ?_)
        obtain ⟨u74, rfl⟩ : ∃ z, z = u := ⟨_, rfl⟩
        obtain ⟨hT, hF1, m75⟩ := hB
        rw [ht] at hT hF1 m75
        have m76 := m16.kept (hF1.arr hr_th skc_40 (by decide))
        have m77 := (hF1.fld hr_o0 skc_7 (k := 0) (by decide) (by decide)).trans m17
        have m78 := (el_kept (hF1.arr hr_th skc_40 (by decide))).trans m18
        have hF := hF.more hF1 (by decide)
        try dsimp only at hw73
        obtain ⟨h80, h81, hf82, hf83, hf84⟩ := hw73
        refine lv_if_eq (tgt := 46) hx hb dX4_readAll_25 (by decide) (fun c85 => ?_) (fun c85 => ?_)
        · have t86 : r72.toInt = 0 := ti_eq c85 rfl (by decide)
          refine lv_iload_n hx hb dX4_readAll_46 rfl (lv_at hl 1 rfl) ?_
          exact W.zret (v := z14) hx hb hr (nar_b (by have q8 := ti_all z14; omega)) (fun t ht hW => ⟨⟨z14, u74, rfl, (by exact ⟨(by have q8 := ti_all u74; omega), (by have q8 := ti_all z14; omega), (by omega), (by have l9 := (hj23.1.resolve_right (fun h8 => by have := h8.1; omega)).2; have a9 := hf83.resolve_left (fun h8 => by have := h8.2.1; omega); rw [show z14.toInt = 1 from by omega, a9.2.2]; exact lp_e l9 (fun h7 => a9.1 (h7.trans (by decide))))⟩), by (try dsimp only); rw [ht]; exact ⟨hT, hF, m75⟩⟩, hS.F ht⟩) hS.2.2 dX4_readAll_47
        · have t87 : r72.toInt ≠ 0 := ti_ne c85 rfl (by decide)
          refine lv_aload_n hx hb dX4_readAll_28 rfl (lv_at hl 2 rfl) ?_
          refine lv_iload_n hx hb dX4_readAll_29 rfl (lv_at hl 3 rfl) ?_
          have hFc := gA_free hG hA hS
          refine va_calli (va_runV (As := [.int 3]) (rest := []) ⟨hx, hb, hml, hown, hts⟩ (c_readAtom3 l dC dI kA adK adV G H nC nS o0 th u74 vT tv ix_tv ix_tv K X pS hT hr_o0 m77 hr_th m75 (by have q8 := ti_all ix_tv; omega) (by have q8 := ti_all u74; omega) (by have := (show u74.toInt = u74.toInt from rfl); have := (show ix_tv.toInt = ix_tv.toInt from rfl); omega) (fun m hm => hKK m (Nat.le_trans hm (Nat.le_of_eq (tn_same hx_tv rfl rfl)))) (fun m hm => hXX m (Nat.lt_of_lt_of_eq hm (tn_same hx_tv rfl rfl))) m76 (by have q9 := (show ix_tv.toInt = ix_tv.toInt from rfl); have := (show ix_tv.toInt = ix_tv.toInt from rfl); omega) m78 (by have q8 := ti_all tv; omega) (by omega) (by omega)) (cwV 1 hts (goodIn_app (goodIn_r _ [29, 30, 31, 15] rfl (by decide +kernel)) (goodIn_ca (goodIn_r _ [1, 2, 3, 4, 5, 1, 6, 7, 8, 9, 10, 11, 12, 13, 14, 15, 16, 17, 18, 19, 20, 21, 22, 23, 24, 25, 26, 27, 28, 29, 30, 31, 32, 33, 34, 35, 36, 37] rfl (by decide +kernel)) (bs2_in _ _))) rfl rfl rfl (by decide +kernel) ⟨(Nat.le_of_ble_eq_true rfl), (Nat.le_of_ble_eq_true rfl)⟩) ⟨fun a U g mk q => by obtain ⟨q0, q1, qK, qE⟩ := q; exact ⟨q0, q1, va_K.moved (u := U) (U := U.calling g mk a) (Vm.Alike.refl U.vm) qK, EVC.blind g mk a qE⟩, gH_rc hK hT hr_o0 shc_7 rfl, fun U hU hW => ⟨rfl, hU, va_K.moved hW.alike hK, hE.call hS hFc hU hW⟩⟩ rfl rfl hl.1 rfl (lv_room (Nat.le_of_ble_eq_true rfl)) dX4_readAll_30 ⟨(Nat.le_of_ble_eq_true rfl), (Nat.le_of_ble_eq_true rfl)⟩) hS (fun q _ h => hFc q h) hFc (fun r88 u t H locs ht hvm hw89 hB _ _ hS => ?_)
          obtain ⟨u90, rfl⟩ : ∃ z, z = u := ⟨_, rfl⟩
          obtain ⟨hT, hF1, m91⟩ := hB
          rw [ht] at hT hF1 m91
          have m92 := m76.kept (hF1.arr hr_th skc_40 (by decide))
          have m93 := (hF1.fld hr_o0 skc_7 (k := 0) (by decide) (by decide)).trans m77
          have m94 := (el_kept (hF1.arr hr_th skc_40 (by decide))).trans m78
          have hF := hF.more hF1 (by decide)
          try dsimp only at hw89
          obtain ⟨h96, h97, hf98, hf99⟩ := hw89
          refine lv_istore_n (lv' := [(2, .int r88), (3, .int (nI i13)), (0, .ref o0), (1, .int 3)]) hx hb dX4_readAll_33 rfl hl (by decide) rfl (fun ls hl => ?_)
          refine lv_aload_n hx hb dX4_readAll_34 rfl (lv_at hl 2 rfl) ?_
          refine lv_bipush (v := 14) hx hb dX4_readAll_35 (by decide) ?_
          have hFc := gA_free hG hA hS
          refine va_callv (va_runV (As := [.int 14]) (rest := []) ⟨hx, hb, hml, hown, hts⟩ (c_addStep l dC dI kA adK adV G H nC nS o0 14 hT hr_o0 (rg_t (a := 14) (by decide) (by first | decide | omega) (by first | decide | omega)) (by omega) (by omega)) (cwV 1 hts (goodIn_app (goodIn_r _ [12, 13, 14, 15] rfl (by decide +kernel)) (goodIn_ca (goodIn_r _ [9, 10, 11] rfl (by decide +kernel)) (bs2_in _ _))) rfl rfl rfl (by decide +kernel) ⟨(Nat.le_of_ble_eq_true rfl), (Nat.le_of_ble_eq_true rfl)⟩) ⟨fun a U g mk q => by obtain ⟨q0, q1, qK, qE⟩ := q; exact ⟨q0, q1, va_K.moved (u := U) (U := U.calling g mk a) (Vm.Alike.refl U.vm) qK, EVC.blind g mk a qE⟩, gH_rc hK hT hr_o0 shc_7 rfl, fun U hU hW => ⟨rfl, hU, va_K.moved hW.alike hK, hE.call hS hFc hU hW⟩⟩ rfl rfl hl.1 rfl (lv_room (Nat.le_of_ble_eq_true rfl)) dX4_readAll_37 ⟨(Nat.le_of_ble_eq_true rfl), (Nat.le_of_ble_eq_true rfl)⟩) hS (fun q _ h => hFc q h) hFc (fun u t H locs ht hvm hw101 hB _ _ hS => ?_)
          obtain ⟨hT, hF1⟩ := hB
          rw [ht] at hT hF1
          have m102 := m92.kept (hF1.arr hr_th skc_40 (by decide))
          have m103 := (hF1.fld hr_o0 skc_7 (k := 0) (by decide) (by decide)).trans m93
          have m104 := (el_kept (hF1.arr hr_th skc_40 (by decide))).trans m94
          have m105 := (hF1.fld hr_o0 skc_7 (k := 13) (by decide) (by decide)).trans m91
          have hF := hF.more hF1 (by decide)
          try dsimp only at hw101
          refine lv_iinc (v := nI (i13 + 1)) (lv' := [(3, .int (nI (i13 + 1))), (2, .int r88), (0, .ref o0), (1, .int 3)]) hx hb dX4_readAll_40 hl (k := 1) rfl (nI_add i13 1) (by decide) rfl (fun ls hl => ?_)
          refine lv_goto (tgt := 8) hx hb dX4_readAll_43 (by decide) ?_
          exact ih63 (i13 + 1) (by omega) (by omega) r88 u90 ⟨(by have q8 := ti_all r88; omega), (by have q8 := ti_all u90; omega), (by have := hx_tv; have := (show u90.toInt = u90.toInt from rfl); omega), ⟨(by have l9 := (hj23.1.resolve_right (fun h8 => by have := h8.1; omega)).2; have a9 := hf83.resolve_right (fun h8 => by have := h8.2.1; omega); have h9 := hf99; rw [a9.2.2] at h9; rcases (show r88.toInt = 1 ∨ r88.toInt = 0 by omega) with h8 | h8 <;> rw [h8] at h9; (exact Or.inl ⟨h8, lp_s l9 (a9.1.trans (by decide)) h9⟩); exact Or.inr ⟨h8, lp_f l9 (a9.1.trans (by decide)) h9⟩), by omega⟩⟩ _ _ hT hF hS m102 m103 m104 m105 ls (lv_sub hl [0, 1, 2, 3] rfl)
  exact key63 (400 - 0) 0 (by omega) (Nat.le_refl _) r1 u3 ⟨(by have q8 := ti_all r1; omega), (by have q8 := ti_all u3; omega), (by have := hx_tv; have := (show u3.toInt = u3.toInt from rfl); omega), ⟨(by have h9 := hf12; rcases (show r1.toInt = 1 ∨ r1.toInt = 0 by omega) with h8 | h8 <;> rw [h8] at h9; (exact Or.inl ⟨h8, lp_1 h9⟩); exact Or.inr ⟨h8, lp_0 h9⟩), by omega⟩⟩ _ _ hT hF hS m7 m5 m8 m4 ls (lv_sub hl [0, 1, 2, 3] rfl)
def w_c_readAny3 : List Cond := .code yX4_readAny cX4_readAny 4 (some .boolean) :: (HAppend.hAppend (α := List Cond) (β := List Cond) (γ := List Cond) [.code yX4_readAll cX4_readAll 4 (some .boolean), .code yX4_readAtom cX4_readAtom 4 (some .boolean), .fieldLink RX4 11 "SeaLand$Law" "things" "[I", .fieldLink RX4 56 "SeaLand$Law" "at" "I", .code yX4_readAny cX4_readAny 4 (some .boolean), .code yX4_readComparison cX4_readComparison 3 (some .boolean), .code yX4_readSum cX4_readSum 3 (some .boolean), .code yX4_readPart cX4_readPart 2 (some .boolean), .code yX4_addStep cX4_addStep 2 none, .fieldLink RX4 63 "SeaLand$Law" "stepped" "I", .fieldLink RX4 39 "SeaLand$Law" "steps" "[I", .methodLink RX4 179 yX4_addStep, .instanceMethod yX4_addStep, .selects RX4 yX4_addStep yX4_addStep, .initialized RX4, .methodLink RX4 192 yX4_readPart, .instanceMethod yX4_readPart, .selects RX4 yX4_readPart yX4_readPart, .code yX4_take cX4_take 2 (some .boolean), .methodLink RX4 70 yX4_take, .instanceMethod yX4_take, .selects RX4 yX4_take yX4_take, .methodLink RX4 189 yX4_readSum, .instanceMethod yX4_readSum, .selects RX4 yX4_readSum yX4_readSum, .methodLink RX4 186 yX4_readComparison, .instanceMethod yX4_readComparison, .selects RX4 yX4_readComparison yX4_readComparison, .methodLink RX4 183 yX4_readAtom, .instanceMethod yX4_readAtom, .selects RX4 yX4_readAtom yX4_readAtom, .methodLink RX4 176 yX4_readAll, .instanceMethod yX4_readAll, .selects RX4 yX4_readAll yX4_readAll, .methodLink RX4 173 yX4_readAny, .instanceMethod yX4_readAny, .selects RX4 yX4_readAny yX4_readAny] bs2)
set_option maxHeartbeats 4000000 in
set_option maxRecDepth 100000 in
theorem c_readAny3 (l : Launch) (dC : Nat → ClassId) (dI : Nat → Nat → Nat) (kA : Nat → ClassId) (adK adV : Nat → Nat) (G : gT) (H0 : Heap) (nC nS : Int) (o0 : Nat) (th : Nat) (a0 : Int32) (vT : Nat → Int32) (tv ix_tv : Int32) (tn : Int32) (K : Nat → Int) (X pS : Nat → Nat) (hT : gH (dC, dI) kA (SHc nC nS) G H0) (hr_o0 : G o0 = some 7) (hm_th : el H0 o0 (dI 7 0) = some (.ref th)) (hr_th : G th = some 40) (hm_a0 : el H0 o0 (dI 7 13) = some (.int a0)) (hq0 : 0 ≤ tn.toInt ∧ tn.toInt ≤ 400) (hq1 : 0 ≤ a0.toInt ∧ a0.toInt ≤ 400) (hat : a0.toInt ≤ tn.toInt) (hKK : ∀ m : Nat, m ≤ tn.toNatClampNeg → (vT m).toInt = K (pS m)) (hXX : ∀ m : Nat, m < tn.toNatClampNeg → pS (m + 1) = X (pS m)) (hc_vT : ct H0 th 401 vT) (hx_tv : ix_tv.toInt = tn.toInt) (hm_tv : el H0 th ix_tv.toNatClampNeg = some (.int tv)) (hv_tv : 21 ≤ tv.toInt ∧ tv.toInt ≤ 21) (hgC : 0 ≤ nC ∧ nC ≤ 40) (hgS : 0 ≤ nS ∧ nS ≤ 60) : Met l yX4_readAny w_c_readAny3 ({ frames := 15, cells := 0, slots := 0, locals := 339 }) (va_Pc [.ref o0, .int 3] (fun U => U.heap = H0 ∧ va_K (dC, dI) vwCl (tyl kA) U ∧ EVC adK adV (gA G H0.size) U U.heap)) (va_Qi (fun (r : Int32) (u : Int32) => (0 ≤ u.toInt ∧ u.toInt ≤ 400) ∧ (0 ≤ r.toInt ∧ r.toInt ≤ 1) ∧ (a0.toInt ≤ u.toInt ∧ u.toInt ≤ tn.toInt) ∧ (coR K X (aR K X 3) (pS a0.toNatClampNeg) r.toInt (pS u.toNatClampNeg))) (fun (a1 : Int32) (t : State) => gH (dC, dI) kA (SHc nC nS) G t.heap ∧ gF (dC, dI) SKc G ([(7, 12), (7, 13), (49, 0)] : List (Nat × Nat)) H0 t.heap ∧ el t.heap o0 (dI 7 13) = some (.int a1)) (gA G H0.size)) 0 0 (gA G H0.size) := by
  refine Met.ofW (cc := cX4_readAny) (maxL := 4) (ret := (some .boolean)) (by decide) rfl ?_
  intro p e s m args below meth c s₁ B hml hv
  obtain ⟨rfl, hH0, hK, hE⟩ := hv
  have hx := B.exec
  have hb := B.bytes
  have hr := B.returns
  have hts := atoms_spec (ws := w_c_readAny3) B.pre
  have hown : s.vm.findClass RX4 = some m.cls := findClass_of_methodNamed B.named
  have hlocks := B.notSynchronized
  subst hH0
  generalize hAe : gA G s.heap.size = A at hE ⊢
  have hA : ∀ q : Nat, s.heap.size ≤ q → A q := fun q h => by rw [← hAe]; exact Or.inr h
  have hG := gA_of hAe
  have hS : va_S A s.heap s.heap [] := va_S.rf
  have hF : gF (dC, dI) SKc G ([(7, 12), (7, 13), (49, 0)] : List (Nat × Nat)) s.heap s.heap := gF.rf
  have hl := lv_entry ([.ref o0, .int 3]) (n := 4) (Nat.le_of_ble_eq_true rfl)
  rw [lg_entry_eq]
  generalize (lg_sl ([.ref o0, .int 3]) ++ List.replicate (4 - (lg_sl ([.ref o0, .int 3])).length) Slot.unset).toArray = ls at hl ⊢
  have hl : lv_has ls 4 [(0, .ref o0), (1, .int 3)] := hl
  refine lv_aload_n hx hb dX4_readAny_0 rfl (lv_at hl 0 rfl) ?_
  refine lv_iload_n hx hb dX4_readAny_1 rfl (lv_at hl 1 rfl) ?_
  have hFc := gA_free hG hA hS
  refine va_calli (va_runV (As := [.int 3]) (rest := []) ⟨hx, hb, hml, hown, hts⟩ (c_readAll3 l dC dI kA adK adV G s.heap nC nS o0 th a0 vT tv ix_tv ix_tv K X pS hT hr_o0 hm_th hr_th hm_a0 (by have q8 := ti_all ix_tv; omega) (by have q8 := ti_all a0; omega) (by have := (show a0.toInt = a0.toInt from rfl); have := (show ix_tv.toInt = ix_tv.toInt from rfl); omega) (fun m hm => hKK m (Nat.le_trans hm (Nat.le_of_eq (tn_same hx_tv rfl rfl)))) (fun m hm => hXX m (Nat.lt_of_lt_of_eq hm (tn_same hx_tv rfl rfl))) hc_vT (by have q9 := (show ix_tv.toInt = ix_tv.toInt from rfl); have := (show ix_tv.toInt = ix_tv.toInt from rfl); omega) hm_tv (by have q8 := ti_all tv; omega) (by omega) (by omega)) (cwV 1 hts (goodIn_app (goodIn_r _ [32, 33, 34, 15] rfl (by decide +kernel)) (goodIn_ca (goodIn_r _ [1, 2, 3, 4, 5, 1, 6, 7, 8, 9, 10, 11, 12, 13, 14, 15, 16, 17, 18, 19, 20, 21, 22, 23, 24, 25, 26, 27, 28, 29, 30, 31, 32, 33, 34, 35, 36, 37] rfl (by decide +kernel)) (bs2_in _ _))) rfl rfl rfl (by decide +kernel) ⟨(Nat.le_of_ble_eq_true rfl), (Nat.le_of_ble_eq_true rfl)⟩) ⟨fun a U g mk q => by obtain ⟨q0, q1, qK, qE⟩ := q; exact ⟨q0, q1, va_K.moved (u := U) (U := U.calling g mk a) (Vm.Alike.refl U.vm) qK, EVC.blind g mk a qE⟩, gH_rc hK hT hr_o0 shc_7 rfl, fun U hU hW => ⟨rfl, hU, va_K.moved hW.alike hK, hE.call hS hFc hU hW⟩⟩ rfl rfl hl.1 rfl (lv_room (Nat.le_of_ble_eq_true rfl)) dX4_readAny_2 ⟨(Nat.le_of_ble_eq_true rfl), (Nat.le_of_ble_eq_true rfl)⟩) hS (fun q _ h => hFc q h) hFc (fun r1 u t H locs ht hvm hw2 hB _ _ hS => ?_)
  obtain ⟨u3, rfl⟩ : ∃ z, z = u := ⟨_, rfl⟩
  obtain ⟨hT, hF1, m4⟩ := hB
  rw [ht] at hT hF1 m4
  have m5 := (hF1.fld hr_o0 skc_7 (k := 0) (by decide) (by decide)).trans hm_th
  have m7 := hc_vT.kept (hF1.arr hr_th skc_40 (by decide))
  have m8 := (el_kept (hF1.arr hr_th skc_40 (by decide))).trans hm_tv
  have hF := hF.more hF1 (by decide)
  try dsimp only at hw2
  obtain ⟨h9, h10, hf11, hf12⟩ := hw2
  refine lv_istore_n (lv' := [(2, .int r1), (0, .ref o0), (1, .int 3)]) hx hb dX4_readAny_5 rfl hl (by decide) rfl (fun ls hl => ?_)
  refine lv_iconst (v := 0) hx hb dX4_readAny_6 (by decide) ?_
  refine lv_istore_n (lv' := [(3, .int 0), (2, .int r1), (0, .ref o0), (1, .int 3)]) hx hb dX4_readAny_7 rfl hl (by decide) rfl (fun ls hl => ?_)
  have key63 : ∀ (n63 i13 : Nat), i13 + n63 = 400 → 0 ≤ i13 → ∀ (z14 : Int32), ∀ (z19 : Int32), ((0 ≤ z14.toInt ∧ z14.toInt ≤ 1) ∧ (0 ≤ z19.toInt ∧ z19.toInt ≤ 400) ∧ (a0.toInt ≤ z19.toInt ∧ z19.toInt ≤ tn.toInt) ∧ (((z14.toInt = 1 ∧ ∀ (r : Int) (f : Nat), lpQ K X (lpR K X (aR K X 3) 14) 15 (pS z19.toNatClampNeg) r f → coR K X (aR K X 3) (pS a0.toNatClampNeg) r f) ∨ (z14.toInt = 0 ∧ coR K X (aR K X 3) (pS a0.toNatClampNeg) 0 (pS z19.toNatClampNeg))) ∧ ((i13 : Nat) : Int) ≤ z19.toInt)) → ∀ (H : Heap) (locs : List Loc), gH (dC, dI) kA (SHc nC nS) G H → gF (dC, dI) SKc G ([(7, 12), (7, 13), (49, 0)] : List (Nat × Nat)) s.heap H → va_S A s.heap H locs → ct H th 401 vT → el H o0 (dI 7 0) = some (.ref th) → el H th ix_tv.toNatClampNeg = some (.int tv) → el H o0 (dI 7 13) = some (.int z19) → ∀ ls : Array Slot, lv_has ls 4 [(3, .int (nI i13)), (2, .int z14), (0, .ref o0), (1, .int 3)] → W p l e (headSpec w_c_readAny3 ({ frames := 15, cells := 0, slots := 0, locals := 339 })).room s m #[.ref o0, .int 3] below meth c H locs 0 0 (MQ below (va_Qi (fun (r : Int32) (u : Int32) => (0 ≤ u.toInt ∧ u.toInt ≤ 400) ∧ (0 ≤ r.toInt ∧ r.toInt ≤ 1) ∧ (a0.toInt ≤ u.toInt ∧ u.toInt ≤ tn.toInt) ∧ (coR K X (aR K X 3) (pS a0.toNatClampNeg) r.toInt (pS u.toNatClampNeg))) (fun (a1 : Int32) (t : State) => gH (dC, dI) kA (SHc nC nS) G t.heap ∧ gF (dC, dI) SKc G ([(7, 12), (7, 13), (49, 0)] : List (Nat × Nat)) s.heap t.heap ∧ el t.heap o0 (dI 7 13) = some (.int a1)) A) #[.ref o0, .int 3] s 0 0 A) (F0 m 8 ls []) := by
    intro n63
    induction n63 with
    | zero =>
      intro i13 hn63 hlo64 z14 z19 ⟨h15, h20, hj22, hj23⟩ H locs hT hF hS m16 m17 m18 m21 ls hl
      obtain rfl : 400 = i13 := by omega
      refine lv_iload_n hx hb dX4_readAny_8 rfl (lv_at hl 0 rfl) ?_
      refine lv_sipush (v := 400) hx hb dX4_readAny_9 (by decide) ?_
      refine lv_icmp_ge (tgt := 46) hx hb dX4_readAny_12 (by decide) (fun c65 => ?_) (fun c65 => (by exfalso; have q9 : ((400 : Nat) : Int) < 400 := ti_nle c65 (by decide) (nI_toInt (by omega)); omega))
      have t66 : 400 ≤ ((400 : Nat) : Int) := ti_le c65 (by decide) (nI_toInt (by omega))
      refine lv_iload_n hx hb dX4_readAny_46 rfl (lv_at hl 1 rfl) ?_
      exact W.zret (v := z14) hx hb hr (nar_b (by have q8 := ti_all z14; omega)) (fun t ht hW => ⟨⟨z14, z19, rfl, (by exact ⟨(by have q8 := ti_all z19; omega), (by have q8 := ti_all z14; omega), (by omega), (by rcases hj23.1 with ⟨h8, l9⟩ | ⟨h8, l9⟩; (rw [h8]; exact lp_e l9 (fun h7 => by have := tn_of (show z19.toInt = z19.toInt from rfl) (by omega); have := tn_of (show tn.toInt = tn.toInt from rfl) (by omega); have k9 := hKK tn.toNatClampNeg (Nat.le_refl _); have e9 := hc_vT.at hm_tv (by have q9 := tn_of hx_tv (by omega); omega); have k8 : (vT tn.toNatClampNeg).toInt = 21 := (by have q8 := congrArg Int32.toInt e9; rw [show ix_tv.toNatClampNeg = tn.toNatClampNeg from tn_same hx_tv rfl rfl] at q8; omega); rw [show z19.toNatClampNeg = tn.toNatClampNeg from by omega] at h7; omega)); rw [h8]; exact l9)⟩), by (try dsimp only); rw [ht]; exact ⟨hT, hF, m21⟩⟩, hS.F ht⟩) hS.2.2 dX4_readAny_47
    | succ n63 ih63 =>
      intro i13 hn63 hlo64 z14 z19 ⟨h15, h20, hj22, hj23⟩ H locs hT hF hS m16 m17 m18 m21 ls hl
      have hlt66 : i13 < 400 := by omega
      refine lv_iload_n hx hb dX4_readAny_8 rfl (lv_at hl 0 rfl) ?_
      refine lv_sipush (v := 400) hx hb dX4_readAny_9 (by decide) ?_
      refine lv_icmp_ge (tgt := 46) hx hb dX4_readAny_12 (by decide) (fun c67 => (by exfalso; have q9 : 400 ≤ ((i13 : Nat) : Int) := ti_le c67 (by decide) (nI_toInt (by omega)); omega)) (fun c67 => ?_)
      have t68 : ((i13 : Nat) : Int) < 400 := ti_nle c67 (by decide) (nI_toInt (by omega))
      refine lv_iload_n hx hb dX4_readAny_15 rfl (lv_at hl 1 rfl) ?_
      refine lv_if_eq (tgt := 46) hx hb dX4_readAny_16 (by decide) (fun c69 => ?_) (fun c69 => ?_)
      · have t70 : z14.toInt = 0 := ti_eq c69 rfl (by decide)
        refine lv_iload_n hx hb dX4_readAny_46 rfl (lv_at hl 1 rfl) ?_
        exact W.zret (v := z14) hx hb hr (nar_b (by have q8 := ti_all z14; omega)) (fun t ht hW => ⟨⟨z14, z19, rfl, (by exact ⟨(by have q8 := ti_all z19; omega), (by have q8 := ti_all z14; omega), (by omega), (by rcases hj23.1 with ⟨h8, l9⟩ | ⟨h8, l9⟩; (rw [h8]; exact lp_e l9 (fun h7 => by have := tn_of (show z19.toInt = z19.toInt from rfl) (by omega); have := tn_of (show tn.toInt = tn.toInt from rfl) (by omega); have k9 := hKK tn.toNatClampNeg (Nat.le_refl _); have e9 := hc_vT.at hm_tv (by have q9 := tn_of hx_tv (by omega); omega); have k8 : (vT tn.toNatClampNeg).toInt = 21 := (by have q8 := congrArg Int32.toInt e9; rw [show ix_tv.toNatClampNeg = tn.toNatClampNeg from tn_same hx_tv rfl rfl] at q8; omega); rw [show z19.toNatClampNeg = tn.toNatClampNeg from by omega] at h7; omega)); rw [h8]; exact l9)⟩), by (try dsimp only); rw [ht]; exact ⟨hT, hF, m21⟩⟩, hS.F ht⟩) hS.2.2 dX4_readAny_47
      · have t71 : z14.toInt ≠ 0 := ti_ne c69 rfl (by decide)
        refine lv_aload_n hx hb dX4_readAny_19 rfl (lv_at hl 2 rfl) ?_
        refine lv_bipush (v := 15) hx hb dX4_readAny_20 (by decide) ?_
        have hFc := gA_free hG hA hS
        refine va_calli (va_runV (As := [.int 15]) (rest := []) ⟨hx, hb, hml, hown, hts⟩ (c_take l dC dI kA adK adV G H nC nS o0 15 th z19 vT tv ix_tv ix_tv K X pS hT hr_o0 m17 hr_th m21 (by have q8 := ti_all ix_tv; omega) (by have q8 := ti_all z19; omega) (by have := (show z19.toInt = z19.toInt from rfl); have := (show ix_tv.toInt = ix_tv.toInt from rfl); omega) (by have := (show (15 : Int32).toInt = 15 from (by decide)); omega) (fun m hm => hKK m (Nat.le_trans hm (Nat.le_of_eq (tn_same hx_tv rfl rfl)))) (fun m hm => hXX m (Nat.lt_of_lt_of_eq hm (tn_same hx_tv rfl rfl))) m16 (by have q9 := (show ix_tv.toInt = ix_tv.toInt from rfl); have := (show ix_tv.toInt = ix_tv.toInt from rfl); omega) m18 (by have q8 := ti_all tv; omega) (by omega) (by omega)) (cwV 1 hts (goodIn_app (goodIn_r _ [20, 21, 22, 15] rfl (by decide +kernel)) (goodIn_ca (goodIn_r _ [19, 3, 4] rfl (by decide +kernel)) (bs2_in _ _))) rfl rfl rfl (by decide +kernel) ⟨(Nat.le_of_ble_eq_true rfl), (Nat.le_of_ble_eq_true rfl)⟩) ⟨fun a U g mk q => by obtain ⟨q0, q1, qK, qE⟩ := q; exact ⟨q0, q1, va_K.moved (u := U) (U := U.calling g mk a) (Vm.Alike.refl U.vm) qK, EVC.blind g mk a qE⟩, gH_rc hK hT hr_o0 shc_7 rfl, fun U hU hW => ⟨rfl, hU, va_K.moved hW.alike hK, hE.call hS hFc hU hW⟩⟩ rfl rfl hl.1 rfl (lv_room (Nat.le_of_ble_eq_true rfl)) dX4_readAny_22 ⟨(Nat.le_of_ble_eq_true rfl), (Nat.le_of_ble_eq_true rfl)⟩) hS (fun q _ h => hFc q h) hFc (fun r72 u t H locs ht hvm hw73 hB _ _ hS => ?_)
        obtain ⟨u74, rfl⟩ : ∃ z, z = u := ⟨_, rfl⟩
        obtain ⟨hT, hF1, m75⟩ := hB
        rw [ht] at hT hF1 m75
        have m76 := m16.kept (hF1.arr hr_th skc_40 (by decide))
        have m77 := (hF1.fld hr_o0 skc_7 (k := 0) (by decide) (by decide)).trans m17
        have m78 := (el_kept (hF1.arr hr_th skc_40 (by decide))).trans m18
        have hF := hF.more hF1 (by decide)
        try dsimp only at hw73
        obtain ⟨h80, h81, hf82, hf83, hf84⟩ := hw73
        refine lv_if_eq (tgt := 46) hx hb dX4_readAny_25 (by decide) (fun c85 => ?_) (fun c85 => ?_)
        · have t86 : r72.toInt = 0 := ti_eq c85 rfl (by decide)
          refine lv_iload_n hx hb dX4_readAny_46 rfl (lv_at hl 1 rfl) ?_
          exact W.zret (v := z14) hx hb hr (nar_b (by have q8 := ti_all z14; omega)) (fun t ht hW => ⟨⟨z14, u74, rfl, (by exact ⟨(by have q8 := ti_all u74; omega), (by have q8 := ti_all z14; omega), (by omega), (by have l9 := (hj23.1.resolve_right (fun h8 => by have := h8.1; omega)).2; have a9 := hf83.resolve_left (fun h8 => by have := h8.2.1; omega); rw [show z14.toInt = 1 from by omega, a9.2.2]; exact lp_e l9 (fun h7 => a9.1 (h7.trans (by decide))))⟩), by (try dsimp only); rw [ht]; exact ⟨hT, hF, m75⟩⟩, hS.F ht⟩) hS.2.2 dX4_readAny_47
        · have t87 : r72.toInt ≠ 0 := ti_ne c85 rfl (by decide)
          refine lv_aload_n hx hb dX4_readAny_28 rfl (lv_at hl 2 rfl) ?_
          refine lv_iload_n hx hb dX4_readAny_29 rfl (lv_at hl 3 rfl) ?_
          have hFc := gA_free hG hA hS
          refine va_calli (va_runV (As := [.int 3]) (rest := []) ⟨hx, hb, hml, hown, hts⟩ (c_readAll3 l dC dI kA adK adV G H nC nS o0 th u74 vT tv ix_tv ix_tv K X pS hT hr_o0 m77 hr_th m75 (by have q8 := ti_all ix_tv; omega) (by have q8 := ti_all u74; omega) (by have := (show u74.toInt = u74.toInt from rfl); have := (show ix_tv.toInt = ix_tv.toInt from rfl); omega) (fun m hm => hKK m (Nat.le_trans hm (Nat.le_of_eq (tn_same hx_tv rfl rfl)))) (fun m hm => hXX m (Nat.lt_of_lt_of_eq hm (tn_same hx_tv rfl rfl))) m76 (by have q9 := (show ix_tv.toInt = ix_tv.toInt from rfl); have := (show ix_tv.toInt = ix_tv.toInt from rfl); omega) m78 (by have q8 := ti_all tv; omega) (by omega) (by omega)) (cwV 1 hts (goodIn_app (goodIn_r _ [32, 33, 34, 15] rfl (by decide +kernel)) (goodIn_ca (goodIn_r _ [1, 2, 3, 4, 5, 1, 6, 7, 8, 9, 10, 11, 12, 13, 14, 15, 16, 17, 18, 19, 20, 21, 22, 23, 24, 25, 26, 27, 28, 29, 30, 31, 32, 33, 34, 35, 36, 37] rfl (by decide +kernel)) (bs2_in _ _))) rfl rfl rfl (by decide +kernel) ⟨(Nat.le_of_ble_eq_true rfl), (Nat.le_of_ble_eq_true rfl)⟩) ⟨fun a U g mk q => by obtain ⟨q0, q1, qK, qE⟩ := q; exact ⟨q0, q1, va_K.moved (u := U) (U := U.calling g mk a) (Vm.Alike.refl U.vm) qK, EVC.blind g mk a qE⟩, gH_rc hK hT hr_o0 shc_7 rfl, fun U hU hW => ⟨rfl, hU, va_K.moved hW.alike hK, hE.call hS hFc hU hW⟩⟩ rfl rfl hl.1 rfl (lv_room (Nat.le_of_ble_eq_true rfl)) dX4_readAny_30 ⟨(Nat.le_of_ble_eq_true rfl), (Nat.le_of_ble_eq_true rfl)⟩) hS (fun q _ h => hFc q h) hFc (fun r88 u t H locs ht hvm hw89 hB _ _ hS => ?_)
          obtain ⟨u90, rfl⟩ : ∃ z, z = u := ⟨_, rfl⟩
          obtain ⟨hT, hF1, m91⟩ := hB
          rw [ht] at hT hF1 m91
          have m92 := m76.kept (hF1.arr hr_th skc_40 (by decide))
          have m93 := (hF1.fld hr_o0 skc_7 (k := 0) (by decide) (by decide)).trans m77
          have m94 := (el_kept (hF1.arr hr_th skc_40 (by decide))).trans m78
          have hF := hF.more hF1 (by decide)
          try dsimp only at hw89
          obtain ⟨h96, h97, hf98, hf99⟩ := hw89
          refine lv_istore_n (lv' := [(2, .int r88), (3, .int (nI i13)), (0, .ref o0), (1, .int 3)]) hx hb dX4_readAny_33 rfl hl (by decide) rfl (fun ls hl => ?_)
          refine lv_aload_n hx hb dX4_readAny_34 rfl (lv_at hl 2 rfl) ?_
          refine lv_bipush (v := 15) hx hb dX4_readAny_35 (by decide) ?_
          have hFc := gA_free hG hA hS
          refine va_callv (va_runV (As := [.int 15]) (rest := []) ⟨hx, hb, hml, hown, hts⟩ (c_addStep l dC dI kA adK adV G H nC nS o0 15 hT hr_o0 (rg_t (a := 15) (by decide) (by first | decide | omega) (by first | decide | omega)) (by omega) (by omega)) (cwV 1 hts (goodIn_app (goodIn_r _ [12, 13, 14, 15] rfl (by decide +kernel)) (goodIn_ca (goodIn_r _ [9, 10, 11] rfl (by decide +kernel)) (bs2_in _ _))) rfl rfl rfl (by decide +kernel) ⟨(Nat.le_of_ble_eq_true rfl), (Nat.le_of_ble_eq_true rfl)⟩) ⟨fun a U g mk q => by obtain ⟨q0, q1, qK, qE⟩ := q; exact ⟨q0, q1, va_K.moved (u := U) (U := U.calling g mk a) (Vm.Alike.refl U.vm) qK, EVC.blind g mk a qE⟩, gH_rc hK hT hr_o0 shc_7 rfl, fun U hU hW => ⟨rfl, hU, va_K.moved hW.alike hK, hE.call hS hFc hU hW⟩⟩ rfl rfl hl.1 rfl (lv_room (Nat.le_of_ble_eq_true rfl)) dX4_readAny_37 ⟨(Nat.le_of_ble_eq_true rfl), (Nat.le_of_ble_eq_true rfl)⟩) hS (fun q _ h => hFc q h) hFc (fun u t H locs ht hvm hw101 hB _ _ hS => ?_)
          obtain ⟨hT, hF1⟩ := hB
          rw [ht] at hT hF1
          have m102 := m92.kept (hF1.arr hr_th skc_40 (by decide))
          have m103 := (hF1.fld hr_o0 skc_7 (k := 0) (by decide) (by decide)).trans m93
          have m104 := (el_kept (hF1.arr hr_th skc_40 (by decide))).trans m94
          have m105 := (hF1.fld hr_o0 skc_7 (k := 13) (by decide) (by decide)).trans m91
          have hF := hF.more hF1 (by decide)
          try dsimp only at hw101
          refine lv_iinc (v := nI (i13 + 1)) (lv' := [(3, .int (nI (i13 + 1))), (2, .int r88), (0, .ref o0), (1, .int 3)]) hx hb dX4_readAny_40 hl (k := 1) rfl (nI_add i13 1) (by decide) rfl (fun ls hl => ?_)
          refine lv_goto (tgt := 8) hx hb dX4_readAny_43 (by decide) ?_
          exact ih63 (i13 + 1) (by omega) (by omega) r88 u90 ⟨(by have q8 := ti_all r88; omega), (by have q8 := ti_all u90; omega), (by have := hx_tv; have := (show u90.toInt = u90.toInt from rfl); omega), ⟨(by have l9 := (hj23.1.resolve_right (fun h8 => by have := h8.1; omega)).2; have a9 := hf83.resolve_right (fun h8 => by have := h8.2.1; omega); have h9 := hf99; rw [a9.2.2] at h9; rcases (show r88.toInt = 1 ∨ r88.toInt = 0 by omega) with h8 | h8 <;> rw [h8] at h9; (exact Or.inl ⟨h8, lp_s l9 (a9.1.trans (by decide)) h9⟩); exact Or.inr ⟨h8, lp_f l9 (a9.1.trans (by decide)) h9⟩), by omega⟩⟩ _ _ hT hF hS m102 m103 m104 m105 ls (lv_sub hl [0, 1, 2, 3] rfl)
  exact key63 (400 - 0) 0 (by omega) (Nat.le_refl _) r1 u3 ⟨(by have q8 := ti_all r1; omega), (by have q8 := ti_all u3; omega), (by have := hx_tv; have := (show u3.toInt = u3.toInt from rfl); omega), ⟨(by have h9 := hf12; rcases (show r1.toInt = 1 ∨ r1.toInt = 0 by omega) with h8 | h8 <;> rw [h8] at h9; (exact Or.inl ⟨h8, lp_1 h9⟩); exact Or.inr ⟨h8, lp_0 h9⟩), by omega⟩⟩ _ _ hT hF hS m7 m5 m8 m4 ls (lv_sub hl [0, 1, 2, 3] rfl)
def w_c_readAtom2 : List Cond := .code yX4_readAtom cX4_readAtom 4 (some .boolean) :: (HAppend.hAppend (α := List Cond) (β := List Cond) (γ := List Cond) [.fieldLink RX4 11 "SeaLand$Law" "things" "[I", .fieldLink RX4 56 "SeaLand$Law" "at" "I", .code yX4_readAny cX4_readAny 4 (some .boolean), .code yX4_readAll cX4_readAll 4 (some .boolean), .code yX4_readAtom cX4_readAtom 4 (some .boolean), .code yX4_readComparison cX4_readComparison 3 (some .boolean), .code yX4_readSum cX4_readSum 3 (some .boolean), .code yX4_readPart cX4_readPart 2 (some .boolean), .code yX4_addStep cX4_addStep 2 none, .fieldLink RX4 63 "SeaLand$Law" "stepped" "I", .fieldLink RX4 39 "SeaLand$Law" "steps" "[I", .methodLink RX4 179 yX4_addStep, .instanceMethod yX4_addStep, .selects RX4 yX4_addStep yX4_addStep, .initialized RX4, .methodLink RX4 192 yX4_readPart, .instanceMethod yX4_readPart, .selects RX4 yX4_readPart yX4_readPart, .code yX4_take cX4_take 2 (some .boolean), .methodLink RX4 70 yX4_take, .instanceMethod yX4_take, .selects RX4 yX4_take yX4_take, .methodLink RX4 189 yX4_readSum, .instanceMethod yX4_readSum, .selects RX4 yX4_readSum yX4_readSum, .methodLink RX4 186 yX4_readComparison, .instanceMethod yX4_readComparison, .selects RX4 yX4_readComparison yX4_readComparison, .methodLink RX4 183 yX4_readAtom, .instanceMethod yX4_readAtom, .selects RX4 yX4_readAtom yX4_readAtom, .methodLink RX4 176 yX4_readAll, .instanceMethod yX4_readAll, .selects RX4 yX4_readAll yX4_readAll, .methodLink RX4 173 yX4_readAny, .instanceMethod yX4_readAny, .selects RX4 yX4_readAny yX4_readAny] bs2)
set_option maxHeartbeats 4000000 in
set_option maxRecDepth 100000 in
theorem c_readAtom2 (l : Launch) (dC : Nat → ClassId) (dI : Nat → Nat → Nat) (kA : Nat → ClassId) (adK adV : Nat → Nat) (G : gT) (H0 : Heap) (nC nS : Int) (o0 : Nat) (th : Nat) (a0 : Int32) (vT : Nat → Int32) (tv ix_tv : Int32) (tn : Int32) (K : Nat → Int) (X pS : Nat → Nat) (hT : gH (dC, dI) kA (SHc nC nS) G H0) (hr_o0 : G o0 = some 7) (hm_th : el H0 o0 (dI 7 0) = some (.ref th)) (hr_th : G th = some 40) (hm_a0 : el H0 o0 (dI 7 13) = some (.int a0)) (hq0 : 0 ≤ tn.toInt ∧ tn.toInt ≤ 400) (hq1 : 0 ≤ a0.toInt ∧ a0.toInt ≤ 400) (hat : a0.toInt ≤ tn.toInt) (hKK : ∀ m : Nat, m ≤ tn.toNatClampNeg → (vT m).toInt = K (pS m)) (hXX : ∀ m : Nat, m < tn.toNatClampNeg → pS (m + 1) = X (pS m)) (hc_vT : ct H0 th 401 vT) (hx_tv : ix_tv.toInt = tn.toInt) (hm_tv : el H0 th ix_tv.toNatClampNeg = some (.int tv)) (hv_tv : 21 ≤ tv.toInt ∧ tv.toInt ≤ 21) (hgC : 0 ≤ nC ∧ nC ≤ 40) (hgS : 0 ≤ nS ∧ nS ≤ 60) : Met l yX4_readAtom w_c_readAtom2 ({ frames := 16, cells := 0, slots := 0, locals := 362 }) (va_Pc [.ref o0, .int 2] (fun U => U.heap = H0 ∧ va_K (dC, dI) vwCl (tyl kA) U ∧ EVC adK adV (gA G H0.size) U U.heap)) (va_Qi (fun (r : Int32) (u : Int32) => (0 ≤ u.toInt ∧ u.toInt ≤ 400) ∧ (0 ≤ r.toInt ∧ r.toInt ≤ 1) ∧ (a0.toInt ≤ u.toInt ∧ u.toInt ≤ tn.toInt) ∧ (aR K X 4 (pS a0.toNatClampNeg) r.toInt (pS u.toNatClampNeg))) (fun (a1 : Int32) (t : State) => gH (dC, dI) kA (SHc nC nS) G t.heap ∧ gF (dC, dI) SKc G ([(7, 12), (7, 13), (49, 0)] : List (Nat × Nat)) H0 t.heap ∧ el t.heap o0 (dI 7 13) = some (.int a1)) (gA G H0.size)) 0 0 (gA G H0.size) := by
  refine Met.ofW (cc := cX4_readAtom) (maxL := 4) (ret := (some .boolean)) (by decide) rfl ?_
  intro p e s m args below meth c s₁ B hml hv
  obtain ⟨rfl, hH0, hK, hE⟩ := hv
  have hx := B.exec
  have hb := B.bytes
  have hr := B.returns
  have hts := atoms_spec (ws := w_c_readAtom2) B.pre
  have hown : s.vm.findClass RX4 = some m.cls := findClass_of_methodNamed B.named
  have hlocks := B.notSynchronized
  subst hH0
  generalize hAe : gA G s.heap.size = A at hE ⊢
  have hA : ∀ q : Nat, s.heap.size ≤ q → A q := fun q h => by rw [← hAe]; exact Or.inr h
  have hG := gA_of hAe
  have hS : va_S A s.heap s.heap [] := va_S.rf
  have hF : gF (dC, dI) SKc G ([(7, 12), (7, 13), (49, 0)] : List (Nat × Nat)) s.heap s.heap := gF.rf
  have hl := lv_entry ([.ref o0, .int 2]) (n := 4) (Nat.le_of_ble_eq_true rfl)
  rw [lg_entry_eq]
  generalize (lg_sl ([.ref o0, .int 2]) ++ List.replicate (4 - (lg_sl ([.ref o0, .int 2])).length) Slot.unset).toArray = ls at hl ⊢
  have hl : lv_has ls 4 [(0, .ref o0), (1, .int 2)] := hl
  refine lv_aload_n hx hb dX4_readAtom_0 rfl (lv_at hl 0 rfl) ?_
  refine tw_getM (v := .ref th) hx hb hts bF2_X4 hown hK hT hr_o0 shc_7 rfl 0 (by decide) (ht_at2 hts 0 rfl) (fun _ h9 => h9) hm_th dX4_readAtom_1 ?_
  refine lv_aload_n hx hb dX4_readAtom_4 rfl (lv_at hl 0 rfl) ?_
  refine tw_getM (v := .int a0) hx hb hts bF2_X4 hown hK hT hr_o0 shc_7 rfl 13 (by decide) (ht_at2 hts 1 rfl) (fun _ h9 => h9) hm_a0 dX4_readAtom_5 ?_
  refine tw_iald (i := a0) hx hb hK hT hr_th shc_40 rfl (vin_t (a := a0.toInt) rfl (by omega) (by omega)) dX4_readAtom_8 (fun v9 m1 h9 => ?_)
  obtain ⟨x2, rfl, gx2, kx2⟩ := h9
  have cx2 := hc_vT.at m1 (by have q9 := tn_of (show a0.toInt = a0.toInt from rfl) (by omega); omega)
  have t3 : a0.toInt = ix_tv.toInt → x2.toInt = tv.toInt := fun h8 => congrArg Int32.toInt (el_same m1 hm_tv h8)
  have t4 : x2.toInt = K (pS a0.toNatClampNeg) := (congrArg Int32.toInt cx2).trans (hKK _ (by have := tn_of (show a0.toInt = a0.toInt from rfl) (by omega); have := tn_of (show tn.toInt = tn.toInt from rfl) (by omega); omega))
  refine lv_bipush (v := 13) hx hb dX4_readAtom_9 (by decide) ?_
  have t5 : -2147483648 ≤ x2.toInt ∧ x2.toInt ≤ 2147483647 := ti_all x2
  refine lv_icmp_ne (tgt := 18) hx hb dX4_readAtom_11 (by decide) (fun c6 => ?_) (fun c6 => ?_)
  · have t7 : x2.toInt ≠ 13 := ti_ne c6 rfl (by decide)
    refine lv_iconst (v := 0) hx hb dX4_readAtom_18 (by decide) ?_
    refine lv_istore_n (lv' := [(2, .int 0), (0, .ref o0), (1, .int 2)]) hx hb dX4_readAtom_19 rfl hl (by decide) rfl (fun ls hl => ?_)
    refine lv_iload_n hx hb dX4_readAtom_20 rfl (lv_at hl 0 rfl) ?_
    refine lv_if_ne (tgt := 43) hx hb dX4_readAtom_21 (by decide) (fun c8 => absurd c8 (by decide)) (fun c8 => ?_)
    refine lv_aload_n hx hb dX4_readAtom_24 rfl (lv_at hl 1 rfl) ?_
    refine tw_getM (v := .ref th) hx hb hts bF2_X4 hown hK hT hr_o0 shc_7 rfl 0 (by decide) (ht_at2 hts 0 rfl) (fun _ h9 => h9) hm_th dX4_readAtom_25 ?_
    refine lv_aload_n hx hb dX4_readAtom_28 rfl (lv_at hl 1 rfl) ?_
    refine tw_getM (v := .int a0) hx hb hts bF2_X4 hown hK hT hr_o0 shc_7 rfl 13 (by decide) (ht_at2 hts 1 rfl) (fun _ h9 => h9) hm_a0 dX4_readAtom_29 ?_
    refine tw_iald (i := a0) hx hb hK hT hr_th shc_40 rfl (vin_t (a := a0.toInt) rfl (by omega) (by omega)) dX4_readAtom_32 (fun v9 m9 h9 => ?_)
    obtain ⟨x10, rfl, gx10, kx10⟩ := h9
    have cx10 := hc_vT.at m9 (by have q9 := tn_of (show a0.toInt = a0.toInt from rfl) (by omega); omega)
    have t11 : a0.toInt = ix_tv.toInt → x10.toInt = tv.toInt := fun h8 => congrArg Int32.toInt (el_same m9 hm_tv h8)
    obtain rfl : x2 = x10 := (el_same m9 m1 rfl).symm
    refine lv_bipush (v := 16) hx hb dX4_readAtom_33 (by decide) ?_
    refine lv_icmp_eq (tgt := 43) hx hb dX4_readAtom_35 (by decide) (fun c12 => ?_) (fun c12 => ?_)
    · have t13 : x2.toInt = 16 := ti_eq c12 rfl (by decide)
      refine lv_iload_n hx hb dX4_readAtom_43 rfl (lv_at hl 2 rfl) ?_
      refine lv_bipush (v := 6) hx hb dX4_readAtom_44 (by decide) ?_
      refine lv_icmp_lt (tgt := 51) hx hb dX4_readAtom_46 (by decide) (fun c14 => ?_) (fun c14 => absurd c14 (by decide))
      refine lv_aload_n hx hb dX4_readAtom_51 rfl (lv_at hl 1 rfl) ?_
      refine lv_dup hx hb dX4_readAtom_52 rfl ?_
      refine tw_getM (v := .int a0) hx hb hts bF2_X4 hown hK hT hr_o0 shc_7 rfl 13 (by decide) (ht_at2 hts 1 rfl) (fun _ h9 => h9) hm_a0 dX4_readAtom_53 ?_
      refine lv_iconst (v := 1) hx hb dX4_readAtom_56 (by decide) ?_
      refine lv_iadd hx hb dX4_readAtom_57 ?_
      refine lv_topi (fun x15 ex15 => ?_)
      have t16 : x15.toInt = a0.toInt + 1 := ti_add ex15 rfl (by decide) (by omega) (by omega)
      refine tw_put (v := .int x15) (ty := .int) hx hb hts bF2_X4 tyX4 tyX4_ok nmX4 hown hK hT hG hS hr_o0 shc_7 rfl 13 (by decide) (ht_at2 hts 1 rfl) (fun _ h9 => h9) rfl (by decide +kernel) rfl rfl (gl_at rfl (gi_of (show x15.toInt = x15.toInt from rfl) (by omega) (by omega))) dX4_readAtom_58 (fun H locs hT oq m17 oj hS => ?_)
      have hF := hF.put hr_o0 skc_7 oq oj (by decide)
      have m18 := (oj 0 (by decide) (by decide)).trans hm_th
      have m19 := hc_vT.kept (oq _ (gne hr_th hr_o0 (by decide)))
      have m20 := (el_kept (oq _ (gne hr_th hr_o0 (by decide)))).trans hm_tv
      refine lv_iload_n hx hb dX4_readAtom_61 rfl (lv_at hl 0 rfl) ?_
      refine lv_if_eq (tgt := 81) hx hb dX4_readAtom_62 (by decide) (fun c22 => ?_) (fun c22 => absurd c22 (by decide))
      refine lv_aload_n hx hb dX4_readAtom_81 rfl (lv_at hl 1 rfl) ?_
      refine lv_iload_n hx hb dX4_readAtom_82 rfl (lv_at hl 2 rfl) ?_
      refine lv_iconst (v := 1) hx hb dX4_readAtom_83 (by decide) ?_
      refine lv_iadd hx hb dX4_readAtom_84 ?_
      refine lv_topi (fun x23 ex23 => ?_)
      obtain rfl : x23 = 3 := ex23.trans (by decide)
      have hFc := gA_free hG hA hS
      refine va_calli (va_runV (As := [.int 3]) (rest := []) ⟨hx, hb, hml, hown, hts⟩ (c_readAny3 l dC dI kA adK adV G H nC nS o0 th x15 vT tv ix_tv ix_tv K X pS hT hr_o0 m18 hr_th m17 (by have q8 := ti_all ix_tv; omega) (by have q8 := ti_all x15; omega) (by have := (show x15.toInt = x15.toInt from rfl); have := (show ix_tv.toInt = ix_tv.toInt from rfl); omega) (fun m hm => hKK m (Nat.le_trans hm (Nat.le_of_eq (tn_same hx_tv rfl rfl)))) (fun m hm => hXX m (Nat.lt_of_lt_of_eq hm (tn_same hx_tv rfl rfl))) m19 (by have q9 := (show ix_tv.toInt = ix_tv.toInt from rfl); have := (show ix_tv.toInt = ix_tv.toInt from rfl); omega) m20 (by have q8 := ti_all tv; omega) (by omega) (by omega)) (cwV 1 hts (goodIn_app (goodIn_r _ [35, 36, 37, 15] rfl (by decide +kernel)) (goodIn_ca (goodIn_r _ [3, 4, 5, 1, 2, 3, 6, 7, 8, 9, 10, 11, 12, 13, 14, 15, 16, 17, 18, 19, 20, 21, 22, 23, 24, 25, 26, 27, 28, 29, 30, 31, 32, 33, 34, 35, 36, 37] rfl (by decide +kernel)) (bs2_in _ _))) rfl rfl rfl (by decide +kernel) ⟨(Nat.le_of_ble_eq_true rfl), (Nat.le_of_ble_eq_true rfl)⟩) ⟨fun a U g mk q => by obtain ⟨q0, q1, qK, qE⟩ := q; exact ⟨q0, q1, va_K.moved (u := U) (U := U.calling g mk a) (Vm.Alike.refl U.vm) qK, EVC.blind g mk a qE⟩, gH_rc hK hT hr_o0 shc_7 rfl, fun U hU hW => ⟨rfl, hU, va_K.moved hW.alike hK, hE.call hS hFc hU hW⟩⟩ rfl rfl hl.1 rfl (lv_room (Nat.le_of_ble_eq_true rfl)) dX4_readAtom_85 ⟨(Nat.le_of_ble_eq_true rfl), (Nat.le_of_ble_eq_true rfl)⟩) hS (fun q _ h => hFc q h) hFc (fun r24 u t H locs ht hvm hw25 hB _ _ hS => ?_)
      obtain ⟨u26, rfl⟩ : ∃ z, z = u := ⟨_, rfl⟩
      obtain ⟨hT, hF1, m27⟩ := hB
      rw [ht] at hT hF1 m27
      have m28 := (hF1.fld hr_o0 skc_7 (k := 0) (by decide) (by decide)).trans m18
      have m29 := m19.kept (hF1.arr hr_th skc_40 (by decide))
      have m30 := (el_kept (hF1.arr hr_th skc_40 (by decide))).trans m20
      have hF := hF.more hF1 (by decide)
      try dsimp only at hw25
      obtain ⟨h33, h34, hf35, hf36⟩ := hw25
      refine lv_if_eq (tgt := 104) hx hb dX4_readAtom_88 (by decide) (fun c37 => ?_) (fun c37 => ?_)
      · have t38 : r24.toInt = 0 := ti_eq c37 rfl (by decide)
        refine lv_iconst (v := 0) hx hb dX4_readAtom_104 (by decide) ?_
        exact W.zret (v := 0) hx hb hr (by decide) (fun t ht hW => ⟨⟨0, u26, rfl, (by exact ⟨(by have q8 := ti_all u26; omega), (rg_t (a := 0) (by decide) (by first | decide | omega) (by first | decide | omega)), (by omega), (by have h9 := hf36; rw [(show pS x15.toNatClampNeg = X (pS a0.toNatClampNeg) from by rw [show x15.toNatClampNeg = a0.toNatClampNeg + 1 from by have := tn_of (show a0.toInt = a0.toInt from rfl) (by omega); have := tn_of (show x15.toInt = x15.toInt from rfl) (by omega); omega]; exact hXX _ (by have := tn_of (show a0.toInt = a0.toInt from rfl) (by omega); have := tn_of (show tn.toInt = tn.toInt from rfl) (by omega); omega))] at h9; rw [show r24.toInt = 0 from by omega] at h9; exact Or.inr (Or.inl ⟨by omega, Or.inl ⟨h9, by decide⟩⟩))⟩), by (try dsimp only); rw [ht]; exact ⟨hT, hF, m27⟩⟩, hS.F ht⟩) hS.2.2 dX4_readAtom_105
      · have t39 : r24.toInt ≠ 0 := ti_ne c37 rfl (by decide)
        refine lv_aload_n hx hb dX4_readAtom_91 rfl (lv_at hl 1 rfl) ?_
        refine lv_bipush (v := 17) hx hb dX4_readAtom_92 (by decide) ?_
        have hFc := gA_free hG hA hS
        refine va_calli (va_runV (As := [.int 17]) (rest := []) ⟨hx, hb, hml, hown, hts⟩ (c_take l dC dI kA adK adV G H nC nS o0 17 th u26 vT tv ix_tv ix_tv K X pS hT hr_o0 m28 hr_th m27 (by have q8 := ti_all ix_tv; omega) (by have q8 := ti_all u26; omega) (by have := (show u26.toInt = u26.toInt from rfl); have := (show ix_tv.toInt = ix_tv.toInt from rfl); omega) (by have := (show (17 : Int32).toInt = 17 from (by decide)); omega) (fun m hm => hKK m (Nat.le_trans hm (Nat.le_of_eq (tn_same hx_tv rfl rfl)))) (fun m hm => hXX m (Nat.lt_of_lt_of_eq hm (tn_same hx_tv rfl rfl))) m29 (by have q9 := (show ix_tv.toInt = ix_tv.toInt from rfl); have := (show ix_tv.toInt = ix_tv.toInt from rfl); omega) m30 (by have q8 := ti_all tv; omega) (by omega) (by omega)) (cwV 1 hts (goodIn_app (goodIn_r _ [20, 21, 22, 15] rfl (by decide +kernel)) (goodIn_ca (goodIn_r _ [19, 1, 2] rfl (by decide +kernel)) (bs2_in _ _))) rfl rfl rfl (by decide +kernel) ⟨(Nat.le_of_ble_eq_true rfl), (Nat.le_of_ble_eq_true rfl)⟩) ⟨fun a U g mk q => by obtain ⟨q0, q1, qK, qE⟩ := q; exact ⟨q0, q1, va_K.moved (u := U) (U := U.calling g mk a) (Vm.Alike.refl U.vm) qK, EVC.blind g mk a qE⟩, gH_rc hK hT hr_o0 shc_7 rfl, fun U hU hW => ⟨rfl, hU, va_K.moved hW.alike hK, hE.call hS hFc hU hW⟩⟩ rfl rfl hl.1 rfl (lv_room (Nat.le_of_ble_eq_true rfl)) dX4_readAtom_94 ⟨(Nat.le_of_ble_eq_true rfl), (Nat.le_of_ble_eq_true rfl)⟩) hS (fun q _ h => hFc q h) hFc (fun r40 u t H locs ht hvm hw41 hB _ _ hS => ?_)
        obtain ⟨u42, rfl⟩ : ∃ z, z = u := ⟨_, rfl⟩
        obtain ⟨hT, hF1, m43⟩ := hB
        rw [ht] at hT hF1 m43
        have hF := hF.more hF1 (by decide)
        try dsimp only at hw41
        obtain ⟨h49, h50, hf51, hf52, hf53⟩ := hw41
        refine lv_if_eq (tgt := 104) hx hb dX4_readAtom_97 (by decide) (fun c54 => ?_) (fun c54 => ?_)
        · have t55 : r40.toInt = 0 := ti_eq c54 rfl (by decide)
          refine lv_iconst (v := 0) hx hb dX4_readAtom_104 (by decide) ?_
          exact W.zret (v := 0) hx hb hr (by decide) (fun t ht hW => ⟨⟨0, u42, rfl, (by exact ⟨(by have q8 := ti_all u42; omega), (rg_t (a := 0) (by decide) (by first | decide | omega) (by first | decide | omega)), (by omega), (by have h9 := hf36; rw [(show pS x15.toNatClampNeg = X (pS a0.toNatClampNeg) from by rw [show x15.toNatClampNeg = a0.toNatClampNeg + 1 from by have := tn_of (show a0.toInt = a0.toInt from rfl) (by omega); have := tn_of (show x15.toInt = x15.toInt from rfl) (by omega); omega]; exact hXX _ (by have := tn_of (show a0.toInt = a0.toInt from rfl) (by omega); have := tn_of (show tn.toInt = tn.toInt from rfl) (by omega); omega))] at h9; rw [show r24.toInt = 1 from by omega] at h9; have t9 := hf52; exact Or.inr (Or.inl ⟨by omega, Or.inr ⟨_, h9, (by have q0 : (0 : Int32).toInt = 0 := (by decide); have q1 : (1 : Int32).toInt = 1 := (by decide); rcases t9 with ⟨x1, x2, x3⟩ | ⟨x1, x2, x3⟩; (exact Or.inl ⟨x1.trans (by decide), by omega, x3⟩); exact Or.inr ⟨fun h7 => x1 (h7.trans (by decide)), by omega, x3⟩)⟩⟩))⟩), by (try dsimp only); rw [ht]; exact ⟨hT, hF, m43⟩⟩, hS.F ht⟩) hS.2.2 dX4_readAtom_105
        · have t56 : r40.toInt ≠ 0 := ti_ne c54 rfl (by decide)
          refine lv_iconst (v := 1) hx hb dX4_readAtom_100 (by decide) ?_
          refine lv_goto (tgt := 105) hx hb dX4_readAtom_101 (by decide) ?_
          exact W.zret (v := 1) hx hb hr (by decide) (fun t ht hW => ⟨⟨1, u42, rfl, (by exact ⟨(by have q8 := ti_all u42; omega), (rg_t (a := 1) (by decide) (by first | decide | omega) (by first | decide | omega)), (by omega), (by have h9 := hf36; rw [(show pS x15.toNatClampNeg = X (pS a0.toNatClampNeg) from by rw [show x15.toNatClampNeg = a0.toNatClampNeg + 1 from by have := tn_of (show a0.toInt = a0.toInt from rfl) (by omega); have := tn_of (show x15.toInt = x15.toInt from rfl) (by omega); omega]; exact hXX _ (by have := tn_of (show a0.toInt = a0.toInt from rfl) (by omega); have := tn_of (show tn.toInt = tn.toInt from rfl) (by omega); omega))] at h9; rw [show r24.toInt = 1 from by omega] at h9; have t9 := hf52; exact Or.inr (Or.inl ⟨by omega, Or.inr ⟨_, h9, (by have q0 : (0 : Int32).toInt = 0 := (by decide); have q1 : (1 : Int32).toInt = 1 := (by decide); rcases t9 with ⟨x1, x2, x3⟩ | ⟨x1, x2, x3⟩; (exact Or.inl ⟨x1.trans (by decide), by omega, x3⟩); exact Or.inr ⟨fun h7 => x1 (h7.trans (by decide)), by omega, x3⟩)⟩⟩))⟩), by (try dsimp only); rw [ht]; exact ⟨hT, hF, m43⟩⟩, hS.F ht⟩) hS.2.2 dX4_readAtom_105
    · have t57 : x2.toInt ≠ 16 := ti_ne c12 rfl (by decide)
      refine lv_aload_n hx hb dX4_readAtom_38 rfl (lv_at hl 1 rfl) ?_
      have hFc := gA_free hG hA hS
      refine va_calli (va_runV (As := []) (rest := []) ⟨hx, hb, hml, hown, hts⟩ (c_readComparison l dC dI kA adK adV G s.heap nC nS o0 th a0 vT tv ix_tv ix_tv K X pS hT hr_o0 hm_th hr_th hm_a0 (by have q8 := ti_all ix_tv; omega) (by have q8 := ti_all a0; omega) (by have := (show a0.toInt = a0.toInt from rfl); have := (show ix_tv.toInt = ix_tv.toInt from rfl); omega) (fun m hm => hKK m (Nat.le_trans hm (Nat.le_of_eq (tn_same hx_tv rfl rfl)))) (fun m hm => hXX m (Nat.lt_of_lt_of_eq hm (tn_same hx_tv rfl rfl))) hc_vT (by have q9 := (show ix_tv.toInt = ix_tv.toInt from rfl); have := (show ix_tv.toInt = ix_tv.toInt from rfl); omega) hm_tv (by have q8 := ti_all tv; omega) (by omega) (by omega)) (cwV 0 hts (goodIn_app (goodIn_r _ [26, 27, 28, 15] rfl (by decide +kernel)) (goodIn_ca (goodIn_r _ [6, 7, 8, 1, 2, 9, 10, 11, 12, 13, 14, 15, 16, 17, 18, 19, 20, 21, 22, 23, 24, 25] rfl (by decide +kernel)) (bs2_in _ _))) rfl rfl rfl (by decide +kernel) ⟨(Nat.le_of_ble_eq_true rfl), (Nat.le_of_ble_eq_true rfl)⟩) ⟨fun a U g mk q => by obtain ⟨q0, q1, qK, qE⟩ := q; exact ⟨q0, q1, va_K.moved (u := U) (U := U.calling g mk a) (Vm.Alike.refl U.vm) qK, EVC.blind g mk a qE⟩, gH_rc hK hT hr_o0 shc_7 rfl, fun U hU hW => ⟨rfl, hU, va_K.moved hW.alike hK, hE.call hS hFc hU hW⟩⟩ rfl rfl hl.1 rfl (lv_room (Nat.le_of_ble_eq_true rfl)) dX4_readAtom_39 ⟨(Nat.le_of_ble_eq_true rfl), (Nat.le_of_ble_eq_true rfl)⟩) hS (fun q _ h => hFc q h) hFc (fun r58 u t H locs ht hvm hw59 hB _ _ hS => ?_)
      obtain ⟨u60, rfl⟩ : ∃ z, z = u := ⟨_, rfl⟩
      obtain ⟨hT, hF1, m61⟩ := hB
      rw [ht] at hT hF1 m61
      have hF := hF.more hF1 (by decide)
      try dsimp only at hw59
      obtain ⟨h67, h68, hf69, hf70⟩ := hw59
      exact W.zret (v := r58) hx hb hr (nar_b (by have q8 := ti_all r58; omega)) (fun t ht hW => ⟨⟨r58, u60, rfl, (by exact ⟨(by have q8 := ti_all u60; omega), (by have q8 := ti_all r58; omega), (by omega), (Or.inr (Or.inr ⟨by omega, hf70⟩))⟩), by (try dsimp only); rw [ht]; exact ⟨hT, hF, m61⟩⟩, hS.F ht⟩) hS.2.2 dX4_readAtom_42
  · have t71 : x2.toInt = 13 := ti_eq c6 rfl (by decide)
    refine lv_iconst (v := 1) hx hb dX4_readAtom_14 (by decide) ?_
    refine lv_goto (tgt := 19) hx hb dX4_readAtom_15 (by decide) ?_
    refine lv_istore_n (lv' := [(2, .int 1), (0, .ref o0), (1, .int 2)]) hx hb dX4_readAtom_19 rfl hl (by decide) rfl (fun ls hl => ?_)
    refine lv_iload_n hx hb dX4_readAtom_20 rfl (lv_at hl 0 rfl) ?_
    refine lv_if_ne (tgt := 43) hx hb dX4_readAtom_21 (by decide) (fun c72 => ?_) (fun c72 => absurd c72 (by decide))
    refine lv_iload_n hx hb dX4_readAtom_43 rfl (lv_at hl 2 rfl) ?_
    refine lv_bipush (v := 6) hx hb dX4_readAtom_44 (by decide) ?_
    refine lv_icmp_lt (tgt := 51) hx hb dX4_readAtom_46 (by decide) (fun c73 => ?_) (fun c73 => absurd c73 (by decide))
    refine lv_aload_n hx hb dX4_readAtom_51 rfl (lv_at hl 1 rfl) ?_
    refine lv_dup hx hb dX4_readAtom_52 rfl ?_
    refine tw_getM (v := .int a0) hx hb hts bF2_X4 hown hK hT hr_o0 shc_7 rfl 13 (by decide) (ht_at2 hts 1 rfl) (fun _ h9 => h9) hm_a0 dX4_readAtom_53 ?_
    refine lv_iconst (v := 1) hx hb dX4_readAtom_56 (by decide) ?_
    refine lv_iadd hx hb dX4_readAtom_57 ?_
    refine lv_topi (fun x74 ex74 => ?_)
    have t75 : x74.toInt = a0.toInt + 1 := ti_add ex74 rfl (by decide) (by omega) (by omega)
    refine tw_put (v := .int x74) (ty := .int) hx hb hts bF2_X4 tyX4 tyX4_ok nmX4 hown hK hT hG hS hr_o0 shc_7 rfl 13 (by decide) (ht_at2 hts 1 rfl) (fun _ h9 => h9) rfl (by decide +kernel) rfl rfl (gl_at rfl (gi_of (show x74.toInt = x74.toInt from rfl) (by omega) (by omega))) dX4_readAtom_58 (fun H locs hT oq m76 oj hS => ?_)
    have hF := hF.put hr_o0 skc_7 oq oj (by decide)
    have m77 := (oj 0 (by decide) (by decide)).trans hm_th
    have m78 := hc_vT.kept (oq _ (gne hr_th hr_o0 (by decide)))
    have m79 := (el_kept (oq _ (gne hr_th hr_o0 (by decide)))).trans hm_tv
    refine lv_iload_n hx hb dX4_readAtom_61 rfl (lv_at hl 0 rfl) ?_
    refine lv_if_eq (tgt := 81) hx hb dX4_readAtom_62 (by decide) (fun c81 => absurd c81 (by decide)) (fun c81 => ?_)
    refine lv_aload_n hx hb dX4_readAtom_65 rfl (lv_at hl 1 rfl) ?_
    refine lv_iload_n hx hb dX4_readAtom_66 rfl (lv_at hl 2 rfl) ?_
    refine lv_iconst (v := 1) hx hb dX4_readAtom_67 (by decide) ?_
    refine lv_iadd hx hb dX4_readAtom_68 ?_
    refine lv_topi (fun x82 ex82 => ?_)
    obtain rfl : x82 = 3 := ex82.trans (by decide)
    have hFc := gA_free hG hA hS
    refine va_calli (va_runV (As := [.int 3]) (rest := []) ⟨hx, hb, hml, hown, hts⟩ (c_readAtom3 l dC dI kA adK adV G H nC nS o0 th x74 vT tv ix_tv ix_tv K X pS hT hr_o0 m77 hr_th m76 (by have q8 := ti_all ix_tv; omega) (by have q8 := ti_all x74; omega) (by have := (show x74.toInt = x74.toInt from rfl); have := (show ix_tv.toInt = ix_tv.toInt from rfl); omega) (fun m hm => hKK m (Nat.le_trans hm (Nat.le_of_eq (tn_same hx_tv rfl rfl)))) (fun m hm => hXX m (Nat.lt_of_lt_of_eq hm (tn_same hx_tv rfl rfl))) m78 (by have q9 := (show ix_tv.toInt = ix_tv.toInt from rfl); have := (show ix_tv.toInt = ix_tv.toInt from rfl); omega) m79 (by have q8 := ti_all tv; omega) (by omega) (by omega)) (cwV 1 hts (goodIn_app (goodIn_r _ [29, 30, 31, 15] rfl (by decide +kernel)) (goodIn_ca (goodIn_r _ [5, 1, 2, 3, 4, 5, 6, 7, 8, 9, 10, 11, 12, 13, 14, 15, 16, 17, 18, 19, 20, 21, 22, 23, 24, 25, 26, 27, 28, 29, 30, 31, 32, 33, 34, 35, 36, 37] rfl (by decide +kernel)) (bs2_in _ _))) rfl rfl rfl (by decide +kernel) ⟨(Nat.le_of_ble_eq_true rfl), (Nat.le_of_ble_eq_true rfl)⟩) ⟨fun a U g mk q => by obtain ⟨q0, q1, qK, qE⟩ := q; exact ⟨q0, q1, va_K.moved (u := U) (U := U.calling g mk a) (Vm.Alike.refl U.vm) qK, EVC.blind g mk a qE⟩, gH_rc hK hT hr_o0 shc_7 rfl, fun U hU hW => ⟨rfl, hU, va_K.moved hW.alike hK, hE.call hS hFc hU hW⟩⟩ rfl rfl hl.1 rfl (lv_room (Nat.le_of_ble_eq_true rfl)) dX4_readAtom_69 ⟨(Nat.le_of_ble_eq_true rfl), (Nat.le_of_ble_eq_true rfl)⟩) hS (fun q _ h => hFc q h) hFc (fun r83 u t H locs ht hvm hw84 hB _ _ hS => ?_)
    obtain ⟨u85, rfl⟩ : ∃ z, z = u := ⟨_, rfl⟩
    obtain ⟨hT, hF1, m86⟩ := hB
    rw [ht] at hT hF1 m86
    have hF := hF.more hF1 (by decide)
    try dsimp only at hw84
    obtain ⟨h92, h93, hf94, hf95⟩ := hw84
    refine lv_istore_n (lv' := [(3, .int r83), (2, .int 1), (0, .ref o0), (1, .int 2)]) hx hb dX4_readAtom_72 rfl hl (by decide) rfl (fun ls hl => ?_)
    refine lv_aload_n hx hb dX4_readAtom_73 rfl (lv_at hl 2 rfl) ?_
    refine lv_bipush (v := 13) hx hb dX4_readAtom_74 (by decide) ?_
    have hFc := gA_free hG hA hS
    refine va_callv (va_runV (As := [.int 13]) (rest := []) ⟨hx, hb, hml, hown, hts⟩ (c_addStep l dC dI kA adK adV G H nC nS o0 13 hT hr_o0 (rg_t (a := 13) (by decide) (by first | decide | omega) (by first | decide | omega)) (by omega) (by omega)) (cwV 1 hts (goodIn_app (goodIn_r _ [12, 13, 14, 15] rfl (by decide +kernel)) (goodIn_ca (goodIn_r _ [9, 10, 11] rfl (by decide +kernel)) (bs2_in _ _))) rfl rfl rfl (by decide +kernel) ⟨(Nat.le_of_ble_eq_true rfl), (Nat.le_of_ble_eq_true rfl)⟩) ⟨fun a U g mk q => by obtain ⟨q0, q1, qK, qE⟩ := q; exact ⟨q0, q1, va_K.moved (u := U) (U := U.calling g mk a) (Vm.Alike.refl U.vm) qK, EVC.blind g mk a qE⟩, gH_rc hK hT hr_o0 shc_7 rfl, fun U hU hW => ⟨rfl, hU, va_K.moved hW.alike hK, hE.call hS hFc hU hW⟩⟩ rfl rfl hl.1 rfl (lv_room (Nat.le_of_ble_eq_true rfl)) dX4_readAtom_76 ⟨(Nat.le_of_ble_eq_true rfl), (Nat.le_of_ble_eq_true rfl)⟩) hS (fun q _ h => hFc q h) hFc (fun u t H locs ht hvm hw97 hB _ _ hS => ?_)
    obtain ⟨hT, hF1⟩ := hB
    rw [ht] at hT hF1
    have m102 := (hF1.fld hr_o0 skc_7 (k := 13) (by decide) (by decide)).trans m86
    have hF := hF.more hF1 (by decide)
    try dsimp only at hw97
    refine lv_iload_n hx hb dX4_readAtom_79 rfl (lv_at hl 0 rfl) ?_
    exact W.zret (v := r83) hx hb hr (nar_b (by have q8 := ti_all r83; omega)) (fun t ht hW => ⟨⟨r83, u85, rfl, (by exact ⟨(by have q8 := ti_all u85; omega), (by have q8 := ti_all r83; omega), (by omega), (by have h9 := hf95; rw [(show pS x74.toNatClampNeg = X (pS a0.toNatClampNeg) from by rw [show x74.toNatClampNeg = a0.toNatClampNeg + 1 from by have := tn_of (show a0.toInt = a0.toInt from rfl) (by omega); have := tn_of (show x74.toInt = x74.toInt from rfl) (by omega); omega]; exact hXX _ (by have := tn_of (show a0.toInt = a0.toInt from rfl) (by omega); have := tn_of (show tn.toInt = tn.toInt from rfl) (by omega); omega))] at h9; exact Or.inl ⟨by omega, h9⟩)⟩), by (try dsimp only); rw [ht]; exact ⟨hT, hF, m102⟩⟩, hS.F ht⟩) hS.2.2 dX4_readAtom_80
def w_c_readAll2 : List Cond := .code yX4_readAll cX4_readAll 4 (some .boolean) :: (HAppend.hAppend (α := List Cond) (β := List Cond) (γ := List Cond) [.code yX4_readAtom cX4_readAtom 4 (some .boolean), .fieldLink RX4 11 "SeaLand$Law" "things" "[I", .fieldLink RX4 56 "SeaLand$Law" "at" "I", .code yX4_readAny cX4_readAny 4 (some .boolean), .code yX4_readAll cX4_readAll 4 (some .boolean), .code yX4_readComparison cX4_readComparison 3 (some .boolean), .code yX4_readSum cX4_readSum 3 (some .boolean), .code yX4_readPart cX4_readPart 2 (some .boolean), .code yX4_addStep cX4_addStep 2 none, .fieldLink RX4 63 "SeaLand$Law" "stepped" "I", .fieldLink RX4 39 "SeaLand$Law" "steps" "[I", .methodLink RX4 179 yX4_addStep, .instanceMethod yX4_addStep, .selects RX4 yX4_addStep yX4_addStep, .initialized RX4, .methodLink RX4 192 yX4_readPart, .instanceMethod yX4_readPart, .selects RX4 yX4_readPart yX4_readPart, .code yX4_take cX4_take 2 (some .boolean), .methodLink RX4 70 yX4_take, .instanceMethod yX4_take, .selects RX4 yX4_take yX4_take, .methodLink RX4 189 yX4_readSum, .instanceMethod yX4_readSum, .selects RX4 yX4_readSum yX4_readSum, .methodLink RX4 186 yX4_readComparison, .instanceMethod yX4_readComparison, .selects RX4 yX4_readComparison yX4_readComparison, .methodLink RX4 183 yX4_readAtom, .instanceMethod yX4_readAtom, .selects RX4 yX4_readAtom yX4_readAtom, .methodLink RX4 176 yX4_readAll, .instanceMethod yX4_readAll, .selects RX4 yX4_readAll yX4_readAll, .methodLink RX4 173 yX4_readAny, .instanceMethod yX4_readAny, .selects RX4 yX4_readAny yX4_readAny] bs2)
set_option maxHeartbeats 4000000 in
set_option maxRecDepth 100000 in
theorem c_readAll2 (l : Launch) (dC : Nat → ClassId) (dI : Nat → Nat → Nat) (kA : Nat → ClassId) (adK adV : Nat → Nat) (G : gT) (H0 : Heap) (nC nS : Int) (o0 : Nat) (th : Nat) (a0 : Int32) (vT : Nat → Int32) (tv ix_tv : Int32) (tn : Int32) (K : Nat → Int) (X pS : Nat → Nat) (hT : gH (dC, dI) kA (SHc nC nS) G H0) (hr_o0 : G o0 = some 7) (hm_th : el H0 o0 (dI 7 0) = some (.ref th)) (hr_th : G th = some 40) (hm_a0 : el H0 o0 (dI 7 13) = some (.int a0)) (hq0 : 0 ≤ tn.toInt ∧ tn.toInt ≤ 400) (hq1 : 0 ≤ a0.toInt ∧ a0.toInt ≤ 400) (hat : a0.toInt ≤ tn.toInt) (hKK : ∀ m : Nat, m ≤ tn.toNatClampNeg → (vT m).toInt = K (pS m)) (hXX : ∀ m : Nat, m < tn.toNatClampNeg → pS (m + 1) = X (pS m)) (hc_vT : ct H0 th 401 vT) (hx_tv : ix_tv.toInt = tn.toInt) (hm_tv : el H0 th ix_tv.toNatClampNeg = some (.int tv)) (hv_tv : 21 ≤ tv.toInt ∧ tv.toInt ≤ 21) (hgC : 0 ≤ nC ∧ nC ≤ 40) (hgS : 0 ≤ nS ∧ nS ≤ 60) : Met l yX4_readAll w_c_readAll2 ({ frames := 17, cells := 0, slots := 0, locals := 385 }) (va_Pc [.ref o0, .int 2] (fun U => U.heap = H0 ∧ va_K (dC, dI) vwCl (tyl kA) U ∧ EVC adK adV (gA G H0.size) U U.heap)) (va_Qi (fun (r : Int32) (u : Int32) => (0 ≤ u.toInt ∧ u.toInt ≤ 400) ∧ (0 ≤ r.toInt ∧ r.toInt ≤ 1) ∧ (a0.toInt ≤ u.toInt ∧ u.toInt ≤ tn.toInt) ∧ (lpR K X (aR K X 4) 14 (pS a0.toNatClampNeg) r.toInt (pS u.toNatClampNeg))) (fun (a1 : Int32) (t : State) => gH (dC, dI) kA (SHc nC nS) G t.heap ∧ gF (dC, dI) SKc G ([(7, 12), (7, 13), (49, 0)] : List (Nat × Nat)) H0 t.heap ∧ el t.heap o0 (dI 7 13) = some (.int a1)) (gA G H0.size)) 0 0 (gA G H0.size) := by
  refine Met.ofW (cc := cX4_readAll) (maxL := 4) (ret := (some .boolean)) (by decide) rfl ?_
  intro p e s m args below meth c s₁ B hml hv
  obtain ⟨rfl, hH0, hK, hE⟩ := hv
  have hx := B.exec
  have hb := B.bytes
  have hr := B.returns
  have hts := atoms_spec (ws := w_c_readAll2) B.pre
  have hown : s.vm.findClass RX4 = some m.cls := findClass_of_methodNamed B.named
  have hlocks := B.notSynchronized
  subst hH0
  generalize hAe : gA G s.heap.size = A at hE ⊢
  have hA : ∀ q : Nat, s.heap.size ≤ q → A q := fun q h => by rw [← hAe]; exact Or.inr h
  have hG := gA_of hAe
  have hS : va_S A s.heap s.heap [] := va_S.rf
  have hF : gF (dC, dI) SKc G ([(7, 12), (7, 13), (49, 0)] : List (Nat × Nat)) s.heap s.heap := gF.rf
  have hl := lv_entry ([.ref o0, .int 2]) (n := 4) (Nat.le_of_ble_eq_true rfl)
  rw [lg_entry_eq]
  generalize (lg_sl ([.ref o0, .int 2]) ++ List.replicate (4 - (lg_sl ([.ref o0, .int 2])).length) Slot.unset).toArray = ls at hl ⊢
  have hl : lv_has ls 4 [(0, .ref o0), (1, .int 2)] := hl
  refine lv_aload_n hx hb dX4_readAll_0 rfl (lv_at hl 0 rfl) ?_
  refine lv_iload_n hx hb dX4_readAll_1 rfl (lv_at hl 1 rfl) ?_
  have hFc := gA_free hG hA hS
  refine va_calli (va_runV (As := [.int 2]) (rest := []) ⟨hx, hb, hml, hown, hts⟩ (c_readAtom2 l dC dI kA adK adV G s.heap nC nS o0 th a0 vT tv ix_tv ix_tv K X pS hT hr_o0 hm_th hr_th hm_a0 (by have q8 := ti_all ix_tv; omega) (by have q8 := ti_all a0; omega) (by have := (show a0.toInt = a0.toInt from rfl); have := (show ix_tv.toInt = ix_tv.toInt from rfl); omega) (fun m hm => hKK m (Nat.le_trans hm (Nat.le_of_eq (tn_same hx_tv rfl rfl)))) (fun m hm => hXX m (Nat.lt_of_lt_of_eq hm (tn_same hx_tv rfl rfl))) hc_vT (by have q9 := (show ix_tv.toInt = ix_tv.toInt from rfl); have := (show ix_tv.toInt = ix_tv.toInt from rfl); omega) hm_tv (by have q8 := ti_all tv; omega) (by omega) (by omega)) (cwV 1 hts (goodIn_app (goodIn_r _ [29, 30, 31, 15] rfl (by decide +kernel)) (goodIn_ca (goodIn_r _ [1, 2, 3, 4, 5, 1, 6, 7, 8, 9, 10, 11, 12, 13, 14, 15, 16, 17, 18, 19, 20, 21, 22, 23, 24, 25, 26, 27, 28, 29, 30, 31, 32, 33, 34, 35, 36, 37] rfl (by decide +kernel)) (bs2_in _ _))) rfl rfl rfl (by decide +kernel) ⟨(Nat.le_of_ble_eq_true rfl), (Nat.le_of_ble_eq_true rfl)⟩) ⟨fun a U g mk q => by obtain ⟨q0, q1, qK, qE⟩ := q; exact ⟨q0, q1, va_K.moved (u := U) (U := U.calling g mk a) (Vm.Alike.refl U.vm) qK, EVC.blind g mk a qE⟩, gH_rc hK hT hr_o0 shc_7 rfl, fun U hU hW => ⟨rfl, hU, va_K.moved hW.alike hK, hE.call hS hFc hU hW⟩⟩ rfl rfl hl.1 rfl (lv_room (Nat.le_of_ble_eq_true rfl)) dX4_readAll_2 ⟨(Nat.le_of_ble_eq_true rfl), (Nat.le_of_ble_eq_true rfl)⟩) hS (fun q _ h => hFc q h) hFc (fun r1 u t H locs ht hvm hw2 hB _ _ hS => ?_)
  obtain ⟨u3, rfl⟩ : ∃ z, z = u := ⟨_, rfl⟩
  obtain ⟨hT, hF1, m4⟩ := hB
  rw [ht] at hT hF1 m4
  have m5 := (hF1.fld hr_o0 skc_7 (k := 0) (by decide) (by decide)).trans hm_th
  have m7 := hc_vT.kept (hF1.arr hr_th skc_40 (by decide))
  have m8 := (el_kept (hF1.arr hr_th skc_40 (by decide))).trans hm_tv
  have hF := hF.more hF1 (by decide)
  try dsimp only at hw2
  obtain ⟨h9, h10, hf11, hf12⟩ := hw2
  refine lv_istore_n (lv' := [(2, .int r1), (0, .ref o0), (1, .int 2)]) hx hb dX4_readAll_5 rfl hl (by decide) rfl (fun ls hl => ?_)
  refine lv_iconst (v := 0) hx hb dX4_readAll_6 (by decide) ?_
  refine lv_istore_n (lv' := [(3, .int 0), (2, .int r1), (0, .ref o0), (1, .int 2)]) hx hb dX4_readAll_7 rfl hl (by decide) rfl (fun ls hl => ?_)
  have key63 : ∀ (n63 i13 : Nat), i13 + n63 = 400 → 0 ≤ i13 → ∀ (z14 : Int32), ∀ (z19 : Int32), ((0 ≤ z14.toInt ∧ z14.toInt ≤ 1) ∧ (0 ≤ z19.toInt ∧ z19.toInt ≤ 400) ∧ (a0.toInt ≤ z19.toInt ∧ z19.toInt ≤ tn.toInt) ∧ (((z14.toInt = 1 ∧ ∀ (r : Int) (f : Nat), lpQ K X (aR K X 4) 14 (pS z19.toNatClampNeg) r f → lpR K X (aR K X 4) 14 (pS a0.toNatClampNeg) r f) ∨ (z14.toInt = 0 ∧ lpR K X (aR K X 4) 14 (pS a0.toNatClampNeg) 0 (pS z19.toNatClampNeg))) ∧ ((i13 : Nat) : Int) ≤ z19.toInt)) → ∀ (H : Heap) (locs : List Loc), gH (dC, dI) kA (SHc nC nS) G H → gF (dC, dI) SKc G ([(7, 12), (7, 13), (49, 0)] : List (Nat × Nat)) s.heap H → va_S A s.heap H locs → ct H th 401 vT → el H o0 (dI 7 0) = some (.ref th) → el H th ix_tv.toNatClampNeg = some (.int tv) → el H o0 (dI 7 13) = some (.int z19) → ∀ ls : Array Slot, lv_has ls 4 [(3, .int (nI i13)), (2, .int z14), (0, .ref o0), (1, .int 2)] → W p l e (headSpec w_c_readAll2 ({ frames := 17, cells := 0, slots := 0, locals := 385 })).room s m #[.ref o0, .int 2] below meth c H locs 0 0 (MQ below (va_Qi (fun (r : Int32) (u : Int32) => (0 ≤ u.toInt ∧ u.toInt ≤ 400) ∧ (0 ≤ r.toInt ∧ r.toInt ≤ 1) ∧ (a0.toInt ≤ u.toInt ∧ u.toInt ≤ tn.toInt) ∧ (lpR K X (aR K X 4) 14 (pS a0.toNatClampNeg) r.toInt (pS u.toNatClampNeg))) (fun (a1 : Int32) (t : State) => gH (dC, dI) kA (SHc nC nS) G t.heap ∧ gF (dC, dI) SKc G ([(7, 12), (7, 13), (49, 0)] : List (Nat × Nat)) s.heap t.heap ∧ el t.heap o0 (dI 7 13) = some (.int a1)) A) #[.ref o0, .int 2] s 0 0 A) (F0 m 8 ls []) := by
    intro n63
    induction n63 with
    | zero =>
      intro i13 hn63 hlo64 z14 z19 ⟨h15, h20, hj22, hj23⟩ H locs hT hF hS m16 m17 m18 m21 ls hl
      obtain rfl : 400 = i13 := by omega
      refine lv_iload_n hx hb dX4_readAll_8 rfl (lv_at hl 0 rfl) ?_
      refine lv_sipush (v := 400) hx hb dX4_readAll_9 (by decide) ?_
      refine lv_icmp_ge (tgt := 46) hx hb dX4_readAll_12 (by decide) (fun c65 => ?_) (fun c65 => (by exfalso; have q9 : ((400 : Nat) : Int) < 400 := ti_nle c65 (by decide) (nI_toInt (by omega)); omega))
      have t66 : 400 ≤ ((400 : Nat) : Int) := ti_le c65 (by decide) (nI_toInt (by omega))
      refine lv_iload_n hx hb dX4_readAll_46 rfl (lv_at hl 1 rfl) ?_
      exact W.zret (v := z14) hx hb hr (nar_b (by have q8 := ti_all z14; omega)) (fun t ht hW => ⟨⟨z14, z19, rfl, (by exact ⟨(by have q8 := ti_all z19; omega), (by have q8 := ti_all z14; omega), (by omega), (by rcases hj23.1 with ⟨h8, l9⟩ | ⟨h8, l9⟩; (rw [h8]; exact lp_e l9 (fun h7 => by have := tn_of (show z19.toInt = z19.toInt from rfl) (by omega); have := tn_of (show tn.toInt = tn.toInt from rfl) (by omega); have k9 := hKK tn.toNatClampNeg (Nat.le_refl _); have e9 := hc_vT.at hm_tv (by have q9 := tn_of hx_tv (by omega); omega); have k8 : (vT tn.toNatClampNeg).toInt = 21 := (by have q8 := congrArg Int32.toInt e9; rw [show ix_tv.toNatClampNeg = tn.toNatClampNeg from tn_same hx_tv rfl rfl] at q8; omega); rw [show z19.toNatClampNeg = tn.toNatClampNeg from by omega] at h7; omega)); rw [h8]; exact l9)⟩), by (try dsimp only); rw [ht]; exact ⟨hT, hF, m21⟩⟩, hS.F ht⟩) hS.2.2 dX4_readAll_47
    | succ n63 ih63 =>
      intro i13 hn63 hlo64 z14 z19 ⟨h15, h20, hj22, hj23⟩ H locs hT hF hS m16 m17 m18 m21 ls hl
      have hlt66 : i13 < 400 := by omega
      refine lv_iload_n hx hb dX4_readAll_8 rfl (lv_at hl 0 rfl) ?_
      refine lv_sipush (v := 400) hx hb dX4_readAll_9 (by decide) ?_
      refine lv_icmp_ge (tgt := 46) hx hb dX4_readAll_12 (by decide) (fun c67 => (by exfalso; have q9 : 400 ≤ ((i13 : Nat) : Int) := ti_le c67 (by decide) (nI_toInt (by omega)); omega)) (fun c67 => ?_)
      have t68 : ((i13 : Nat) : Int) < 400 := ti_nle c67 (by decide) (nI_toInt (by omega))
      refine lv_iload_n hx hb dX4_readAll_15 rfl (lv_at hl 1 rfl) ?_
      refine lv_if_eq (tgt := 46) hx hb dX4_readAll_16 (by decide) (fun c69 => ?_) (fun c69 => ?_)
      · have t70 : z14.toInt = 0 := ti_eq c69 rfl (by decide)
        refine lv_iload_n hx hb dX4_readAll_46 rfl (lv_at hl 1 rfl) ?_
        exact W.zret (v := z14) hx hb hr (nar_b (by have q8 := ti_all z14; omega)) (fun t ht hW => ⟨⟨z14, z19, rfl, (by exact ⟨(by have q8 := ti_all z19; omega), (by have q8 := ti_all z14; omega), (by omega), (by rcases hj23.1 with ⟨h8, l9⟩ | ⟨h8, l9⟩; (rw [h8]; exact lp_e l9 (fun h7 => by have := tn_of (show z19.toInt = z19.toInt from rfl) (by omega); have := tn_of (show tn.toInt = tn.toInt from rfl) (by omega); have k9 := hKK tn.toNatClampNeg (Nat.le_refl _); have e9 := hc_vT.at hm_tv (by have q9 := tn_of hx_tv (by omega); omega); have k8 : (vT tn.toNatClampNeg).toInt = 21 := (by have q8 := congrArg Int32.toInt e9; rw [show ix_tv.toNatClampNeg = tn.toNatClampNeg from tn_same hx_tv rfl rfl] at q8; omega); rw [show z19.toNatClampNeg = tn.toNatClampNeg from by omega] at h7; omega)); rw [h8]; exact l9)⟩), by (try dsimp only); rw [ht]; exact ⟨hT, hF, m21⟩⟩, hS.F ht⟩) hS.2.2 dX4_readAll_47
      · have t71 : z14.toInt ≠ 0 := ti_ne c69 rfl (by decide)
        refine lv_aload_n hx hb dX4_readAll_19 rfl (lv_at hl 2 rfl) ?_
        refine lv_bipush (v := 14) hx hb dX4_readAll_20 (by decide) ?_
        have hFc := gA_free hG hA hS
        refine va_calli (va_runV (As := [.int 14]) (rest := []) ⟨hx, hb, hml, hown, hts⟩ (c_take l dC dI kA adK adV G H nC nS o0 14 th z19 vT tv ix_tv ix_tv K X pS hT hr_o0 m17 hr_th m21 (by have q8 := ti_all ix_tv; omega) (by have q8 := ti_all z19; omega) (by have := (show z19.toInt = z19.toInt from rfl); have := (show ix_tv.toInt = ix_tv.toInt from rfl); omega) (by have := (show (14 : Int32).toInt = 14 from (by decide)); omega) (fun m hm => hKK m (Nat.le_trans hm (Nat.le_of_eq (tn_same hx_tv rfl rfl)))) (fun m hm => hXX m (Nat.lt_of_lt_of_eq hm (tn_same hx_tv rfl rfl))) m16 (by have q9 := (show ix_tv.toInt = ix_tv.toInt from rfl); have := (show ix_tv.toInt = ix_tv.toInt from rfl); omega) m18 (by have q8 := ti_all tv; omega) (by omega) (by omega)) (cwV 1 hts (goodIn_app (goodIn_r _ [20, 21, 22, 15] rfl (by decide +kernel)) (goodIn_ca (goodIn_r _ [19, 2, 3] rfl (by decide +kernel)) (bs2_in _ _))) rfl rfl rfl (by decide +kernel) ⟨(Nat.le_of_ble_eq_true rfl), (Nat.le_of_ble_eq_true rfl)⟩) ⟨fun a U g mk q => by obtain ⟨q0, q1, qK, qE⟩ := q; exact ⟨q0, q1, va_K.moved (u := U) (U := U.calling g mk a) (Vm.Alike.refl U.vm) qK, EVC.blind g mk a qE⟩, gH_rc hK hT hr_o0 shc_7 rfl, fun U hU hW => ⟨rfl, hU, va_K.moved hW.alike hK, hE.call hS hFc hU hW⟩⟩ rfl rfl hl.1 rfl (lv_room (Nat.le_of_ble_eq_true rfl)) dX4_readAll_22 ⟨(Nat.le_of_ble_eq_true rfl), (Nat.le_of_ble_eq_true rfl)⟩) hS (fun q _ h => hFc q h) hFc (fun r72 u t H locs ht hvm hw73 hB _ _ hS => ?_)
        obtain ⟨u74, rfl⟩ : ∃ z, z = u := ⟨_, rfl⟩
        obtain ⟨hT, hF1, m75⟩ := hB
        rw [ht] at hT hF1 m75
        have m76 := m16.kept (hF1.arr hr_th skc_40 (by decide))
        have m77 := (hF1.fld hr_o0 skc_7 (k := 0) (by decide) (by decide)).trans m17
        have m78 := (el_kept (hF1.arr hr_th skc_40 (by decide))).trans m18
        have hF := hF.more hF1 (by decide)
        try dsimp only at hw73
        obtain ⟨h80, h81, hf82, hf83, hf84⟩ := hw73
        refine lv_if_eq (tgt := 46) hx hb dX4_readAll_25 (by decide) (fun c85 => ?_) (fun c85 => ?_)
        · have t86 : r72.toInt = 0 := ti_eq c85 rfl (by decide)
          refine lv_iload_n hx hb dX4_readAll_46 rfl (lv_at hl 1 rfl) ?_
          exact W.zret (v := z14) hx hb hr (nar_b (by have q8 := ti_all z14; omega)) (fun t ht hW => ⟨⟨z14, u74, rfl, (by exact ⟨(by have q8 := ti_all u74; omega), (by have q8 := ti_all z14; omega), (by omega), (by have l9 := (hj23.1.resolve_right (fun h8 => by have := h8.1; omega)).2; have a9 := hf83.resolve_left (fun h8 => by have := h8.2.1; omega); rw [show z14.toInt = 1 from by omega, a9.2.2]; exact lp_e l9 (fun h7 => a9.1 (h7.trans (by decide))))⟩), by (try dsimp only); rw [ht]; exact ⟨hT, hF, m75⟩⟩, hS.F ht⟩) hS.2.2 dX4_readAll_47
        · have t87 : r72.toInt ≠ 0 := ti_ne c85 rfl (by decide)
          refine lv_aload_n hx hb dX4_readAll_28 rfl (lv_at hl 2 rfl) ?_
          refine lv_iload_n hx hb dX4_readAll_29 rfl (lv_at hl 3 rfl) ?_
          have hFc := gA_free hG hA hS
          refine va_calli (va_runV (As := [.int 2]) (rest := []) ⟨hx, hb, hml, hown, hts⟩ (c_readAtom2 l dC dI kA adK adV G H nC nS o0 th u74 vT tv ix_tv ix_tv K X pS hT hr_o0 m77 hr_th m75 (by have q8 := ti_all ix_tv; omega) (by have q8 := ti_all u74; omega) (by have := (show u74.toInt = u74.toInt from rfl); have := (show ix_tv.toInt = ix_tv.toInt from rfl); omega) (fun m hm => hKK m (Nat.le_trans hm (Nat.le_of_eq (tn_same hx_tv rfl rfl)))) (fun m hm => hXX m (Nat.lt_of_lt_of_eq hm (tn_same hx_tv rfl rfl))) m76 (by have q9 := (show ix_tv.toInt = ix_tv.toInt from rfl); have := (show ix_tv.toInt = ix_tv.toInt from rfl); omega) m78 (by have q8 := ti_all tv; omega) (by omega) (by omega)) (cwV 1 hts (goodIn_app (goodIn_r _ [29, 30, 31, 15] rfl (by decide +kernel)) (goodIn_ca (goodIn_r _ [1, 2, 3, 4, 5, 1, 6, 7, 8, 9, 10, 11, 12, 13, 14, 15, 16, 17, 18, 19, 20, 21, 22, 23, 24, 25, 26, 27, 28, 29, 30, 31, 32, 33, 34, 35, 36, 37] rfl (by decide +kernel)) (bs2_in _ _))) rfl rfl rfl (by decide +kernel) ⟨(Nat.le_of_ble_eq_true rfl), (Nat.le_of_ble_eq_true rfl)⟩) ⟨fun a U g mk q => by obtain ⟨q0, q1, qK, qE⟩ := q; exact ⟨q0, q1, va_K.moved (u := U) (U := U.calling g mk a) (Vm.Alike.refl U.vm) qK, EVC.blind g mk a qE⟩, gH_rc hK hT hr_o0 shc_7 rfl, fun U hU hW => ⟨rfl, hU, va_K.moved hW.alike hK, hE.call hS hFc hU hW⟩⟩ rfl rfl hl.1 rfl (lv_room (Nat.le_of_ble_eq_true rfl)) dX4_readAll_30 ⟨(Nat.le_of_ble_eq_true rfl), (Nat.le_of_ble_eq_true rfl)⟩) hS (fun q _ h => hFc q h) hFc (fun r88 u t H locs ht hvm hw89 hB _ _ hS => ?_)
          obtain ⟨u90, rfl⟩ : ∃ z, z = u := ⟨_, rfl⟩
          obtain ⟨hT, hF1, m91⟩ := hB
          rw [ht] at hT hF1 m91
          have m92 := m76.kept (hF1.arr hr_th skc_40 (by decide))
          have m93 := (hF1.fld hr_o0 skc_7 (k := 0) (by decide) (by decide)).trans m77
          have m94 := (el_kept (hF1.arr hr_th skc_40 (by decide))).trans m78
          have hF := hF.more hF1 (by decide)
          try dsimp only at hw89
          obtain ⟨h96, h97, hf98, hf99⟩ := hw89
          refine lv_istore_n (lv' := [(2, .int r88), (3, .int (nI i13)), (0, .ref o0), (1, .int 2)]) hx hb dX4_readAll_33 rfl hl (by decide) rfl (fun ls hl => ?_)
          refine lv_aload_n hx hb dX4_readAll_34 rfl (lv_at hl 2 rfl) ?_
          refine lv_bipush (v := 14) hx hb dX4_readAll_35 (by decide) ?_
          have hFc := gA_free hG hA hS
          refine va_callv (va_runV (As := [.int 14]) (rest := []) ⟨hx, hb, hml, hown, hts⟩ (c_addStep l dC dI kA adK adV G H nC nS o0 14 hT hr_o0 (rg_t (a := 14) (by decide) (by first | decide | omega) (by first | decide | omega)) (by omega) (by omega)) (cwV 1 hts (goodIn_app (goodIn_r _ [12, 13, 14, 15] rfl (by decide +kernel)) (goodIn_ca (goodIn_r _ [9, 10, 11] rfl (by decide +kernel)) (bs2_in _ _))) rfl rfl rfl (by decide +kernel) ⟨(Nat.le_of_ble_eq_true rfl), (Nat.le_of_ble_eq_true rfl)⟩) ⟨fun a U g mk q => by obtain ⟨q0, q1, qK, qE⟩ := q; exact ⟨q0, q1, va_K.moved (u := U) (U := U.calling g mk a) (Vm.Alike.refl U.vm) qK, EVC.blind g mk a qE⟩, gH_rc hK hT hr_o0 shc_7 rfl, fun U hU hW => ⟨rfl, hU, va_K.moved hW.alike hK, hE.call hS hFc hU hW⟩⟩ rfl rfl hl.1 rfl (lv_room (Nat.le_of_ble_eq_true rfl)) dX4_readAll_37 ⟨(Nat.le_of_ble_eq_true rfl), (Nat.le_of_ble_eq_true rfl)⟩) hS (fun q _ h => hFc q h) hFc (fun u t H locs ht hvm hw101 hB _ _ hS => ?_)
          obtain ⟨hT, hF1⟩ := hB
          rw [ht] at hT hF1
          have m102 := m92.kept (hF1.arr hr_th skc_40 (by decide))
          have m103 := (hF1.fld hr_o0 skc_7 (k := 0) (by decide) (by decide)).trans m93
          have m104 := (el_kept (hF1.arr hr_th skc_40 (by decide))).trans m94
          have m105 := (hF1.fld hr_o0 skc_7 (k := 13) (by decide) (by decide)).trans m91
          have hF := hF.more hF1 (by decide)
          try dsimp only at hw101
          refine lv_iinc (v := nI (i13 + 1)) (lv' := [(3, .int (nI (i13 + 1))), (2, .int r88), (0, .ref o0), (1, .int 2)]) hx hb dX4_readAll_40 hl (k := 1) rfl (nI_add i13 1) (by decide) rfl (fun ls hl => ?_)
          refine lv_goto (tgt := 8) hx hb dX4_readAll_43 (by decide) ?_
          exact ih63 (i13 + 1) (by omega) (by omega) r88 u90 ⟨(by have q8 := ti_all r88; omega), (by have q8 := ti_all u90; omega), (by have := hx_tv; have := (show u90.toInt = u90.toInt from rfl); omega), ⟨(by have l9 := (hj23.1.resolve_right (fun h8 => by have := h8.1; omega)).2; have a9 := hf83.resolve_right (fun h8 => by have := h8.2.1; omega); have h9 := hf99; rw [a9.2.2] at h9; rcases (show r88.toInt = 1 ∨ r88.toInt = 0 by omega) with h8 | h8 <;> rw [h8] at h9; (exact Or.inl ⟨h8, lp_s l9 (a9.1.trans (by decide)) h9⟩); exact Or.inr ⟨h8, lp_f l9 (a9.1.trans (by decide)) h9⟩), by omega⟩⟩ _ _ hT hF hS m102 m103 m104 m105 ls (lv_sub hl [0, 1, 2, 3] rfl)
  exact key63 (400 - 0) 0 (by omega) (Nat.le_refl _) r1 u3 ⟨(by have q8 := ti_all r1; omega), (by have q8 := ti_all u3; omega), (by have := hx_tv; have := (show u3.toInt = u3.toInt from rfl); omega), ⟨(by have h9 := hf12; rcases (show r1.toInt = 1 ∨ r1.toInt = 0 by omega) with h8 | h8 <;> rw [h8] at h9; (exact Or.inl ⟨h8, lp_1 h9⟩); exact Or.inr ⟨h8, lp_0 h9⟩), by omega⟩⟩ _ _ hT hF hS m7 m5 m8 m4 ls (lv_sub hl [0, 1, 2, 3] rfl)
def w_c_readAny2 : List Cond := .code yX4_readAny cX4_readAny 4 (some .boolean) :: (HAppend.hAppend (α := List Cond) (β := List Cond) (γ := List Cond) [.code yX4_readAll cX4_readAll 4 (some .boolean), .code yX4_readAtom cX4_readAtom 4 (some .boolean), .fieldLink RX4 11 "SeaLand$Law" "things" "[I", .fieldLink RX4 56 "SeaLand$Law" "at" "I", .code yX4_readAny cX4_readAny 4 (some .boolean), .code yX4_readComparison cX4_readComparison 3 (some .boolean), .code yX4_readSum cX4_readSum 3 (some .boolean), .code yX4_readPart cX4_readPart 2 (some .boolean), .code yX4_addStep cX4_addStep 2 none, .fieldLink RX4 63 "SeaLand$Law" "stepped" "I", .fieldLink RX4 39 "SeaLand$Law" "steps" "[I", .methodLink RX4 179 yX4_addStep, .instanceMethod yX4_addStep, .selects RX4 yX4_addStep yX4_addStep, .initialized RX4, .methodLink RX4 192 yX4_readPart, .instanceMethod yX4_readPart, .selects RX4 yX4_readPart yX4_readPart, .code yX4_take cX4_take 2 (some .boolean), .methodLink RX4 70 yX4_take, .instanceMethod yX4_take, .selects RX4 yX4_take yX4_take, .methodLink RX4 189 yX4_readSum, .instanceMethod yX4_readSum, .selects RX4 yX4_readSum yX4_readSum, .methodLink RX4 186 yX4_readComparison, .instanceMethod yX4_readComparison, .selects RX4 yX4_readComparison yX4_readComparison, .methodLink RX4 183 yX4_readAtom, .instanceMethod yX4_readAtom, .selects RX4 yX4_readAtom yX4_readAtom, .methodLink RX4 176 yX4_readAll, .instanceMethod yX4_readAll, .selects RX4 yX4_readAll yX4_readAll, .methodLink RX4 173 yX4_readAny, .instanceMethod yX4_readAny, .selects RX4 yX4_readAny yX4_readAny] bs2)
set_option maxHeartbeats 4000000 in
set_option maxRecDepth 100000 in
theorem c_readAny2 (l : Launch) (dC : Nat → ClassId) (dI : Nat → Nat → Nat) (kA : Nat → ClassId) (adK adV : Nat → Nat) (G : gT) (H0 : Heap) (nC nS : Int) (o0 : Nat) (th : Nat) (a0 : Int32) (vT : Nat → Int32) (tv ix_tv : Int32) (tn : Int32) (K : Nat → Int) (X pS : Nat → Nat) (hT : gH (dC, dI) kA (SHc nC nS) G H0) (hr_o0 : G o0 = some 7) (hm_th : el H0 o0 (dI 7 0) = some (.ref th)) (hr_th : G th = some 40) (hm_a0 : el H0 o0 (dI 7 13) = some (.int a0)) (hq0 : 0 ≤ tn.toInt ∧ tn.toInt ≤ 400) (hq1 : 0 ≤ a0.toInt ∧ a0.toInt ≤ 400) (hat : a0.toInt ≤ tn.toInt) (hKK : ∀ m : Nat, m ≤ tn.toNatClampNeg → (vT m).toInt = K (pS m)) (hXX : ∀ m : Nat, m < tn.toNatClampNeg → pS (m + 1) = X (pS m)) (hc_vT : ct H0 th 401 vT) (hx_tv : ix_tv.toInt = tn.toInt) (hm_tv : el H0 th ix_tv.toNatClampNeg = some (.int tv)) (hv_tv : 21 ≤ tv.toInt ∧ tv.toInt ≤ 21) (hgC : 0 ≤ nC ∧ nC ≤ 40) (hgS : 0 ≤ nS ∧ nS ≤ 60) : Met l yX4_readAny w_c_readAny2 ({ frames := 18, cells := 0, slots := 0, locals := 408 }) (va_Pc [.ref o0, .int 2] (fun U => U.heap = H0 ∧ va_K (dC, dI) vwCl (tyl kA) U ∧ EVC adK adV (gA G H0.size) U U.heap)) (va_Qi (fun (r : Int32) (u : Int32) => (0 ≤ u.toInt ∧ u.toInt ≤ 400) ∧ (0 ≤ r.toInt ∧ r.toInt ≤ 1) ∧ (a0.toInt ≤ u.toInt ∧ u.toInt ≤ tn.toInt) ∧ (coR K X (aR K X 4) (pS a0.toNatClampNeg) r.toInt (pS u.toNatClampNeg))) (fun (a1 : Int32) (t : State) => gH (dC, dI) kA (SHc nC nS) G t.heap ∧ gF (dC, dI) SKc G ([(7, 12), (7, 13), (49, 0)] : List (Nat × Nat)) H0 t.heap ∧ el t.heap o0 (dI 7 13) = some (.int a1)) (gA G H0.size)) 0 0 (gA G H0.size) := by
  refine Met.ofW (cc := cX4_readAny) (maxL := 4) (ret := (some .boolean)) (by decide) rfl ?_
  intro p e s m args below meth c s₁ B hml hv
  obtain ⟨rfl, hH0, hK, hE⟩ := hv
  have hx := B.exec
  have hb := B.bytes
  have hr := B.returns
  have hts := atoms_spec (ws := w_c_readAny2) B.pre
  have hown : s.vm.findClass RX4 = some m.cls := findClass_of_methodNamed B.named
  have hlocks := B.notSynchronized
  subst hH0
  generalize hAe : gA G s.heap.size = A at hE ⊢
  have hA : ∀ q : Nat, s.heap.size ≤ q → A q := fun q h => by rw [← hAe]; exact Or.inr h
  have hG := gA_of hAe
  have hS : va_S A s.heap s.heap [] := va_S.rf
  have hF : gF (dC, dI) SKc G ([(7, 12), (7, 13), (49, 0)] : List (Nat × Nat)) s.heap s.heap := gF.rf
  have hl := lv_entry ([.ref o0, .int 2]) (n := 4) (Nat.le_of_ble_eq_true rfl)
  rw [lg_entry_eq]
  generalize (lg_sl ([.ref o0, .int 2]) ++ List.replicate (4 - (lg_sl ([.ref o0, .int 2])).length) Slot.unset).toArray = ls at hl ⊢
  have hl : lv_has ls 4 [(0, .ref o0), (1, .int 2)] := hl
  refine lv_aload_n hx hb dX4_readAny_0 rfl (lv_at hl 0 rfl) ?_
  refine lv_iload_n hx hb dX4_readAny_1 rfl (lv_at hl 1 rfl) ?_
  have hFc := gA_free hG hA hS
  refine va_calli (va_runV (As := [.int 2]) (rest := []) ⟨hx, hb, hml, hown, hts⟩ (c_readAll2 l dC dI kA adK adV G s.heap nC nS o0 th a0 vT tv ix_tv ix_tv K X pS hT hr_o0 hm_th hr_th hm_a0 (by have q8 := ti_all ix_tv; omega) (by have q8 := ti_all a0; omega) (by have := (show a0.toInt = a0.toInt from rfl); have := (show ix_tv.toInt = ix_tv.toInt from rfl); omega) (fun m hm => hKK m (Nat.le_trans hm (Nat.le_of_eq (tn_same hx_tv rfl rfl)))) (fun m hm => hXX m (Nat.lt_of_lt_of_eq hm (tn_same hx_tv rfl rfl))) hc_vT (by have q9 := (show ix_tv.toInt = ix_tv.toInt from rfl); have := (show ix_tv.toInt = ix_tv.toInt from rfl); omega) hm_tv (by have q8 := ti_all tv; omega) (by omega) (by omega)) (cwV 1 hts (goodIn_app (goodIn_r _ [32, 33, 34, 15] rfl (by decide +kernel)) (goodIn_ca (goodIn_r _ [1, 2, 3, 4, 5, 1, 6, 7, 8, 9, 10, 11, 12, 13, 14, 15, 16, 17, 18, 19, 20, 21, 22, 23, 24, 25, 26, 27, 28, 29, 30, 31, 32, 33, 34, 35, 36, 37] rfl (by decide +kernel)) (bs2_in _ _))) rfl rfl rfl (by decide +kernel) ⟨(Nat.le_of_ble_eq_true rfl), (Nat.le_of_ble_eq_true rfl)⟩) ⟨fun a U g mk q => by obtain ⟨q0, q1, qK, qE⟩ := q; exact ⟨q0, q1, va_K.moved (u := U) (U := U.calling g mk a) (Vm.Alike.refl U.vm) qK, EVC.blind g mk a qE⟩, gH_rc hK hT hr_o0 shc_7 rfl, fun U hU hW => ⟨rfl, hU, va_K.moved hW.alike hK, hE.call hS hFc hU hW⟩⟩ rfl rfl hl.1 rfl (lv_room (Nat.le_of_ble_eq_true rfl)) dX4_readAny_2 ⟨(Nat.le_of_ble_eq_true rfl), (Nat.le_of_ble_eq_true rfl)⟩) hS (fun q _ h => hFc q h) hFc (fun r1 u t H locs ht hvm hw2 hB _ _ hS => ?_)
  obtain ⟨u3, rfl⟩ : ∃ z, z = u := ⟨_, rfl⟩
  obtain ⟨hT, hF1, m4⟩ := hB
  rw [ht] at hT hF1 m4
  have m5 := (hF1.fld hr_o0 skc_7 (k := 0) (by decide) (by decide)).trans hm_th
  have m7 := hc_vT.kept (hF1.arr hr_th skc_40 (by decide))
  have m8 := (el_kept (hF1.arr hr_th skc_40 (by decide))).trans hm_tv
  have hF := hF.more hF1 (by decide)
  try dsimp only at hw2
  obtain ⟨h9, h10, hf11, hf12⟩ := hw2
  refine lv_istore_n (lv' := [(2, .int r1), (0, .ref o0), (1, .int 2)]) hx hb dX4_readAny_5 rfl hl (by decide) rfl (fun ls hl => ?_)
  refine lv_iconst (v := 0) hx hb dX4_readAny_6 (by decide) ?_
  refine lv_istore_n (lv' := [(3, .int 0), (2, .int r1), (0, .ref o0), (1, .int 2)]) hx hb dX4_readAny_7 rfl hl (by decide) rfl (fun ls hl => ?_)
  have key63 : ∀ (n63 i13 : Nat), i13 + n63 = 400 → 0 ≤ i13 → ∀ (z14 : Int32), ∀ (z19 : Int32), ((0 ≤ z14.toInt ∧ z14.toInt ≤ 1) ∧ (0 ≤ z19.toInt ∧ z19.toInt ≤ 400) ∧ (a0.toInt ≤ z19.toInt ∧ z19.toInt ≤ tn.toInt) ∧ (((z14.toInt = 1 ∧ ∀ (r : Int) (f : Nat), lpQ K X (lpR K X (aR K X 4) 14) 15 (pS z19.toNatClampNeg) r f → coR K X (aR K X 4) (pS a0.toNatClampNeg) r f) ∨ (z14.toInt = 0 ∧ coR K X (aR K X 4) (pS a0.toNatClampNeg) 0 (pS z19.toNatClampNeg))) ∧ ((i13 : Nat) : Int) ≤ z19.toInt)) → ∀ (H : Heap) (locs : List Loc), gH (dC, dI) kA (SHc nC nS) G H → gF (dC, dI) SKc G ([(7, 12), (7, 13), (49, 0)] : List (Nat × Nat)) s.heap H → va_S A s.heap H locs → ct H th 401 vT → el H o0 (dI 7 0) = some (.ref th) → el H th ix_tv.toNatClampNeg = some (.int tv) → el H o0 (dI 7 13) = some (.int z19) → ∀ ls : Array Slot, lv_has ls 4 [(3, .int (nI i13)), (2, .int z14), (0, .ref o0), (1, .int 2)] → W p l e (headSpec w_c_readAny2 ({ frames := 18, cells := 0, slots := 0, locals := 408 })).room s m #[.ref o0, .int 2] below meth c H locs 0 0 (MQ below (va_Qi (fun (r : Int32) (u : Int32) => (0 ≤ u.toInt ∧ u.toInt ≤ 400) ∧ (0 ≤ r.toInt ∧ r.toInt ≤ 1) ∧ (a0.toInt ≤ u.toInt ∧ u.toInt ≤ tn.toInt) ∧ (coR K X (aR K X 4) (pS a0.toNatClampNeg) r.toInt (pS u.toNatClampNeg))) (fun (a1 : Int32) (t : State) => gH (dC, dI) kA (SHc nC nS) G t.heap ∧ gF (dC, dI) SKc G ([(7, 12), (7, 13), (49, 0)] : List (Nat × Nat)) s.heap t.heap ∧ el t.heap o0 (dI 7 13) = some (.int a1)) A) #[.ref o0, .int 2] s 0 0 A) (F0 m 8 ls []) := by
    intro n63
    induction n63 with
    | zero =>
      intro i13 hn63 hlo64 z14 z19 ⟨h15, h20, hj22, hj23⟩ H locs hT hF hS m16 m17 m18 m21 ls hl
      obtain rfl : 400 = i13 := by omega
      refine lv_iload_n hx hb dX4_readAny_8 rfl (lv_at hl 0 rfl) ?_
      refine lv_sipush (v := 400) hx hb dX4_readAny_9 (by decide) ?_
      refine lv_icmp_ge (tgt := 46) hx hb dX4_readAny_12 (by decide) (fun c65 => ?_) (fun c65 => (by exfalso; have q9 : ((400 : Nat) : Int) < 400 := ti_nle c65 (by decide) (nI_toInt (by omega)); omega))
      have t66 : 400 ≤ ((400 : Nat) : Int) := ti_le c65 (by decide) (nI_toInt (by omega))
      refine lv_iload_n hx hb dX4_readAny_46 rfl (lv_at hl 1 rfl) ?_
      exact W.zret (v := z14) hx hb hr (nar_b (by have q8 := ti_all z14; omega)) (fun t ht hW => ⟨⟨z14, z19, rfl, (by exact ⟨(by have q8 := ti_all z19; omega), (by have q8 := ti_all z14; omega), (by omega), (by rcases hj23.1 with ⟨h8, l9⟩ | ⟨h8, l9⟩; (rw [h8]; exact lp_e l9 (fun h7 => by have := tn_of (show z19.toInt = z19.toInt from rfl) (by omega); have := tn_of (show tn.toInt = tn.toInt from rfl) (by omega); have k9 := hKK tn.toNatClampNeg (Nat.le_refl _); have e9 := hc_vT.at hm_tv (by have q9 := tn_of hx_tv (by omega); omega); have k8 : (vT tn.toNatClampNeg).toInt = 21 := (by have q8 := congrArg Int32.toInt e9; rw [show ix_tv.toNatClampNeg = tn.toNatClampNeg from tn_same hx_tv rfl rfl] at q8; omega); rw [show z19.toNatClampNeg = tn.toNatClampNeg from by omega] at h7; omega)); rw [h8]; exact l9)⟩), by (try dsimp only); rw [ht]; exact ⟨hT, hF, m21⟩⟩, hS.F ht⟩) hS.2.2 dX4_readAny_47
    | succ n63 ih63 =>
      intro i13 hn63 hlo64 z14 z19 ⟨h15, h20, hj22, hj23⟩ H locs hT hF hS m16 m17 m18 m21 ls hl
      have hlt66 : i13 < 400 := by omega
      refine lv_iload_n hx hb dX4_readAny_8 rfl (lv_at hl 0 rfl) ?_
      refine lv_sipush (v := 400) hx hb dX4_readAny_9 (by decide) ?_
      refine lv_icmp_ge (tgt := 46) hx hb dX4_readAny_12 (by decide) (fun c67 => (by exfalso; have q9 : 400 ≤ ((i13 : Nat) : Int) := ti_le c67 (by decide) (nI_toInt (by omega)); omega)) (fun c67 => ?_)
      have t68 : ((i13 : Nat) : Int) < 400 := ti_nle c67 (by decide) (nI_toInt (by omega))
      refine lv_iload_n hx hb dX4_readAny_15 rfl (lv_at hl 1 rfl) ?_
      refine lv_if_eq (tgt := 46) hx hb dX4_readAny_16 (by decide) (fun c69 => ?_) (fun c69 => ?_)
      · have t70 : z14.toInt = 0 := ti_eq c69 rfl (by decide)
        refine lv_iload_n hx hb dX4_readAny_46 rfl (lv_at hl 1 rfl) ?_
        exact W.zret (v := z14) hx hb hr (nar_b (by have q8 := ti_all z14; omega)) (fun t ht hW => ⟨⟨z14, z19, rfl, (by exact ⟨(by have q8 := ti_all z19; omega), (by have q8 := ti_all z14; omega), (by omega), (by rcases hj23.1 with ⟨h8, l9⟩ | ⟨h8, l9⟩; (rw [h8]; exact lp_e l9 (fun h7 => by have := tn_of (show z19.toInt = z19.toInt from rfl) (by omega); have := tn_of (show tn.toInt = tn.toInt from rfl) (by omega); have k9 := hKK tn.toNatClampNeg (Nat.le_refl _); have e9 := hc_vT.at hm_tv (by have q9 := tn_of hx_tv (by omega); omega); have k8 : (vT tn.toNatClampNeg).toInt = 21 := (by have q8 := congrArg Int32.toInt e9; rw [show ix_tv.toNatClampNeg = tn.toNatClampNeg from tn_same hx_tv rfl rfl] at q8; omega); rw [show z19.toNatClampNeg = tn.toNatClampNeg from by omega] at h7; omega)); rw [h8]; exact l9)⟩), by (try dsimp only); rw [ht]; exact ⟨hT, hF, m21⟩⟩, hS.F ht⟩) hS.2.2 dX4_readAny_47
      · have t71 : z14.toInt ≠ 0 := ti_ne c69 rfl (by decide)
        refine lv_aload_n hx hb dX4_readAny_19 rfl (lv_at hl 2 rfl) ?_
        refine lv_bipush (v := 15) hx hb dX4_readAny_20 (by decide) ?_
        have hFc := gA_free hG hA hS
        refine va_calli (va_runV (As := [.int 15]) (rest := []) ⟨hx, hb, hml, hown, hts⟩ (c_take l dC dI kA adK adV G H nC nS o0 15 th z19 vT tv ix_tv ix_tv K X pS hT hr_o0 m17 hr_th m21 (by have q8 := ti_all ix_tv; omega) (by have q8 := ti_all z19; omega) (by have := (show z19.toInt = z19.toInt from rfl); have := (show ix_tv.toInt = ix_tv.toInt from rfl); omega) (by have := (show (15 : Int32).toInt = 15 from (by decide)); omega) (fun m hm => hKK m (Nat.le_trans hm (Nat.le_of_eq (tn_same hx_tv rfl rfl)))) (fun m hm => hXX m (Nat.lt_of_lt_of_eq hm (tn_same hx_tv rfl rfl))) m16 (by have q9 := (show ix_tv.toInt = ix_tv.toInt from rfl); have := (show ix_tv.toInt = ix_tv.toInt from rfl); omega) m18 (by have q8 := ti_all tv; omega) (by omega) (by omega)) (cwV 1 hts (goodIn_app (goodIn_r _ [20, 21, 22, 15] rfl (by decide +kernel)) (goodIn_ca (goodIn_r _ [19, 3, 4] rfl (by decide +kernel)) (bs2_in _ _))) rfl rfl rfl (by decide +kernel) ⟨(Nat.le_of_ble_eq_true rfl), (Nat.le_of_ble_eq_true rfl)⟩) ⟨fun a U g mk q => by obtain ⟨q0, q1, qK, qE⟩ := q; exact ⟨q0, q1, va_K.moved (u := U) (U := U.calling g mk a) (Vm.Alike.refl U.vm) qK, EVC.blind g mk a qE⟩, gH_rc hK hT hr_o0 shc_7 rfl, fun U hU hW => ⟨rfl, hU, va_K.moved hW.alike hK, hE.call hS hFc hU hW⟩⟩ rfl rfl hl.1 rfl (lv_room (Nat.le_of_ble_eq_true rfl)) dX4_readAny_22 ⟨(Nat.le_of_ble_eq_true rfl), (Nat.le_of_ble_eq_true rfl)⟩) hS (fun q _ h => hFc q h) hFc (fun r72 u t H locs ht hvm hw73 hB _ _ hS => ?_)
        obtain ⟨u74, rfl⟩ : ∃ z, z = u := ⟨_, rfl⟩
        obtain ⟨hT, hF1, m75⟩ := hB
        rw [ht] at hT hF1 m75
        have m76 := m16.kept (hF1.arr hr_th skc_40 (by decide))
        have m77 := (hF1.fld hr_o0 skc_7 (k := 0) (by decide) (by decide)).trans m17
        have m78 := (el_kept (hF1.arr hr_th skc_40 (by decide))).trans m18
        have hF := hF.more hF1 (by decide)
        try dsimp only at hw73
        obtain ⟨h80, h81, hf82, hf83, hf84⟩ := hw73
        refine lv_if_eq (tgt := 46) hx hb dX4_readAny_25 (by decide) (fun c85 => ?_) (fun c85 => ?_)
        · have t86 : r72.toInt = 0 := ti_eq c85 rfl (by decide)
          refine lv_iload_n hx hb dX4_readAny_46 rfl (lv_at hl 1 rfl) ?_
          exact W.zret (v := z14) hx hb hr (nar_b (by have q8 := ti_all z14; omega)) (fun t ht hW => ⟨⟨z14, u74, rfl, (by exact ⟨(by have q8 := ti_all u74; omega), (by have q8 := ti_all z14; omega), (by omega), (by have l9 := (hj23.1.resolve_right (fun h8 => by have := h8.1; omega)).2; have a9 := hf83.resolve_left (fun h8 => by have := h8.2.1; omega); rw [show z14.toInt = 1 from by omega, a9.2.2]; exact lp_e l9 (fun h7 => a9.1 (h7.trans (by decide))))⟩), by (try dsimp only); rw [ht]; exact ⟨hT, hF, m75⟩⟩, hS.F ht⟩) hS.2.2 dX4_readAny_47
        · have t87 : r72.toInt ≠ 0 := ti_ne c85 rfl (by decide)
          refine lv_aload_n hx hb dX4_readAny_28 rfl (lv_at hl 2 rfl) ?_
          refine lv_iload_n hx hb dX4_readAny_29 rfl (lv_at hl 3 rfl) ?_
          have hFc := gA_free hG hA hS
          refine va_calli (va_runV (As := [.int 2]) (rest := []) ⟨hx, hb, hml, hown, hts⟩ (c_readAll2 l dC dI kA adK adV G H nC nS o0 th u74 vT tv ix_tv ix_tv K X pS hT hr_o0 m77 hr_th m75 (by have q8 := ti_all ix_tv; omega) (by have q8 := ti_all u74; omega) (by have := (show u74.toInt = u74.toInt from rfl); have := (show ix_tv.toInt = ix_tv.toInt from rfl); omega) (fun m hm => hKK m (Nat.le_trans hm (Nat.le_of_eq (tn_same hx_tv rfl rfl)))) (fun m hm => hXX m (Nat.lt_of_lt_of_eq hm (tn_same hx_tv rfl rfl))) m76 (by have q9 := (show ix_tv.toInt = ix_tv.toInt from rfl); have := (show ix_tv.toInt = ix_tv.toInt from rfl); omega) m78 (by have q8 := ti_all tv; omega) (by omega) (by omega)) (cwV 1 hts (goodIn_app (goodIn_r _ [32, 33, 34, 15] rfl (by decide +kernel)) (goodIn_ca (goodIn_r _ [1, 2, 3, 4, 5, 1, 6, 7, 8, 9, 10, 11, 12, 13, 14, 15, 16, 17, 18, 19, 20, 21, 22, 23, 24, 25, 26, 27, 28, 29, 30, 31, 32, 33, 34, 35, 36, 37] rfl (by decide +kernel)) (bs2_in _ _))) rfl rfl rfl (by decide +kernel) ⟨(Nat.le_of_ble_eq_true rfl), (Nat.le_of_ble_eq_true rfl)⟩) ⟨fun a U g mk q => by obtain ⟨q0, q1, qK, qE⟩ := q; exact ⟨q0, q1, va_K.moved (u := U) (U := U.calling g mk a) (Vm.Alike.refl U.vm) qK, EVC.blind g mk a qE⟩, gH_rc hK hT hr_o0 shc_7 rfl, fun U hU hW => ⟨rfl, hU, va_K.moved hW.alike hK, hE.call hS hFc hU hW⟩⟩ rfl rfl hl.1 rfl (lv_room (Nat.le_of_ble_eq_true rfl)) dX4_readAny_30 ⟨(Nat.le_of_ble_eq_true rfl), (Nat.le_of_ble_eq_true rfl)⟩) hS (fun q _ h => hFc q h) hFc (fun r88 u t H locs ht hvm hw89 hB _ _ hS => ?_)
          obtain ⟨u90, rfl⟩ : ∃ z, z = u := ⟨_, rfl⟩
          obtain ⟨hT, hF1, m91⟩ := hB
          rw [ht] at hT hF1 m91
          have m92 := m76.kept (hF1.arr hr_th skc_40 (by decide))
          have m93 := (hF1.fld hr_o0 skc_7 (k := 0) (by decide) (by decide)).trans m77
          have m94 := (el_kept (hF1.arr hr_th skc_40 (by decide))).trans m78
          have hF := hF.more hF1 (by decide)
          try dsimp only at hw89
          obtain ⟨h96, h97, hf98, hf99⟩ := hw89
          refine lv_istore_n (lv' := [(2, .int r88), (3, .int (nI i13)), (0, .ref o0), (1, .int 2)]) hx hb dX4_readAny_33 rfl hl (by decide) rfl (fun ls hl => ?_)
          refine lv_aload_n hx hb dX4_readAny_34 rfl (lv_at hl 2 rfl) ?_
          refine lv_bipush (v := 15) hx hb dX4_readAny_35 (by decide) ?_
          have hFc := gA_free hG hA hS
          refine va_callv (va_runV (As := [.int 15]) (rest := []) ⟨hx, hb, hml, hown, hts⟩ (c_addStep l dC dI kA adK adV G H nC nS o0 15 hT hr_o0 (rg_t (a := 15) (by decide) (by first | decide | omega) (by first | decide | omega)) (by omega) (by omega)) (cwV 1 hts (goodIn_app (goodIn_r _ [12, 13, 14, 15] rfl (by decide +kernel)) (goodIn_ca (goodIn_r _ [9, 10, 11] rfl (by decide +kernel)) (bs2_in _ _))) rfl rfl rfl (by decide +kernel) ⟨(Nat.le_of_ble_eq_true rfl), (Nat.le_of_ble_eq_true rfl)⟩) ⟨fun a U g mk q => by obtain ⟨q0, q1, qK, qE⟩ := q; exact ⟨q0, q1, va_K.moved (u := U) (U := U.calling g mk a) (Vm.Alike.refl U.vm) qK, EVC.blind g mk a qE⟩, gH_rc hK hT hr_o0 shc_7 rfl, fun U hU hW => ⟨rfl, hU, va_K.moved hW.alike hK, hE.call hS hFc hU hW⟩⟩ rfl rfl hl.1 rfl (lv_room (Nat.le_of_ble_eq_true rfl)) dX4_readAny_37 ⟨(Nat.le_of_ble_eq_true rfl), (Nat.le_of_ble_eq_true rfl)⟩) hS (fun q _ h => hFc q h) hFc (fun u t H locs ht hvm hw101 hB _ _ hS => ?_)
          obtain ⟨hT, hF1⟩ := hB
          rw [ht] at hT hF1
          have m102 := m92.kept (hF1.arr hr_th skc_40 (by decide))
          have m103 := (hF1.fld hr_o0 skc_7 (k := 0) (by decide) (by decide)).trans m93
          have m104 := (el_kept (hF1.arr hr_th skc_40 (by decide))).trans m94
          have m105 := (hF1.fld hr_o0 skc_7 (k := 13) (by decide) (by decide)).trans m91
          have hF := hF.more hF1 (by decide)
          try dsimp only at hw101
          refine lv_iinc (v := nI (i13 + 1)) (lv' := [(3, .int (nI (i13 + 1))), (2, .int r88), (0, .ref o0), (1, .int 2)]) hx hb dX4_readAny_40 hl (k := 1) rfl (nI_add i13 1) (by decide) rfl (fun ls hl => ?_)
          refine lv_goto (tgt := 8) hx hb dX4_readAny_43 (by decide) ?_
          exact ih63 (i13 + 1) (by omega) (by omega) r88 u90 ⟨(by have q8 := ti_all r88; omega), (by have q8 := ti_all u90; omega), (by have := hx_tv; have := (show u90.toInt = u90.toInt from rfl); omega), ⟨(by have l9 := (hj23.1.resolve_right (fun h8 => by have := h8.1; omega)).2; have a9 := hf83.resolve_right (fun h8 => by have := h8.2.1; omega); have h9 := hf99; rw [a9.2.2] at h9; rcases (show r88.toInt = 1 ∨ r88.toInt = 0 by omega) with h8 | h8 <;> rw [h8] at h9; (exact Or.inl ⟨h8, lp_s l9 (a9.1.trans (by decide)) h9⟩); exact Or.inr ⟨h8, lp_f l9 (a9.1.trans (by decide)) h9⟩), by omega⟩⟩ _ _ hT hF hS m102 m103 m104 m105 ls (lv_sub hl [0, 1, 2, 3] rfl)
  exact key63 (400 - 0) 0 (by omega) (Nat.le_refl _) r1 u3 ⟨(by have q8 := ti_all r1; omega), (by have q8 := ti_all u3; omega), (by have := hx_tv; have := (show u3.toInt = u3.toInt from rfl); omega), ⟨(by have h9 := hf12; rcases (show r1.toInt = 1 ∨ r1.toInt = 0 by omega) with h8 | h8 <;> rw [h8] at h9; (exact Or.inl ⟨h8, lp_1 h9⟩); exact Or.inr ⟨h8, lp_0 h9⟩), by omega⟩⟩ _ _ hT hF hS m7 m5 m8 m4 ls (lv_sub hl [0, 1, 2, 3] rfl)
def w_c_readAtom1 : List Cond := .code yX4_readAtom cX4_readAtom 4 (some .boolean) :: (HAppend.hAppend (α := List Cond) (β := List Cond) (γ := List Cond) [.fieldLink RX4 11 "SeaLand$Law" "things" "[I", .fieldLink RX4 56 "SeaLand$Law" "at" "I", .code yX4_readAny cX4_readAny 4 (some .boolean), .code yX4_readAll cX4_readAll 4 (some .boolean), .code yX4_readAtom cX4_readAtom 4 (some .boolean), .code yX4_readComparison cX4_readComparison 3 (some .boolean), .code yX4_readSum cX4_readSum 3 (some .boolean), .code yX4_readPart cX4_readPart 2 (some .boolean), .code yX4_addStep cX4_addStep 2 none, .fieldLink RX4 63 "SeaLand$Law" "stepped" "I", .fieldLink RX4 39 "SeaLand$Law" "steps" "[I", .methodLink RX4 179 yX4_addStep, .instanceMethod yX4_addStep, .selects RX4 yX4_addStep yX4_addStep, .initialized RX4, .methodLink RX4 192 yX4_readPart, .instanceMethod yX4_readPart, .selects RX4 yX4_readPart yX4_readPart, .code yX4_take cX4_take 2 (some .boolean), .methodLink RX4 70 yX4_take, .instanceMethod yX4_take, .selects RX4 yX4_take yX4_take, .methodLink RX4 189 yX4_readSum, .instanceMethod yX4_readSum, .selects RX4 yX4_readSum yX4_readSum, .methodLink RX4 186 yX4_readComparison, .instanceMethod yX4_readComparison, .selects RX4 yX4_readComparison yX4_readComparison, .methodLink RX4 183 yX4_readAtom, .instanceMethod yX4_readAtom, .selects RX4 yX4_readAtom yX4_readAtom, .methodLink RX4 176 yX4_readAll, .instanceMethod yX4_readAll, .selects RX4 yX4_readAll yX4_readAll, .methodLink RX4 173 yX4_readAny, .instanceMethod yX4_readAny, .selects RX4 yX4_readAny yX4_readAny] bs2)
set_option maxHeartbeats 4000000 in
set_option maxRecDepth 100000 in
theorem c_readAtom1 (l : Launch) (dC : Nat → ClassId) (dI : Nat → Nat → Nat) (kA : Nat → ClassId) (adK adV : Nat → Nat) (G : gT) (H0 : Heap) (nC nS : Int) (o0 : Nat) (th : Nat) (a0 : Int32) (vT : Nat → Int32) (tv ix_tv : Int32) (tn : Int32) (K : Nat → Int) (X pS : Nat → Nat) (hT : gH (dC, dI) kA (SHc nC nS) G H0) (hr_o0 : G o0 = some 7) (hm_th : el H0 o0 (dI 7 0) = some (.ref th)) (hr_th : G th = some 40) (hm_a0 : el H0 o0 (dI 7 13) = some (.int a0)) (hq0 : 0 ≤ tn.toInt ∧ tn.toInt ≤ 400) (hq1 : 0 ≤ a0.toInt ∧ a0.toInt ≤ 400) (hat : a0.toInt ≤ tn.toInt) (hKK : ∀ m : Nat, m ≤ tn.toNatClampNeg → (vT m).toInt = K (pS m)) (hXX : ∀ m : Nat, m < tn.toNatClampNeg → pS (m + 1) = X (pS m)) (hc_vT : ct H0 th 401 vT) (hx_tv : ix_tv.toInt = tn.toInt) (hm_tv : el H0 th ix_tv.toNatClampNeg = some (.int tv)) (hv_tv : 21 ≤ tv.toInt ∧ tv.toInt ≤ 21) (hgC : 0 ≤ nC ∧ nC ≤ 40) (hgS : 0 ≤ nS ∧ nS ≤ 60) : Met l yX4_readAtom w_c_readAtom1 ({ frames := 19, cells := 0, slots := 0, locals := 431 }) (va_Pc [.ref o0, .int 1] (fun U => U.heap = H0 ∧ va_K (dC, dI) vwCl (tyl kA) U ∧ EVC adK adV (gA G H0.size) U U.heap)) (va_Qi (fun (r : Int32) (u : Int32) => (0 ≤ u.toInt ∧ u.toInt ≤ 400) ∧ (0 ≤ r.toInt ∧ r.toInt ≤ 1) ∧ (a0.toInt ≤ u.toInt ∧ u.toInt ≤ tn.toInt) ∧ (aR K X 5 (pS a0.toNatClampNeg) r.toInt (pS u.toNatClampNeg))) (fun (a1 : Int32) (t : State) => gH (dC, dI) kA (SHc nC nS) G t.heap ∧ gF (dC, dI) SKc G ([(7, 12), (7, 13), (49, 0)] : List (Nat × Nat)) H0 t.heap ∧ el t.heap o0 (dI 7 13) = some (.int a1)) (gA G H0.size)) 0 0 (gA G H0.size) := by
  refine Met.ofW (cc := cX4_readAtom) (maxL := 4) (ret := (some .boolean)) (by decide) rfl ?_
  intro p e s m args below meth c s₁ B hml hv
  obtain ⟨rfl, hH0, hK, hE⟩ := hv
  have hx := B.exec
  have hb := B.bytes
  have hr := B.returns
  have hts := atoms_spec (ws := w_c_readAtom1) B.pre
  have hown : s.vm.findClass RX4 = some m.cls := findClass_of_methodNamed B.named
  have hlocks := B.notSynchronized
  subst hH0
  generalize hAe : gA G s.heap.size = A at hE ⊢
  have hA : ∀ q : Nat, s.heap.size ≤ q → A q := fun q h => by rw [← hAe]; exact Or.inr h
  have hG := gA_of hAe
  have hS : va_S A s.heap s.heap [] := va_S.rf
  have hF : gF (dC, dI) SKc G ([(7, 12), (7, 13), (49, 0)] : List (Nat × Nat)) s.heap s.heap := gF.rf
  have hl := lv_entry ([.ref o0, .int 1]) (n := 4) (Nat.le_of_ble_eq_true rfl)
  rw [lg_entry_eq]
  generalize (lg_sl ([.ref o0, .int 1]) ++ List.replicate (4 - (lg_sl ([.ref o0, .int 1])).length) Slot.unset).toArray = ls at hl ⊢
  have hl : lv_has ls 4 [(0, .ref o0), (1, .int 1)] := hl
  refine lv_aload_n hx hb dX4_readAtom_0 rfl (lv_at hl 0 rfl) ?_
  refine tw_getM (v := .ref th) hx hb hts bF2_X4 hown hK hT hr_o0 shc_7 rfl 0 (by decide) (ht_at2 hts 0 rfl) (fun _ h9 => h9) hm_th dX4_readAtom_1 ?_
  refine lv_aload_n hx hb dX4_readAtom_4 rfl (lv_at hl 0 rfl) ?_
  refine tw_getM (v := .int a0) hx hb hts bF2_X4 hown hK hT hr_o0 shc_7 rfl 13 (by decide) (ht_at2 hts 1 rfl) (fun _ h9 => h9) hm_a0 dX4_readAtom_5 ?_
  refine tw_iald (i := a0) hx hb hK hT hr_th shc_40 rfl (vin_t (a := a0.toInt) rfl (by omega) (by omega)) dX4_readAtom_8 (fun v9 m1 h9 => ?_)
  obtain ⟨x2, rfl, gx2, kx2⟩ := h9
  have cx2 := hc_vT.at m1 (by have q9 := tn_of (show a0.toInt = a0.toInt from rfl) (by omega); omega)
  have t3 : a0.toInt = ix_tv.toInt → x2.toInt = tv.toInt := fun h8 => congrArg Int32.toInt (el_same m1 hm_tv h8)
  have t4 : x2.toInt = K (pS a0.toNatClampNeg) := (congrArg Int32.toInt cx2).trans (hKK _ (by have := tn_of (show a0.toInt = a0.toInt from rfl) (by omega); have := tn_of (show tn.toInt = tn.toInt from rfl) (by omega); omega))
  refine lv_bipush (v := 13) hx hb dX4_readAtom_9 (by decide) ?_
  have t5 : -2147483648 ≤ x2.toInt ∧ x2.toInt ≤ 2147483647 := ti_all x2
  refine lv_icmp_ne (tgt := 18) hx hb dX4_readAtom_11 (by decide) (fun c6 => ?_) (fun c6 => ?_)
  · have t7 : x2.toInt ≠ 13 := ti_ne c6 rfl (by decide)
    refine lv_iconst (v := 0) hx hb dX4_readAtom_18 (by decide) ?_
    refine lv_istore_n (lv' := [(2, .int 0), (0, .ref o0), (1, .int 1)]) hx hb dX4_readAtom_19 rfl hl (by decide) rfl (fun ls hl => ?_)
    refine lv_iload_n hx hb dX4_readAtom_20 rfl (lv_at hl 0 rfl) ?_
    refine lv_if_ne (tgt := 43) hx hb dX4_readAtom_21 (by decide) (fun c8 => absurd c8 (by decide)) (fun c8 => ?_)
    refine lv_aload_n hx hb dX4_readAtom_24 rfl (lv_at hl 1 rfl) ?_
    refine tw_getM (v := .ref th) hx hb hts bF2_X4 hown hK hT hr_o0 shc_7 rfl 0 (by decide) (ht_at2 hts 0 rfl) (fun _ h9 => h9) hm_th dX4_readAtom_25 ?_
    refine lv_aload_n hx hb dX4_readAtom_28 rfl (lv_at hl 1 rfl) ?_
    refine tw_getM (v := .int a0) hx hb hts bF2_X4 hown hK hT hr_o0 shc_7 rfl 13 (by decide) (ht_at2 hts 1 rfl) (fun _ h9 => h9) hm_a0 dX4_readAtom_29 ?_
    refine tw_iald (i := a0) hx hb hK hT hr_th shc_40 rfl (vin_t (a := a0.toInt) rfl (by omega) (by omega)) dX4_readAtom_32 (fun v9 m9 h9 => ?_)
    obtain ⟨x10, rfl, gx10, kx10⟩ := h9
    have cx10 := hc_vT.at m9 (by have q9 := tn_of (show a0.toInt = a0.toInt from rfl) (by omega); omega)
    have t11 : a0.toInt = ix_tv.toInt → x10.toInt = tv.toInt := fun h8 => congrArg Int32.toInt (el_same m9 hm_tv h8)
    obtain rfl : x2 = x10 := (el_same m9 m1 rfl).symm
    refine lv_bipush (v := 16) hx hb dX4_readAtom_33 (by decide) ?_
    refine lv_icmp_eq (tgt := 43) hx hb dX4_readAtom_35 (by decide) (fun c12 => ?_) (fun c12 => ?_)
    · have t13 : x2.toInt = 16 := ti_eq c12 rfl (by decide)
      refine lv_iload_n hx hb dX4_readAtom_43 rfl (lv_at hl 2 rfl) ?_
      refine lv_bipush (v := 6) hx hb dX4_readAtom_44 (by decide) ?_
      refine lv_icmp_lt (tgt := 51) hx hb dX4_readAtom_46 (by decide) (fun c14 => ?_) (fun c14 => absurd c14 (by decide))
      refine lv_aload_n hx hb dX4_readAtom_51 rfl (lv_at hl 1 rfl) ?_
      refine lv_dup hx hb dX4_readAtom_52 rfl ?_
      refine tw_getM (v := .int a0) hx hb hts bF2_X4 hown hK hT hr_o0 shc_7 rfl 13 (by decide) (ht_at2 hts 1 rfl) (fun _ h9 => h9) hm_a0 dX4_readAtom_53 ?_
      refine lv_iconst (v := 1) hx hb dX4_readAtom_56 (by decide) ?_
      refine lv_iadd hx hb dX4_readAtom_57 ?_
      refine lv_topi (fun x15 ex15 => ?_)
      have t16 : x15.toInt = a0.toInt + 1 := ti_add ex15 rfl (by decide) (by omega) (by omega)
      refine tw_put (v := .int x15) (ty := .int) hx hb hts bF2_X4 tyX4 tyX4_ok nmX4 hown hK hT hG hS hr_o0 shc_7 rfl 13 (by decide) (ht_at2 hts 1 rfl) (fun _ h9 => h9) rfl (by decide +kernel) rfl rfl (gl_at rfl (gi_of (show x15.toInt = x15.toInt from rfl) (by omega) (by omega))) dX4_readAtom_58 (fun H locs hT oq m17 oj hS => ?_)
      have hF := hF.put hr_o0 skc_7 oq oj (by decide)
      have m18 := (oj 0 (by decide) (by decide)).trans hm_th
      have m19 := hc_vT.kept (oq _ (gne hr_th hr_o0 (by decide)))
      have m20 := (el_kept (oq _ (gne hr_th hr_o0 (by decide)))).trans hm_tv
      refine lv_iload_n hx hb dX4_readAtom_61 rfl (lv_at hl 0 rfl) ?_
      refine lv_if_eq (tgt := 81) hx hb dX4_readAtom_62 (by decide) (fun c22 => ?_) (fun c22 => absurd c22 (by decide))
      refine lv_aload_n hx hb dX4_readAtom_81 rfl (lv_at hl 1 rfl) ?_
      refine lv_iload_n hx hb dX4_readAtom_82 rfl (lv_at hl 2 rfl) ?_
      refine lv_iconst (v := 1) hx hb dX4_readAtom_83 (by decide) ?_
      refine lv_iadd hx hb dX4_readAtom_84 ?_
      refine lv_topi (fun x23 ex23 => ?_)
      obtain rfl : x23 = 2 := ex23.trans (by decide)
      have hFc := gA_free hG hA hS
      refine va_calli (va_runV (As := [.int 2]) (rest := []) ⟨hx, hb, hml, hown, hts⟩ (c_readAny2 l dC dI kA adK adV G H nC nS o0 th x15 vT tv ix_tv ix_tv K X pS hT hr_o0 m18 hr_th m17 (by have q8 := ti_all ix_tv; omega) (by have q8 := ti_all x15; omega) (by have := (show x15.toInt = x15.toInt from rfl); have := (show ix_tv.toInt = ix_tv.toInt from rfl); omega) (fun m hm => hKK m (Nat.le_trans hm (Nat.le_of_eq (tn_same hx_tv rfl rfl)))) (fun m hm => hXX m (Nat.lt_of_lt_of_eq hm (tn_same hx_tv rfl rfl))) m19 (by have q9 := (show ix_tv.toInt = ix_tv.toInt from rfl); have := (show ix_tv.toInt = ix_tv.toInt from rfl); omega) m20 (by have q8 := ti_all tv; omega) (by omega) (by omega)) (cwV 1 hts (goodIn_app (goodIn_r _ [35, 36, 37, 15] rfl (by decide +kernel)) (goodIn_ca (goodIn_r _ [3, 4, 5, 1, 2, 3, 6, 7, 8, 9, 10, 11, 12, 13, 14, 15, 16, 17, 18, 19, 20, 21, 22, 23, 24, 25, 26, 27, 28, 29, 30, 31, 32, 33, 34, 35, 36, 37] rfl (by decide +kernel)) (bs2_in _ _))) rfl rfl rfl (by decide +kernel) ⟨(Nat.le_of_ble_eq_true rfl), (Nat.le_of_ble_eq_true rfl)⟩) ⟨fun a U g mk q => by obtain ⟨q0, q1, qK, qE⟩ := q; exact ⟨q0, q1, va_K.moved (u := U) (U := U.calling g mk a) (Vm.Alike.refl U.vm) qK, EVC.blind g mk a qE⟩, gH_rc hK hT hr_o0 shc_7 rfl, fun U hU hW => ⟨rfl, hU, va_K.moved hW.alike hK, hE.call hS hFc hU hW⟩⟩ rfl rfl hl.1 rfl (lv_room (Nat.le_of_ble_eq_true rfl)) dX4_readAtom_85 ⟨(Nat.le_of_ble_eq_true rfl), (Nat.le_of_ble_eq_true rfl)⟩) hS (fun q _ h => hFc q h) hFc (fun r24 u t H locs ht hvm hw25 hB _ _ hS => ?_)
      obtain ⟨u26, rfl⟩ : ∃ z, z = u := ⟨_, rfl⟩
      obtain ⟨hT, hF1, m27⟩ := hB
      rw [ht] at hT hF1 m27
      have m28 := (hF1.fld hr_o0 skc_7 (k := 0) (by decide) (by decide)).trans m18
      have m29 := m19.kept (hF1.arr hr_th skc_40 (by decide))
      have m30 := (el_kept (hF1.arr hr_th skc_40 (by decide))).trans m20
      have hF := hF.more hF1 (by decide)
      try dsimp only at hw25
      obtain ⟨h33, h34, hf35, hf36⟩ := hw25
      refine lv_if_eq (tgt := 104) hx hb dX4_readAtom_88 (by decide) (fun c37 => ?_) (fun c37 => ?_)
      · have t38 : r24.toInt = 0 := ti_eq c37 rfl (by decide)
        refine lv_iconst (v := 0) hx hb dX4_readAtom_104 (by decide) ?_
        exact W.zret (v := 0) hx hb hr (by decide) (fun t ht hW => ⟨⟨0, u26, rfl, (by exact ⟨(by have q8 := ti_all u26; omega), (rg_t (a := 0) (by decide) (by first | decide | omega) (by first | decide | omega)), (by omega), (by have h9 := hf36; rw [(show pS x15.toNatClampNeg = X (pS a0.toNatClampNeg) from by rw [show x15.toNatClampNeg = a0.toNatClampNeg + 1 from by have := tn_of (show a0.toInt = a0.toInt from rfl) (by omega); have := tn_of (show x15.toInt = x15.toInt from rfl) (by omega); omega]; exact hXX _ (by have := tn_of (show a0.toInt = a0.toInt from rfl) (by omega); have := tn_of (show tn.toInt = tn.toInt from rfl) (by omega); omega))] at h9; rw [show r24.toInt = 0 from by omega] at h9; exact Or.inr (Or.inl ⟨by omega, Or.inl ⟨h9, by decide⟩⟩))⟩), by (try dsimp only); rw [ht]; exact ⟨hT, hF, m27⟩⟩, hS.F ht⟩) hS.2.2 dX4_readAtom_105
      · have t39 : r24.toInt ≠ 0 := ti_ne c37 rfl (by decide)
        refine lv_aload_n hx hb dX4_readAtom_91 rfl (lv_at hl 1 rfl) ?_
        refine lv_bipush (v := 17) hx hb dX4_readAtom_92 (by decide) ?_
        have hFc := gA_free hG hA hS
        refine va_calli (va_runV (As := [.int 17]) (rest := []) ⟨hx, hb, hml, hown, hts⟩ (c_take l dC dI kA adK adV G H nC nS o0 17 th u26 vT tv ix_tv ix_tv K X pS hT hr_o0 m28 hr_th m27 (by have q8 := ti_all ix_tv; omega) (by have q8 := ti_all u26; omega) (by have := (show u26.toInt = u26.toInt from rfl); have := (show ix_tv.toInt = ix_tv.toInt from rfl); omega) (by have := (show (17 : Int32).toInt = 17 from (by decide)); omega) (fun m hm => hKK m (Nat.le_trans hm (Nat.le_of_eq (tn_same hx_tv rfl rfl)))) (fun m hm => hXX m (Nat.lt_of_lt_of_eq hm (tn_same hx_tv rfl rfl))) m29 (by have q9 := (show ix_tv.toInt = ix_tv.toInt from rfl); have := (show ix_tv.toInt = ix_tv.toInt from rfl); omega) m30 (by have q8 := ti_all tv; omega) (by omega) (by omega)) (cwV 1 hts (goodIn_app (goodIn_r _ [20, 21, 22, 15] rfl (by decide +kernel)) (goodIn_ca (goodIn_r _ [19, 1, 2] rfl (by decide +kernel)) (bs2_in _ _))) rfl rfl rfl (by decide +kernel) ⟨(Nat.le_of_ble_eq_true rfl), (Nat.le_of_ble_eq_true rfl)⟩) ⟨fun a U g mk q => by obtain ⟨q0, q1, qK, qE⟩ := q; exact ⟨q0, q1, va_K.moved (u := U) (U := U.calling g mk a) (Vm.Alike.refl U.vm) qK, EVC.blind g mk a qE⟩, gH_rc hK hT hr_o0 shc_7 rfl, fun U hU hW => ⟨rfl, hU, va_K.moved hW.alike hK, hE.call hS hFc hU hW⟩⟩ rfl rfl hl.1 rfl (lv_room (Nat.le_of_ble_eq_true rfl)) dX4_readAtom_94 ⟨(Nat.le_of_ble_eq_true rfl), (Nat.le_of_ble_eq_true rfl)⟩) hS (fun q _ h => hFc q h) hFc (fun r40 u t H locs ht hvm hw41 hB _ _ hS => ?_)
        obtain ⟨u42, rfl⟩ : ∃ z, z = u := ⟨_, rfl⟩
        obtain ⟨hT, hF1, m43⟩ := hB
        rw [ht] at hT hF1 m43
        have hF := hF.more hF1 (by decide)
        try dsimp only at hw41
        obtain ⟨h49, h50, hf51, hf52, hf53⟩ := hw41
        refine lv_if_eq (tgt := 104) hx hb dX4_readAtom_97 (by decide) (fun c54 => ?_) (fun c54 => ?_)
        · have t55 : r40.toInt = 0 := ti_eq c54 rfl (by decide)
          refine lv_iconst (v := 0) hx hb dX4_readAtom_104 (by decide) ?_
          exact W.zret (v := 0) hx hb hr (by decide) (fun t ht hW => ⟨⟨0, u42, rfl, (by exact ⟨(by have q8 := ti_all u42; omega), (rg_t (a := 0) (by decide) (by first | decide | omega) (by first | decide | omega)), (by omega), (by have h9 := hf36; rw [(show pS x15.toNatClampNeg = X (pS a0.toNatClampNeg) from by rw [show x15.toNatClampNeg = a0.toNatClampNeg + 1 from by have := tn_of (show a0.toInt = a0.toInt from rfl) (by omega); have := tn_of (show x15.toInt = x15.toInt from rfl) (by omega); omega]; exact hXX _ (by have := tn_of (show a0.toInt = a0.toInt from rfl) (by omega); have := tn_of (show tn.toInt = tn.toInt from rfl) (by omega); omega))] at h9; rw [show r24.toInt = 1 from by omega] at h9; have t9 := hf52; exact Or.inr (Or.inl ⟨by omega, Or.inr ⟨_, h9, (by have q0 : (0 : Int32).toInt = 0 := (by decide); have q1 : (1 : Int32).toInt = 1 := (by decide); rcases t9 with ⟨x1, x2, x3⟩ | ⟨x1, x2, x3⟩; (exact Or.inl ⟨x1.trans (by decide), by omega, x3⟩); exact Or.inr ⟨fun h7 => x1 (h7.trans (by decide)), by omega, x3⟩)⟩⟩))⟩), by (try dsimp only); rw [ht]; exact ⟨hT, hF, m43⟩⟩, hS.F ht⟩) hS.2.2 dX4_readAtom_105
        · have t56 : r40.toInt ≠ 0 := ti_ne c54 rfl (by decide)
          refine lv_iconst (v := 1) hx hb dX4_readAtom_100 (by decide) ?_
          refine lv_goto (tgt := 105) hx hb dX4_readAtom_101 (by decide) ?_
          exact W.zret (v := 1) hx hb hr (by decide) (fun t ht hW => ⟨⟨1, u42, rfl, (by exact ⟨(by have q8 := ti_all u42; omega), (rg_t (a := 1) (by decide) (by first | decide | omega) (by first | decide | omega)), (by omega), (by have h9 := hf36; rw [(show pS x15.toNatClampNeg = X (pS a0.toNatClampNeg) from by rw [show x15.toNatClampNeg = a0.toNatClampNeg + 1 from by have := tn_of (show a0.toInt = a0.toInt from rfl) (by omega); have := tn_of (show x15.toInt = x15.toInt from rfl) (by omega); omega]; exact hXX _ (by have := tn_of (show a0.toInt = a0.toInt from rfl) (by omega); have := tn_of (show tn.toInt = tn.toInt from rfl) (by omega); omega))] at h9; rw [show r24.toInt = 1 from by omega] at h9; have t9 := hf52; exact Or.inr (Or.inl ⟨by omega, Or.inr ⟨_, h9, (by have q0 : (0 : Int32).toInt = 0 := (by decide); have q1 : (1 : Int32).toInt = 1 := (by decide); rcases t9 with ⟨x1, x2, x3⟩ | ⟨x1, x2, x3⟩; (exact Or.inl ⟨x1.trans (by decide), by omega, x3⟩); exact Or.inr ⟨fun h7 => x1 (h7.trans (by decide)), by omega, x3⟩)⟩⟩))⟩), by (try dsimp only); rw [ht]; exact ⟨hT, hF, m43⟩⟩, hS.F ht⟩) hS.2.2 dX4_readAtom_105
    · have t57 : x2.toInt ≠ 16 := ti_ne c12 rfl (by decide)
      refine lv_aload_n hx hb dX4_readAtom_38 rfl (lv_at hl 1 rfl) ?_
      have hFc := gA_free hG hA hS
      refine va_calli (va_runV (As := []) (rest := []) ⟨hx, hb, hml, hown, hts⟩ (c_readComparison l dC dI kA adK adV G s.heap nC nS o0 th a0 vT tv ix_tv ix_tv K X pS hT hr_o0 hm_th hr_th hm_a0 (by have q8 := ti_all ix_tv; omega) (by have q8 := ti_all a0; omega) (by have := (show a0.toInt = a0.toInt from rfl); have := (show ix_tv.toInt = ix_tv.toInt from rfl); omega) (fun m hm => hKK m (Nat.le_trans hm (Nat.le_of_eq (tn_same hx_tv rfl rfl)))) (fun m hm => hXX m (Nat.lt_of_lt_of_eq hm (tn_same hx_tv rfl rfl))) hc_vT (by have q9 := (show ix_tv.toInt = ix_tv.toInt from rfl); have := (show ix_tv.toInt = ix_tv.toInt from rfl); omega) hm_tv (by have q8 := ti_all tv; omega) (by omega) (by omega)) (cwV 0 hts (goodIn_app (goodIn_r _ [26, 27, 28, 15] rfl (by decide +kernel)) (goodIn_ca (goodIn_r _ [6, 7, 8, 1, 2, 9, 10, 11, 12, 13, 14, 15, 16, 17, 18, 19, 20, 21, 22, 23, 24, 25] rfl (by decide +kernel)) (bs2_in _ _))) rfl rfl rfl (by decide +kernel) ⟨(Nat.le_of_ble_eq_true rfl), (Nat.le_of_ble_eq_true rfl)⟩) ⟨fun a U g mk q => by obtain ⟨q0, q1, qK, qE⟩ := q; exact ⟨q0, q1, va_K.moved (u := U) (U := U.calling g mk a) (Vm.Alike.refl U.vm) qK, EVC.blind g mk a qE⟩, gH_rc hK hT hr_o0 shc_7 rfl, fun U hU hW => ⟨rfl, hU, va_K.moved hW.alike hK, hE.call hS hFc hU hW⟩⟩ rfl rfl hl.1 rfl (lv_room (Nat.le_of_ble_eq_true rfl)) dX4_readAtom_39 ⟨(Nat.le_of_ble_eq_true rfl), (Nat.le_of_ble_eq_true rfl)⟩) hS (fun q _ h => hFc q h) hFc (fun r58 u t H locs ht hvm hw59 hB _ _ hS => ?_)
      obtain ⟨u60, rfl⟩ : ∃ z, z = u := ⟨_, rfl⟩
      obtain ⟨hT, hF1, m61⟩ := hB
      rw [ht] at hT hF1 m61
      have hF := hF.more hF1 (by decide)
      try dsimp only at hw59
      obtain ⟨h67, h68, hf69, hf70⟩ := hw59
      exact W.zret (v := r58) hx hb hr (nar_b (by have q8 := ti_all r58; omega)) (fun t ht hW => ⟨⟨r58, u60, rfl, (by exact ⟨(by have q8 := ti_all u60; omega), (by have q8 := ti_all r58; omega), (by omega), (Or.inr (Or.inr ⟨by omega, hf70⟩))⟩), by (try dsimp only); rw [ht]; exact ⟨hT, hF, m61⟩⟩, hS.F ht⟩) hS.2.2 dX4_readAtom_42
  · have t71 : x2.toInt = 13 := ti_eq c6 rfl (by decide)
    refine lv_iconst (v := 1) hx hb dX4_readAtom_14 (by decide) ?_
    refine lv_goto (tgt := 19) hx hb dX4_readAtom_15 (by decide) ?_
    refine lv_istore_n (lv' := [(2, .int 1), (0, .ref o0), (1, .int 1)]) hx hb dX4_readAtom_19 rfl hl (by decide) rfl (fun ls hl => ?_)
    refine lv_iload_n hx hb dX4_readAtom_20 rfl (lv_at hl 0 rfl) ?_
    refine lv_if_ne (tgt := 43) hx hb dX4_readAtom_21 (by decide) (fun c72 => ?_) (fun c72 => absurd c72 (by decide))
    refine lv_iload_n hx hb dX4_readAtom_43 rfl (lv_at hl 2 rfl) ?_
    refine lv_bipush (v := 6) hx hb dX4_readAtom_44 (by decide) ?_
    refine lv_icmp_lt (tgt := 51) hx hb dX4_readAtom_46 (by decide) (fun c73 => ?_) (fun c73 => absurd c73 (by decide))
    refine lv_aload_n hx hb dX4_readAtom_51 rfl (lv_at hl 1 rfl) ?_
    refine lv_dup hx hb dX4_readAtom_52 rfl ?_
    refine tw_getM (v := .int a0) hx hb hts bF2_X4 hown hK hT hr_o0 shc_7 rfl 13 (by decide) (ht_at2 hts 1 rfl) (fun _ h9 => h9) hm_a0 dX4_readAtom_53 ?_
    refine lv_iconst (v := 1) hx hb dX4_readAtom_56 (by decide) ?_
    refine lv_iadd hx hb dX4_readAtom_57 ?_
    refine lv_topi (fun x74 ex74 => ?_)
    have t75 : x74.toInt = a0.toInt + 1 := ti_add ex74 rfl (by decide) (by omega) (by omega)
    refine tw_put (v := .int x74) (ty := .int) hx hb hts bF2_X4 tyX4 tyX4_ok nmX4 hown hK hT hG hS hr_o0 shc_7 rfl 13 (by decide) (ht_at2 hts 1 rfl) (fun _ h9 => h9) rfl (by decide +kernel) rfl rfl (gl_at rfl (gi_of (show x74.toInt = x74.toInt from rfl) (by omega) (by omega))) dX4_readAtom_58 (fun H locs hT oq m76 oj hS => ?_)
    have hF := hF.put hr_o0 skc_7 oq oj (by decide)
    have m77 := (oj 0 (by decide) (by decide)).trans hm_th
    have m78 := hc_vT.kept (oq _ (gne hr_th hr_o0 (by decide)))
    have m79 := (el_kept (oq _ (gne hr_th hr_o0 (by decide)))).trans hm_tv
    refine lv_iload_n hx hb dX4_readAtom_61 rfl (lv_at hl 0 rfl) ?_
    refine lv_if_eq (tgt := 81) hx hb dX4_readAtom_62 (by decide) (fun c81 => absurd c81 (by decide)) (fun c81 => ?_)
    refine lv_aload_n hx hb dX4_readAtom_65 rfl (lv_at hl 1 rfl) ?_
    refine lv_iload_n hx hb dX4_readAtom_66 rfl (lv_at hl 2 rfl) ?_
    refine lv_iconst (v := 1) hx hb dX4_readAtom_67 (by decide) ?_
    refine lv_iadd hx hb dX4_readAtom_68 ?_
    refine lv_topi (fun x82 ex82 => ?_)
    obtain rfl : x82 = 2 := ex82.trans (by decide)
    have hFc := gA_free hG hA hS
    refine va_calli (va_runV (As := [.int 2]) (rest := []) ⟨hx, hb, hml, hown, hts⟩ (c_readAtom2 l dC dI kA adK adV G H nC nS o0 th x74 vT tv ix_tv ix_tv K X pS hT hr_o0 m77 hr_th m76 (by have q8 := ti_all ix_tv; omega) (by have q8 := ti_all x74; omega) (by have := (show x74.toInt = x74.toInt from rfl); have := (show ix_tv.toInt = ix_tv.toInt from rfl); omega) (fun m hm => hKK m (Nat.le_trans hm (Nat.le_of_eq (tn_same hx_tv rfl rfl)))) (fun m hm => hXX m (Nat.lt_of_lt_of_eq hm (tn_same hx_tv rfl rfl))) m78 (by have q9 := (show ix_tv.toInt = ix_tv.toInt from rfl); have := (show ix_tv.toInt = ix_tv.toInt from rfl); omega) m79 (by have q8 := ti_all tv; omega) (by omega) (by omega)) (cwV 1 hts (goodIn_app (goodIn_r _ [29, 30, 31, 15] rfl (by decide +kernel)) (goodIn_ca (goodIn_r _ [5, 1, 2, 3, 4, 5, 6, 7, 8, 9, 10, 11, 12, 13, 14, 15, 16, 17, 18, 19, 20, 21, 22, 23, 24, 25, 26, 27, 28, 29, 30, 31, 32, 33, 34, 35, 36, 37] rfl (by decide +kernel)) (bs2_in _ _))) rfl rfl rfl (by decide +kernel) ⟨(Nat.le_of_ble_eq_true rfl), (Nat.le_of_ble_eq_true rfl)⟩) ⟨fun a U g mk q => by obtain ⟨q0, q1, qK, qE⟩ := q; exact ⟨q0, q1, va_K.moved (u := U) (U := U.calling g mk a) (Vm.Alike.refl U.vm) qK, EVC.blind g mk a qE⟩, gH_rc hK hT hr_o0 shc_7 rfl, fun U hU hW => ⟨rfl, hU, va_K.moved hW.alike hK, hE.call hS hFc hU hW⟩⟩ rfl rfl hl.1 rfl (lv_room (Nat.le_of_ble_eq_true rfl)) dX4_readAtom_69 ⟨(Nat.le_of_ble_eq_true rfl), (Nat.le_of_ble_eq_true rfl)⟩) hS (fun q _ h => hFc q h) hFc (fun r83 u t H locs ht hvm hw84 hB _ _ hS => ?_)
    obtain ⟨u85, rfl⟩ : ∃ z, z = u := ⟨_, rfl⟩
    obtain ⟨hT, hF1, m86⟩ := hB
    rw [ht] at hT hF1 m86
    have hF := hF.more hF1 (by decide)
    try dsimp only at hw84
    obtain ⟨h92, h93, hf94, hf95⟩ := hw84
    refine lv_istore_n (lv' := [(3, .int r83), (2, .int 1), (0, .ref o0), (1, .int 1)]) hx hb dX4_readAtom_72 rfl hl (by decide) rfl (fun ls hl => ?_)
    refine lv_aload_n hx hb dX4_readAtom_73 rfl (lv_at hl 2 rfl) ?_
    refine lv_bipush (v := 13) hx hb dX4_readAtom_74 (by decide) ?_
    have hFc := gA_free hG hA hS
    refine va_callv (va_runV (As := [.int 13]) (rest := []) ⟨hx, hb, hml, hown, hts⟩ (c_addStep l dC dI kA adK adV G H nC nS o0 13 hT hr_o0 (rg_t (a := 13) (by decide) (by first | decide | omega) (by first | decide | omega)) (by omega) (by omega)) (cwV 1 hts (goodIn_app (goodIn_r _ [12, 13, 14, 15] rfl (by decide +kernel)) (goodIn_ca (goodIn_r _ [9, 10, 11] rfl (by decide +kernel)) (bs2_in _ _))) rfl rfl rfl (by decide +kernel) ⟨(Nat.le_of_ble_eq_true rfl), (Nat.le_of_ble_eq_true rfl)⟩) ⟨fun a U g mk q => by obtain ⟨q0, q1, qK, qE⟩ := q; exact ⟨q0, q1, va_K.moved (u := U) (U := U.calling g mk a) (Vm.Alike.refl U.vm) qK, EVC.blind g mk a qE⟩, gH_rc hK hT hr_o0 shc_7 rfl, fun U hU hW => ⟨rfl, hU, va_K.moved hW.alike hK, hE.call hS hFc hU hW⟩⟩ rfl rfl hl.1 rfl (lv_room (Nat.le_of_ble_eq_true rfl)) dX4_readAtom_76 ⟨(Nat.le_of_ble_eq_true rfl), (Nat.le_of_ble_eq_true rfl)⟩) hS (fun q _ h => hFc q h) hFc (fun u t H locs ht hvm hw97 hB _ _ hS => ?_)
    obtain ⟨hT, hF1⟩ := hB
    rw [ht] at hT hF1
    have m102 := (hF1.fld hr_o0 skc_7 (k := 13) (by decide) (by decide)).trans m86
    have hF := hF.more hF1 (by decide)
    try dsimp only at hw97
    refine lv_iload_n hx hb dX4_readAtom_79 rfl (lv_at hl 0 rfl) ?_
    exact W.zret (v := r83) hx hb hr (nar_b (by have q8 := ti_all r83; omega)) (fun t ht hW => ⟨⟨r83, u85, rfl, (by exact ⟨(by have q8 := ti_all u85; omega), (by have q8 := ti_all r83; omega), (by omega), (by have h9 := hf95; rw [(show pS x74.toNatClampNeg = X (pS a0.toNatClampNeg) from by rw [show x74.toNatClampNeg = a0.toNatClampNeg + 1 from by have := tn_of (show a0.toInt = a0.toInt from rfl) (by omega); have := tn_of (show x74.toInt = x74.toInt from rfl) (by omega); omega]; exact hXX _ (by have := tn_of (show a0.toInt = a0.toInt from rfl) (by omega); have := tn_of (show tn.toInt = tn.toInt from rfl) (by omega); omega))] at h9; exact Or.inl ⟨by omega, h9⟩)⟩), by (try dsimp only); rw [ht]; exact ⟨hT, hF, m102⟩⟩, hS.F ht⟩) hS.2.2 dX4_readAtom_80
def w_c_readAll1 : List Cond := .code yX4_readAll cX4_readAll 4 (some .boolean) :: (HAppend.hAppend (α := List Cond) (β := List Cond) (γ := List Cond) [.code yX4_readAtom cX4_readAtom 4 (some .boolean), .fieldLink RX4 11 "SeaLand$Law" "things" "[I", .fieldLink RX4 56 "SeaLand$Law" "at" "I", .code yX4_readAny cX4_readAny 4 (some .boolean), .code yX4_readAll cX4_readAll 4 (some .boolean), .code yX4_readComparison cX4_readComparison 3 (some .boolean), .code yX4_readSum cX4_readSum 3 (some .boolean), .code yX4_readPart cX4_readPart 2 (some .boolean), .code yX4_addStep cX4_addStep 2 none, .fieldLink RX4 63 "SeaLand$Law" "stepped" "I", .fieldLink RX4 39 "SeaLand$Law" "steps" "[I", .methodLink RX4 179 yX4_addStep, .instanceMethod yX4_addStep, .selects RX4 yX4_addStep yX4_addStep, .initialized RX4, .methodLink RX4 192 yX4_readPart, .instanceMethod yX4_readPart, .selects RX4 yX4_readPart yX4_readPart, .code yX4_take cX4_take 2 (some .boolean), .methodLink RX4 70 yX4_take, .instanceMethod yX4_take, .selects RX4 yX4_take yX4_take, .methodLink RX4 189 yX4_readSum, .instanceMethod yX4_readSum, .selects RX4 yX4_readSum yX4_readSum, .methodLink RX4 186 yX4_readComparison, .instanceMethod yX4_readComparison, .selects RX4 yX4_readComparison yX4_readComparison, .methodLink RX4 183 yX4_readAtom, .instanceMethod yX4_readAtom, .selects RX4 yX4_readAtom yX4_readAtom, .methodLink RX4 176 yX4_readAll, .instanceMethod yX4_readAll, .selects RX4 yX4_readAll yX4_readAll, .methodLink RX4 173 yX4_readAny, .instanceMethod yX4_readAny, .selects RX4 yX4_readAny yX4_readAny] bs2)
set_option maxHeartbeats 4000000 in
set_option maxRecDepth 100000 in
theorem c_readAll1 (l : Launch) (dC : Nat → ClassId) (dI : Nat → Nat → Nat) (kA : Nat → ClassId) (adK adV : Nat → Nat) (G : gT) (H0 : Heap) (nC nS : Int) (o0 : Nat) (th : Nat) (a0 : Int32) (vT : Nat → Int32) (tv ix_tv : Int32) (tn : Int32) (K : Nat → Int) (X pS : Nat → Nat) (hT : gH (dC, dI) kA (SHc nC nS) G H0) (hr_o0 : G o0 = some 7) (hm_th : el H0 o0 (dI 7 0) = some (.ref th)) (hr_th : G th = some 40) (hm_a0 : el H0 o0 (dI 7 13) = some (.int a0)) (hq0 : 0 ≤ tn.toInt ∧ tn.toInt ≤ 400) (hq1 : 0 ≤ a0.toInt ∧ a0.toInt ≤ 400) (hat : a0.toInt ≤ tn.toInt) (hKK : ∀ m : Nat, m ≤ tn.toNatClampNeg → (vT m).toInt = K (pS m)) (hXX : ∀ m : Nat, m < tn.toNatClampNeg → pS (m + 1) = X (pS m)) (hc_vT : ct H0 th 401 vT) (hx_tv : ix_tv.toInt = tn.toInt) (hm_tv : el H0 th ix_tv.toNatClampNeg = some (.int tv)) (hv_tv : 21 ≤ tv.toInt ∧ tv.toInt ≤ 21) (hgC : 0 ≤ nC ∧ nC ≤ 40) (hgS : 0 ≤ nS ∧ nS ≤ 60) : Met l yX4_readAll w_c_readAll1 ({ frames := 20, cells := 0, slots := 0, locals := 454 }) (va_Pc [.ref o0, .int 1] (fun U => U.heap = H0 ∧ va_K (dC, dI) vwCl (tyl kA) U ∧ EVC adK adV (gA G H0.size) U U.heap)) (va_Qi (fun (r : Int32) (u : Int32) => (0 ≤ u.toInt ∧ u.toInt ≤ 400) ∧ (0 ≤ r.toInt ∧ r.toInt ≤ 1) ∧ (a0.toInt ≤ u.toInt ∧ u.toInt ≤ tn.toInt) ∧ (lpR K X (aR K X 5) 14 (pS a0.toNatClampNeg) r.toInt (pS u.toNatClampNeg))) (fun (a1 : Int32) (t : State) => gH (dC, dI) kA (SHc nC nS) G t.heap ∧ gF (dC, dI) SKc G ([(7, 12), (7, 13), (49, 0)] : List (Nat × Nat)) H0 t.heap ∧ el t.heap o0 (dI 7 13) = some (.int a1)) (gA G H0.size)) 0 0 (gA G H0.size) := by
  refine Met.ofW (cc := cX4_readAll) (maxL := 4) (ret := (some .boolean)) (by decide) rfl ?_
  intro p e s m args below meth c s₁ B hml hv
  obtain ⟨rfl, hH0, hK, hE⟩ := hv
  have hx := B.exec
  have hb := B.bytes
  have hr := B.returns
  have hts := atoms_spec (ws := w_c_readAll1) B.pre
  have hown : s.vm.findClass RX4 = some m.cls := findClass_of_methodNamed B.named
  have hlocks := B.notSynchronized
  subst hH0
  generalize hAe : gA G s.heap.size = A at hE ⊢
  have hA : ∀ q : Nat, s.heap.size ≤ q → A q := fun q h => by rw [← hAe]; exact Or.inr h
  have hG := gA_of hAe
  have hS : va_S A s.heap s.heap [] := va_S.rf
  have hF : gF (dC, dI) SKc G ([(7, 12), (7, 13), (49, 0)] : List (Nat × Nat)) s.heap s.heap := gF.rf
  have hl := lv_entry ([.ref o0, .int 1]) (n := 4) (Nat.le_of_ble_eq_true rfl)
  rw [lg_entry_eq]
  generalize (lg_sl ([.ref o0, .int 1]) ++ List.replicate (4 - (lg_sl ([.ref o0, .int 1])).length) Slot.unset).toArray = ls at hl ⊢
  have hl : lv_has ls 4 [(0, .ref o0), (1, .int 1)] := hl
  refine lv_aload_n hx hb dX4_readAll_0 rfl (lv_at hl 0 rfl) ?_
  refine lv_iload_n hx hb dX4_readAll_1 rfl (lv_at hl 1 rfl) ?_
  have hFc := gA_free hG hA hS
  refine va_calli (va_runV (As := [.int 1]) (rest := []) ⟨hx, hb, hml, hown, hts⟩ (c_readAtom1 l dC dI kA adK adV G s.heap nC nS o0 th a0 vT tv ix_tv ix_tv K X pS hT hr_o0 hm_th hr_th hm_a0 (by have q8 := ti_all ix_tv; omega) (by have q8 := ti_all a0; omega) (by have := (show a0.toInt = a0.toInt from rfl); have := (show ix_tv.toInt = ix_tv.toInt from rfl); omega) (fun m hm => hKK m (Nat.le_trans hm (Nat.le_of_eq (tn_same hx_tv rfl rfl)))) (fun m hm => hXX m (Nat.lt_of_lt_of_eq hm (tn_same hx_tv rfl rfl))) hc_vT (by have q9 := (show ix_tv.toInt = ix_tv.toInt from rfl); have := (show ix_tv.toInt = ix_tv.toInt from rfl); omega) hm_tv (by have q8 := ti_all tv; omega) (by omega) (by omega)) (cwV 1 hts (goodIn_app (goodIn_r _ [29, 30, 31, 15] rfl (by decide +kernel)) (goodIn_ca (goodIn_r _ [1, 2, 3, 4, 5, 1, 6, 7, 8, 9, 10, 11, 12, 13, 14, 15, 16, 17, 18, 19, 20, 21, 22, 23, 24, 25, 26, 27, 28, 29, 30, 31, 32, 33, 34, 35, 36, 37] rfl (by decide +kernel)) (bs2_in _ _))) rfl rfl rfl (by decide +kernel) ⟨(Nat.le_of_ble_eq_true rfl), (Nat.le_of_ble_eq_true rfl)⟩) ⟨fun a U g mk q => by obtain ⟨q0, q1, qK, qE⟩ := q; exact ⟨q0, q1, va_K.moved (u := U) (U := U.calling g mk a) (Vm.Alike.refl U.vm) qK, EVC.blind g mk a qE⟩, gH_rc hK hT hr_o0 shc_7 rfl, fun U hU hW => ⟨rfl, hU, va_K.moved hW.alike hK, hE.call hS hFc hU hW⟩⟩ rfl rfl hl.1 rfl (lv_room (Nat.le_of_ble_eq_true rfl)) dX4_readAll_2 ⟨(Nat.le_of_ble_eq_true rfl), (Nat.le_of_ble_eq_true rfl)⟩) hS (fun q _ h => hFc q h) hFc (fun r1 u t H locs ht hvm hw2 hB _ _ hS => ?_)
  obtain ⟨u3, rfl⟩ : ∃ z, z = u := ⟨_, rfl⟩
  obtain ⟨hT, hF1, m4⟩ := hB
  rw [ht] at hT hF1 m4
  have m5 := (hF1.fld hr_o0 skc_7 (k := 0) (by decide) (by decide)).trans hm_th
  have m7 := hc_vT.kept (hF1.arr hr_th skc_40 (by decide))
  have m8 := (el_kept (hF1.arr hr_th skc_40 (by decide))).trans hm_tv
  have hF := hF.more hF1 (by decide)
  try dsimp only at hw2
  obtain ⟨h9, h10, hf11, hf12⟩ := hw2
  refine lv_istore_n (lv' := [(2, .int r1), (0, .ref o0), (1, .int 1)]) hx hb dX4_readAll_5 rfl hl (by decide) rfl (fun ls hl => ?_)
  refine lv_iconst (v := 0) hx hb dX4_readAll_6 (by decide) ?_
  refine lv_istore_n (lv' := [(3, .int 0), (2, .int r1), (0, .ref o0), (1, .int 1)]) hx hb dX4_readAll_7 rfl hl (by decide) rfl (fun ls hl => ?_)
  have key63 : ∀ (n63 i13 : Nat), i13 + n63 = 400 → 0 ≤ i13 → ∀ (z14 : Int32), ∀ (z19 : Int32), ((0 ≤ z14.toInt ∧ z14.toInt ≤ 1) ∧ (0 ≤ z19.toInt ∧ z19.toInt ≤ 400) ∧ (a0.toInt ≤ z19.toInt ∧ z19.toInt ≤ tn.toInt) ∧ (((z14.toInt = 1 ∧ ∀ (r : Int) (f : Nat), lpQ K X (aR K X 5) 14 (pS z19.toNatClampNeg) r f → lpR K X (aR K X 5) 14 (pS a0.toNatClampNeg) r f) ∨ (z14.toInt = 0 ∧ lpR K X (aR K X 5) 14 (pS a0.toNatClampNeg) 0 (pS z19.toNatClampNeg))) ∧ ((i13 : Nat) : Int) ≤ z19.toInt)) → ∀ (H : Heap) (locs : List Loc), gH (dC, dI) kA (SHc nC nS) G H → gF (dC, dI) SKc G ([(7, 12), (7, 13), (49, 0)] : List (Nat × Nat)) s.heap H → va_S A s.heap H locs → ct H th 401 vT → el H o0 (dI 7 0) = some (.ref th) → el H th ix_tv.toNatClampNeg = some (.int tv) → el H o0 (dI 7 13) = some (.int z19) → ∀ ls : Array Slot, lv_has ls 4 [(3, .int (nI i13)), (2, .int z14), (0, .ref o0), (1, .int 1)] → W p l e (headSpec w_c_readAll1 ({ frames := 20, cells := 0, slots := 0, locals := 454 })).room s m #[.ref o0, .int 1] below meth c H locs 0 0 (MQ below (va_Qi (fun (r : Int32) (u : Int32) => (0 ≤ u.toInt ∧ u.toInt ≤ 400) ∧ (0 ≤ r.toInt ∧ r.toInt ≤ 1) ∧ (a0.toInt ≤ u.toInt ∧ u.toInt ≤ tn.toInt) ∧ (lpR K X (aR K X 5) 14 (pS a0.toNatClampNeg) r.toInt (pS u.toNatClampNeg))) (fun (a1 : Int32) (t : State) => gH (dC, dI) kA (SHc nC nS) G t.heap ∧ gF (dC, dI) SKc G ([(7, 12), (7, 13), (49, 0)] : List (Nat × Nat)) s.heap t.heap ∧ el t.heap o0 (dI 7 13) = some (.int a1)) A) #[.ref o0, .int 1] s 0 0 A) (F0 m 8 ls []) := by
    intro n63
    induction n63 with
    | zero =>
      intro i13 hn63 hlo64 z14 z19 ⟨h15, h20, hj22, hj23⟩ H locs hT hF hS m16 m17 m18 m21 ls hl
      obtain rfl : 400 = i13 := by omega
      refine lv_iload_n hx hb dX4_readAll_8 rfl (lv_at hl 0 rfl) ?_
      refine lv_sipush (v := 400) hx hb dX4_readAll_9 (by decide) ?_
      refine lv_icmp_ge (tgt := 46) hx hb dX4_readAll_12 (by decide) (fun c65 => ?_) (fun c65 => (by exfalso; have q9 : ((400 : Nat) : Int) < 400 := ti_nle c65 (by decide) (nI_toInt (by omega)); omega))
      have t66 : 400 ≤ ((400 : Nat) : Int) := ti_le c65 (by decide) (nI_toInt (by omega))
      refine lv_iload_n hx hb dX4_readAll_46 rfl (lv_at hl 1 rfl) ?_
      exact W.zret (v := z14) hx hb hr (nar_b (by have q8 := ti_all z14; omega)) (fun t ht hW => ⟨⟨z14, z19, rfl, (by exact ⟨(by have q8 := ti_all z19; omega), (by have q8 := ti_all z14; omega), (by omega), (by rcases hj23.1 with ⟨h8, l9⟩ | ⟨h8, l9⟩; (rw [h8]; exact lp_e l9 (fun h7 => by have := tn_of (show z19.toInt = z19.toInt from rfl) (by omega); have := tn_of (show tn.toInt = tn.toInt from rfl) (by omega); have k9 := hKK tn.toNatClampNeg (Nat.le_refl _); have e9 := hc_vT.at hm_tv (by have q9 := tn_of hx_tv (by omega); omega); have k8 : (vT tn.toNatClampNeg).toInt = 21 := (by have q8 := congrArg Int32.toInt e9; rw [show ix_tv.toNatClampNeg = tn.toNatClampNeg from tn_same hx_tv rfl rfl] at q8; omega); rw [show z19.toNatClampNeg = tn.toNatClampNeg from by omega] at h7; omega)); rw [h8]; exact l9)⟩), by (try dsimp only); rw [ht]; exact ⟨hT, hF, m21⟩⟩, hS.F ht⟩) hS.2.2 dX4_readAll_47
    | succ n63 ih63 =>
      intro i13 hn63 hlo64 z14 z19 ⟨h15, h20, hj22, hj23⟩ H locs hT hF hS m16 m17 m18 m21 ls hl
      have hlt66 : i13 < 400 := by omega
      refine lv_iload_n hx hb dX4_readAll_8 rfl (lv_at hl 0 rfl) ?_
      refine lv_sipush (v := 400) hx hb dX4_readAll_9 (by decide) ?_
      refine lv_icmp_ge (tgt := 46) hx hb dX4_readAll_12 (by decide) (fun c67 => (by exfalso; have q9 : 400 ≤ ((i13 : Nat) : Int) := ti_le c67 (by decide) (nI_toInt (by omega)); omega)) (fun c67 => ?_)
      have t68 : ((i13 : Nat) : Int) < 400 := ti_nle c67 (by decide) (nI_toInt (by omega))
      refine lv_iload_n hx hb dX4_readAll_15 rfl (lv_at hl 1 rfl) ?_
      refine lv_if_eq (tgt := 46) hx hb dX4_readAll_16 (by decide) (fun c69 => ?_) (fun c69 => ?_)
      · have t70 : z14.toInt = 0 := ti_eq c69 rfl (by decide)
        refine lv_iload_n hx hb dX4_readAll_46 rfl (lv_at hl 1 rfl) ?_
        exact W.zret (v := z14) hx hb hr (nar_b (by have q8 := ti_all z14; omega)) (fun t ht hW => ⟨⟨z14, z19, rfl, (by exact ⟨(by have q8 := ti_all z19; omega), (by have q8 := ti_all z14; omega), (by omega), (by rcases hj23.1 with ⟨h8, l9⟩ | ⟨h8, l9⟩; (rw [h8]; exact lp_e l9 (fun h7 => by have := tn_of (show z19.toInt = z19.toInt from rfl) (by omega); have := tn_of (show tn.toInt = tn.toInt from rfl) (by omega); have k9 := hKK tn.toNatClampNeg (Nat.le_refl _); have e9 := hc_vT.at hm_tv (by have q9 := tn_of hx_tv (by omega); omega); have k8 : (vT tn.toNatClampNeg).toInt = 21 := (by have q8 := congrArg Int32.toInt e9; rw [show ix_tv.toNatClampNeg = tn.toNatClampNeg from tn_same hx_tv rfl rfl] at q8; omega); rw [show z19.toNatClampNeg = tn.toNatClampNeg from by omega] at h7; omega)); rw [h8]; exact l9)⟩), by (try dsimp only); rw [ht]; exact ⟨hT, hF, m21⟩⟩, hS.F ht⟩) hS.2.2 dX4_readAll_47
      · have t71 : z14.toInt ≠ 0 := ti_ne c69 rfl (by decide)
        refine lv_aload_n hx hb dX4_readAll_19 rfl (lv_at hl 2 rfl) ?_
        refine lv_bipush (v := 14) hx hb dX4_readAll_20 (by decide) ?_
        have hFc := gA_free hG hA hS
        refine va_calli (va_runV (As := [.int 14]) (rest := []) ⟨hx, hb, hml, hown, hts⟩ (c_take l dC dI kA adK adV G H nC nS o0 14 th z19 vT tv ix_tv ix_tv K X pS hT hr_o0 m17 hr_th m21 (by have q8 := ti_all ix_tv; omega) (by have q8 := ti_all z19; omega) (by have := (show z19.toInt = z19.toInt from rfl); have := (show ix_tv.toInt = ix_tv.toInt from rfl); omega) (by have := (show (14 : Int32).toInt = 14 from (by decide)); omega) (fun m hm => hKK m (Nat.le_trans hm (Nat.le_of_eq (tn_same hx_tv rfl rfl)))) (fun m hm => hXX m (Nat.lt_of_lt_of_eq hm (tn_same hx_tv rfl rfl))) m16 (by have q9 := (show ix_tv.toInt = ix_tv.toInt from rfl); have := (show ix_tv.toInt = ix_tv.toInt from rfl); omega) m18 (by have q8 := ti_all tv; omega) (by omega) (by omega)) (cwV 1 hts (goodIn_app (goodIn_r _ [20, 21, 22, 15] rfl (by decide +kernel)) (goodIn_ca (goodIn_r _ [19, 2, 3] rfl (by decide +kernel)) (bs2_in _ _))) rfl rfl rfl (by decide +kernel) ⟨(Nat.le_of_ble_eq_true rfl), (Nat.le_of_ble_eq_true rfl)⟩) ⟨fun a U g mk q => by obtain ⟨q0, q1, qK, qE⟩ := q; exact ⟨q0, q1, va_K.moved (u := U) (U := U.calling g mk a) (Vm.Alike.refl U.vm) qK, EVC.blind g mk a qE⟩, gH_rc hK hT hr_o0 shc_7 rfl, fun U hU hW => ⟨rfl, hU, va_K.moved hW.alike hK, hE.call hS hFc hU hW⟩⟩ rfl rfl hl.1 rfl (lv_room (Nat.le_of_ble_eq_true rfl)) dX4_readAll_22 ⟨(Nat.le_of_ble_eq_true rfl), (Nat.le_of_ble_eq_true rfl)⟩) hS (fun q _ h => hFc q h) hFc (fun r72 u t H locs ht hvm hw73 hB _ _ hS => ?_)
        obtain ⟨u74, rfl⟩ : ∃ z, z = u := ⟨_, rfl⟩
        obtain ⟨hT, hF1, m75⟩ := hB
        rw [ht] at hT hF1 m75
        have m76 := m16.kept (hF1.arr hr_th skc_40 (by decide))
        have m77 := (hF1.fld hr_o0 skc_7 (k := 0) (by decide) (by decide)).trans m17
        have m78 := (el_kept (hF1.arr hr_th skc_40 (by decide))).trans m18
        have hF := hF.more hF1 (by decide)
        try dsimp only at hw73
        obtain ⟨h80, h81, hf82, hf83, hf84⟩ := hw73
        refine lv_if_eq (tgt := 46) hx hb dX4_readAll_25 (by decide) (fun c85 => ?_) (fun c85 => ?_)
        · have t86 : r72.toInt = 0 := ti_eq c85 rfl (by decide)
          refine lv_iload_n hx hb dX4_readAll_46 rfl (lv_at hl 1 rfl) ?_
          exact W.zret (v := z14) hx hb hr (nar_b (by have q8 := ti_all z14; omega)) (fun t ht hW => ⟨⟨z14, u74, rfl, (by exact ⟨(by have q8 := ti_all u74; omega), (by have q8 := ti_all z14; omega), (by omega), (by have l9 := (hj23.1.resolve_right (fun h8 => by have := h8.1; omega)).2; have a9 := hf83.resolve_left (fun h8 => by have := h8.2.1; omega); rw [show z14.toInt = 1 from by omega, a9.2.2]; exact lp_e l9 (fun h7 => a9.1 (h7.trans (by decide))))⟩), by (try dsimp only); rw [ht]; exact ⟨hT, hF, m75⟩⟩, hS.F ht⟩) hS.2.2 dX4_readAll_47
        · have t87 : r72.toInt ≠ 0 := ti_ne c85 rfl (by decide)
          refine lv_aload_n hx hb dX4_readAll_28 rfl (lv_at hl 2 rfl) ?_
          refine lv_iload_n hx hb dX4_readAll_29 rfl (lv_at hl 3 rfl) ?_
          have hFc := gA_free hG hA hS
          refine va_calli (va_runV (As := [.int 1]) (rest := []) ⟨hx, hb, hml, hown, hts⟩ (c_readAtom1 l dC dI kA adK adV G H nC nS o0 th u74 vT tv ix_tv ix_tv K X pS hT hr_o0 m77 hr_th m75 (by have q8 := ti_all ix_tv; omega) (by have q8 := ti_all u74; omega) (by have := (show u74.toInt = u74.toInt from rfl); have := (show ix_tv.toInt = ix_tv.toInt from rfl); omega) (fun m hm => hKK m (Nat.le_trans hm (Nat.le_of_eq (tn_same hx_tv rfl rfl)))) (fun m hm => hXX m (Nat.lt_of_lt_of_eq hm (tn_same hx_tv rfl rfl))) m76 (by have q9 := (show ix_tv.toInt = ix_tv.toInt from rfl); have := (show ix_tv.toInt = ix_tv.toInt from rfl); omega) m78 (by have q8 := ti_all tv; omega) (by omega) (by omega)) (cwV 1 hts (goodIn_app (goodIn_r _ [29, 30, 31, 15] rfl (by decide +kernel)) (goodIn_ca (goodIn_r _ [1, 2, 3, 4, 5, 1, 6, 7, 8, 9, 10, 11, 12, 13, 14, 15, 16, 17, 18, 19, 20, 21, 22, 23, 24, 25, 26, 27, 28, 29, 30, 31, 32, 33, 34, 35, 36, 37] rfl (by decide +kernel)) (bs2_in _ _))) rfl rfl rfl (by decide +kernel) ⟨(Nat.le_of_ble_eq_true rfl), (Nat.le_of_ble_eq_true rfl)⟩) ⟨fun a U g mk q => by obtain ⟨q0, q1, qK, qE⟩ := q; exact ⟨q0, q1, va_K.moved (u := U) (U := U.calling g mk a) (Vm.Alike.refl U.vm) qK, EVC.blind g mk a qE⟩, gH_rc hK hT hr_o0 shc_7 rfl, fun U hU hW => ⟨rfl, hU, va_K.moved hW.alike hK, hE.call hS hFc hU hW⟩⟩ rfl rfl hl.1 rfl (lv_room (Nat.le_of_ble_eq_true rfl)) dX4_readAll_30 ⟨(Nat.le_of_ble_eq_true rfl), (Nat.le_of_ble_eq_true rfl)⟩) hS (fun q _ h => hFc q h) hFc (fun r88 u t H locs ht hvm hw89 hB _ _ hS => ?_)
          obtain ⟨u90, rfl⟩ : ∃ z, z = u := ⟨_, rfl⟩
          obtain ⟨hT, hF1, m91⟩ := hB
          rw [ht] at hT hF1 m91
          have m92 := m76.kept (hF1.arr hr_th skc_40 (by decide))
          have m93 := (hF1.fld hr_o0 skc_7 (k := 0) (by decide) (by decide)).trans m77
          have m94 := (el_kept (hF1.arr hr_th skc_40 (by decide))).trans m78
          have hF := hF.more hF1 (by decide)
          try dsimp only at hw89
          obtain ⟨h96, h97, hf98, hf99⟩ := hw89
          refine lv_istore_n (lv' := [(2, .int r88), (3, .int (nI i13)), (0, .ref o0), (1, .int 1)]) hx hb dX4_readAll_33 rfl hl (by decide) rfl (fun ls hl => ?_)
          refine lv_aload_n hx hb dX4_readAll_34 rfl (lv_at hl 2 rfl) ?_
          refine lv_bipush (v := 14) hx hb dX4_readAll_35 (by decide) ?_
          have hFc := gA_free hG hA hS
          refine va_callv (va_runV (As := [.int 14]) (rest := []) ⟨hx, hb, hml, hown, hts⟩ (c_addStep l dC dI kA adK adV G H nC nS o0 14 hT hr_o0 (rg_t (a := 14) (by decide) (by first | decide | omega) (by first | decide | omega)) (by omega) (by omega)) (cwV 1 hts (goodIn_app (goodIn_r _ [12, 13, 14, 15] rfl (by decide +kernel)) (goodIn_ca (goodIn_r _ [9, 10, 11] rfl (by decide +kernel)) (bs2_in _ _))) rfl rfl rfl (by decide +kernel) ⟨(Nat.le_of_ble_eq_true rfl), (Nat.le_of_ble_eq_true rfl)⟩) ⟨fun a U g mk q => by obtain ⟨q0, q1, qK, qE⟩ := q; exact ⟨q0, q1, va_K.moved (u := U) (U := U.calling g mk a) (Vm.Alike.refl U.vm) qK, EVC.blind g mk a qE⟩, gH_rc hK hT hr_o0 shc_7 rfl, fun U hU hW => ⟨rfl, hU, va_K.moved hW.alike hK, hE.call hS hFc hU hW⟩⟩ rfl rfl hl.1 rfl (lv_room (Nat.le_of_ble_eq_true rfl)) dX4_readAll_37 ⟨(Nat.le_of_ble_eq_true rfl), (Nat.le_of_ble_eq_true rfl)⟩) hS (fun q _ h => hFc q h) hFc (fun u t H locs ht hvm hw101 hB _ _ hS => ?_)
          obtain ⟨hT, hF1⟩ := hB
          rw [ht] at hT hF1
          have m102 := m92.kept (hF1.arr hr_th skc_40 (by decide))
          have m103 := (hF1.fld hr_o0 skc_7 (k := 0) (by decide) (by decide)).trans m93
          have m104 := (el_kept (hF1.arr hr_th skc_40 (by decide))).trans m94
          have m105 := (hF1.fld hr_o0 skc_7 (k := 13) (by decide) (by decide)).trans m91
          have hF := hF.more hF1 (by decide)
          try dsimp only at hw101
          refine lv_iinc (v := nI (i13 + 1)) (lv' := [(3, .int (nI (i13 + 1))), (2, .int r88), (0, .ref o0), (1, .int 1)]) hx hb dX4_readAll_40 hl (k := 1) rfl (nI_add i13 1) (by decide) rfl (fun ls hl => ?_)
          refine lv_goto (tgt := 8) hx hb dX4_readAll_43 (by decide) ?_
          exact ih63 (i13 + 1) (by omega) (by omega) r88 u90 ⟨(by have q8 := ti_all r88; omega), (by have q8 := ti_all u90; omega), (by have := hx_tv; have := (show u90.toInt = u90.toInt from rfl); omega), ⟨(by have l9 := (hj23.1.resolve_right (fun h8 => by have := h8.1; omega)).2; have a9 := hf83.resolve_right (fun h8 => by have := h8.2.1; omega); have h9 := hf99; rw [a9.2.2] at h9; rcases (show r88.toInt = 1 ∨ r88.toInt = 0 by omega) with h8 | h8 <;> rw [h8] at h9; (exact Or.inl ⟨h8, lp_s l9 (a9.1.trans (by decide)) h9⟩); exact Or.inr ⟨h8, lp_f l9 (a9.1.trans (by decide)) h9⟩), by omega⟩⟩ _ _ hT hF hS m102 m103 m104 m105 ls (lv_sub hl [0, 1, 2, 3] rfl)
  exact key63 (400 - 0) 0 (by omega) (Nat.le_refl _) r1 u3 ⟨(by have q8 := ti_all r1; omega), (by have q8 := ti_all u3; omega), (by have := hx_tv; have := (show u3.toInt = u3.toInt from rfl); omega), ⟨(by have h9 := hf12; rcases (show r1.toInt = 1 ∨ r1.toInt = 0 by omega) with h8 | h8 <;> rw [h8] at h9; (exact Or.inl ⟨h8, lp_1 h9⟩); exact Or.inr ⟨h8, lp_0 h9⟩), by omega⟩⟩ _ _ hT hF hS m7 m5 m8 m4 ls (lv_sub hl [0, 1, 2, 3] rfl)
def w_c_readAny1 : List Cond := .code yX4_readAny cX4_readAny 4 (some .boolean) :: (HAppend.hAppend (α := List Cond) (β := List Cond) (γ := List Cond) [.code yX4_readAll cX4_readAll 4 (some .boolean), .code yX4_readAtom cX4_readAtom 4 (some .boolean), .fieldLink RX4 11 "SeaLand$Law" "things" "[I", .fieldLink RX4 56 "SeaLand$Law" "at" "I", .code yX4_readAny cX4_readAny 4 (some .boolean), .code yX4_readComparison cX4_readComparison 3 (some .boolean), .code yX4_readSum cX4_readSum 3 (some .boolean), .code yX4_readPart cX4_readPart 2 (some .boolean), .code yX4_addStep cX4_addStep 2 none, .fieldLink RX4 63 "SeaLand$Law" "stepped" "I", .fieldLink RX4 39 "SeaLand$Law" "steps" "[I", .methodLink RX4 179 yX4_addStep, .instanceMethod yX4_addStep, .selects RX4 yX4_addStep yX4_addStep, .initialized RX4, .methodLink RX4 192 yX4_readPart, .instanceMethod yX4_readPart, .selects RX4 yX4_readPart yX4_readPart, .code yX4_take cX4_take 2 (some .boolean), .methodLink RX4 70 yX4_take, .instanceMethod yX4_take, .selects RX4 yX4_take yX4_take, .methodLink RX4 189 yX4_readSum, .instanceMethod yX4_readSum, .selects RX4 yX4_readSum yX4_readSum, .methodLink RX4 186 yX4_readComparison, .instanceMethod yX4_readComparison, .selects RX4 yX4_readComparison yX4_readComparison, .methodLink RX4 183 yX4_readAtom, .instanceMethod yX4_readAtom, .selects RX4 yX4_readAtom yX4_readAtom, .methodLink RX4 176 yX4_readAll, .instanceMethod yX4_readAll, .selects RX4 yX4_readAll yX4_readAll, .methodLink RX4 173 yX4_readAny, .instanceMethod yX4_readAny, .selects RX4 yX4_readAny yX4_readAny] bs2)
set_option maxHeartbeats 4000000 in
set_option maxRecDepth 100000 in
theorem c_readAny1 (l : Launch) (dC : Nat → ClassId) (dI : Nat → Nat → Nat) (kA : Nat → ClassId) (adK adV : Nat → Nat) (G : gT) (H0 : Heap) (nC nS : Int) (o0 : Nat) (th : Nat) (a0 : Int32) (vT : Nat → Int32) (tv ix_tv : Int32) (tn : Int32) (K : Nat → Int) (X pS : Nat → Nat) (hT : gH (dC, dI) kA (SHc nC nS) G H0) (hr_o0 : G o0 = some 7) (hm_th : el H0 o0 (dI 7 0) = some (.ref th)) (hr_th : G th = some 40) (hm_a0 : el H0 o0 (dI 7 13) = some (.int a0)) (hq0 : 0 ≤ tn.toInt ∧ tn.toInt ≤ 400) (hq1 : 0 ≤ a0.toInt ∧ a0.toInt ≤ 400) (hat : a0.toInt ≤ tn.toInt) (hKK : ∀ m : Nat, m ≤ tn.toNatClampNeg → (vT m).toInt = K (pS m)) (hXX : ∀ m : Nat, m < tn.toNatClampNeg → pS (m + 1) = X (pS m)) (hc_vT : ct H0 th 401 vT) (hx_tv : ix_tv.toInt = tn.toInt) (hm_tv : el H0 th ix_tv.toNatClampNeg = some (.int tv)) (hv_tv : 21 ≤ tv.toInt ∧ tv.toInt ≤ 21) (hgC : 0 ≤ nC ∧ nC ≤ 40) (hgS : 0 ≤ nS ∧ nS ≤ 60) : Met l yX4_readAny w_c_readAny1 ({ frames := 21, cells := 0, slots := 0, locals := 477 }) (va_Pc [.ref o0, .int 1] (fun U => U.heap = H0 ∧ va_K (dC, dI) vwCl (tyl kA) U ∧ EVC adK adV (gA G H0.size) U U.heap)) (va_Qi (fun (r : Int32) (u : Int32) => (0 ≤ u.toInt ∧ u.toInt ≤ 400) ∧ (0 ≤ r.toInt ∧ r.toInt ≤ 1) ∧ (a0.toInt ≤ u.toInt ∧ u.toInt ≤ tn.toInt) ∧ (coR K X (aR K X 5) (pS a0.toNatClampNeg) r.toInt (pS u.toNatClampNeg))) (fun (a1 : Int32) (t : State) => gH (dC, dI) kA (SHc nC nS) G t.heap ∧ gF (dC, dI) SKc G ([(7, 12), (7, 13), (49, 0)] : List (Nat × Nat)) H0 t.heap ∧ el t.heap o0 (dI 7 13) = some (.int a1)) (gA G H0.size)) 0 0 (gA G H0.size) := by
  refine Met.ofW (cc := cX4_readAny) (maxL := 4) (ret := (some .boolean)) (by decide) rfl ?_
  intro p e s m args below meth c s₁ B hml hv
  obtain ⟨rfl, hH0, hK, hE⟩ := hv
  have hx := B.exec
  have hb := B.bytes
  have hr := B.returns
  have hts := atoms_spec (ws := w_c_readAny1) B.pre
  have hown : s.vm.findClass RX4 = some m.cls := findClass_of_methodNamed B.named
  have hlocks := B.notSynchronized
  subst hH0
  generalize hAe : gA G s.heap.size = A at hE ⊢
  have hA : ∀ q : Nat, s.heap.size ≤ q → A q := fun q h => by rw [← hAe]; exact Or.inr h
  have hG := gA_of hAe
  have hS : va_S A s.heap s.heap [] := va_S.rf
  have hF : gF (dC, dI) SKc G ([(7, 12), (7, 13), (49, 0)] : List (Nat × Nat)) s.heap s.heap := gF.rf
  have hl := lv_entry ([.ref o0, .int 1]) (n := 4) (Nat.le_of_ble_eq_true rfl)
  rw [lg_entry_eq]
  generalize (lg_sl ([.ref o0, .int 1]) ++ List.replicate (4 - (lg_sl ([.ref o0, .int 1])).length) Slot.unset).toArray = ls at hl ⊢
  have hl : lv_has ls 4 [(0, .ref o0), (1, .int 1)] := hl
  refine lv_aload_n hx hb dX4_readAny_0 rfl (lv_at hl 0 rfl) ?_
  refine lv_iload_n hx hb dX4_readAny_1 rfl (lv_at hl 1 rfl) ?_
  have hFc := gA_free hG hA hS
  refine va_calli (va_runV (As := [.int 1]) (rest := []) ⟨hx, hb, hml, hown, hts⟩ (c_readAll1 l dC dI kA adK adV G s.heap nC nS o0 th a0 vT tv ix_tv ix_tv K X pS hT hr_o0 hm_th hr_th hm_a0 (by have q8 := ti_all ix_tv; omega) (by have q8 := ti_all a0; omega) (by have := (show a0.toInt = a0.toInt from rfl); have := (show ix_tv.toInt = ix_tv.toInt from rfl); omega) (fun m hm => hKK m (Nat.le_trans hm (Nat.le_of_eq (tn_same hx_tv rfl rfl)))) (fun m hm => hXX m (Nat.lt_of_lt_of_eq hm (tn_same hx_tv rfl rfl))) hc_vT (by have q9 := (show ix_tv.toInt = ix_tv.toInt from rfl); have := (show ix_tv.toInt = ix_tv.toInt from rfl); omega) hm_tv (by have q8 := ti_all tv; omega) (by omega) (by omega)) (cwV 1 hts (goodIn_app (goodIn_r _ [32, 33, 34, 15] rfl (by decide +kernel)) (goodIn_ca (goodIn_r _ [1, 2, 3, 4, 5, 1, 6, 7, 8, 9, 10, 11, 12, 13, 14, 15, 16, 17, 18, 19, 20, 21, 22, 23, 24, 25, 26, 27, 28, 29, 30, 31, 32, 33, 34, 35, 36, 37] rfl (by decide +kernel)) (bs2_in _ _))) rfl rfl rfl (by decide +kernel) ⟨(Nat.le_of_ble_eq_true rfl), (Nat.le_of_ble_eq_true rfl)⟩) ⟨fun a U g mk q => by obtain ⟨q0, q1, qK, qE⟩ := q; exact ⟨q0, q1, va_K.moved (u := U) (U := U.calling g mk a) (Vm.Alike.refl U.vm) qK, EVC.blind g mk a qE⟩, gH_rc hK hT hr_o0 shc_7 rfl, fun U hU hW => ⟨rfl, hU, va_K.moved hW.alike hK, hE.call hS hFc hU hW⟩⟩ rfl rfl hl.1 rfl (lv_room (Nat.le_of_ble_eq_true rfl)) dX4_readAny_2 ⟨(Nat.le_of_ble_eq_true rfl), (Nat.le_of_ble_eq_true rfl)⟩) hS (fun q _ h => hFc q h) hFc (fun r1 u t H locs ht hvm hw2 hB _ _ hS => ?_)
  obtain ⟨u3, rfl⟩ : ∃ z, z = u := ⟨_, rfl⟩
  obtain ⟨hT, hF1, m4⟩ := hB
  rw [ht] at hT hF1 m4
  have m5 := (hF1.fld hr_o0 skc_7 (k := 0) (by decide) (by decide)).trans hm_th
  have m7 := hc_vT.kept (hF1.arr hr_th skc_40 (by decide))
  have m8 := (el_kept (hF1.arr hr_th skc_40 (by decide))).trans hm_tv
  have hF := hF.more hF1 (by decide)
  try dsimp only at hw2
  obtain ⟨h9, h10, hf11, hf12⟩ := hw2
  refine lv_istore_n (lv' := [(2, .int r1), (0, .ref o0), (1, .int 1)]) hx hb dX4_readAny_5 rfl hl (by decide) rfl (fun ls hl => ?_)
  refine lv_iconst (v := 0) hx hb dX4_readAny_6 (by decide) ?_
  refine lv_istore_n (lv' := [(3, .int 0), (2, .int r1), (0, .ref o0), (1, .int 1)]) hx hb dX4_readAny_7 rfl hl (by decide) rfl (fun ls hl => ?_)
  have key63 : ∀ (n63 i13 : Nat), i13 + n63 = 400 → 0 ≤ i13 → ∀ (z14 : Int32), ∀ (z19 : Int32), ((0 ≤ z14.toInt ∧ z14.toInt ≤ 1) ∧ (0 ≤ z19.toInt ∧ z19.toInt ≤ 400) ∧ (a0.toInt ≤ z19.toInt ∧ z19.toInt ≤ tn.toInt) ∧ (((z14.toInt = 1 ∧ ∀ (r : Int) (f : Nat), lpQ K X (lpR K X (aR K X 5) 14) 15 (pS z19.toNatClampNeg) r f → coR K X (aR K X 5) (pS a0.toNatClampNeg) r f) ∨ (z14.toInt = 0 ∧ coR K X (aR K X 5) (pS a0.toNatClampNeg) 0 (pS z19.toNatClampNeg))) ∧ ((i13 : Nat) : Int) ≤ z19.toInt)) → ∀ (H : Heap) (locs : List Loc), gH (dC, dI) kA (SHc nC nS) G H → gF (dC, dI) SKc G ([(7, 12), (7, 13), (49, 0)] : List (Nat × Nat)) s.heap H → va_S A s.heap H locs → ct H th 401 vT → el H o0 (dI 7 0) = some (.ref th) → el H th ix_tv.toNatClampNeg = some (.int tv) → el H o0 (dI 7 13) = some (.int z19) → ∀ ls : Array Slot, lv_has ls 4 [(3, .int (nI i13)), (2, .int z14), (0, .ref o0), (1, .int 1)] → W p l e (headSpec w_c_readAny1 ({ frames := 21, cells := 0, slots := 0, locals := 477 })).room s m #[.ref o0, .int 1] below meth c H locs 0 0 (MQ below (va_Qi (fun (r : Int32) (u : Int32) => (0 ≤ u.toInt ∧ u.toInt ≤ 400) ∧ (0 ≤ r.toInt ∧ r.toInt ≤ 1) ∧ (a0.toInt ≤ u.toInt ∧ u.toInt ≤ tn.toInt) ∧ (coR K X (aR K X 5) (pS a0.toNatClampNeg) r.toInt (pS u.toNatClampNeg))) (fun (a1 : Int32) (t : State) => gH (dC, dI) kA (SHc nC nS) G t.heap ∧ gF (dC, dI) SKc G ([(7, 12), (7, 13), (49, 0)] : List (Nat × Nat)) s.heap t.heap ∧ el t.heap o0 (dI 7 13) = some (.int a1)) A) #[.ref o0, .int 1] s 0 0 A) (F0 m 8 ls []) := by
    intro n63
    induction n63 with
    | zero =>
      intro i13 hn63 hlo64 z14 z19 ⟨h15, h20, hj22, hj23⟩ H locs hT hF hS m16 m17 m18 m21 ls hl
      obtain rfl : 400 = i13 := by omega
      refine lv_iload_n hx hb dX4_readAny_8 rfl (lv_at hl 0 rfl) ?_
      refine lv_sipush (v := 400) hx hb dX4_readAny_9 (by decide) ?_
      refine lv_icmp_ge (tgt := 46) hx hb dX4_readAny_12 (by decide) (fun c65 => ?_) (fun c65 => (by exfalso; have q9 : ((400 : Nat) : Int) < 400 := ti_nle c65 (by decide) (nI_toInt (by omega)); omega))
      have t66 : 400 ≤ ((400 : Nat) : Int) := ti_le c65 (by decide) (nI_toInt (by omega))
      refine lv_iload_n hx hb dX4_readAny_46 rfl (lv_at hl 1 rfl) ?_
      exact W.zret (v := z14) hx hb hr (nar_b (by have q8 := ti_all z14; omega)) (fun t ht hW => ⟨⟨z14, z19, rfl, (by exact ⟨(by have q8 := ti_all z19; omega), (by have q8 := ti_all z14; omega), (by omega), (by rcases hj23.1 with ⟨h8, l9⟩ | ⟨h8, l9⟩; (rw [h8]; exact lp_e l9 (fun h7 => by have := tn_of (show z19.toInt = z19.toInt from rfl) (by omega); have := tn_of (show tn.toInt = tn.toInt from rfl) (by omega); have k9 := hKK tn.toNatClampNeg (Nat.le_refl _); have e9 := hc_vT.at hm_tv (by have q9 := tn_of hx_tv (by omega); omega); have k8 : (vT tn.toNatClampNeg).toInt = 21 := (by have q8 := congrArg Int32.toInt e9; rw [show ix_tv.toNatClampNeg = tn.toNatClampNeg from tn_same hx_tv rfl rfl] at q8; omega); rw [show z19.toNatClampNeg = tn.toNatClampNeg from by omega] at h7; omega)); rw [h8]; exact l9)⟩), by (try dsimp only); rw [ht]; exact ⟨hT, hF, m21⟩⟩, hS.F ht⟩) hS.2.2 dX4_readAny_47
    | succ n63 ih63 =>
      intro i13 hn63 hlo64 z14 z19 ⟨h15, h20, hj22, hj23⟩ H locs hT hF hS m16 m17 m18 m21 ls hl
      have hlt66 : i13 < 400 := by omega
      refine lv_iload_n hx hb dX4_readAny_8 rfl (lv_at hl 0 rfl) ?_
      refine lv_sipush (v := 400) hx hb dX4_readAny_9 (by decide) ?_
      refine lv_icmp_ge (tgt := 46) hx hb dX4_readAny_12 (by decide) (fun c67 => (by exfalso; have q9 : 400 ≤ ((i13 : Nat) : Int) := ti_le c67 (by decide) (nI_toInt (by omega)); omega)) (fun c67 => ?_)
      have t68 : ((i13 : Nat) : Int) < 400 := ti_nle c67 (by decide) (nI_toInt (by omega))
      refine lv_iload_n hx hb dX4_readAny_15 rfl (lv_at hl 1 rfl) ?_
      refine lv_if_eq (tgt := 46) hx hb dX4_readAny_16 (by decide) (fun c69 => ?_) (fun c69 => ?_)
      · have t70 : z14.toInt = 0 := ti_eq c69 rfl (by decide)
        refine lv_iload_n hx hb dX4_readAny_46 rfl (lv_at hl 1 rfl) ?_
        exact W.zret (v := z14) hx hb hr (nar_b (by have q8 := ti_all z14; omega)) (fun t ht hW => ⟨⟨z14, z19, rfl, (by exact ⟨(by have q8 := ti_all z19; omega), (by have q8 := ti_all z14; omega), (by omega), (by rcases hj23.1 with ⟨h8, l9⟩ | ⟨h8, l9⟩; (rw [h8]; exact lp_e l9 (fun h7 => by have := tn_of (show z19.toInt = z19.toInt from rfl) (by omega); have := tn_of (show tn.toInt = tn.toInt from rfl) (by omega); have k9 := hKK tn.toNatClampNeg (Nat.le_refl _); have e9 := hc_vT.at hm_tv (by have q9 := tn_of hx_tv (by omega); omega); have k8 : (vT tn.toNatClampNeg).toInt = 21 := (by have q8 := congrArg Int32.toInt e9; rw [show ix_tv.toNatClampNeg = tn.toNatClampNeg from tn_same hx_tv rfl rfl] at q8; omega); rw [show z19.toNatClampNeg = tn.toNatClampNeg from by omega] at h7; omega)); rw [h8]; exact l9)⟩), by (try dsimp only); rw [ht]; exact ⟨hT, hF, m21⟩⟩, hS.F ht⟩) hS.2.2 dX4_readAny_47
      · have t71 : z14.toInt ≠ 0 := ti_ne c69 rfl (by decide)
        refine lv_aload_n hx hb dX4_readAny_19 rfl (lv_at hl 2 rfl) ?_
        refine lv_bipush (v := 15) hx hb dX4_readAny_20 (by decide) ?_
        have hFc := gA_free hG hA hS
        refine va_calli (va_runV (As := [.int 15]) (rest := []) ⟨hx, hb, hml, hown, hts⟩ (c_take l dC dI kA adK adV G H nC nS o0 15 th z19 vT tv ix_tv ix_tv K X pS hT hr_o0 m17 hr_th m21 (by have q8 := ti_all ix_tv; omega) (by have q8 := ti_all z19; omega) (by have := (show z19.toInt = z19.toInt from rfl); have := (show ix_tv.toInt = ix_tv.toInt from rfl); omega) (by have := (show (15 : Int32).toInt = 15 from (by decide)); omega) (fun m hm => hKK m (Nat.le_trans hm (Nat.le_of_eq (tn_same hx_tv rfl rfl)))) (fun m hm => hXX m (Nat.lt_of_lt_of_eq hm (tn_same hx_tv rfl rfl))) m16 (by have q9 := (show ix_tv.toInt = ix_tv.toInt from rfl); have := (show ix_tv.toInt = ix_tv.toInt from rfl); omega) m18 (by have q8 := ti_all tv; omega) (by omega) (by omega)) (cwV 1 hts (goodIn_app (goodIn_r _ [20, 21, 22, 15] rfl (by decide +kernel)) (goodIn_ca (goodIn_r _ [19, 3, 4] rfl (by decide +kernel)) (bs2_in _ _))) rfl rfl rfl (by decide +kernel) ⟨(Nat.le_of_ble_eq_true rfl), (Nat.le_of_ble_eq_true rfl)⟩) ⟨fun a U g mk q => by obtain ⟨q0, q1, qK, qE⟩ := q; exact ⟨q0, q1, va_K.moved (u := U) (U := U.calling g mk a) (Vm.Alike.refl U.vm) qK, EVC.blind g mk a qE⟩, gH_rc hK hT hr_o0 shc_7 rfl, fun U hU hW => ⟨rfl, hU, va_K.moved hW.alike hK, hE.call hS hFc hU hW⟩⟩ rfl rfl hl.1 rfl (lv_room (Nat.le_of_ble_eq_true rfl)) dX4_readAny_22 ⟨(Nat.le_of_ble_eq_true rfl), (Nat.le_of_ble_eq_true rfl)⟩) hS (fun q _ h => hFc q h) hFc (fun r72 u t H locs ht hvm hw73 hB _ _ hS => ?_)
        obtain ⟨u74, rfl⟩ : ∃ z, z = u := ⟨_, rfl⟩
        obtain ⟨hT, hF1, m75⟩ := hB
        rw [ht] at hT hF1 m75
        have m76 := m16.kept (hF1.arr hr_th skc_40 (by decide))
        have m77 := (hF1.fld hr_o0 skc_7 (k := 0) (by decide) (by decide)).trans m17
        have m78 := (el_kept (hF1.arr hr_th skc_40 (by decide))).trans m18
        have hF := hF.more hF1 (by decide)
        try dsimp only at hw73
        obtain ⟨h80, h81, hf82, hf83, hf84⟩ := hw73
        refine lv_if_eq (tgt := 46) hx hb dX4_readAny_25 (by decide) (fun c85 => ?_) (fun c85 => ?_)
        · have t86 : r72.toInt = 0 := ti_eq c85 rfl (by decide)
          refine lv_iload_n hx hb dX4_readAny_46 rfl (lv_at hl 1 rfl) ?_
          exact W.zret (v := z14) hx hb hr (nar_b (by have q8 := ti_all z14; omega)) (fun t ht hW => ⟨⟨z14, u74, rfl, (by exact ⟨(by have q8 := ti_all u74; omega), (by have q8 := ti_all z14; omega), (by omega), (by have l9 := (hj23.1.resolve_right (fun h8 => by have := h8.1; omega)).2; have a9 := hf83.resolve_left (fun h8 => by have := h8.2.1; omega); rw [show z14.toInt = 1 from by omega, a9.2.2]; exact lp_e l9 (fun h7 => a9.1 (h7.trans (by decide))))⟩), by (try dsimp only); rw [ht]; exact ⟨hT, hF, m75⟩⟩, hS.F ht⟩) hS.2.2 dX4_readAny_47
        · have t87 : r72.toInt ≠ 0 := ti_ne c85 rfl (by decide)
          refine lv_aload_n hx hb dX4_readAny_28 rfl (lv_at hl 2 rfl) ?_
          refine lv_iload_n hx hb dX4_readAny_29 rfl (lv_at hl 3 rfl) ?_
          have hFc := gA_free hG hA hS
          refine va_calli (va_runV (As := [.int 1]) (rest := []) ⟨hx, hb, hml, hown, hts⟩ (c_readAll1 l dC dI kA adK adV G H nC nS o0 th u74 vT tv ix_tv ix_tv K X pS hT hr_o0 m77 hr_th m75 (by have q8 := ti_all ix_tv; omega) (by have q8 := ti_all u74; omega) (by have := (show u74.toInt = u74.toInt from rfl); have := (show ix_tv.toInt = ix_tv.toInt from rfl); omega) (fun m hm => hKK m (Nat.le_trans hm (Nat.le_of_eq (tn_same hx_tv rfl rfl)))) (fun m hm => hXX m (Nat.lt_of_lt_of_eq hm (tn_same hx_tv rfl rfl))) m76 (by have q9 := (show ix_tv.toInt = ix_tv.toInt from rfl); have := (show ix_tv.toInt = ix_tv.toInt from rfl); omega) m78 (by have q8 := ti_all tv; omega) (by omega) (by omega)) (cwV 1 hts (goodIn_app (goodIn_r _ [32, 33, 34, 15] rfl (by decide +kernel)) (goodIn_ca (goodIn_r _ [1, 2, 3, 4, 5, 1, 6, 7, 8, 9, 10, 11, 12, 13, 14, 15, 16, 17, 18, 19, 20, 21, 22, 23, 24, 25, 26, 27, 28, 29, 30, 31, 32, 33, 34, 35, 36, 37] rfl (by decide +kernel)) (bs2_in _ _))) rfl rfl rfl (by decide +kernel) ⟨(Nat.le_of_ble_eq_true rfl), (Nat.le_of_ble_eq_true rfl)⟩) ⟨fun a U g mk q => by obtain ⟨q0, q1, qK, qE⟩ := q; exact ⟨q0, q1, va_K.moved (u := U) (U := U.calling g mk a) (Vm.Alike.refl U.vm) qK, EVC.blind g mk a qE⟩, gH_rc hK hT hr_o0 shc_7 rfl, fun U hU hW => ⟨rfl, hU, va_K.moved hW.alike hK, hE.call hS hFc hU hW⟩⟩ rfl rfl hl.1 rfl (lv_room (Nat.le_of_ble_eq_true rfl)) dX4_readAny_30 ⟨(Nat.le_of_ble_eq_true rfl), (Nat.le_of_ble_eq_true rfl)⟩) hS (fun q _ h => hFc q h) hFc (fun r88 u t H locs ht hvm hw89 hB _ _ hS => ?_)
          obtain ⟨u90, rfl⟩ : ∃ z, z = u := ⟨_, rfl⟩
          obtain ⟨hT, hF1, m91⟩ := hB
          rw [ht] at hT hF1 m91
          have m92 := m76.kept (hF1.arr hr_th skc_40 (by decide))
          have m93 := (hF1.fld hr_o0 skc_7 (k := 0) (by decide) (by decide)).trans m77
          have m94 := (el_kept (hF1.arr hr_th skc_40 (by decide))).trans m78
          have hF := hF.more hF1 (by decide)
          try dsimp only at hw89
          obtain ⟨h96, h97, hf98, hf99⟩ := hw89
          refine lv_istore_n (lv' := [(2, .int r88), (3, .int (nI i13)), (0, .ref o0), (1, .int 1)]) hx hb dX4_readAny_33 rfl hl (by decide) rfl (fun ls hl => ?_)
          refine lv_aload_n hx hb dX4_readAny_34 rfl (lv_at hl 2 rfl) ?_
          refine lv_bipush (v := 15) hx hb dX4_readAny_35 (by decide) ?_
          have hFc := gA_free hG hA hS
          refine va_callv (va_runV (As := [.int 15]) (rest := []) ⟨hx, hb, hml, hown, hts⟩ (c_addStep l dC dI kA adK adV G H nC nS o0 15 hT hr_o0 (rg_t (a := 15) (by decide) (by first | decide | omega) (by first | decide | omega)) (by omega) (by omega)) (cwV 1 hts (goodIn_app (goodIn_r _ [12, 13, 14, 15] rfl (by decide +kernel)) (goodIn_ca (goodIn_r _ [9, 10, 11] rfl (by decide +kernel)) (bs2_in _ _))) rfl rfl rfl (by decide +kernel) ⟨(Nat.le_of_ble_eq_true rfl), (Nat.le_of_ble_eq_true rfl)⟩) ⟨fun a U g mk q => by obtain ⟨q0, q1, qK, qE⟩ := q; exact ⟨q0, q1, va_K.moved (u := U) (U := U.calling g mk a) (Vm.Alike.refl U.vm) qK, EVC.blind g mk a qE⟩, gH_rc hK hT hr_o0 shc_7 rfl, fun U hU hW => ⟨rfl, hU, va_K.moved hW.alike hK, hE.call hS hFc hU hW⟩⟩ rfl rfl hl.1 rfl (lv_room (Nat.le_of_ble_eq_true rfl)) dX4_readAny_37 ⟨(Nat.le_of_ble_eq_true rfl), (Nat.le_of_ble_eq_true rfl)⟩) hS (fun q _ h => hFc q h) hFc (fun u t H locs ht hvm hw101 hB _ _ hS => ?_)
          obtain ⟨hT, hF1⟩ := hB
          rw [ht] at hT hF1
          have m102 := m92.kept (hF1.arr hr_th skc_40 (by decide))
          have m103 := (hF1.fld hr_o0 skc_7 (k := 0) (by decide) (by decide)).trans m93
          have m104 := (el_kept (hF1.arr hr_th skc_40 (by decide))).trans m94
          have m105 := (hF1.fld hr_o0 skc_7 (k := 13) (by decide) (by decide)).trans m91
          have hF := hF.more hF1 (by decide)
          try dsimp only at hw101
          refine lv_iinc (v := nI (i13 + 1)) (lv' := [(3, .int (nI (i13 + 1))), (2, .int r88), (0, .ref o0), (1, .int 1)]) hx hb dX4_readAny_40 hl (k := 1) rfl (nI_add i13 1) (by decide) rfl (fun ls hl => ?_)
          refine lv_goto (tgt := 8) hx hb dX4_readAny_43 (by decide) ?_
          exact ih63 (i13 + 1) (by omega) (by omega) r88 u90 ⟨(by have q8 := ti_all r88; omega), (by have q8 := ti_all u90; omega), (by have := hx_tv; have := (show u90.toInt = u90.toInt from rfl); omega), ⟨(by have l9 := (hj23.1.resolve_right (fun h8 => by have := h8.1; omega)).2; have a9 := hf83.resolve_right (fun h8 => by have := h8.2.1; omega); have h9 := hf99; rw [a9.2.2] at h9; rcases (show r88.toInt = 1 ∨ r88.toInt = 0 by omega) with h8 | h8 <;> rw [h8] at h9; (exact Or.inl ⟨h8, lp_s l9 (a9.1.trans (by decide)) h9⟩); exact Or.inr ⟨h8, lp_f l9 (a9.1.trans (by decide)) h9⟩), by omega⟩⟩ _ _ hT hF hS m102 m103 m104 m105 ls (lv_sub hl [0, 1, 2, 3] rfl)
  exact key63 (400 - 0) 0 (by omega) (Nat.le_refl _) r1 u3 ⟨(by have q8 := ti_all r1; omega), (by have q8 := ti_all u3; omega), (by have := hx_tv; have := (show u3.toInt = u3.toInt from rfl); omega), ⟨(by have h9 := hf12; rcases (show r1.toInt = 1 ∨ r1.toInt = 0 by omega) with h8 | h8 <;> rw [h8] at h9; (exact Or.inl ⟨h8, lp_1 h9⟩); exact Or.inr ⟨h8, lp_0 h9⟩), by omega⟩⟩ _ _ hT hF hS m7 m5 m8 m4 ls (lv_sub hl [0, 1, 2, 3] rfl)
def w_c_readAtom0 : List Cond := .code yX4_readAtom cX4_readAtom 4 (some .boolean) :: (HAppend.hAppend (α := List Cond) (β := List Cond) (γ := List Cond) [.fieldLink RX4 11 "SeaLand$Law" "things" "[I", .fieldLink RX4 56 "SeaLand$Law" "at" "I", .code yX4_readAny cX4_readAny 4 (some .boolean), .code yX4_readAll cX4_readAll 4 (some .boolean), .code yX4_readAtom cX4_readAtom 4 (some .boolean), .code yX4_readComparison cX4_readComparison 3 (some .boolean), .code yX4_readSum cX4_readSum 3 (some .boolean), .code yX4_readPart cX4_readPart 2 (some .boolean), .code yX4_addStep cX4_addStep 2 none, .fieldLink RX4 63 "SeaLand$Law" "stepped" "I", .fieldLink RX4 39 "SeaLand$Law" "steps" "[I", .methodLink RX4 179 yX4_addStep, .instanceMethod yX4_addStep, .selects RX4 yX4_addStep yX4_addStep, .initialized RX4, .methodLink RX4 192 yX4_readPart, .instanceMethod yX4_readPart, .selects RX4 yX4_readPart yX4_readPart, .code yX4_take cX4_take 2 (some .boolean), .methodLink RX4 70 yX4_take, .instanceMethod yX4_take, .selects RX4 yX4_take yX4_take, .methodLink RX4 189 yX4_readSum, .instanceMethod yX4_readSum, .selects RX4 yX4_readSum yX4_readSum, .methodLink RX4 186 yX4_readComparison, .instanceMethod yX4_readComparison, .selects RX4 yX4_readComparison yX4_readComparison, .methodLink RX4 183 yX4_readAtom, .instanceMethod yX4_readAtom, .selects RX4 yX4_readAtom yX4_readAtom, .methodLink RX4 176 yX4_readAll, .instanceMethod yX4_readAll, .selects RX4 yX4_readAll yX4_readAll, .methodLink RX4 173 yX4_readAny, .instanceMethod yX4_readAny, .selects RX4 yX4_readAny yX4_readAny] bs2)
set_option maxHeartbeats 4000000 in
set_option maxRecDepth 100000 in
theorem c_readAtom0 (l : Launch) (dC : Nat → ClassId) (dI : Nat → Nat → Nat) (kA : Nat → ClassId) (adK adV : Nat → Nat) (G : gT) (H0 : Heap) (nC nS : Int) (o0 : Nat) (th : Nat) (a0 : Int32) (vT : Nat → Int32) (tv ix_tv : Int32) (tn : Int32) (K : Nat → Int) (X pS : Nat → Nat) (hT : gH (dC, dI) kA (SHc nC nS) G H0) (hr_o0 : G o0 = some 7) (hm_th : el H0 o0 (dI 7 0) = some (.ref th)) (hr_th : G th = some 40) (hm_a0 : el H0 o0 (dI 7 13) = some (.int a0)) (hq0 : 0 ≤ tn.toInt ∧ tn.toInt ≤ 400) (hq1 : 0 ≤ a0.toInt ∧ a0.toInt ≤ 400) (hat : a0.toInt ≤ tn.toInt) (hKK : ∀ m : Nat, m ≤ tn.toNatClampNeg → (vT m).toInt = K (pS m)) (hXX : ∀ m : Nat, m < tn.toNatClampNeg → pS (m + 1) = X (pS m)) (hc_vT : ct H0 th 401 vT) (hx_tv : ix_tv.toInt = tn.toInt) (hm_tv : el H0 th ix_tv.toNatClampNeg = some (.int tv)) (hv_tv : 21 ≤ tv.toInt ∧ tv.toInt ≤ 21) (hgC : 0 ≤ nC ∧ nC ≤ 40) (hgS : 0 ≤ nS ∧ nS ≤ 60) : Met l yX4_readAtom w_c_readAtom0 ({ frames := 22, cells := 0, slots := 0, locals := 500 }) (va_Pc [.ref o0, .int 0] (fun U => U.heap = H0 ∧ va_K (dC, dI) vwCl (tyl kA) U ∧ EVC adK adV (gA G H0.size) U U.heap)) (va_Qi (fun (r : Int32) (u : Int32) => (0 ≤ u.toInt ∧ u.toInt ≤ 400) ∧ (0 ≤ r.toInt ∧ r.toInt ≤ 1) ∧ (a0.toInt ≤ u.toInt ∧ u.toInt ≤ tn.toInt) ∧ (aR K X 6 (pS a0.toNatClampNeg) r.toInt (pS u.toNatClampNeg))) (fun (a1 : Int32) (t : State) => gH (dC, dI) kA (SHc nC nS) G t.heap ∧ gF (dC, dI) SKc G ([(7, 12), (7, 13), (49, 0)] : List (Nat × Nat)) H0 t.heap ∧ el t.heap o0 (dI 7 13) = some (.int a1)) (gA G H0.size)) 0 0 (gA G H0.size) := by
  refine Met.ofW (cc := cX4_readAtom) (maxL := 4) (ret := (some .boolean)) (by decide) rfl ?_
  intro p e s m args below meth c s₁ B hml hv
  obtain ⟨rfl, hH0, hK, hE⟩ := hv
  have hx := B.exec
  have hb := B.bytes
  have hr := B.returns
  have hts := atoms_spec (ws := w_c_readAtom0) B.pre
  have hown : s.vm.findClass RX4 = some m.cls := findClass_of_methodNamed B.named
  have hlocks := B.notSynchronized
  subst hH0
  generalize hAe : gA G s.heap.size = A at hE ⊢
  have hA : ∀ q : Nat, s.heap.size ≤ q → A q := fun q h => by rw [← hAe]; exact Or.inr h
  have hG := gA_of hAe
  have hS : va_S A s.heap s.heap [] := va_S.rf
  have hF : gF (dC, dI) SKc G ([(7, 12), (7, 13), (49, 0)] : List (Nat × Nat)) s.heap s.heap := gF.rf
  have hl := lv_entry ([.ref o0, .int 0]) (n := 4) (Nat.le_of_ble_eq_true rfl)
  rw [lg_entry_eq]
  generalize (lg_sl ([.ref o0, .int 0]) ++ List.replicate (4 - (lg_sl ([.ref o0, .int 0])).length) Slot.unset).toArray = ls at hl ⊢
  have hl : lv_has ls 4 [(0, .ref o0), (1, .int 0)] := hl
  refine lv_aload_n hx hb dX4_readAtom_0 rfl (lv_at hl 0 rfl) ?_
  refine tw_getM (v := .ref th) hx hb hts bF2_X4 hown hK hT hr_o0 shc_7 rfl 0 (by decide) (ht_at2 hts 0 rfl) (fun _ h9 => h9) hm_th dX4_readAtom_1 ?_
  refine lv_aload_n hx hb dX4_readAtom_4 rfl (lv_at hl 0 rfl) ?_
  refine tw_getM (v := .int a0) hx hb hts bF2_X4 hown hK hT hr_o0 shc_7 rfl 13 (by decide) (ht_at2 hts 1 rfl) (fun _ h9 => h9) hm_a0 dX4_readAtom_5 ?_
  refine tw_iald (i := a0) hx hb hK hT hr_th shc_40 rfl (vin_t (a := a0.toInt) rfl (by omega) (by omega)) dX4_readAtom_8 (fun v9 m1 h9 => ?_)
  obtain ⟨x2, rfl, gx2, kx2⟩ := h9
  have cx2 := hc_vT.at m1 (by have q9 := tn_of (show a0.toInt = a0.toInt from rfl) (by omega); omega)
  have t3 : a0.toInt = ix_tv.toInt → x2.toInt = tv.toInt := fun h8 => congrArg Int32.toInt (el_same m1 hm_tv h8)
  have t4 : x2.toInt = K (pS a0.toNatClampNeg) := (congrArg Int32.toInt cx2).trans (hKK _ (by have := tn_of (show a0.toInt = a0.toInt from rfl) (by omega); have := tn_of (show tn.toInt = tn.toInt from rfl) (by omega); omega))
  refine lv_bipush (v := 13) hx hb dX4_readAtom_9 (by decide) ?_
  have t5 : -2147483648 ≤ x2.toInt ∧ x2.toInt ≤ 2147483647 := ti_all x2
  refine lv_icmp_ne (tgt := 18) hx hb dX4_readAtom_11 (by decide) (fun c6 => ?_) (fun c6 => ?_)
  · have t7 : x2.toInt ≠ 13 := ti_ne c6 rfl (by decide)
    refine lv_iconst (v := 0) hx hb dX4_readAtom_18 (by decide) ?_
    refine lv_istore_n (lv' := [(2, .int 0), (0, .ref o0), (1, .int 0)]) hx hb dX4_readAtom_19 rfl hl (by decide) rfl (fun ls hl => ?_)
    refine lv_iload_n hx hb dX4_readAtom_20 rfl (lv_at hl 0 rfl) ?_
    refine lv_if_ne (tgt := 43) hx hb dX4_readAtom_21 (by decide) (fun c8 => absurd c8 (by decide)) (fun c8 => ?_)
    refine lv_aload_n hx hb dX4_readAtom_24 rfl (lv_at hl 1 rfl) ?_
    refine tw_getM (v := .ref th) hx hb hts bF2_X4 hown hK hT hr_o0 shc_7 rfl 0 (by decide) (ht_at2 hts 0 rfl) (fun _ h9 => h9) hm_th dX4_readAtom_25 ?_
    refine lv_aload_n hx hb dX4_readAtom_28 rfl (lv_at hl 1 rfl) ?_
    refine tw_getM (v := .int a0) hx hb hts bF2_X4 hown hK hT hr_o0 shc_7 rfl 13 (by decide) (ht_at2 hts 1 rfl) (fun _ h9 => h9) hm_a0 dX4_readAtom_29 ?_
    refine tw_iald (i := a0) hx hb hK hT hr_th shc_40 rfl (vin_t (a := a0.toInt) rfl (by omega) (by omega)) dX4_readAtom_32 (fun v9 m9 h9 => ?_)
    obtain ⟨x10, rfl, gx10, kx10⟩ := h9
    have cx10 := hc_vT.at m9 (by have q9 := tn_of (show a0.toInt = a0.toInt from rfl) (by omega); omega)
    have t11 : a0.toInt = ix_tv.toInt → x10.toInt = tv.toInt := fun h8 => congrArg Int32.toInt (el_same m9 hm_tv h8)
    obtain rfl : x2 = x10 := (el_same m9 m1 rfl).symm
    refine lv_bipush (v := 16) hx hb dX4_readAtom_33 (by decide) ?_
    refine lv_icmp_eq (tgt := 43) hx hb dX4_readAtom_35 (by decide) (fun c12 => ?_) (fun c12 => ?_)
    · have t13 : x2.toInt = 16 := ti_eq c12 rfl (by decide)
      refine lv_iload_n hx hb dX4_readAtom_43 rfl (lv_at hl 2 rfl) ?_
      refine lv_bipush (v := 6) hx hb dX4_readAtom_44 (by decide) ?_
      refine lv_icmp_lt (tgt := 51) hx hb dX4_readAtom_46 (by decide) (fun c14 => ?_) (fun c14 => absurd c14 (by decide))
      refine lv_aload_n hx hb dX4_readAtom_51 rfl (lv_at hl 1 rfl) ?_
      refine lv_dup hx hb dX4_readAtom_52 rfl ?_
      refine tw_getM (v := .int a0) hx hb hts bF2_X4 hown hK hT hr_o0 shc_7 rfl 13 (by decide) (ht_at2 hts 1 rfl) (fun _ h9 => h9) hm_a0 dX4_readAtom_53 ?_
      refine lv_iconst (v := 1) hx hb dX4_readAtom_56 (by decide) ?_
      refine lv_iadd hx hb dX4_readAtom_57 ?_
      refine lv_topi (fun x15 ex15 => ?_)
      have t16 : x15.toInt = a0.toInt + 1 := ti_add ex15 rfl (by decide) (by omega) (by omega)
      refine tw_put (v := .int x15) (ty := .int) hx hb hts bF2_X4 tyX4 tyX4_ok nmX4 hown hK hT hG hS hr_o0 shc_7 rfl 13 (by decide) (ht_at2 hts 1 rfl) (fun _ h9 => h9) rfl (by decide +kernel) rfl rfl (gl_at rfl (gi_of (show x15.toInt = x15.toInt from rfl) (by omega) (by omega))) dX4_readAtom_58 (fun H locs hT oq m17 oj hS => ?_)
      have hF := hF.put hr_o0 skc_7 oq oj (by decide)
      have m18 := (oj 0 (by decide) (by decide)).trans hm_th
      have m19 := hc_vT.kept (oq _ (gne hr_th hr_o0 (by decide)))
      have m20 := (el_kept (oq _ (gne hr_th hr_o0 (by decide)))).trans hm_tv
      refine lv_iload_n hx hb dX4_readAtom_61 rfl (lv_at hl 0 rfl) ?_
      refine lv_if_eq (tgt := 81) hx hb dX4_readAtom_62 (by decide) (fun c22 => ?_) (fun c22 => absurd c22 (by decide))
      refine lv_aload_n hx hb dX4_readAtom_81 rfl (lv_at hl 1 rfl) ?_
      refine lv_iload_n hx hb dX4_readAtom_82 rfl (lv_at hl 2 rfl) ?_
      refine lv_iconst (v := 1) hx hb dX4_readAtom_83 (by decide) ?_
      refine lv_iadd hx hb dX4_readAtom_84 ?_
      refine lv_topi (fun x23 ex23 => ?_)
      obtain rfl : x23 = 1 := ex23.trans (by decide)
      have hFc := gA_free hG hA hS
      refine va_calli (va_runV (As := [.int 1]) (rest := []) ⟨hx, hb, hml, hown, hts⟩ (c_readAny1 l dC dI kA adK adV G H nC nS o0 th x15 vT tv ix_tv ix_tv K X pS hT hr_o0 m18 hr_th m17 (by have q8 := ti_all ix_tv; omega) (by have q8 := ti_all x15; omega) (by have := (show x15.toInt = x15.toInt from rfl); have := (show ix_tv.toInt = ix_tv.toInt from rfl); omega) (fun m hm => hKK m (Nat.le_trans hm (Nat.le_of_eq (tn_same hx_tv rfl rfl)))) (fun m hm => hXX m (Nat.lt_of_lt_of_eq hm (tn_same hx_tv rfl rfl))) m19 (by have q9 := (show ix_tv.toInt = ix_tv.toInt from rfl); have := (show ix_tv.toInt = ix_tv.toInt from rfl); omega) m20 (by have q8 := ti_all tv; omega) (by omega) (by omega)) (cwV 1 hts (goodIn_app (goodIn_r _ [35, 36, 37, 15] rfl (by decide +kernel)) (goodIn_ca (goodIn_r _ [3, 4, 5, 1, 2, 3, 6, 7, 8, 9, 10, 11, 12, 13, 14, 15, 16, 17, 18, 19, 20, 21, 22, 23, 24, 25, 26, 27, 28, 29, 30, 31, 32, 33, 34, 35, 36, 37] rfl (by decide +kernel)) (bs2_in _ _))) rfl rfl rfl (by decide +kernel) ⟨(Nat.le_of_ble_eq_true rfl), (Nat.le_of_ble_eq_true rfl)⟩) ⟨fun a U g mk q => by obtain ⟨q0, q1, qK, qE⟩ := q; exact ⟨q0, q1, va_K.moved (u := U) (U := U.calling g mk a) (Vm.Alike.refl U.vm) qK, EVC.blind g mk a qE⟩, gH_rc hK hT hr_o0 shc_7 rfl, fun U hU hW => ⟨rfl, hU, va_K.moved hW.alike hK, hE.call hS hFc hU hW⟩⟩ rfl rfl hl.1 rfl (lv_room (Nat.le_of_ble_eq_true rfl)) dX4_readAtom_85 ⟨(Nat.le_of_ble_eq_true rfl), (Nat.le_of_ble_eq_true rfl)⟩) hS (fun q _ h => hFc q h) hFc (fun r24 u t H locs ht hvm hw25 hB _ _ hS => ?_)
      obtain ⟨u26, rfl⟩ : ∃ z, z = u := ⟨_, rfl⟩
      obtain ⟨hT, hF1, m27⟩ := hB
      rw [ht] at hT hF1 m27
      have m28 := (hF1.fld hr_o0 skc_7 (k := 0) (by decide) (by decide)).trans m18
      have m29 := m19.kept (hF1.arr hr_th skc_40 (by decide))
      have m30 := (el_kept (hF1.arr hr_th skc_40 (by decide))).trans m20
      have hF := hF.more hF1 (by decide)
      try dsimp only at hw25
      obtain ⟨h33, h34, hf35, hf36⟩ := hw25
      refine lv_if_eq (tgt := 104) hx hb dX4_readAtom_88 (by decide) (fun c37 => ?_) (fun c37 => ?_)
      · have t38 : r24.toInt = 0 := ti_eq c37 rfl (by decide)
        refine lv_iconst (v := 0) hx hb dX4_readAtom_104 (by decide) ?_
        exact W.zret (v := 0) hx hb hr (by decide) (fun t ht hW => ⟨⟨0, u26, rfl, (by exact ⟨(by have q8 := ti_all u26; omega), (rg_t (a := 0) (by decide) (by first | decide | omega) (by first | decide | omega)), (by omega), (by have h9 := hf36; rw [(show pS x15.toNatClampNeg = X (pS a0.toNatClampNeg) from by rw [show x15.toNatClampNeg = a0.toNatClampNeg + 1 from by have := tn_of (show a0.toInt = a0.toInt from rfl) (by omega); have := tn_of (show x15.toInt = x15.toInt from rfl) (by omega); omega]; exact hXX _ (by have := tn_of (show a0.toInt = a0.toInt from rfl) (by omega); have := tn_of (show tn.toInt = tn.toInt from rfl) (by omega); omega))] at h9; rw [show r24.toInt = 0 from by omega] at h9; exact Or.inr (Or.inl ⟨by omega, Or.inl ⟨h9, by decide⟩⟩))⟩), by (try dsimp only); rw [ht]; exact ⟨hT, hF, m27⟩⟩, hS.F ht⟩) hS.2.2 dX4_readAtom_105
      · have t39 : r24.toInt ≠ 0 := ti_ne c37 rfl (by decide)
        refine lv_aload_n hx hb dX4_readAtom_91 rfl (lv_at hl 1 rfl) ?_
        refine lv_bipush (v := 17) hx hb dX4_readAtom_92 (by decide) ?_
        have hFc := gA_free hG hA hS
        refine va_calli (va_runV (As := [.int 17]) (rest := []) ⟨hx, hb, hml, hown, hts⟩ (c_take l dC dI kA adK adV G H nC nS o0 17 th u26 vT tv ix_tv ix_tv K X pS hT hr_o0 m28 hr_th m27 (by have q8 := ti_all ix_tv; omega) (by have q8 := ti_all u26; omega) (by have := (show u26.toInt = u26.toInt from rfl); have := (show ix_tv.toInt = ix_tv.toInt from rfl); omega) (by have := (show (17 : Int32).toInt = 17 from (by decide)); omega) (fun m hm => hKK m (Nat.le_trans hm (Nat.le_of_eq (tn_same hx_tv rfl rfl)))) (fun m hm => hXX m (Nat.lt_of_lt_of_eq hm (tn_same hx_tv rfl rfl))) m29 (by have q9 := (show ix_tv.toInt = ix_tv.toInt from rfl); have := (show ix_tv.toInt = ix_tv.toInt from rfl); omega) m30 (by have q8 := ti_all tv; omega) (by omega) (by omega)) (cwV 1 hts (goodIn_app (goodIn_r _ [20, 21, 22, 15] rfl (by decide +kernel)) (goodIn_ca (goodIn_r _ [19, 1, 2] rfl (by decide +kernel)) (bs2_in _ _))) rfl rfl rfl (by decide +kernel) ⟨(Nat.le_of_ble_eq_true rfl), (Nat.le_of_ble_eq_true rfl)⟩) ⟨fun a U g mk q => by obtain ⟨q0, q1, qK, qE⟩ := q; exact ⟨q0, q1, va_K.moved (u := U) (U := U.calling g mk a) (Vm.Alike.refl U.vm) qK, EVC.blind g mk a qE⟩, gH_rc hK hT hr_o0 shc_7 rfl, fun U hU hW => ⟨rfl, hU, va_K.moved hW.alike hK, hE.call hS hFc hU hW⟩⟩ rfl rfl hl.1 rfl (lv_room (Nat.le_of_ble_eq_true rfl)) dX4_readAtom_94 ⟨(Nat.le_of_ble_eq_true rfl), (Nat.le_of_ble_eq_true rfl)⟩) hS (fun q _ h => hFc q h) hFc (fun r40 u t H locs ht hvm hw41 hB _ _ hS => ?_)
        obtain ⟨u42, rfl⟩ : ∃ z, z = u := ⟨_, rfl⟩
        obtain ⟨hT, hF1, m43⟩ := hB
        rw [ht] at hT hF1 m43
        have hF := hF.more hF1 (by decide)
        try dsimp only at hw41
        obtain ⟨h49, h50, hf51, hf52, hf53⟩ := hw41
        refine lv_if_eq (tgt := 104) hx hb dX4_readAtom_97 (by decide) (fun c54 => ?_) (fun c54 => ?_)
        · have t55 : r40.toInt = 0 := ti_eq c54 rfl (by decide)
          refine lv_iconst (v := 0) hx hb dX4_readAtom_104 (by decide) ?_
          exact W.zret (v := 0) hx hb hr (by decide) (fun t ht hW => ⟨⟨0, u42, rfl, (by exact ⟨(by have q8 := ti_all u42; omega), (rg_t (a := 0) (by decide) (by first | decide | omega) (by first | decide | omega)), (by omega), (by have h9 := hf36; rw [(show pS x15.toNatClampNeg = X (pS a0.toNatClampNeg) from by rw [show x15.toNatClampNeg = a0.toNatClampNeg + 1 from by have := tn_of (show a0.toInt = a0.toInt from rfl) (by omega); have := tn_of (show x15.toInt = x15.toInt from rfl) (by omega); omega]; exact hXX _ (by have := tn_of (show a0.toInt = a0.toInt from rfl) (by omega); have := tn_of (show tn.toInt = tn.toInt from rfl) (by omega); omega))] at h9; rw [show r24.toInt = 1 from by omega] at h9; have t9 := hf52; exact Or.inr (Or.inl ⟨by omega, Or.inr ⟨_, h9, (by have q0 : (0 : Int32).toInt = 0 := (by decide); have q1 : (1 : Int32).toInt = 1 := (by decide); rcases t9 with ⟨x1, x2, x3⟩ | ⟨x1, x2, x3⟩; (exact Or.inl ⟨x1.trans (by decide), by omega, x3⟩); exact Or.inr ⟨fun h7 => x1 (h7.trans (by decide)), by omega, x3⟩)⟩⟩))⟩), by (try dsimp only); rw [ht]; exact ⟨hT, hF, m43⟩⟩, hS.F ht⟩) hS.2.2 dX4_readAtom_105
        · have t56 : r40.toInt ≠ 0 := ti_ne c54 rfl (by decide)
          refine lv_iconst (v := 1) hx hb dX4_readAtom_100 (by decide) ?_
          refine lv_goto (tgt := 105) hx hb dX4_readAtom_101 (by decide) ?_
          exact W.zret (v := 1) hx hb hr (by decide) (fun t ht hW => ⟨⟨1, u42, rfl, (by exact ⟨(by have q8 := ti_all u42; omega), (rg_t (a := 1) (by decide) (by first | decide | omega) (by first | decide | omega)), (by omega), (by have h9 := hf36; rw [(show pS x15.toNatClampNeg = X (pS a0.toNatClampNeg) from by rw [show x15.toNatClampNeg = a0.toNatClampNeg + 1 from by have := tn_of (show a0.toInt = a0.toInt from rfl) (by omega); have := tn_of (show x15.toInt = x15.toInt from rfl) (by omega); omega]; exact hXX _ (by have := tn_of (show a0.toInt = a0.toInt from rfl) (by omega); have := tn_of (show tn.toInt = tn.toInt from rfl) (by omega); omega))] at h9; rw [show r24.toInt = 1 from by omega] at h9; have t9 := hf52; exact Or.inr (Or.inl ⟨by omega, Or.inr ⟨_, h9, (by have q0 : (0 : Int32).toInt = 0 := (by decide); have q1 : (1 : Int32).toInt = 1 := (by decide); rcases t9 with ⟨x1, x2, x3⟩ | ⟨x1, x2, x3⟩; (exact Or.inl ⟨x1.trans (by decide), by omega, x3⟩); exact Or.inr ⟨fun h7 => x1 (h7.trans (by decide)), by omega, x3⟩)⟩⟩))⟩), by (try dsimp only); rw [ht]; exact ⟨hT, hF, m43⟩⟩, hS.F ht⟩) hS.2.2 dX4_readAtom_105
    · have t57 : x2.toInt ≠ 16 := ti_ne c12 rfl (by decide)
      refine lv_aload_n hx hb dX4_readAtom_38 rfl (lv_at hl 1 rfl) ?_
      have hFc := gA_free hG hA hS
      refine va_calli (va_runV (As := []) (rest := []) ⟨hx, hb, hml, hown, hts⟩ (c_readComparison l dC dI kA adK adV G s.heap nC nS o0 th a0 vT tv ix_tv ix_tv K X pS hT hr_o0 hm_th hr_th hm_a0 (by have q8 := ti_all ix_tv; omega) (by have q8 := ti_all a0; omega) (by have := (show a0.toInt = a0.toInt from rfl); have := (show ix_tv.toInt = ix_tv.toInt from rfl); omega) (fun m hm => hKK m (Nat.le_trans hm (Nat.le_of_eq (tn_same hx_tv rfl rfl)))) (fun m hm => hXX m (Nat.lt_of_lt_of_eq hm (tn_same hx_tv rfl rfl))) hc_vT (by have q9 := (show ix_tv.toInt = ix_tv.toInt from rfl); have := (show ix_tv.toInt = ix_tv.toInt from rfl); omega) hm_tv (by have q8 := ti_all tv; omega) (by omega) (by omega)) (cwV 0 hts (goodIn_app (goodIn_r _ [26, 27, 28, 15] rfl (by decide +kernel)) (goodIn_ca (goodIn_r _ [6, 7, 8, 1, 2, 9, 10, 11, 12, 13, 14, 15, 16, 17, 18, 19, 20, 21, 22, 23, 24, 25] rfl (by decide +kernel)) (bs2_in _ _))) rfl rfl rfl (by decide +kernel) ⟨(Nat.le_of_ble_eq_true rfl), (Nat.le_of_ble_eq_true rfl)⟩) ⟨fun a U g mk q => by obtain ⟨q0, q1, qK, qE⟩ := q; exact ⟨q0, q1, va_K.moved (u := U) (U := U.calling g mk a) (Vm.Alike.refl U.vm) qK, EVC.blind g mk a qE⟩, gH_rc hK hT hr_o0 shc_7 rfl, fun U hU hW => ⟨rfl, hU, va_K.moved hW.alike hK, hE.call hS hFc hU hW⟩⟩ rfl rfl hl.1 rfl (lv_room (Nat.le_of_ble_eq_true rfl)) dX4_readAtom_39 ⟨(Nat.le_of_ble_eq_true rfl), (Nat.le_of_ble_eq_true rfl)⟩) hS (fun q _ h => hFc q h) hFc (fun r58 u t H locs ht hvm hw59 hB _ _ hS => ?_)
      obtain ⟨u60, rfl⟩ : ∃ z, z = u := ⟨_, rfl⟩
      obtain ⟨hT, hF1, m61⟩ := hB
      rw [ht] at hT hF1 m61
      have hF := hF.more hF1 (by decide)
      try dsimp only at hw59
      obtain ⟨h67, h68, hf69, hf70⟩ := hw59
      exact W.zret (v := r58) hx hb hr (nar_b (by have q8 := ti_all r58; omega)) (fun t ht hW => ⟨⟨r58, u60, rfl, (by exact ⟨(by have q8 := ti_all u60; omega), (by have q8 := ti_all r58; omega), (by omega), (Or.inr (Or.inr ⟨by omega, hf70⟩))⟩), by (try dsimp only); rw [ht]; exact ⟨hT, hF, m61⟩⟩, hS.F ht⟩) hS.2.2 dX4_readAtom_42
  · have t71 : x2.toInt = 13 := ti_eq c6 rfl (by decide)
    refine lv_iconst (v := 1) hx hb dX4_readAtom_14 (by decide) ?_
    refine lv_goto (tgt := 19) hx hb dX4_readAtom_15 (by decide) ?_
    refine lv_istore_n (lv' := [(2, .int 1), (0, .ref o0), (1, .int 0)]) hx hb dX4_readAtom_19 rfl hl (by decide) rfl (fun ls hl => ?_)
    refine lv_iload_n hx hb dX4_readAtom_20 rfl (lv_at hl 0 rfl) ?_
    refine lv_if_ne (tgt := 43) hx hb dX4_readAtom_21 (by decide) (fun c72 => ?_) (fun c72 => absurd c72 (by decide))
    refine lv_iload_n hx hb dX4_readAtom_43 rfl (lv_at hl 2 rfl) ?_
    refine lv_bipush (v := 6) hx hb dX4_readAtom_44 (by decide) ?_
    refine lv_icmp_lt (tgt := 51) hx hb dX4_readAtom_46 (by decide) (fun c73 => ?_) (fun c73 => absurd c73 (by decide))
    refine lv_aload_n hx hb dX4_readAtom_51 rfl (lv_at hl 1 rfl) ?_
    refine lv_dup hx hb dX4_readAtom_52 rfl ?_
    refine tw_getM (v := .int a0) hx hb hts bF2_X4 hown hK hT hr_o0 shc_7 rfl 13 (by decide) (ht_at2 hts 1 rfl) (fun _ h9 => h9) hm_a0 dX4_readAtom_53 ?_
    refine lv_iconst (v := 1) hx hb dX4_readAtom_56 (by decide) ?_
    refine lv_iadd hx hb dX4_readAtom_57 ?_
    refine lv_topi (fun x74 ex74 => ?_)
    have t75 : x74.toInt = a0.toInt + 1 := ti_add ex74 rfl (by decide) (by omega) (by omega)
    refine tw_put (v := .int x74) (ty := .int) hx hb hts bF2_X4 tyX4 tyX4_ok nmX4 hown hK hT hG hS hr_o0 shc_7 rfl 13 (by decide) (ht_at2 hts 1 rfl) (fun _ h9 => h9) rfl (by decide +kernel) rfl rfl (gl_at rfl (gi_of (show x74.toInt = x74.toInt from rfl) (by omega) (by omega))) dX4_readAtom_58 (fun H locs hT oq m76 oj hS => ?_)
    have hF := hF.put hr_o0 skc_7 oq oj (by decide)
    have m77 := (oj 0 (by decide) (by decide)).trans hm_th
    have m78 := hc_vT.kept (oq _ (gne hr_th hr_o0 (by decide)))
    have m79 := (el_kept (oq _ (gne hr_th hr_o0 (by decide)))).trans hm_tv
    refine lv_iload_n hx hb dX4_readAtom_61 rfl (lv_at hl 0 rfl) ?_
    refine lv_if_eq (tgt := 81) hx hb dX4_readAtom_62 (by decide) (fun c81 => absurd c81 (by decide)) (fun c81 => ?_)
    refine lv_aload_n hx hb dX4_readAtom_65 rfl (lv_at hl 1 rfl) ?_
    refine lv_iload_n hx hb dX4_readAtom_66 rfl (lv_at hl 2 rfl) ?_
    refine lv_iconst (v := 1) hx hb dX4_readAtom_67 (by decide) ?_
    refine lv_iadd hx hb dX4_readAtom_68 ?_
    refine lv_topi (fun x82 ex82 => ?_)
    obtain rfl : x82 = 1 := ex82.trans (by decide)
    have hFc := gA_free hG hA hS
    refine va_calli (va_runV (As := [.int 1]) (rest := []) ⟨hx, hb, hml, hown, hts⟩ (c_readAtom1 l dC dI kA adK adV G H nC nS o0 th x74 vT tv ix_tv ix_tv K X pS hT hr_o0 m77 hr_th m76 (by have q8 := ti_all ix_tv; omega) (by have q8 := ti_all x74; omega) (by have := (show x74.toInt = x74.toInt from rfl); have := (show ix_tv.toInt = ix_tv.toInt from rfl); omega) (fun m hm => hKK m (Nat.le_trans hm (Nat.le_of_eq (tn_same hx_tv rfl rfl)))) (fun m hm => hXX m (Nat.lt_of_lt_of_eq hm (tn_same hx_tv rfl rfl))) m78 (by have q9 := (show ix_tv.toInt = ix_tv.toInt from rfl); have := (show ix_tv.toInt = ix_tv.toInt from rfl); omega) m79 (by have q8 := ti_all tv; omega) (by omega) (by omega)) (cwV 1 hts (goodIn_app (goodIn_r _ [29, 30, 31, 15] rfl (by decide +kernel)) (goodIn_ca (goodIn_r _ [5, 1, 2, 3, 4, 5, 6, 7, 8, 9, 10, 11, 12, 13, 14, 15, 16, 17, 18, 19, 20, 21, 22, 23, 24, 25, 26, 27, 28, 29, 30, 31, 32, 33, 34, 35, 36, 37] rfl (by decide +kernel)) (bs2_in _ _))) rfl rfl rfl (by decide +kernel) ⟨(Nat.le_of_ble_eq_true rfl), (Nat.le_of_ble_eq_true rfl)⟩) ⟨fun a U g mk q => by obtain ⟨q0, q1, qK, qE⟩ := q; exact ⟨q0, q1, va_K.moved (u := U) (U := U.calling g mk a) (Vm.Alike.refl U.vm) qK, EVC.blind g mk a qE⟩, gH_rc hK hT hr_o0 shc_7 rfl, fun U hU hW => ⟨rfl, hU, va_K.moved hW.alike hK, hE.call hS hFc hU hW⟩⟩ rfl rfl hl.1 rfl (lv_room (Nat.le_of_ble_eq_true rfl)) dX4_readAtom_69 ⟨(Nat.le_of_ble_eq_true rfl), (Nat.le_of_ble_eq_true rfl)⟩) hS (fun q _ h => hFc q h) hFc (fun r83 u t H locs ht hvm hw84 hB _ _ hS => ?_)
    obtain ⟨u85, rfl⟩ : ∃ z, z = u := ⟨_, rfl⟩
    obtain ⟨hT, hF1, m86⟩ := hB
    rw [ht] at hT hF1 m86
    have hF := hF.more hF1 (by decide)
    try dsimp only at hw84
    obtain ⟨h92, h93, hf94, hf95⟩ := hw84
    refine lv_istore_n (lv' := [(3, .int r83), (2, .int 1), (0, .ref o0), (1, .int 0)]) hx hb dX4_readAtom_72 rfl hl (by decide) rfl (fun ls hl => ?_)
    refine lv_aload_n hx hb dX4_readAtom_73 rfl (lv_at hl 2 rfl) ?_
    refine lv_bipush (v := 13) hx hb dX4_readAtom_74 (by decide) ?_
    have hFc := gA_free hG hA hS
    refine va_callv (va_runV (As := [.int 13]) (rest := []) ⟨hx, hb, hml, hown, hts⟩ (c_addStep l dC dI kA adK adV G H nC nS o0 13 hT hr_o0 (rg_t (a := 13) (by decide) (by first | decide | omega) (by first | decide | omega)) (by omega) (by omega)) (cwV 1 hts (goodIn_app (goodIn_r _ [12, 13, 14, 15] rfl (by decide +kernel)) (goodIn_ca (goodIn_r _ [9, 10, 11] rfl (by decide +kernel)) (bs2_in _ _))) rfl rfl rfl (by decide +kernel) ⟨(Nat.le_of_ble_eq_true rfl), (Nat.le_of_ble_eq_true rfl)⟩) ⟨fun a U g mk q => by obtain ⟨q0, q1, qK, qE⟩ := q; exact ⟨q0, q1, va_K.moved (u := U) (U := U.calling g mk a) (Vm.Alike.refl U.vm) qK, EVC.blind g mk a qE⟩, gH_rc hK hT hr_o0 shc_7 rfl, fun U hU hW => ⟨rfl, hU, va_K.moved hW.alike hK, hE.call hS hFc hU hW⟩⟩ rfl rfl hl.1 rfl (lv_room (Nat.le_of_ble_eq_true rfl)) dX4_readAtom_76 ⟨(Nat.le_of_ble_eq_true rfl), (Nat.le_of_ble_eq_true rfl)⟩) hS (fun q _ h => hFc q h) hFc (fun u t H locs ht hvm hw97 hB _ _ hS => ?_)
    obtain ⟨hT, hF1⟩ := hB
    rw [ht] at hT hF1
    have m102 := (hF1.fld hr_o0 skc_7 (k := 13) (by decide) (by decide)).trans m86
    have hF := hF.more hF1 (by decide)
    try dsimp only at hw97
    refine lv_iload_n hx hb dX4_readAtom_79 rfl (lv_at hl 0 rfl) ?_
    exact W.zret (v := r83) hx hb hr (nar_b (by have q8 := ti_all r83; omega)) (fun t ht hW => ⟨⟨r83, u85, rfl, (by exact ⟨(by have q8 := ti_all u85; omega), (by have q8 := ti_all r83; omega), (by omega), (by have h9 := hf95; rw [(show pS x74.toNatClampNeg = X (pS a0.toNatClampNeg) from by rw [show x74.toNatClampNeg = a0.toNatClampNeg + 1 from by have := tn_of (show a0.toInt = a0.toInt from rfl) (by omega); have := tn_of (show x74.toInt = x74.toInt from rfl) (by omega); omega]; exact hXX _ (by have := tn_of (show a0.toInt = a0.toInt from rfl) (by omega); have := tn_of (show tn.toInt = tn.toInt from rfl) (by omega); omega))] at h9; exact Or.inl ⟨by omega, h9⟩)⟩), by (try dsimp only); rw [ht]; exact ⟨hT, hF, m102⟩⟩, hS.F ht⟩) hS.2.2 dX4_readAtom_80
def w_c_readAll0 : List Cond := .code yX4_readAll cX4_readAll 4 (some .boolean) :: (HAppend.hAppend (α := List Cond) (β := List Cond) (γ := List Cond) [.code yX4_readAtom cX4_readAtom 4 (some .boolean), .fieldLink RX4 11 "SeaLand$Law" "things" "[I", .fieldLink RX4 56 "SeaLand$Law" "at" "I", .code yX4_readAny cX4_readAny 4 (some .boolean), .code yX4_readAll cX4_readAll 4 (some .boolean), .code yX4_readComparison cX4_readComparison 3 (some .boolean), .code yX4_readSum cX4_readSum 3 (some .boolean), .code yX4_readPart cX4_readPart 2 (some .boolean), .code yX4_addStep cX4_addStep 2 none, .fieldLink RX4 63 "SeaLand$Law" "stepped" "I", .fieldLink RX4 39 "SeaLand$Law" "steps" "[I", .methodLink RX4 179 yX4_addStep, .instanceMethod yX4_addStep, .selects RX4 yX4_addStep yX4_addStep, .initialized RX4, .methodLink RX4 192 yX4_readPart, .instanceMethod yX4_readPart, .selects RX4 yX4_readPart yX4_readPart, .code yX4_take cX4_take 2 (some .boolean), .methodLink RX4 70 yX4_take, .instanceMethod yX4_take, .selects RX4 yX4_take yX4_take, .methodLink RX4 189 yX4_readSum, .instanceMethod yX4_readSum, .selects RX4 yX4_readSum yX4_readSum, .methodLink RX4 186 yX4_readComparison, .instanceMethod yX4_readComparison, .selects RX4 yX4_readComparison yX4_readComparison, .methodLink RX4 183 yX4_readAtom, .instanceMethod yX4_readAtom, .selects RX4 yX4_readAtom yX4_readAtom, .methodLink RX4 176 yX4_readAll, .instanceMethod yX4_readAll, .selects RX4 yX4_readAll yX4_readAll, .methodLink RX4 173 yX4_readAny, .instanceMethod yX4_readAny, .selects RX4 yX4_readAny yX4_readAny] bs2)
set_option maxHeartbeats 4000000 in
set_option maxRecDepth 100000 in
theorem c_readAll0 (l : Launch) (dC : Nat → ClassId) (dI : Nat → Nat → Nat) (kA : Nat → ClassId) (adK adV : Nat → Nat) (G : gT) (H0 : Heap) (nC nS : Int) (o0 : Nat) (th : Nat) (a0 : Int32) (vT : Nat → Int32) (tv ix_tv : Int32) (tn : Int32) (K : Nat → Int) (X pS : Nat → Nat) (hT : gH (dC, dI) kA (SHc nC nS) G H0) (hr_o0 : G o0 = some 7) (hm_th : el H0 o0 (dI 7 0) = some (.ref th)) (hr_th : G th = some 40) (hm_a0 : el H0 o0 (dI 7 13) = some (.int a0)) (hq0 : 0 ≤ tn.toInt ∧ tn.toInt ≤ 400) (hq1 : 0 ≤ a0.toInt ∧ a0.toInt ≤ 400) (hat : a0.toInt ≤ tn.toInt) (hKK : ∀ m : Nat, m ≤ tn.toNatClampNeg → (vT m).toInt = K (pS m)) (hXX : ∀ m : Nat, m < tn.toNatClampNeg → pS (m + 1) = X (pS m)) (hc_vT : ct H0 th 401 vT) (hx_tv : ix_tv.toInt = tn.toInt) (hm_tv : el H0 th ix_tv.toNatClampNeg = some (.int tv)) (hv_tv : 21 ≤ tv.toInt ∧ tv.toInt ≤ 21) (hgC : 0 ≤ nC ∧ nC ≤ 40) (hgS : 0 ≤ nS ∧ nS ≤ 60) : Met l yX4_readAll w_c_readAll0 ({ frames := 23, cells := 0, slots := 0, locals := 523 }) (va_Pc [.ref o0, .int 0] (fun U => U.heap = H0 ∧ va_K (dC, dI) vwCl (tyl kA) U ∧ EVC adK adV (gA G H0.size) U U.heap)) (va_Qi (fun (r : Int32) (u : Int32) => (0 ≤ u.toInt ∧ u.toInt ≤ 400) ∧ (0 ≤ r.toInt ∧ r.toInt ≤ 1) ∧ (a0.toInt ≤ u.toInt ∧ u.toInt ≤ tn.toInt) ∧ (lpR K X (aR K X 6) 14 (pS a0.toNatClampNeg) r.toInt (pS u.toNatClampNeg))) (fun (a1 : Int32) (t : State) => gH (dC, dI) kA (SHc nC nS) G t.heap ∧ gF (dC, dI) SKc G ([(7, 12), (7, 13), (49, 0)] : List (Nat × Nat)) H0 t.heap ∧ el t.heap o0 (dI 7 13) = some (.int a1)) (gA G H0.size)) 0 0 (gA G H0.size) := by
  refine Met.ofW (cc := cX4_readAll) (maxL := 4) (ret := (some .boolean)) (by decide) rfl ?_
  intro p e s m args below meth c s₁ B hml hv
  obtain ⟨rfl, hH0, hK, hE⟩ := hv
  have hx := B.exec
  have hb := B.bytes
  have hr := B.returns
  have hts := atoms_spec (ws := w_c_readAll0) B.pre
  have hown : s.vm.findClass RX4 = some m.cls := findClass_of_methodNamed B.named
  have hlocks := B.notSynchronized
  subst hH0
  generalize hAe : gA G s.heap.size = A at hE ⊢
  have hA : ∀ q : Nat, s.heap.size ≤ q → A q := fun q h => by rw [← hAe]; exact Or.inr h
  have hG := gA_of hAe
  have hS : va_S A s.heap s.heap [] := va_S.rf
  have hF : gF (dC, dI) SKc G ([(7, 12), (7, 13), (49, 0)] : List (Nat × Nat)) s.heap s.heap := gF.rf
  have hl := lv_entry ([.ref o0, .int 0]) (n := 4) (Nat.le_of_ble_eq_true rfl)
  rw [lg_entry_eq]
  generalize (lg_sl ([.ref o0, .int 0]) ++ List.replicate (4 - (lg_sl ([.ref o0, .int 0])).length) Slot.unset).toArray = ls at hl ⊢
  have hl : lv_has ls 4 [(0, .ref o0), (1, .int 0)] := hl
  refine lv_aload_n hx hb dX4_readAll_0 rfl (lv_at hl 0 rfl) ?_
  refine lv_iload_n hx hb dX4_readAll_1 rfl (lv_at hl 1 rfl) ?_
  have hFc := gA_free hG hA hS
  refine va_calli (va_runV (As := [.int 0]) (rest := []) ⟨hx, hb, hml, hown, hts⟩ (c_readAtom0 l dC dI kA adK adV G s.heap nC nS o0 th a0 vT tv ix_tv ix_tv K X pS hT hr_o0 hm_th hr_th hm_a0 (by have q8 := ti_all ix_tv; omega) (by have q8 := ti_all a0; omega) (by have := (show a0.toInt = a0.toInt from rfl); have := (show ix_tv.toInt = ix_tv.toInt from rfl); omega) (fun m hm => hKK m (Nat.le_trans hm (Nat.le_of_eq (tn_same hx_tv rfl rfl)))) (fun m hm => hXX m (Nat.lt_of_lt_of_eq hm (tn_same hx_tv rfl rfl))) hc_vT (by have q9 := (show ix_tv.toInt = ix_tv.toInt from rfl); have := (show ix_tv.toInt = ix_tv.toInt from rfl); omega) hm_tv (by have q8 := ti_all tv; omega) (by omega) (by omega)) (cwV 1 hts (goodIn_app (goodIn_r _ [29, 30, 31, 15] rfl (by decide +kernel)) (goodIn_ca (goodIn_r _ [1, 2, 3, 4, 5, 1, 6, 7, 8, 9, 10, 11, 12, 13, 14, 15, 16, 17, 18, 19, 20, 21, 22, 23, 24, 25, 26, 27, 28, 29, 30, 31, 32, 33, 34, 35, 36, 37] rfl (by decide +kernel)) (bs2_in _ _))) rfl rfl rfl (by decide +kernel) ⟨(Nat.le_of_ble_eq_true rfl), (Nat.le_of_ble_eq_true rfl)⟩) ⟨fun a U g mk q => by obtain ⟨q0, q1, qK, qE⟩ := q; exact ⟨q0, q1, va_K.moved (u := U) (U := U.calling g mk a) (Vm.Alike.refl U.vm) qK, EVC.blind g mk a qE⟩, gH_rc hK hT hr_o0 shc_7 rfl, fun U hU hW => ⟨rfl, hU, va_K.moved hW.alike hK, hE.call hS hFc hU hW⟩⟩ rfl rfl hl.1 rfl (lv_room (Nat.le_of_ble_eq_true rfl)) dX4_readAll_2 ⟨(Nat.le_of_ble_eq_true rfl), (Nat.le_of_ble_eq_true rfl)⟩) hS (fun q _ h => hFc q h) hFc (fun r1 u t H locs ht hvm hw2 hB _ _ hS => ?_)
  obtain ⟨u3, rfl⟩ : ∃ z, z = u := ⟨_, rfl⟩
  obtain ⟨hT, hF1, m4⟩ := hB
  rw [ht] at hT hF1 m4
  have m5 := (hF1.fld hr_o0 skc_7 (k := 0) (by decide) (by decide)).trans hm_th
  have m7 := hc_vT.kept (hF1.arr hr_th skc_40 (by decide))
  have m8 := (el_kept (hF1.arr hr_th skc_40 (by decide))).trans hm_tv
  have hF := hF.more hF1 (by decide)
  try dsimp only at hw2
  obtain ⟨h9, h10, hf11, hf12⟩ := hw2
  refine lv_istore_n (lv' := [(2, .int r1), (0, .ref o0), (1, .int 0)]) hx hb dX4_readAll_5 rfl hl (by decide) rfl (fun ls hl => ?_)
  refine lv_iconst (v := 0) hx hb dX4_readAll_6 (by decide) ?_
  refine lv_istore_n (lv' := [(3, .int 0), (2, .int r1), (0, .ref o0), (1, .int 0)]) hx hb dX4_readAll_7 rfl hl (by decide) rfl (fun ls hl => ?_)
  have key63 : ∀ (n63 i13 : Nat), i13 + n63 = 400 → 0 ≤ i13 → ∀ (z14 : Int32), ∀ (z19 : Int32), ((0 ≤ z14.toInt ∧ z14.toInt ≤ 1) ∧ (0 ≤ z19.toInt ∧ z19.toInt ≤ 400) ∧ (a0.toInt ≤ z19.toInt ∧ z19.toInt ≤ tn.toInt) ∧ (((z14.toInt = 1 ∧ ∀ (r : Int) (f : Nat), lpQ K X (aR K X 6) 14 (pS z19.toNatClampNeg) r f → lpR K X (aR K X 6) 14 (pS a0.toNatClampNeg) r f) ∨ (z14.toInt = 0 ∧ lpR K X (aR K X 6) 14 (pS a0.toNatClampNeg) 0 (pS z19.toNatClampNeg))) ∧ ((i13 : Nat) : Int) ≤ z19.toInt)) → ∀ (H : Heap) (locs : List Loc), gH (dC, dI) kA (SHc nC nS) G H → gF (dC, dI) SKc G ([(7, 12), (7, 13), (49, 0)] : List (Nat × Nat)) s.heap H → va_S A s.heap H locs → ct H th 401 vT → el H o0 (dI 7 0) = some (.ref th) → el H th ix_tv.toNatClampNeg = some (.int tv) → el H o0 (dI 7 13) = some (.int z19) → ∀ ls : Array Slot, lv_has ls 4 [(3, .int (nI i13)), (2, .int z14), (0, .ref o0), (1, .int 0)] → W p l e (headSpec w_c_readAll0 ({ frames := 23, cells := 0, slots := 0, locals := 523 })).room s m #[.ref o0, .int 0] below meth c H locs 0 0 (MQ below (va_Qi (fun (r : Int32) (u : Int32) => (0 ≤ u.toInt ∧ u.toInt ≤ 400) ∧ (0 ≤ r.toInt ∧ r.toInt ≤ 1) ∧ (a0.toInt ≤ u.toInt ∧ u.toInt ≤ tn.toInt) ∧ (lpR K X (aR K X 6) 14 (pS a0.toNatClampNeg) r.toInt (pS u.toNatClampNeg))) (fun (a1 : Int32) (t : State) => gH (dC, dI) kA (SHc nC nS) G t.heap ∧ gF (dC, dI) SKc G ([(7, 12), (7, 13), (49, 0)] : List (Nat × Nat)) s.heap t.heap ∧ el t.heap o0 (dI 7 13) = some (.int a1)) A) #[.ref o0, .int 0] s 0 0 A) (F0 m 8 ls []) := by
    intro n63
    induction n63 with
    | zero =>
      intro i13 hn63 hlo64 z14 z19 ⟨h15, h20, hj22, hj23⟩ H locs hT hF hS m16 m17 m18 m21 ls hl
      obtain rfl : 400 = i13 := by omega
      refine lv_iload_n hx hb dX4_readAll_8 rfl (lv_at hl 0 rfl) ?_
      refine lv_sipush (v := 400) hx hb dX4_readAll_9 (by decide) ?_
      refine lv_icmp_ge (tgt := 46) hx hb dX4_readAll_12 (by decide) (fun c65 => ?_) (fun c65 => (by exfalso; have q9 : ((400 : Nat) : Int) < 400 := ti_nle c65 (by decide) (nI_toInt (by omega)); omega))
      have t66 : 400 ≤ ((400 : Nat) : Int) := ti_le c65 (by decide) (nI_toInt (by omega))
      refine lv_iload_n hx hb dX4_readAll_46 rfl (lv_at hl 1 rfl) ?_
      exact W.zret (v := z14) hx hb hr (nar_b (by have q8 := ti_all z14; omega)) (fun t ht hW => ⟨⟨z14, z19, rfl, (by exact ⟨(by have q8 := ti_all z19; omega), (by have q8 := ti_all z14; omega), (by omega), (by rcases hj23.1 with ⟨h8, l9⟩ | ⟨h8, l9⟩; (rw [h8]; exact lp_e l9 (fun h7 => by have := tn_of (show z19.toInt = z19.toInt from rfl) (by omega); have := tn_of (show tn.toInt = tn.toInt from rfl) (by omega); have k9 := hKK tn.toNatClampNeg (Nat.le_refl _); have e9 := hc_vT.at hm_tv (by have q9 := tn_of hx_tv (by omega); omega); have k8 : (vT tn.toNatClampNeg).toInt = 21 := (by have q8 := congrArg Int32.toInt e9; rw [show ix_tv.toNatClampNeg = tn.toNatClampNeg from tn_same hx_tv rfl rfl] at q8; omega); rw [show z19.toNatClampNeg = tn.toNatClampNeg from by omega] at h7; omega)); rw [h8]; exact l9)⟩), by (try dsimp only); rw [ht]; exact ⟨hT, hF, m21⟩⟩, hS.F ht⟩) hS.2.2 dX4_readAll_47
    | succ n63 ih63 =>
      intro i13 hn63 hlo64 z14 z19 ⟨h15, h20, hj22, hj23⟩ H locs hT hF hS m16 m17 m18 m21 ls hl
      have hlt66 : i13 < 400 := by omega
      refine lv_iload_n hx hb dX4_readAll_8 rfl (lv_at hl 0 rfl) ?_
      refine lv_sipush (v := 400) hx hb dX4_readAll_9 (by decide) ?_
      refine lv_icmp_ge (tgt := 46) hx hb dX4_readAll_12 (by decide) (fun c67 => (by exfalso; have q9 : 400 ≤ ((i13 : Nat) : Int) := ti_le c67 (by decide) (nI_toInt (by omega)); omega)) (fun c67 => ?_)
      have t68 : ((i13 : Nat) : Int) < 400 := ti_nle c67 (by decide) (nI_toInt (by omega))
      refine lv_iload_n hx hb dX4_readAll_15 rfl (lv_at hl 1 rfl) ?_
      refine lv_if_eq (tgt := 46) hx hb dX4_readAll_16 (by decide) (fun c69 => ?_) (fun c69 => ?_)
      · have t70 : z14.toInt = 0 := ti_eq c69 rfl (by decide)
        refine lv_iload_n hx hb dX4_readAll_46 rfl (lv_at hl 1 rfl) ?_
        exact W.zret (v := z14) hx hb hr (nar_b (by have q8 := ti_all z14; omega)) (fun t ht hW => ⟨⟨z14, z19, rfl, (by exact ⟨(by have q8 := ti_all z19; omega), (by have q8 := ti_all z14; omega), (by omega), (by rcases hj23.1 with ⟨h8, l9⟩ | ⟨h8, l9⟩; (rw [h8]; exact lp_e l9 (fun h7 => by have := tn_of (show z19.toInt = z19.toInt from rfl) (by omega); have := tn_of (show tn.toInt = tn.toInt from rfl) (by omega); have k9 := hKK tn.toNatClampNeg (Nat.le_refl _); have e9 := hc_vT.at hm_tv (by have q9 := tn_of hx_tv (by omega); omega); have k8 : (vT tn.toNatClampNeg).toInt = 21 := (by have q8 := congrArg Int32.toInt e9; rw [show ix_tv.toNatClampNeg = tn.toNatClampNeg from tn_same hx_tv rfl rfl] at q8; omega); rw [show z19.toNatClampNeg = tn.toNatClampNeg from by omega] at h7; omega)); rw [h8]; exact l9)⟩), by (try dsimp only); rw [ht]; exact ⟨hT, hF, m21⟩⟩, hS.F ht⟩) hS.2.2 dX4_readAll_47
      · have t71 : z14.toInt ≠ 0 := ti_ne c69 rfl (by decide)
        refine lv_aload_n hx hb dX4_readAll_19 rfl (lv_at hl 2 rfl) ?_
        refine lv_bipush (v := 14) hx hb dX4_readAll_20 (by decide) ?_
        have hFc := gA_free hG hA hS
        refine va_calli (va_runV (As := [.int 14]) (rest := []) ⟨hx, hb, hml, hown, hts⟩ (c_take l dC dI kA adK adV G H nC nS o0 14 th z19 vT tv ix_tv ix_tv K X pS hT hr_o0 m17 hr_th m21 (by have q8 := ti_all ix_tv; omega) (by have q8 := ti_all z19; omega) (by have := (show z19.toInt = z19.toInt from rfl); have := (show ix_tv.toInt = ix_tv.toInt from rfl); omega) (by have := (show (14 : Int32).toInt = 14 from (by decide)); omega) (fun m hm => hKK m (Nat.le_trans hm (Nat.le_of_eq (tn_same hx_tv rfl rfl)))) (fun m hm => hXX m (Nat.lt_of_lt_of_eq hm (tn_same hx_tv rfl rfl))) m16 (by have q9 := (show ix_tv.toInt = ix_tv.toInt from rfl); have := (show ix_tv.toInt = ix_tv.toInt from rfl); omega) m18 (by have q8 := ti_all tv; omega) (by omega) (by omega)) (cwV 1 hts (goodIn_app (goodIn_r _ [20, 21, 22, 15] rfl (by decide +kernel)) (goodIn_ca (goodIn_r _ [19, 2, 3] rfl (by decide +kernel)) (bs2_in _ _))) rfl rfl rfl (by decide +kernel) ⟨(Nat.le_of_ble_eq_true rfl), (Nat.le_of_ble_eq_true rfl)⟩) ⟨fun a U g mk q => by obtain ⟨q0, q1, qK, qE⟩ := q; exact ⟨q0, q1, va_K.moved (u := U) (U := U.calling g mk a) (Vm.Alike.refl U.vm) qK, EVC.blind g mk a qE⟩, gH_rc hK hT hr_o0 shc_7 rfl, fun U hU hW => ⟨rfl, hU, va_K.moved hW.alike hK, hE.call hS hFc hU hW⟩⟩ rfl rfl hl.1 rfl (lv_room (Nat.le_of_ble_eq_true rfl)) dX4_readAll_22 ⟨(Nat.le_of_ble_eq_true rfl), (Nat.le_of_ble_eq_true rfl)⟩) hS (fun q _ h => hFc q h) hFc (fun r72 u t H locs ht hvm hw73 hB _ _ hS => ?_)
        obtain ⟨u74, rfl⟩ : ∃ z, z = u := ⟨_, rfl⟩
        obtain ⟨hT, hF1, m75⟩ := hB
        rw [ht] at hT hF1 m75
        have m76 := m16.kept (hF1.arr hr_th skc_40 (by decide))
        have m77 := (hF1.fld hr_o0 skc_7 (k := 0) (by decide) (by decide)).trans m17
        have m78 := (el_kept (hF1.arr hr_th skc_40 (by decide))).trans m18
        have hF := hF.more hF1 (by decide)
        try dsimp only at hw73
        obtain ⟨h80, h81, hf82, hf83, hf84⟩ := hw73
        refine lv_if_eq (tgt := 46) hx hb dX4_readAll_25 (by decide) (fun c85 => ?_) (fun c85 => ?_)
        · have t86 : r72.toInt = 0 := ti_eq c85 rfl (by decide)
          refine lv_iload_n hx hb dX4_readAll_46 rfl (lv_at hl 1 rfl) ?_
          exact W.zret (v := z14) hx hb hr (nar_b (by have q8 := ti_all z14; omega)) (fun t ht hW => ⟨⟨z14, u74, rfl, (by exact ⟨(by have q8 := ti_all u74; omega), (by have q8 := ti_all z14; omega), (by omega), (by have l9 := (hj23.1.resolve_right (fun h8 => by have := h8.1; omega)).2; have a9 := hf83.resolve_left (fun h8 => by have := h8.2.1; omega); rw [show z14.toInt = 1 from by omega, a9.2.2]; exact lp_e l9 (fun h7 => a9.1 (h7.trans (by decide))))⟩), by (try dsimp only); rw [ht]; exact ⟨hT, hF, m75⟩⟩, hS.F ht⟩) hS.2.2 dX4_readAll_47
        · have t87 : r72.toInt ≠ 0 := ti_ne c85 rfl (by decide)
          refine lv_aload_n hx hb dX4_readAll_28 rfl (lv_at hl 2 rfl) ?_
          refine lv_iload_n hx hb dX4_readAll_29 rfl (lv_at hl 3 rfl) ?_
          have hFc := gA_free hG hA hS
          refine va_calli (va_runV (As := [.int 0]) (rest := []) ⟨hx, hb, hml, hown, hts⟩ (c_readAtom0 l dC dI kA adK adV G H nC nS o0 th u74 vT tv ix_tv ix_tv K X pS hT hr_o0 m77 hr_th m75 (by have q8 := ti_all ix_tv; omega) (by have q8 := ti_all u74; omega) (by have := (show u74.toInt = u74.toInt from rfl); have := (show ix_tv.toInt = ix_tv.toInt from rfl); omega) (fun m hm => hKK m (Nat.le_trans hm (Nat.le_of_eq (tn_same hx_tv rfl rfl)))) (fun m hm => hXX m (Nat.lt_of_lt_of_eq hm (tn_same hx_tv rfl rfl))) m76 (by have q9 := (show ix_tv.toInt = ix_tv.toInt from rfl); have := (show ix_tv.toInt = ix_tv.toInt from rfl); omega) m78 (by have q8 := ti_all tv; omega) (by omega) (by omega)) (cwV 1 hts (goodIn_app (goodIn_r _ [29, 30, 31, 15] rfl (by decide +kernel)) (goodIn_ca (goodIn_r _ [1, 2, 3, 4, 5, 1, 6, 7, 8, 9, 10, 11, 12, 13, 14, 15, 16, 17, 18, 19, 20, 21, 22, 23, 24, 25, 26, 27, 28, 29, 30, 31, 32, 33, 34, 35, 36, 37] rfl (by decide +kernel)) (bs2_in _ _))) rfl rfl rfl (by decide +kernel) ⟨(Nat.le_of_ble_eq_true rfl), (Nat.le_of_ble_eq_true rfl)⟩) ⟨fun a U g mk q => by obtain ⟨q0, q1, qK, qE⟩ := q; exact ⟨q0, q1, va_K.moved (u := U) (U := U.calling g mk a) (Vm.Alike.refl U.vm) qK, EVC.blind g mk a qE⟩, gH_rc hK hT hr_o0 shc_7 rfl, fun U hU hW => ⟨rfl, hU, va_K.moved hW.alike hK, hE.call hS hFc hU hW⟩⟩ rfl rfl hl.1 rfl (lv_room (Nat.le_of_ble_eq_true rfl)) dX4_readAll_30 ⟨(Nat.le_of_ble_eq_true rfl), (Nat.le_of_ble_eq_true rfl)⟩) hS (fun q _ h => hFc q h) hFc (fun r88 u t H locs ht hvm hw89 hB _ _ hS => ?_)
          obtain ⟨u90, rfl⟩ : ∃ z, z = u := ⟨_, rfl⟩
          obtain ⟨hT, hF1, m91⟩ := hB
          rw [ht] at hT hF1 m91
          have m92 := m76.kept (hF1.arr hr_th skc_40 (by decide))
          have m93 := (hF1.fld hr_o0 skc_7 (k := 0) (by decide) (by decide)).trans m77
          have m94 := (el_kept (hF1.arr hr_th skc_40 (by decide))).trans m78
          have hF := hF.more hF1 (by decide)
          try dsimp only at hw89
          obtain ⟨h96, h97, hf98, hf99⟩ := hw89
          refine lv_istore_n (lv' := [(2, .int r88), (3, .int (nI i13)), (0, .ref o0), (1, .int 0)]) hx hb dX4_readAll_33 rfl hl (by decide) rfl (fun ls hl => ?_)
          refine lv_aload_n hx hb dX4_readAll_34 rfl (lv_at hl 2 rfl) ?_
          refine lv_bipush (v := 14) hx hb dX4_readAll_35 (by decide) ?_
          have hFc := gA_free hG hA hS
          refine va_callv (va_runV (As := [.int 14]) (rest := []) ⟨hx, hb, hml, hown, hts⟩ (c_addStep l dC dI kA adK adV G H nC nS o0 14 hT hr_o0 (rg_t (a := 14) (by decide) (by first | decide | omega) (by first | decide | omega)) (by omega) (by omega)) (cwV 1 hts (goodIn_app (goodIn_r _ [12, 13, 14, 15] rfl (by decide +kernel)) (goodIn_ca (goodIn_r _ [9, 10, 11] rfl (by decide +kernel)) (bs2_in _ _))) rfl rfl rfl (by decide +kernel) ⟨(Nat.le_of_ble_eq_true rfl), (Nat.le_of_ble_eq_true rfl)⟩) ⟨fun a U g mk q => by obtain ⟨q0, q1, qK, qE⟩ := q; exact ⟨q0, q1, va_K.moved (u := U) (U := U.calling g mk a) (Vm.Alike.refl U.vm) qK, EVC.blind g mk a qE⟩, gH_rc hK hT hr_o0 shc_7 rfl, fun U hU hW => ⟨rfl, hU, va_K.moved hW.alike hK, hE.call hS hFc hU hW⟩⟩ rfl rfl hl.1 rfl (lv_room (Nat.le_of_ble_eq_true rfl)) dX4_readAll_37 ⟨(Nat.le_of_ble_eq_true rfl), (Nat.le_of_ble_eq_true rfl)⟩) hS (fun q _ h => hFc q h) hFc (fun u t H locs ht hvm hw101 hB _ _ hS => ?_)
          obtain ⟨hT, hF1⟩ := hB
          rw [ht] at hT hF1
          have m102 := m92.kept (hF1.arr hr_th skc_40 (by decide))
          have m103 := (hF1.fld hr_o0 skc_7 (k := 0) (by decide) (by decide)).trans m93
          have m104 := (el_kept (hF1.arr hr_th skc_40 (by decide))).trans m94
          have m105 := (hF1.fld hr_o0 skc_7 (k := 13) (by decide) (by decide)).trans m91
          have hF := hF.more hF1 (by decide)
          try dsimp only at hw101
          refine lv_iinc (v := nI (i13 + 1)) (lv' := [(3, .int (nI (i13 + 1))), (2, .int r88), (0, .ref o0), (1, .int 0)]) hx hb dX4_readAll_40 hl (k := 1) rfl (nI_add i13 1) (by decide) rfl (fun ls hl => ?_)
          refine lv_goto (tgt := 8) hx hb dX4_readAll_43 (by decide) ?_
          exact ih63 (i13 + 1) (by omega) (by omega) r88 u90 ⟨(by have q8 := ti_all r88; omega), (by have q8 := ti_all u90; omega), (by have := hx_tv; have := (show u90.toInt = u90.toInt from rfl); omega), ⟨(by have l9 := (hj23.1.resolve_right (fun h8 => by have := h8.1; omega)).2; have a9 := hf83.resolve_right (fun h8 => by have := h8.2.1; omega); have h9 := hf99; rw [a9.2.2] at h9; rcases (show r88.toInt = 1 ∨ r88.toInt = 0 by omega) with h8 | h8 <;> rw [h8] at h9; (exact Or.inl ⟨h8, lp_s l9 (a9.1.trans (by decide)) h9⟩); exact Or.inr ⟨h8, lp_f l9 (a9.1.trans (by decide)) h9⟩), by omega⟩⟩ _ _ hT hF hS m102 m103 m104 m105 ls (lv_sub hl [0, 1, 2, 3] rfl)
  exact key63 (400 - 0) 0 (by omega) (Nat.le_refl _) r1 u3 ⟨(by have q8 := ti_all r1; omega), (by have q8 := ti_all u3; omega), (by have := hx_tv; have := (show u3.toInt = u3.toInt from rfl); omega), ⟨(by have h9 := hf12; rcases (show r1.toInt = 1 ∨ r1.toInt = 0 by omega) with h8 | h8 <;> rw [h8] at h9; (exact Or.inl ⟨h8, lp_1 h9⟩); exact Or.inr ⟨h8, lp_0 h9⟩), by omega⟩⟩ _ _ hT hF hS m7 m5 m8 m4 ls (lv_sub hl [0, 1, 2, 3] rfl)
def w_c_readAny0 : List Cond := .code yX4_readAny cX4_readAny 4 (some .boolean) :: (HAppend.hAppend (α := List Cond) (β := List Cond) (γ := List Cond) [.code yX4_readAll cX4_readAll 4 (some .boolean), .code yX4_readAtom cX4_readAtom 4 (some .boolean), .fieldLink RX4 11 "SeaLand$Law" "things" "[I", .fieldLink RX4 56 "SeaLand$Law" "at" "I", .code yX4_readAny cX4_readAny 4 (some .boolean), .code yX4_readComparison cX4_readComparison 3 (some .boolean), .code yX4_readSum cX4_readSum 3 (some .boolean), .code yX4_readPart cX4_readPart 2 (some .boolean), .code yX4_addStep cX4_addStep 2 none, .fieldLink RX4 63 "SeaLand$Law" "stepped" "I", .fieldLink RX4 39 "SeaLand$Law" "steps" "[I", .methodLink RX4 179 yX4_addStep, .instanceMethod yX4_addStep, .selects RX4 yX4_addStep yX4_addStep, .initialized RX4, .methodLink RX4 192 yX4_readPart, .instanceMethod yX4_readPart, .selects RX4 yX4_readPart yX4_readPart, .code yX4_take cX4_take 2 (some .boolean), .methodLink RX4 70 yX4_take, .instanceMethod yX4_take, .selects RX4 yX4_take yX4_take, .methodLink RX4 189 yX4_readSum, .instanceMethod yX4_readSum, .selects RX4 yX4_readSum yX4_readSum, .methodLink RX4 186 yX4_readComparison, .instanceMethod yX4_readComparison, .selects RX4 yX4_readComparison yX4_readComparison, .methodLink RX4 183 yX4_readAtom, .instanceMethod yX4_readAtom, .selects RX4 yX4_readAtom yX4_readAtom, .methodLink RX4 176 yX4_readAll, .instanceMethod yX4_readAll, .selects RX4 yX4_readAll yX4_readAll, .methodLink RX4 173 yX4_readAny, .instanceMethod yX4_readAny, .selects RX4 yX4_readAny yX4_readAny] bs2)
set_option maxHeartbeats 4000000 in
set_option maxRecDepth 100000 in
theorem c_readAny0 (l : Launch) (dC : Nat → ClassId) (dI : Nat → Nat → Nat) (kA : Nat → ClassId) (adK adV : Nat → Nat) (G : gT) (H0 : Heap) (nC nS : Int) (o0 : Nat) (th : Nat) (a0 : Int32) (vT : Nat → Int32) (tv ix_tv : Int32) (tn : Int32) (K : Nat → Int) (X pS : Nat → Nat) (hT : gH (dC, dI) kA (SHc nC nS) G H0) (hr_o0 : G o0 = some 7) (hm_th : el H0 o0 (dI 7 0) = some (.ref th)) (hr_th : G th = some 40) (hm_a0 : el H0 o0 (dI 7 13) = some (.int a0)) (hq0 : 0 ≤ tn.toInt ∧ tn.toInt ≤ 400) (hq1 : 0 ≤ a0.toInt ∧ a0.toInt ≤ 400) (hat : a0.toInt ≤ tn.toInt) (hKK : ∀ m : Nat, m ≤ tn.toNatClampNeg → (vT m).toInt = K (pS m)) (hXX : ∀ m : Nat, m < tn.toNatClampNeg → pS (m + 1) = X (pS m)) (hc_vT : ct H0 th 401 vT) (hx_tv : ix_tv.toInt = tn.toInt) (hm_tv : el H0 th ix_tv.toNatClampNeg = some (.int tv)) (hv_tv : 21 ≤ tv.toInt ∧ tv.toInt ≤ 21) (hgC : 0 ≤ nC ∧ nC ≤ 40) (hgS : 0 ≤ nS ∧ nS ≤ 60) : Met l yX4_readAny w_c_readAny0 ({ frames := 24, cells := 0, slots := 0, locals := 546 }) (va_Pc [.ref o0, .int 0] (fun U => U.heap = H0 ∧ va_K (dC, dI) vwCl (tyl kA) U ∧ EVC adK adV (gA G H0.size) U U.heap)) (va_Qi (fun (r : Int32) (u : Int32) => (0 ≤ u.toInt ∧ u.toInt ≤ 400) ∧ (0 ≤ r.toInt ∧ r.toInt ≤ 1) ∧ (a0.toInt ≤ u.toInt ∧ u.toInt ≤ tn.toInt) ∧ (coR K X (aR K X 6) (pS a0.toNatClampNeg) r.toInt (pS u.toNatClampNeg))) (fun (a1 : Int32) (t : State) => gH (dC, dI) kA (SHc nC nS) G t.heap ∧ gF (dC, dI) SKc G ([(7, 12), (7, 13), (49, 0)] : List (Nat × Nat)) H0 t.heap ∧ el t.heap o0 (dI 7 13) = some (.int a1)) (gA G H0.size)) 0 0 (gA G H0.size) := by
  refine Met.ofW (cc := cX4_readAny) (maxL := 4) (ret := (some .boolean)) (by decide) rfl ?_
  intro p e s m args below meth c s₁ B hml hv
  obtain ⟨rfl, hH0, hK, hE⟩ := hv
  have hx := B.exec
  have hb := B.bytes
  have hr := B.returns
  have hts := atoms_spec (ws := w_c_readAny0) B.pre
  have hown : s.vm.findClass RX4 = some m.cls := findClass_of_methodNamed B.named
  have hlocks := B.notSynchronized
  subst hH0
  generalize hAe : gA G s.heap.size = A at hE ⊢
  have hA : ∀ q : Nat, s.heap.size ≤ q → A q := fun q h => by rw [← hAe]; exact Or.inr h
  have hG := gA_of hAe
  have hS : va_S A s.heap s.heap [] := va_S.rf
  have hF : gF (dC, dI) SKc G ([(7, 12), (7, 13), (49, 0)] : List (Nat × Nat)) s.heap s.heap := gF.rf
  have hl := lv_entry ([.ref o0, .int 0]) (n := 4) (Nat.le_of_ble_eq_true rfl)
  rw [lg_entry_eq]
  generalize (lg_sl ([.ref o0, .int 0]) ++ List.replicate (4 - (lg_sl ([.ref o0, .int 0])).length) Slot.unset).toArray = ls at hl ⊢
  have hl : lv_has ls 4 [(0, .ref o0), (1, .int 0)] := hl
  refine lv_aload_n hx hb dX4_readAny_0 rfl (lv_at hl 0 rfl) ?_
  refine lv_iload_n hx hb dX4_readAny_1 rfl (lv_at hl 1 rfl) ?_
  have hFc := gA_free hG hA hS
  refine va_calli (va_runV (As := [.int 0]) (rest := []) ⟨hx, hb, hml, hown, hts⟩ (c_readAll0 l dC dI kA adK adV G s.heap nC nS o0 th a0 vT tv ix_tv ix_tv K X pS hT hr_o0 hm_th hr_th hm_a0 (by have q8 := ti_all ix_tv; omega) (by have q8 := ti_all a0; omega) (by have := (show a0.toInt = a0.toInt from rfl); have := (show ix_tv.toInt = ix_tv.toInt from rfl); omega) (fun m hm => hKK m (Nat.le_trans hm (Nat.le_of_eq (tn_same hx_tv rfl rfl)))) (fun m hm => hXX m (Nat.lt_of_lt_of_eq hm (tn_same hx_tv rfl rfl))) hc_vT (by have q9 := (show ix_tv.toInt = ix_tv.toInt from rfl); have := (show ix_tv.toInt = ix_tv.toInt from rfl); omega) hm_tv (by have q8 := ti_all tv; omega) (by omega) (by omega)) (cwV 1 hts (goodIn_app (goodIn_r _ [32, 33, 34, 15] rfl (by decide +kernel)) (goodIn_ca (goodIn_r _ [1, 2, 3, 4, 5, 1, 6, 7, 8, 9, 10, 11, 12, 13, 14, 15, 16, 17, 18, 19, 20, 21, 22, 23, 24, 25, 26, 27, 28, 29, 30, 31, 32, 33, 34, 35, 36, 37] rfl (by decide +kernel)) (bs2_in _ _))) rfl rfl rfl (by decide +kernel) ⟨(Nat.le_of_ble_eq_true rfl), (Nat.le_of_ble_eq_true rfl)⟩) ⟨fun a U g mk q => by obtain ⟨q0, q1, qK, qE⟩ := q; exact ⟨q0, q1, va_K.moved (u := U) (U := U.calling g mk a) (Vm.Alike.refl U.vm) qK, EVC.blind g mk a qE⟩, gH_rc hK hT hr_o0 shc_7 rfl, fun U hU hW => ⟨rfl, hU, va_K.moved hW.alike hK, hE.call hS hFc hU hW⟩⟩ rfl rfl hl.1 rfl (lv_room (Nat.le_of_ble_eq_true rfl)) dX4_readAny_2 ⟨(Nat.le_of_ble_eq_true rfl), (Nat.le_of_ble_eq_true rfl)⟩) hS (fun q _ h => hFc q h) hFc (fun r1 u t H locs ht hvm hw2 hB _ _ hS => ?_)
  obtain ⟨u3, rfl⟩ : ∃ z, z = u := ⟨_, rfl⟩
  obtain ⟨hT, hF1, m4⟩ := hB
  rw [ht] at hT hF1 m4
  have m5 := (hF1.fld hr_o0 skc_7 (k := 0) (by decide) (by decide)).trans hm_th
  have m7 := hc_vT.kept (hF1.arr hr_th skc_40 (by decide))
  have m8 := (el_kept (hF1.arr hr_th skc_40 (by decide))).trans hm_tv
  have hF := hF.more hF1 (by decide)
  try dsimp only at hw2
  obtain ⟨h9, h10, hf11, hf12⟩ := hw2
  refine lv_istore_n (lv' := [(2, .int r1), (0, .ref o0), (1, .int 0)]) hx hb dX4_readAny_5 rfl hl (by decide) rfl (fun ls hl => ?_)
  refine lv_iconst (v := 0) hx hb dX4_readAny_6 (by decide) ?_
  refine lv_istore_n (lv' := [(3, .int 0), (2, .int r1), (0, .ref o0), (1, .int 0)]) hx hb dX4_readAny_7 rfl hl (by decide) rfl (fun ls hl => ?_)
  have key63 : ∀ (n63 i13 : Nat), i13 + n63 = 400 → 0 ≤ i13 → ∀ (z14 : Int32), ∀ (z19 : Int32), ((0 ≤ z14.toInt ∧ z14.toInt ≤ 1) ∧ (0 ≤ z19.toInt ∧ z19.toInt ≤ 400) ∧ (a0.toInt ≤ z19.toInt ∧ z19.toInt ≤ tn.toInt) ∧ (((z14.toInt = 1 ∧ ∀ (r : Int) (f : Nat), lpQ K X (lpR K X (aR K X 6) 14) 15 (pS z19.toNatClampNeg) r f → coR K X (aR K X 6) (pS a0.toNatClampNeg) r f) ∨ (z14.toInt = 0 ∧ coR K X (aR K X 6) (pS a0.toNatClampNeg) 0 (pS z19.toNatClampNeg))) ∧ ((i13 : Nat) : Int) ≤ z19.toInt)) → ∀ (H : Heap) (locs : List Loc), gH (dC, dI) kA (SHc nC nS) G H → gF (dC, dI) SKc G ([(7, 12), (7, 13), (49, 0)] : List (Nat × Nat)) s.heap H → va_S A s.heap H locs → ct H th 401 vT → el H o0 (dI 7 0) = some (.ref th) → el H th ix_tv.toNatClampNeg = some (.int tv) → el H o0 (dI 7 13) = some (.int z19) → ∀ ls : Array Slot, lv_has ls 4 [(3, .int (nI i13)), (2, .int z14), (0, .ref o0), (1, .int 0)] → W p l e (headSpec w_c_readAny0 ({ frames := 24, cells := 0, slots := 0, locals := 546 })).room s m #[.ref o0, .int 0] below meth c H locs 0 0 (MQ below (va_Qi (fun (r : Int32) (u : Int32) => (0 ≤ u.toInt ∧ u.toInt ≤ 400) ∧ (0 ≤ r.toInt ∧ r.toInt ≤ 1) ∧ (a0.toInt ≤ u.toInt ∧ u.toInt ≤ tn.toInt) ∧ (coR K X (aR K X 6) (pS a0.toNatClampNeg) r.toInt (pS u.toNatClampNeg))) (fun (a1 : Int32) (t : State) => gH (dC, dI) kA (SHc nC nS) G t.heap ∧ gF (dC, dI) SKc G ([(7, 12), (7, 13), (49, 0)] : List (Nat × Nat)) s.heap t.heap ∧ el t.heap o0 (dI 7 13) = some (.int a1)) A) #[.ref o0, .int 0] s 0 0 A) (F0 m 8 ls []) := by
    intro n63
    induction n63 with
    | zero =>
      intro i13 hn63 hlo64 z14 z19 ⟨h15, h20, hj22, hj23⟩ H locs hT hF hS m16 m17 m18 m21 ls hl
      obtain rfl : 400 = i13 := by omega
      refine lv_iload_n hx hb dX4_readAny_8 rfl (lv_at hl 0 rfl) ?_
      refine lv_sipush (v := 400) hx hb dX4_readAny_9 (by decide) ?_
      refine lv_icmp_ge (tgt := 46) hx hb dX4_readAny_12 (by decide) (fun c65 => ?_) (fun c65 => (by exfalso; have q9 : ((400 : Nat) : Int) < 400 := ti_nle c65 (by decide) (nI_toInt (by omega)); omega))
      have t66 : 400 ≤ ((400 : Nat) : Int) := ti_le c65 (by decide) (nI_toInt (by omega))
      refine lv_iload_n hx hb dX4_readAny_46 rfl (lv_at hl 1 rfl) ?_
      exact W.zret (v := z14) hx hb hr (nar_b (by have q8 := ti_all z14; omega)) (fun t ht hW => ⟨⟨z14, z19, rfl, (by exact ⟨(by have q8 := ti_all z19; omega), (by have q8 := ti_all z14; omega), (by omega), (by rcases hj23.1 with ⟨h8, l9⟩ | ⟨h8, l9⟩; (rw [h8]; exact lp_e l9 (fun h7 => by have := tn_of (show z19.toInt = z19.toInt from rfl) (by omega); have := tn_of (show tn.toInt = tn.toInt from rfl) (by omega); have k9 := hKK tn.toNatClampNeg (Nat.le_refl _); have e9 := hc_vT.at hm_tv (by have q9 := tn_of hx_tv (by omega); omega); have k8 : (vT tn.toNatClampNeg).toInt = 21 := (by have q8 := congrArg Int32.toInt e9; rw [show ix_tv.toNatClampNeg = tn.toNatClampNeg from tn_same hx_tv rfl rfl] at q8; omega); rw [show z19.toNatClampNeg = tn.toNatClampNeg from by omega] at h7; omega)); rw [h8]; exact l9)⟩), by (try dsimp only); rw [ht]; exact ⟨hT, hF, m21⟩⟩, hS.F ht⟩) hS.2.2 dX4_readAny_47
    | succ n63 ih63 =>
      intro i13 hn63 hlo64 z14 z19 ⟨h15, h20, hj22, hj23⟩ H locs hT hF hS m16 m17 m18 m21 ls hl
      have hlt66 : i13 < 400 := by omega
      refine lv_iload_n hx hb dX4_readAny_8 rfl (lv_at hl 0 rfl) ?_
      refine lv_sipush (v := 400) hx hb dX4_readAny_9 (by decide) ?_
      refine lv_icmp_ge (tgt := 46) hx hb dX4_readAny_12 (by decide) (fun c67 => (by exfalso; have q9 : 400 ≤ ((i13 : Nat) : Int) := ti_le c67 (by decide) (nI_toInt (by omega)); omega)) (fun c67 => ?_)
      have t68 : ((i13 : Nat) : Int) < 400 := ti_nle c67 (by decide) (nI_toInt (by omega))
      refine lv_iload_n hx hb dX4_readAny_15 rfl (lv_at hl 1 rfl) ?_
      refine lv_if_eq (tgt := 46) hx hb dX4_readAny_16 (by decide) (fun c69 => ?_) (fun c69 => ?_)
      · have t70 : z14.toInt = 0 := ti_eq c69 rfl (by decide)
        refine lv_iload_n hx hb dX4_readAny_46 rfl (lv_at hl 1 rfl) ?_
        exact W.zret (v := z14) hx hb hr (nar_b (by have q8 := ti_all z14; omega)) (fun t ht hW => ⟨⟨z14, z19, rfl, (by exact ⟨(by have q8 := ti_all z19; omega), (by have q8 := ti_all z14; omega), (by omega), (by rcases hj23.1 with ⟨h8, l9⟩ | ⟨h8, l9⟩; (rw [h8]; exact lp_e l9 (fun h7 => by have := tn_of (show z19.toInt = z19.toInt from rfl) (by omega); have := tn_of (show tn.toInt = tn.toInt from rfl) (by omega); have k9 := hKK tn.toNatClampNeg (Nat.le_refl _); have e9 := hc_vT.at hm_tv (by have q9 := tn_of hx_tv (by omega); omega); have k8 : (vT tn.toNatClampNeg).toInt = 21 := (by have q8 := congrArg Int32.toInt e9; rw [show ix_tv.toNatClampNeg = tn.toNatClampNeg from tn_same hx_tv rfl rfl] at q8; omega); rw [show z19.toNatClampNeg = tn.toNatClampNeg from by omega] at h7; omega)); rw [h8]; exact l9)⟩), by (try dsimp only); rw [ht]; exact ⟨hT, hF, m21⟩⟩, hS.F ht⟩) hS.2.2 dX4_readAny_47
      · have t71 : z14.toInt ≠ 0 := ti_ne c69 rfl (by decide)
        refine lv_aload_n hx hb dX4_readAny_19 rfl (lv_at hl 2 rfl) ?_
        refine lv_bipush (v := 15) hx hb dX4_readAny_20 (by decide) ?_
        have hFc := gA_free hG hA hS
        refine va_calli (va_runV (As := [.int 15]) (rest := []) ⟨hx, hb, hml, hown, hts⟩ (c_take l dC dI kA adK adV G H nC nS o0 15 th z19 vT tv ix_tv ix_tv K X pS hT hr_o0 m17 hr_th m21 (by have q8 := ti_all ix_tv; omega) (by have q8 := ti_all z19; omega) (by have := (show z19.toInt = z19.toInt from rfl); have := (show ix_tv.toInt = ix_tv.toInt from rfl); omega) (by have := (show (15 : Int32).toInt = 15 from (by decide)); omega) (fun m hm => hKK m (Nat.le_trans hm (Nat.le_of_eq (tn_same hx_tv rfl rfl)))) (fun m hm => hXX m (Nat.lt_of_lt_of_eq hm (tn_same hx_tv rfl rfl))) m16 (by have q9 := (show ix_tv.toInt = ix_tv.toInt from rfl); have := (show ix_tv.toInt = ix_tv.toInt from rfl); omega) m18 (by have q8 := ti_all tv; omega) (by omega) (by omega)) (cwV 1 hts (goodIn_app (goodIn_r _ [20, 21, 22, 15] rfl (by decide +kernel)) (goodIn_ca (goodIn_r _ [19, 3, 4] rfl (by decide +kernel)) (bs2_in _ _))) rfl rfl rfl (by decide +kernel) ⟨(Nat.le_of_ble_eq_true rfl), (Nat.le_of_ble_eq_true rfl)⟩) ⟨fun a U g mk q => by obtain ⟨q0, q1, qK, qE⟩ := q; exact ⟨q0, q1, va_K.moved (u := U) (U := U.calling g mk a) (Vm.Alike.refl U.vm) qK, EVC.blind g mk a qE⟩, gH_rc hK hT hr_o0 shc_7 rfl, fun U hU hW => ⟨rfl, hU, va_K.moved hW.alike hK, hE.call hS hFc hU hW⟩⟩ rfl rfl hl.1 rfl (lv_room (Nat.le_of_ble_eq_true rfl)) dX4_readAny_22 ⟨(Nat.le_of_ble_eq_true rfl), (Nat.le_of_ble_eq_true rfl)⟩) hS (fun q _ h => hFc q h) hFc (fun r72 u t H locs ht hvm hw73 hB _ _ hS => ?_)
        obtain ⟨u74, rfl⟩ : ∃ z, z = u := ⟨_, rfl⟩
        obtain ⟨hT, hF1, m75⟩ := hB
        rw [ht] at hT hF1 m75
        have m76 := m16.kept (hF1.arr hr_th skc_40 (by decide))
        have m77 := (hF1.fld hr_o0 skc_7 (k := 0) (by decide) (by decide)).trans m17
        have m78 := (el_kept (hF1.arr hr_th skc_40 (by decide))).trans m18
        have hF := hF.more hF1 (by decide)
        try dsimp only at hw73
        obtain ⟨h80, h81, hf82, hf83, hf84⟩ := hw73
        refine lv_if_eq (tgt := 46) hx hb dX4_readAny_25 (by decide) (fun c85 => ?_) (fun c85 => ?_)
        · have t86 : r72.toInt = 0 := ti_eq c85 rfl (by decide)
          refine lv_iload_n hx hb dX4_readAny_46 rfl (lv_at hl 1 rfl) ?_
          exact W.zret (v := z14) hx hb hr (nar_b (by have q8 := ti_all z14; omega)) (fun t ht hW => ⟨⟨z14, u74, rfl, (by exact ⟨(by have q8 := ti_all u74; omega), (by have q8 := ti_all z14; omega), (by omega), (by have l9 := (hj23.1.resolve_right (fun h8 => by have := h8.1; omega)).2; have a9 := hf83.resolve_left (fun h8 => by have := h8.2.1; omega); rw [show z14.toInt = 1 from by omega, a9.2.2]; exact lp_e l9 (fun h7 => a9.1 (h7.trans (by decide))))⟩), by (try dsimp only); rw [ht]; exact ⟨hT, hF, m75⟩⟩, hS.F ht⟩) hS.2.2 dX4_readAny_47
        · have t87 : r72.toInt ≠ 0 := ti_ne c85 rfl (by decide)
          refine lv_aload_n hx hb dX4_readAny_28 rfl (lv_at hl 2 rfl) ?_
          refine lv_iload_n hx hb dX4_readAny_29 rfl (lv_at hl 3 rfl) ?_
          have hFc := gA_free hG hA hS
          refine va_calli (va_runV (As := [.int 0]) (rest := []) ⟨hx, hb, hml, hown, hts⟩ (c_readAll0 l dC dI kA adK adV G H nC nS o0 th u74 vT tv ix_tv ix_tv K X pS hT hr_o0 m77 hr_th m75 (by have q8 := ti_all ix_tv; omega) (by have q8 := ti_all u74; omega) (by have := (show u74.toInt = u74.toInt from rfl); have := (show ix_tv.toInt = ix_tv.toInt from rfl); omega) (fun m hm => hKK m (Nat.le_trans hm (Nat.le_of_eq (tn_same hx_tv rfl rfl)))) (fun m hm => hXX m (Nat.lt_of_lt_of_eq hm (tn_same hx_tv rfl rfl))) m76 (by have q9 := (show ix_tv.toInt = ix_tv.toInt from rfl); have := (show ix_tv.toInt = ix_tv.toInt from rfl); omega) m78 (by have q8 := ti_all tv; omega) (by omega) (by omega)) (cwV 1 hts (goodIn_app (goodIn_r _ [32, 33, 34, 15] rfl (by decide +kernel)) (goodIn_ca (goodIn_r _ [1, 2, 3, 4, 5, 1, 6, 7, 8, 9, 10, 11, 12, 13, 14, 15, 16, 17, 18, 19, 20, 21, 22, 23, 24, 25, 26, 27, 28, 29, 30, 31, 32, 33, 34, 35, 36, 37] rfl (by decide +kernel)) (bs2_in _ _))) rfl rfl rfl (by decide +kernel) ⟨(Nat.le_of_ble_eq_true rfl), (Nat.le_of_ble_eq_true rfl)⟩) ⟨fun a U g mk q => by obtain ⟨q0, q1, qK, qE⟩ := q; exact ⟨q0, q1, va_K.moved (u := U) (U := U.calling g mk a) (Vm.Alike.refl U.vm) qK, EVC.blind g mk a qE⟩, gH_rc hK hT hr_o0 shc_7 rfl, fun U hU hW => ⟨rfl, hU, va_K.moved hW.alike hK, hE.call hS hFc hU hW⟩⟩ rfl rfl hl.1 rfl (lv_room (Nat.le_of_ble_eq_true rfl)) dX4_readAny_30 ⟨(Nat.le_of_ble_eq_true rfl), (Nat.le_of_ble_eq_true rfl)⟩) hS (fun q _ h => hFc q h) hFc (fun r88 u t H locs ht hvm hw89 hB _ _ hS => ?_)
          obtain ⟨u90, rfl⟩ : ∃ z, z = u := ⟨_, rfl⟩
          obtain ⟨hT, hF1, m91⟩ := hB
          rw [ht] at hT hF1 m91
          have m92 := m76.kept (hF1.arr hr_th skc_40 (by decide))
          have m93 := (hF1.fld hr_o0 skc_7 (k := 0) (by decide) (by decide)).trans m77
          have m94 := (el_kept (hF1.arr hr_th skc_40 (by decide))).trans m78
          have hF := hF.more hF1 (by decide)
          try dsimp only at hw89
          obtain ⟨h96, h97, hf98, hf99⟩ := hw89
          refine lv_istore_n (lv' := [(2, .int r88), (3, .int (nI i13)), (0, .ref o0), (1, .int 0)]) hx hb dX4_readAny_33 rfl hl (by decide) rfl (fun ls hl => ?_)
          refine lv_aload_n hx hb dX4_readAny_34 rfl (lv_at hl 2 rfl) ?_
          refine lv_bipush (v := 15) hx hb dX4_readAny_35 (by decide) ?_
          have hFc := gA_free hG hA hS
          refine va_callv (va_runV (As := [.int 15]) (rest := []) ⟨hx, hb, hml, hown, hts⟩ (c_addStep l dC dI kA adK adV G H nC nS o0 15 hT hr_o0 (rg_t (a := 15) (by decide) (by first | decide | omega) (by first | decide | omega)) (by omega) (by omega)) (cwV 1 hts (goodIn_app (goodIn_r _ [12, 13, 14, 15] rfl (by decide +kernel)) (goodIn_ca (goodIn_r _ [9, 10, 11] rfl (by decide +kernel)) (bs2_in _ _))) rfl rfl rfl (by decide +kernel) ⟨(Nat.le_of_ble_eq_true rfl), (Nat.le_of_ble_eq_true rfl)⟩) ⟨fun a U g mk q => by obtain ⟨q0, q1, qK, qE⟩ := q; exact ⟨q0, q1, va_K.moved (u := U) (U := U.calling g mk a) (Vm.Alike.refl U.vm) qK, EVC.blind g mk a qE⟩, gH_rc hK hT hr_o0 shc_7 rfl, fun U hU hW => ⟨rfl, hU, va_K.moved hW.alike hK, hE.call hS hFc hU hW⟩⟩ rfl rfl hl.1 rfl (lv_room (Nat.le_of_ble_eq_true rfl)) dX4_readAny_37 ⟨(Nat.le_of_ble_eq_true rfl), (Nat.le_of_ble_eq_true rfl)⟩) hS (fun q _ h => hFc q h) hFc (fun u t H locs ht hvm hw101 hB _ _ hS => ?_)
          obtain ⟨hT, hF1⟩ := hB
          rw [ht] at hT hF1
          have m102 := m92.kept (hF1.arr hr_th skc_40 (by decide))
          have m103 := (hF1.fld hr_o0 skc_7 (k := 0) (by decide) (by decide)).trans m93
          have m104 := (el_kept (hF1.arr hr_th skc_40 (by decide))).trans m94
          have m105 := (hF1.fld hr_o0 skc_7 (k := 13) (by decide) (by decide)).trans m91
          have hF := hF.more hF1 (by decide)
          try dsimp only at hw101
          refine lv_iinc (v := nI (i13 + 1)) (lv' := [(3, .int (nI (i13 + 1))), (2, .int r88), (0, .ref o0), (1, .int 0)]) hx hb dX4_readAny_40 hl (k := 1) rfl (nI_add i13 1) (by decide) rfl (fun ls hl => ?_)
          refine lv_goto (tgt := 8) hx hb dX4_readAny_43 (by decide) ?_
          exact ih63 (i13 + 1) (by omega) (by omega) r88 u90 ⟨(by have q8 := ti_all r88; omega), (by have q8 := ti_all u90; omega), (by have := hx_tv; have := (show u90.toInt = u90.toInt from rfl); omega), ⟨(by have l9 := (hj23.1.resolve_right (fun h8 => by have := h8.1; omega)).2; have a9 := hf83.resolve_right (fun h8 => by have := h8.2.1; omega); have h9 := hf99; rw [a9.2.2] at h9; rcases (show r88.toInt = 1 ∨ r88.toInt = 0 by omega) with h8 | h8 <;> rw [h8] at h9; (exact Or.inl ⟨h8, lp_s l9 (a9.1.trans (by decide)) h9⟩); exact Or.inr ⟨h8, lp_f l9 (a9.1.trans (by decide)) h9⟩), by omega⟩⟩ _ _ hT hF hS m102 m103 m104 m105 ls (lv_sub hl [0, 1, 2, 3] rfl)
  exact key63 (400 - 0) 0 (by omega) (Nat.le_refl _) r1 u3 ⟨(by have q8 := ti_all r1; omega), (by have q8 := ti_all u3; omega), (by have := hx_tv; have := (show u3.toInt = u3.toInt from rfl); omega), ⟨(by have h9 := hf12; rcases (show r1.toInt = 1 ∨ r1.toInt = 0 by omega) with h8 | h8 <;> rw [h8] at h9; (exact Or.inl ⟨h8, lp_1 h9⟩); exact Or.inr ⟨h8, lp_0 h9⟩), by omega⟩⟩ _ _ hT hF hS m7 m5 m8 m4 ls (lv_sub hl [0, 1, 2, 3] rfl)
def w_c_readLine : List Cond := .code yX4_readLine cX4_readLine 3 (some .boolean) :: (HAppend.hAppend (α := List Cond) (β := List Cond) (γ := List Cond) [.fieldLink RX4 11 "SeaLand$Law" "things" "[I", .fieldLink RX4 56 "SeaLand$Law" "at" "I", .code yX4_lineKind cX4_lineKind 1 (some .int), .methodLink RX4 165 yX4_lineKind, .static yX4_lineKind, .initialized RX4, .fieldLink RX4 18 "SeaLand$Law" "kinds" "[I", .fieldLink RX4 60 "SeaLand$Law" "lines" "I", .fieldLink RX4 33 "SeaLand$Law" "stepFrom" "[I", .fieldLink RX4 63 "SeaLand$Law" "stepped" "I", .code yX4_take cX4_take 2 (some .boolean), .methodLink RX4 70 yX4_take, .instanceMethod yX4_take, .selects RX4 yX4_take yX4_take, .fieldLink RX4 36 "SeaLand$Law" "stepTo" "[I", .code yX4_readAny cX4_readAny 4 (some .boolean), .code yX4_readAll cX4_readAll 4 (some .boolean), .code yX4_readAtom cX4_readAtom 4 (some .boolean), .code yX4_readComparison cX4_readComparison 3 (some .boolean), .code yX4_readSum cX4_readSum 3 (some .boolean), .code yX4_readPart cX4_readPart 2 (some .boolean), .code yX4_addStep cX4_addStep 2 none, .fieldLink RX4 39 "SeaLand$Law" "steps" "[I", .methodLink RX4 179 yX4_addStep, .instanceMethod yX4_addStep, .selects RX4 yX4_addStep yX4_addStep, .methodLink RX4 192 yX4_readPart, .instanceMethod yX4_readPart, .selects RX4 yX4_readPart yX4_readPart, .methodLink RX4 189 yX4_readSum, .instanceMethod yX4_readSum, .selects RX4 yX4_readSum yX4_readSum, .methodLink RX4 186 yX4_readComparison, .instanceMethod yX4_readComparison, .selects RX4 yX4_readComparison yX4_readComparison, .methodLink RX4 183 yX4_readAtom, .instanceMethod yX4_readAtom, .selects RX4 yX4_readAtom yX4_readAtom, .methodLink RX4 176 yX4_readAll, .instanceMethod yX4_readAll, .selects RX4 yX4_readAll yX4_readAll, .methodLink RX4 173 yX4_readAny, .instanceMethod yX4_readAny, .selects RX4 yX4_readAny yX4_readAny, .fieldLink RX4 21 "SeaLand$Law" "firsts" "[I", .code yX4_takeNumber cX4_takeNumber 4 (some .boolean), .methodLink RX4 168 yX4_takeNumber, .instanceMethod yX4_takeNumber, .selects RX4 yX4_takeNumber yX4_takeNumber, .fieldLink RX4 24 "SeaLand$Law" "seconds" "[I", .fieldLink RX4 27 "SeaLand$Law" "froms" "[I", .fieldLink RX4 30 "SeaLand$Law" "tos" "[I", .constant RX4 172 99999] bs2)
set_option maxHeartbeats 4000000 in
set_option maxRecDepth 100000 in
theorem c_readLine (l : Launch) (dC : Nat → ClassId) (dI : Nat → Nat → Nat) (kA : Nat → ClassId) (adK adV : Nat → Nat) (G : gT) (H0 : Heap) (nC nS : Int) (o0 : Nat) (th : Nat) (a0 : Int32) (ln : Int32) (vT : Nat → Int32) (tv ix_tv : Int32) (tn : Int32) (K : Nat → Int) (X pS : Nat → Nat) (hT : gH (dC, dI) kA (SHc nC nS) G H0) (hr_o0 : G o0 = some 7) (hm_th : el H0 o0 (dI 7 0) = some (.ref th)) (hr_th : G th = some 40) (hm_a0 : el H0 o0 (dI 7 13) = some (.int a0)) (hm_ln : el H0 o0 (dI 7 11) = some (.int ln)) (hq0 : 0 ≤ tn.toInt ∧ tn.toInt ≤ 400) (hq1 : 0 ≤ a0.toInt ∧ a0.toInt ≤ 400) (hat : a0.toInt ≤ tn.toInt) (hq3 : 0 ≤ ln.toInt ∧ ln.toInt ≤ 19) (hKK : ∀ m : Nat, m ≤ tn.toNatClampNeg → (vT m).toInt = K (pS m)) (hXX : ∀ m : Nat, m < tn.toNatClampNeg → pS (m + 1) = X (pS m)) (hc_vT : ct H0 th 401 vT) (hx_tv : ix_tv.toInt = tn.toInt) (hm_tv : el H0 th ix_tv.toNatClampNeg = some (.int tv)) (hv_tv : 21 ≤ tv.toInt ∧ tv.toInt ≤ 21) (hgC : 0 ≤ nC ∧ nC ≤ 40) (hgS : 0 ≤ nS ∧ nS ≤ 60) : Met l yX4_readLine w_c_readLine ({ frames := 25, cells := 0, slots := 0, locals := 569 }) (va_Pc [.ref o0] (fun U => U.heap = H0 ∧ va_K (dC, dI) vwCl (tyl kA) U ∧ EVC adK adV (gA G H0.size) U U.heap)) (va_Qi (fun (r : Int32) (u : Int32) => (0 ≤ u.toInt ∧ u.toInt ≤ 400) ∧ (0 ≤ r.toInt ∧ r.toInt ≤ 1) ∧ (a0.toInt ≤ u.toInt ∧ u.toInt ≤ tn.toInt) ∧ (lnR K X (pS a0.toNatClampNeg) r.toInt (pS u.toNatClampNeg))) (fun (a1 : Int32) (t : State) => gH (dC, dI) kA (SHc nC nS) G t.heap ∧ gF (dC, dI) SKc G ([(7, 12), (7, 13), (42, 0), (43, 0), (44, 0), (45, 0), (46, 0), (47, 0), (48, 0), (49, 0)] : List (Nat × Nat)) H0 t.heap ∧ el t.heap o0 (dI 7 13) = some (.int a1)) (gA G H0.size)) 0 0 (gA G H0.size) := by
  refine Met.ofW (cc := cX4_readLine) (maxL := 3) (ret := (some .boolean)) (by decide) rfl ?_
  intro p e s m args below meth c s₁ B hml hv
  obtain ⟨rfl, hH0, hK, hE⟩ := hv
  have hx := B.exec
  have hb := B.bytes
  have hr := B.returns
  have hts := atoms_spec (ws := w_c_readLine) B.pre
  have hown : s.vm.findClass RX4 = some m.cls := findClass_of_methodNamed B.named
  have hlocks := B.notSynchronized
  subst hH0
  generalize hAe : gA G s.heap.size = A at hE ⊢
  have hA : ∀ q : Nat, s.heap.size ≤ q → A q := fun q h => by rw [← hAe]; exact Or.inr h
  have hG := gA_of hAe
  have hS : va_S A s.heap s.heap [] := va_S.rf
  have hF : gF (dC, dI) SKc G ([(7, 12), (7, 13), (42, 0), (43, 0), (44, 0), (45, 0), (46, 0), (47, 0), (48, 0), (49, 0)] : List (Nat × Nat)) s.heap s.heap := gF.rf
  have hl := lv_entry ([.ref o0]) (n := 3) (Nat.le_of_ble_eq_true rfl)
  rw [lg_entry_eq]
  generalize (lg_sl ([.ref o0]) ++ List.replicate (3 - (lg_sl ([.ref o0])).length) Slot.unset).toArray = ls at hl ⊢
  have hl : lv_has ls 3 [(0, .ref o0)] := hl
  refine lv_aload_n hx hb dX4_readLine_0 rfl (lv_at hl 0 rfl) ?_
  refine tw_getM (v := .ref th) hx hb hts bF2_X4 hown hK hT hr_o0 shc_7 rfl 0 (by decide) (ht_at2 hts 0 rfl) (fun _ h9 => h9) hm_th dX4_readLine_1 ?_
  refine lv_aload_n hx hb dX4_readLine_4 rfl (lv_at hl 0 rfl) ?_
  refine tw_getM (v := .int a0) hx hb hts bF2_X4 hown hK hT hr_o0 shc_7 rfl 13 (by decide) (ht_at2 hts 1 rfl) (fun _ h9 => h9) hm_a0 dX4_readLine_5 ?_
  refine tw_iald (i := a0) hx hb hK hT hr_th shc_40 rfl (vin_t (a := a0.toInt) rfl (by omega) (by omega)) dX4_readLine_8 (fun v9 m1 h9 => ?_)
  obtain ⟨x2, rfl, gx2, kx2⟩ := h9
  have cx2 := hc_vT.at m1 (by have q9 := tn_of (show a0.toInt = a0.toInt from rfl) (by omega); omega)
  have t3 : a0.toInt = ix_tv.toInt → x2.toInt = tv.toInt := fun h8 => congrArg Int32.toInt (el_same m1 hm_tv h8)
  have t4 : x2.toInt = K (pS a0.toNatClampNeg) := (congrArg Int32.toInt cx2).trans (hKK _ (by have := tn_of (show a0.toInt = a0.toInt from rfl) (by omega); have := tn_of (show tn.toInt = tn.toInt from rfl) (by omega); omega))
  have hFc := gA_free hG hA hS
  refine va_calli (va_runS (As := [.int x2]) (rest := []) ⟨hx, hb, hml, hown, hts⟩ (c_lineKind l dC dI kA adK adV G s.heap nC nS x2 hT (by omega) (by omega)) (va_cwS 1 hts (goodIn_app (goodIn_r _ [4, 5, 6] rfl (by decide +kernel)) (goodIn_ca (goodIn_r _ [3] rfl (by decide +kernel)) (bs2_in _ _))) rfl rfl rfl (by decide +kernel) ⟨(Nat.le_of_ble_eq_true rfl), (Nat.le_of_ble_eq_true rfl)⟩) ⟨fun a U g mk q => by obtain ⟨q0, q1, qK, qE⟩ := q; exact ⟨q0, q1, va_K.moved (u := U) (U := U.calling g mk a) (Vm.Alike.refl U.vm) qK, EVC.blind g mk a qE⟩, fun U hU hW => ⟨rfl, hU, va_K.moved hW.alike hK, hE.call hS hFc hU hW⟩⟩ rfl rfl hl.1 rfl (lv_room (Nat.le_of_ble_eq_true rfl)) dX4_readLine_9 ⟨(Nat.le_of_ble_eq_true rfl), (Nat.le_of_ble_eq_true rfl)⟩) hS (fun q _ h => hFc q h) hFc (fun r5 u t H locs ht hvm hw6 hB _ _ hS => ?_)
  obtain ⟨hT, hF1⟩ := hB
  rw [ht] at hT hF1
  have m7 := (hF1.fld hr_o0 skc_7 (k := 0) (by decide) (by decide)).trans hm_th
  have m8 := (hF1.fld hr_o0 skc_7 (k := 13) (by decide) (by decide)).trans hm_a0
  have m9 := (hF1.fld hr_o0 skc_7 (k := 11) (by decide) (by decide)).trans hm_ln
  have m10 := hc_vT.kept (hF1.arr hr_th skc_40 (by decide))
  have m11 := (el_kept (hF1.arr hr_th skc_40 (by decide))).trans hm_tv
  have hF := hF.more hF1 (by decide)
  try dsimp only at hw6
  obtain ⟨h13, hf14, hf15⟩ := hw6
  refine lv_istore_n (lv' := [(1, .int r5), (0, .ref o0)]) hx hb dX4_readLine_12 rfl hl (by decide) rfl (fun ls hl => ?_)
  refine lv_iload_n hx hb dX4_readLine_13 rfl (lv_at hl 0 rfl) ?_
  refine lv_iconst (v := (-1)) hx hb dX4_readLine_14 (by decide) ?_
  refine lv_icmp_ne (tgt := 20) hx hb dX4_readLine_15 (by decide) (fun c16 => ?_) (fun c16 => ?_)
  · have t17 : r5.toInt ≠ (-1) := ti_ne c16 rfl (by decide)
    refine lv_aload_n hx hb dX4_readLine_20 rfl (lv_at hl 1 rfl) ?_
    refine lv_dup hx hb dX4_readLine_21 rfl ?_
    refine tw_getM (v := .int a0) hx hb hts bF2_X4 hown hK hT hr_o0 shc_7 rfl 13 (by decide) (ht_at2 hts 1 rfl) (fun _ h9 => h9) m8 dX4_readLine_22 ?_
    refine lv_iconst (v := 1) hx hb dX4_readLine_25 (by decide) ?_
    refine lv_iadd hx hb dX4_readLine_26 ?_
    refine lv_topi (fun x18 ex18 => ?_)
    have t19 : x18.toInt = a0.toInt + 1 := ti_add ex18 rfl (by decide) (by omega) (by omega)
    refine tw_put (v := .int x18) (ty := .int) hx hb hts bF2_X4 tyX4 tyX4_ok nmX4 hown hK hT hG hS hr_o0 shc_7 rfl 13 (by decide) (ht_at2 hts 1 rfl) (fun _ h9 => h9) rfl (by decide +kernel) rfl rfl (gl_at rfl (gi_of (show x18.toInt = x18.toInt from rfl) (by omega) (by omega))) dX4_readLine_27 (fun H locs hT oq m20 oj hS => ?_)
    have hF := hF.put hr_o0 skc_7 oq oj (by decide)
    have m21 := (oj 0 (by decide) (by decide)).trans m7
    have m22 := (oj 11 (by decide) (by decide)).trans m9
    have m23 := m10.kept (oq _ (gne hr_th hr_o0 (by decide)))
    have m24 := (el_kept (oq _ (gne hr_th hr_o0 (by decide)))).trans m11
    refine lv_aload_n hx hb dX4_readLine_30 rfl (lv_at hl 1 rfl) ?_
    refine tw_get hx hb hts bF2_X4 hown hK hT hr_o0 shc_7 rfl 2 (by decide) (ht_at2 hts 6 rfl) (fun _ h9 => h9) dX4_readLine_31 (fun v9 m26 h9 => ?_)
    obtain ⟨b27, rfl, hg28⟩ := h9 _ rfl
    refine lv_aload_n hx hb dX4_readLine_34 rfl (lv_at hl 1 rfl) ?_
    refine tw_getM (v := .int ln) hx hb hts bF2_X4 hown hK hT hr_o0 shc_7 rfl 11 (by decide) (ht_at2 hts 7 rfl) (fun _ h9 => h9) m22 dX4_readLine_35 ?_
    refine lv_iload_n hx hb dX4_readLine_38 rfl (lv_at hl 0 rfl) ?_
    refine tw_iast (i := ln) (x := r5) hx hb hK hT hG hS hg28 shc_42 rfl (vin_t (a := ln.toInt) rfl (by omega) (by omega)) (gi_all _) dX4_readLine_39 (fun H locs hT oq m29 oi hS => ?_)
    have hF := hF.ast hg28 skc_42 oq (by decide)
    have m30 := (el_kept (oq _ (gne hr_o0 hg28 (by decide)))).trans m21
    have m31 := (el_kept (oq _ (gne hr_o0 hg28 (by decide)))).trans m22
    have m32 := m23.kept (oq _ (gne hr_th hg28 (by decide)))
    have m33 := (el_kept (oq _ (gne hr_th hg28 (by decide)))).trans m24
    have m35 := (el_kept (oq _ (gne hr_o0 hg28 (by decide)))).trans m20
    refine lv_aload_n hx hb dX4_readLine_40 rfl (lv_at hl 1 rfl) ?_
    refine tw_get hx hb hts bF2_X4 hown hK hT hr_o0 shc_7 rfl 7 (by decide) (ht_at2 hts 8 rfl) (fun _ h9 => h9) dX4_readLine_41 (fun v9 m37 h9 => ?_)
    obtain ⟨b38, rfl, hg39⟩ := h9 _ rfl
    refine lv_aload_n hx hb dX4_readLine_44 rfl (lv_at hl 1 rfl) ?_
    refine tw_getM (v := .int ln) hx hb hts bF2_X4 hown hK hT hr_o0 shc_7 rfl 11 (by decide) (ht_at2 hts 7 rfl) (fun _ h9 => h9) m31 dX4_readLine_45 ?_
    refine lv_aload_n hx hb dX4_readLine_48 rfl (lv_at hl 1 rfl) ?_
    refine tw_get hx hb hts bF2_X4 hown hK hT hr_o0 shc_7 rfl 12 (by decide) (ht_at2 hts 9 rfl) (fun _ h9 => h9) dX4_readLine_49 (fun v9 m40 h9 => ?_)
    obtain ⟨x41, rfl, gx41, kx41⟩ := h9 _ rfl
    refine tw_iast (i := ln) (x := x41) hx hb hK hT hG hS hg39 shc_47 rfl (vin_t (a := ln.toInt) rfl (by omega) (by omega)) (gi_of (show x41.toInt = x41.toInt from rfl) (by omega) (by omega)) dX4_readLine_52 (fun H locs hT oq m42 oi hS => ?_)
    have hF := hF.ast hg39 skc_47 oq (by decide)
    have m43 := (el_kept (oq _ (gne hr_o0 hg39 (by decide)))).trans m30
    have m44 := (el_kept (oq _ (gne hr_o0 hg39 (by decide)))).trans m31
    have m45 := m32.kept (oq _ (gne hr_th hg39 (by decide)))
    have m46 := (el_kept (oq _ (gne hr_th hg39 (by decide)))).trans m33
    have m48 := (el_kept (oq _ (gne hr_o0 hg39 (by decide)))).trans m35
    have m52 := (el_kept (oq _ (gne hr_o0 hg39 (by decide)))).trans m40
    refine lv_iload_n hx hb dX4_readLine_53 rfl (lv_at hl 0 rfl) ?_
    by_cases hs53 : r5 = 5
    · subst hs53
      refine lv_tableIn (x := 5) (off := 125) (tgt := 179) hx hb dX4_readLine_54 (by decide) (by decide) (by decide) (by decide) ?_
      refine lv_goto (tgt := 197) hx hb dX4_readLine_179 (by decide) ?_
      refine lv_aload_n hx hb dX4_readLine_197 rfl (lv_at hl 1 rfl) ?_
      refine lv_bipush (v := 19) hx hb dX4_readLine_198 (by decide) ?_
      have hFc := gA_free hG hA hS
      refine va_calli (va_runV (As := [.int 19]) (rest := []) ⟨hx, hb, hml, hown, hts⟩ (c_take l dC dI kA adK adV G H nC nS o0 19 th x18 vT tv ix_tv ix_tv K X pS hT hr_o0 m43 hr_th m48 (by have q8 := ti_all ix_tv; omega) (by have q8 := ti_all x18; omega) (by have := (show x18.toInt = x18.toInt from rfl); have := (show ix_tv.toInt = ix_tv.toInt from rfl); omega) (by have := (show (19 : Int32).toInt = 19 from (by decide)); omega) (fun m hm => hKK m (Nat.le_trans hm (Nat.le_of_eq (tn_same hx_tv rfl rfl)))) (fun m hm => hXX m (Nat.lt_of_lt_of_eq hm (tn_same hx_tv rfl rfl))) m45 (by have q9 := (show ix_tv.toInt = ix_tv.toInt from rfl); have := (show ix_tv.toInt = ix_tv.toInt from rfl); omega) m46 (by have q8 := ti_all tv; omega) (by omega) (by omega)) (cwV 1 hts (goodIn_app (goodIn_r _ [12, 13, 14, 6] rfl (by decide +kernel)) (goodIn_ca (goodIn_r _ [11, 1, 2] rfl (by decide +kernel)) (bs2_in _ _))) rfl rfl rfl (by decide +kernel) ⟨(Nat.le_of_ble_eq_true rfl), (Nat.le_of_ble_eq_true rfl)⟩) ⟨fun a U g mk q => by obtain ⟨q0, q1, qK, qE⟩ := q; exact ⟨q0, q1, va_K.moved (u := U) (U := U.calling g mk a) (Vm.Alike.refl U.vm) qK, EVC.blind g mk a qE⟩, gH_rc hK hT hr_o0 shc_7 rfl, fun U hU hW => ⟨rfl, hU, va_K.moved hW.alike hK, hE.call hS hFc hU hW⟩⟩ rfl rfl hl.1 rfl (lv_room (Nat.le_of_ble_eq_true rfl)) dX4_readLine_200 ⟨(Nat.le_of_ble_eq_true rfl), (Nat.le_of_ble_eq_true rfl)⟩) hS (fun q _ h => hFc q h) hFc (fun r54 u t H locs ht hvm hw55 hB _ _ hS => ?_)
      obtain ⟨u56, rfl⟩ : ∃ z, z = u := ⟨_, rfl⟩
      obtain ⟨hT, hF1, m57⟩ := hB
      rw [ht] at hT hF1 m57
      have m58 := (hF1.fld hr_o0 skc_7 (k := 0) (by decide) (by decide)).trans m43
      have m59 := (hF1.fld hr_o0 skc_7 (k := 11) (by decide) (by decide)).trans m44
      have m60 := m45.kept (hF1.arr hr_th skc_40 (by decide))
      have m61 := (el_kept (hF1.arr hr_th skc_40 (by decide))).trans m46
      have m67 := (hF1.fld hr_o0 skc_7 (k := 12) (by decide) (by decide)).trans m52
      have hF := hF.more hF1 (by decide)
      try dsimp only at hw55
      obtain ⟨h69, h70, hf71, hf72, hf73⟩ := hw55
      refine lv_if_eq (tgt := 214) hx hb dX4_readLine_203 (by decide) (fun c74 => ?_) (fun c74 => ?_)
      · have t75 : r54.toInt = 0 := ti_eq c74 rfl (by decide)
        refine lv_iconst (v := 1) hx hb dX4_readLine_214 (by decide) ?_
        refine lv_goto (tgt := 219) hx hb dX4_readLine_215 (by decide) ?_
        refine lv_istore_n (lv' := [(2, .int 1), (1, .int 5), (0, .ref o0)]) hx hb dX4_readLine_219 rfl hl (by decide) rfl (fun ls hl => ?_)
        refine lv_aload_n hx hb dX4_readLine_220 rfl (lv_at hl 2 rfl) ?_
        refine tw_get hx hb hts bF2_X4 hown hK hT hr_o0 shc_7 rfl 8 (by decide) (ht_at2 hts 14 rfl) (fun _ h9 => h9) dX4_readLine_221 (fun v9 m76 h9 => ?_)
        obtain ⟨b77, rfl, hg78⟩ := h9 _ rfl
        refine lv_aload_n hx hb dX4_readLine_224 rfl (lv_at hl 2 rfl) ?_
        refine tw_getM (v := .int ln) hx hb hts bF2_X4 hown hK hT hr_o0 shc_7 rfl 11 (by decide) (ht_at2 hts 7 rfl) (fun _ h9 => h9) m59 dX4_readLine_225 ?_
        refine lv_aload_n hx hb dX4_readLine_228 rfl (lv_at hl 2 rfl) ?_
        refine tw_getM (v := .int x41) hx hb hts bF2_X4 hown hK hT hr_o0 shc_7 rfl 12 (by decide) (ht_at2 hts 9 rfl) (fun _ h9 => h9) m67 dX4_readLine_229 ?_
        refine tw_iast (i := ln) (x := x41) hx hb hK hT hG hS hg78 shc_48 rfl (vin_t (a := ln.toInt) rfl (by omega) (by omega)) (gi_of (show x41.toInt = x41.toInt from rfl) (by omega) (by omega)) dX4_readLine_232 (fun H locs hT oq m79 oi hS => ?_)
        have hF := hF.ast hg78 skc_48 oq (by decide)
        have m90 := (el_kept (oq _ (gne hr_o0 hg78 (by decide)))).trans m57
        refine lv_iload_n hx hb dX4_readLine_233 rfl (lv_at hl 0 rfl) ?_
        exact W.zret (v := 1) hx hb hr (by decide) (fun t ht hW => ⟨⟨1, u56, rfl, (by exact ⟨(by have q8 := ti_all u56; omega), (rg_t (a := 1) (by decide) (by first | decide | omega) (by first | decide | omega)), (by omega), (by have : (0 : Int32).toInt = 0 := (by decide); have : (1 : Int32).toInt = 1 := (by decide); have : (5 : Int32).toInt = 5 := (by decide); have : (6 : Int32).toInt = 6 := (by decide); have : (7 : Int32).toInt = 7 := (by decide); have : (8 : Int32).toInt = 8 := (by decide); have : (9 : Int32).toInt = 9 := (by decide); have : (-1 : Int32).toInt = -1 := (by decide); have l9 := hf15; rw [show x2.toInt = K (pS a0.toNatClampNeg) from by omega] at l9; have x9 := (show pS x18.toNatClampNeg = X (pS a0.toNatClampNeg) from by rw [show x18.toNatClampNeg = a0.toNatClampNeg + 1 from by have := tn_of (show a0.toInt = a0.toInt from rfl) (by omega); have := tn_of (show x18.toInt = x18.toInt from rfl) (by omega); omega]; exact hXX _ (by have := tn_of (show a0.toInt = a0.toInt from rfl) (by omega); have := tn_of (show tn.toInt = tn.toInt from rfl) (by omega); omega)); have h200 := hf72; rw [show (19 : Int32).toInt = 19 from by decide, show r54.toInt = 0 from by omega] at h200; have y9 := h200.resolve_left (fun h8 => by have := h8.2.1; omega); exact Or.inr (Or.inr (Or.inr (Or.inr (Or.inl ⟨by omega, by rw [← x9]; exact Or.inl ⟨y9.1, by decide, y9.2.2⟩⟩)))))⟩), by (try dsimp only); rw [ht]; exact ⟨hT, hF, m90⟩⟩, hS.F ht⟩) hS.2.2 dX4_readLine_234
      · have t92 : r54.toInt ≠ 0 := ti_ne c74 rfl (by decide)
        refine lv_aload_n hx hb dX4_readLine_206 rfl (lv_at hl 1 rfl) ?_
        refine lv_iconst (v := 0) hx hb dX4_readLine_207 (by decide) ?_
        have hFc := gA_free hG hA hS
        refine va_calli (va_runV (As := [.int 0]) (rest := []) ⟨hx, hb, hml, hown, hts⟩ (c_readAny0 l dC dI kA adK adV G H nC nS o0 th u56 vT tv ix_tv ix_tv K X pS hT hr_o0 m58 hr_th m57 (by have q8 := ti_all ix_tv; omega) (by have q8 := ti_all u56; omega) (by have := (show u56.toInt = u56.toInt from rfl); have := (show ix_tv.toInt = ix_tv.toInt from rfl); omega) (fun m hm => hKK m (Nat.le_trans hm (Nat.le_of_eq (tn_same hx_tv rfl rfl)))) (fun m hm => hXX m (Nat.lt_of_lt_of_eq hm (tn_same hx_tv rfl rfl))) m60 (by have q9 := (show ix_tv.toInt = ix_tv.toInt from rfl); have := (show ix_tv.toInt = ix_tv.toInt from rfl); omega) m61 (by have q8 := ti_all tv; omega) (by omega) (by omega)) (cwV 1 hts (goodIn_app (goodIn_r _ [42, 43, 44, 6] rfl (by decide +kernel)) (goodIn_ca (goodIn_r _ [16, 17, 18, 1, 2, 16, 19, 20, 21, 22, 10, 23, 24, 25, 26, 6, 27, 28, 29, 11, 12, 13, 14, 30, 31, 32, 33, 34, 35, 36, 37, 38, 39, 40, 41, 42, 43, 44] rfl (by decide +kernel)) (bs2_in _ _))) rfl rfl rfl (by decide +kernel) ⟨(Nat.le_of_ble_eq_true rfl), (Nat.le_of_ble_eq_true rfl)⟩) ⟨fun a U g mk q => by obtain ⟨q0, q1, qK, qE⟩ := q; exact ⟨q0, q1, va_K.moved (u := U) (U := U.calling g mk a) (Vm.Alike.refl U.vm) qK, EVC.blind g mk a qE⟩, gH_rc hK hT hr_o0 shc_7 rfl, fun U hU hW => ⟨rfl, hU, va_K.moved hW.alike hK, hE.call hS hFc hU hW⟩⟩ rfl rfl hl.1 rfl (lv_room (Nat.le_of_ble_eq_true rfl)) dX4_readLine_208 ⟨(Nat.le_of_ble_eq_true rfl), (Nat.le_of_ble_eq_true rfl)⟩) hS (fun q _ h => hFc q h) hFc (fun r93 u t H locs ht hvm hw94 hB _ _ hS => ?_)
        obtain ⟨u95, rfl⟩ : ∃ z, z = u := ⟨_, rfl⟩
        obtain ⟨hT, hF1, m96⟩ := hB
        rw [ht] at hT hF1 m96
        have m98 := (hF1.fld hr_o0 skc_7 (k := 11) (by decide) (by decide)).trans m59
        have hF := hF.more hF1 (by decide)
        try dsimp only at hw94
        obtain ⟨h108, h109, hf110, hf111⟩ := hw94
        refine lv_if_eq (tgt := 218) hx hb dX4_readLine_211 (by decide) (fun c112 => ?_) (fun c112 => ?_)
        · have t113 : r93.toInt = 0 := ti_eq c112 rfl (by decide)
          refine lv_iconst (v := 0) hx hb dX4_readLine_218 (by decide) ?_
          refine lv_istore_n (lv' := [(2, .int 0), (1, .int 5), (0, .ref o0)]) hx hb dX4_readLine_219 rfl hl (by decide) rfl (fun ls hl => ?_)
          refine lv_aload_n hx hb dX4_readLine_220 rfl (lv_at hl 2 rfl) ?_
          refine tw_get hx hb hts bF2_X4 hown hK hT hr_o0 shc_7 rfl 8 (by decide) (ht_at2 hts 14 rfl) (fun _ h9 => h9) dX4_readLine_221 (fun v9 m114 h9 => ?_)
          obtain ⟨b115, rfl, hg116⟩ := h9 _ rfl
          refine lv_aload_n hx hb dX4_readLine_224 rfl (lv_at hl 2 rfl) ?_
          refine tw_getM (v := .int ln) hx hb hts bF2_X4 hown hK hT hr_o0 shc_7 rfl 11 (by decide) (ht_at2 hts 7 rfl) (fun _ h9 => h9) m98 dX4_readLine_225 ?_
          refine lv_aload_n hx hb dX4_readLine_228 rfl (lv_at hl 2 rfl) ?_
          refine tw_get hx hb hts bF2_X4 hown hK hT hr_o0 shc_7 rfl 12 (by decide) (ht_at2 hts 9 rfl) (fun _ h9 => h9) dX4_readLine_229 (fun v9 m117 h9 => ?_)
          obtain ⟨x118, rfl, gx118, kx118⟩ := h9 _ rfl
          refine tw_iast (i := ln) (x := x118) hx hb hK hT hG hS hg116 shc_48 rfl (vin_t (a := ln.toInt) rfl (by omega) (by omega)) (gi_of (show x118.toInt = x118.toInt from rfl) (by omega) (by omega)) dX4_readLine_232 (fun H locs hT oq m119 oi hS => ?_)
          have hF := hF.ast hg116 skc_48 oq (by decide)
          have m129 := (el_kept (oq _ (gne hr_o0 hg116 (by decide)))).trans m96
          refine lv_iload_n hx hb dX4_readLine_233 rfl (lv_at hl 0 rfl) ?_
          exact W.zret (v := 0) hx hb hr (by decide) (fun t ht hW => ⟨⟨0, u95, rfl, (by exact ⟨(by have q8 := ti_all u95; omega), (rg_t (a := 0) (by decide) (by first | decide | omega) (by first | decide | omega)), (by omega), (by have : (0 : Int32).toInt = 0 := (by decide); have : (1 : Int32).toInt = 1 := (by decide); have : (5 : Int32).toInt = 5 := (by decide); have : (6 : Int32).toInt = 6 := (by decide); have : (7 : Int32).toInt = 7 := (by decide); have : (8 : Int32).toInt = 8 := (by decide); have : (9 : Int32).toInt = 9 := (by decide); have : (-1 : Int32).toInt = -1 := (by decide); have l9 := hf15; rw [show x2.toInt = K (pS a0.toNatClampNeg) from by omega] at l9; have x9 := (show pS x18.toNatClampNeg = X (pS a0.toNatClampNeg) from by rw [show x18.toNatClampNeg = a0.toNatClampNeg + 1 from by have := tn_of (show a0.toInt = a0.toInt from rfl) (by omega); have := tn_of (show x18.toInt = x18.toInt from rfl) (by omega); omega]; exact hXX _ (by have := tn_of (show a0.toInt = a0.toInt from rfl) (by omega); have := tn_of (show tn.toInt = tn.toInt from rfl) (by omega); omega)); have h200 := hf72; rw [show (19 : Int32).toInt = 19 from by decide, show r54.toInt = 1 from by omega] at h200; have h208 := hf111; rw [show r93.toInt = 0 from by omega] at h208; have y9 := h200.resolve_right (fun h8 => by have := h8.2.1; omega); rw [y9.2.2] at h208; exact Or.inr (Or.inr (Or.inr (Or.inr (Or.inl ⟨by omega, by rw [← x9]; exact Or.inr ⟨y9.1, h208⟩⟩)))))⟩), by (try dsimp only); rw [ht]; exact ⟨hT, hF, m129⟩⟩, hS.F ht⟩) hS.2.2 dX4_readLine_234
        · have t132 : r93.toInt ≠ 0 := ti_ne c112 rfl (by decide)
          refine lv_iconst (v := 1) hx hb dX4_readLine_214 (by decide) ?_
          refine lv_goto (tgt := 219) hx hb dX4_readLine_215 (by decide) ?_
          refine lv_istore_n (lv' := [(2, .int 1), (1, .int 5), (0, .ref o0)]) hx hb dX4_readLine_219 rfl hl (by decide) rfl (fun ls hl => ?_)
          refine lv_aload_n hx hb dX4_readLine_220 rfl (lv_at hl 2 rfl) ?_
          refine tw_get hx hb hts bF2_X4 hown hK hT hr_o0 shc_7 rfl 8 (by decide) (ht_at2 hts 14 rfl) (fun _ h9 => h9) dX4_readLine_221 (fun v9 m133 h9 => ?_)
          obtain ⟨b134, rfl, hg135⟩ := h9 _ rfl
          refine lv_aload_n hx hb dX4_readLine_224 rfl (lv_at hl 2 rfl) ?_
          refine tw_getM (v := .int ln) hx hb hts bF2_X4 hown hK hT hr_o0 shc_7 rfl 11 (by decide) (ht_at2 hts 7 rfl) (fun _ h9 => h9) m98 dX4_readLine_225 ?_
          refine lv_aload_n hx hb dX4_readLine_228 rfl (lv_at hl 2 rfl) ?_
          refine tw_get hx hb hts bF2_X4 hown hK hT hr_o0 shc_7 rfl 12 (by decide) (ht_at2 hts 9 rfl) (fun _ h9 => h9) dX4_readLine_229 (fun v9 m136 h9 => ?_)
          obtain ⟨x137, rfl, gx137, kx137⟩ := h9 _ rfl
          refine tw_iast (i := ln) (x := x137) hx hb hK hT hG hS hg135 shc_48 rfl (vin_t (a := ln.toInt) rfl (by omega) (by omega)) (gi_of (show x137.toInt = x137.toInt from rfl) (by omega) (by omega)) dX4_readLine_232 (fun H locs hT oq m138 oi hS => ?_)
          have hF := hF.ast hg135 skc_48 oq (by decide)
          have m148 := (el_kept (oq _ (gne hr_o0 hg135 (by decide)))).trans m96
          refine lv_iload_n hx hb dX4_readLine_233 rfl (lv_at hl 0 rfl) ?_
          exact W.zret (v := 1) hx hb hr (by decide) (fun t ht hW => ⟨⟨1, u95, rfl, (by exact ⟨(by have q8 := ti_all u95; omega), (rg_t (a := 1) (by decide) (by first | decide | omega) (by first | decide | omega)), (by omega), (by have : (0 : Int32).toInt = 0 := (by decide); have : (1 : Int32).toInt = 1 := (by decide); have : (5 : Int32).toInt = 5 := (by decide); have : (6 : Int32).toInt = 6 := (by decide); have : (7 : Int32).toInt = 7 := (by decide); have : (8 : Int32).toInt = 8 := (by decide); have : (9 : Int32).toInt = 9 := (by decide); have : (-1 : Int32).toInt = -1 := (by decide); have l9 := hf15; rw [show x2.toInt = K (pS a0.toNatClampNeg) from by omega] at l9; have x9 := (show pS x18.toNatClampNeg = X (pS a0.toNatClampNeg) from by rw [show x18.toNatClampNeg = a0.toNatClampNeg + 1 from by have := tn_of (show a0.toInt = a0.toInt from rfl) (by omega); have := tn_of (show x18.toInt = x18.toInt from rfl) (by omega); omega]; exact hXX _ (by have := tn_of (show a0.toInt = a0.toInt from rfl) (by omega); have := tn_of (show tn.toInt = tn.toInt from rfl) (by omega); omega)); have h200 := hf72; rw [show (19 : Int32).toInt = 19 from by decide, show r54.toInt = 1 from by omega] at h200; have h208 := hf111; rw [show r93.toInt = 1 from by omega] at h208; have y9 := h200.resolve_right (fun h8 => by have := h8.2.1; omega); rw [y9.2.2] at h208; exact Or.inr (Or.inr (Or.inr (Or.inr (Or.inl ⟨by omega, by rw [← x9]; exact Or.inr ⟨y9.1, h208⟩⟩)))))⟩), by (try dsimp only); rw [ht]; exact ⟨hT, hF, m148⟩⟩, hS.F ht⟩) hS.2.2 dX4_readLine_234
    by_cases hs151 : r5 = 6
    · subst hs151
      refine lv_tableIn (x := 6) (off := 125) (tgt := 179) hx hb dX4_readLine_54 (by decide) (by decide) (by decide) (by decide) ?_
      refine lv_goto (tgt := 197) hx hb dX4_readLine_179 (by decide) ?_
      refine lv_aload_n hx hb dX4_readLine_197 rfl (lv_at hl 1 rfl) ?_
      refine lv_bipush (v := 19) hx hb dX4_readLine_198 (by decide) ?_
      have hFc := gA_free hG hA hS
      refine va_calli (va_runV (As := [.int 19]) (rest := []) ⟨hx, hb, hml, hown, hts⟩ (c_take l dC dI kA adK adV G H nC nS o0 19 th x18 vT tv ix_tv ix_tv K X pS hT hr_o0 m43 hr_th m48 (by have q8 := ti_all ix_tv; omega) (by have q8 := ti_all x18; omega) (by have := (show x18.toInt = x18.toInt from rfl); have := (show ix_tv.toInt = ix_tv.toInt from rfl); omega) (by have := (show (19 : Int32).toInt = 19 from (by decide)); omega) (fun m hm => hKK m (Nat.le_trans hm (Nat.le_of_eq (tn_same hx_tv rfl rfl)))) (fun m hm => hXX m (Nat.lt_of_lt_of_eq hm (tn_same hx_tv rfl rfl))) m45 (by have q9 := (show ix_tv.toInt = ix_tv.toInt from rfl); have := (show ix_tv.toInt = ix_tv.toInt from rfl); omega) m46 (by have q8 := ti_all tv; omega) (by omega) (by omega)) (cwV 1 hts (goodIn_app (goodIn_r _ [12, 13, 14, 6] rfl (by decide +kernel)) (goodIn_ca (goodIn_r _ [11, 1, 2] rfl (by decide +kernel)) (bs2_in _ _))) rfl rfl rfl (by decide +kernel) ⟨(Nat.le_of_ble_eq_true rfl), (Nat.le_of_ble_eq_true rfl)⟩) ⟨fun a U g mk q => by obtain ⟨q0, q1, qK, qE⟩ := q; exact ⟨q0, q1, va_K.moved (u := U) (U := U.calling g mk a) (Vm.Alike.refl U.vm) qK, EVC.blind g mk a qE⟩, gH_rc hK hT hr_o0 shc_7 rfl, fun U hU hW => ⟨rfl, hU, va_K.moved hW.alike hK, hE.call hS hFc hU hW⟩⟩ rfl rfl hl.1 rfl (lv_room (Nat.le_of_ble_eq_true rfl)) dX4_readLine_200 ⟨(Nat.le_of_ble_eq_true rfl), (Nat.le_of_ble_eq_true rfl)⟩) hS (fun q _ h => hFc q h) hFc (fun r152 u t H locs ht hvm hw153 hB _ _ hS => ?_)
      obtain ⟨u154, rfl⟩ : ∃ z, z = u := ⟨_, rfl⟩
      obtain ⟨hT, hF1, m155⟩ := hB
      rw [ht] at hT hF1 m155
      have m156 := (hF1.fld hr_o0 skc_7 (k := 0) (by decide) (by decide)).trans m43
      have m157 := (hF1.fld hr_o0 skc_7 (k := 11) (by decide) (by decide)).trans m44
      have m158 := m45.kept (hF1.arr hr_th skc_40 (by decide))
      have m159 := (el_kept (hF1.arr hr_th skc_40 (by decide))).trans m46
      have m165 := (hF1.fld hr_o0 skc_7 (k := 12) (by decide) (by decide)).trans m52
      have hF := hF.more hF1 (by decide)
      try dsimp only at hw153
      obtain ⟨h167, h168, hf169, hf170, hf171⟩ := hw153
      refine lv_if_eq (tgt := 214) hx hb dX4_readLine_203 (by decide) (fun c172 => ?_) (fun c172 => ?_)
      · have t173 : r152.toInt = 0 := ti_eq c172 rfl (by decide)
        refine lv_iconst (v := 1) hx hb dX4_readLine_214 (by decide) ?_
        refine lv_goto (tgt := 219) hx hb dX4_readLine_215 (by decide) ?_
        refine lv_istore_n (lv' := [(2, .int 1), (1, .int 6), (0, .ref o0)]) hx hb dX4_readLine_219 rfl hl (by decide) rfl (fun ls hl => ?_)
        refine lv_aload_n hx hb dX4_readLine_220 rfl (lv_at hl 2 rfl) ?_
        refine tw_get hx hb hts bF2_X4 hown hK hT hr_o0 shc_7 rfl 8 (by decide) (ht_at2 hts 14 rfl) (fun _ h9 => h9) dX4_readLine_221 (fun v9 m174 h9 => ?_)
        obtain ⟨b175, rfl, hg176⟩ := h9 _ rfl
        refine lv_aload_n hx hb dX4_readLine_224 rfl (lv_at hl 2 rfl) ?_
        refine tw_getM (v := .int ln) hx hb hts bF2_X4 hown hK hT hr_o0 shc_7 rfl 11 (by decide) (ht_at2 hts 7 rfl) (fun _ h9 => h9) m157 dX4_readLine_225 ?_
        refine lv_aload_n hx hb dX4_readLine_228 rfl (lv_at hl 2 rfl) ?_
        refine tw_getM (v := .int x41) hx hb hts bF2_X4 hown hK hT hr_o0 shc_7 rfl 12 (by decide) (ht_at2 hts 9 rfl) (fun _ h9 => h9) m165 dX4_readLine_229 ?_
        refine tw_iast (i := ln) (x := x41) hx hb hK hT hG hS hg176 shc_48 rfl (vin_t (a := ln.toInt) rfl (by omega) (by omega)) (gi_of (show x41.toInt = x41.toInt from rfl) (by omega) (by omega)) dX4_readLine_232 (fun H locs hT oq m177 oi hS => ?_)
        have hF := hF.ast hg176 skc_48 oq (by decide)
        have m188 := (el_kept (oq _ (gne hr_o0 hg176 (by decide)))).trans m155
        refine lv_iload_n hx hb dX4_readLine_233 rfl (lv_at hl 0 rfl) ?_
        exact W.zret (v := 1) hx hb hr (by decide) (fun t ht hW => ⟨⟨1, u154, rfl, (by exact ⟨(by have q8 := ti_all u154; omega), (rg_t (a := 1) (by decide) (by first | decide | omega) (by first | decide | omega)), (by omega), (by have : (0 : Int32).toInt = 0 := (by decide); have : (1 : Int32).toInt = 1 := (by decide); have : (5 : Int32).toInt = 5 := (by decide); have : (6 : Int32).toInt = 6 := (by decide); have : (7 : Int32).toInt = 7 := (by decide); have : (8 : Int32).toInt = 8 := (by decide); have : (9 : Int32).toInt = 9 := (by decide); have : (-1 : Int32).toInt = -1 := (by decide); have l9 := hf15; rw [show x2.toInt = K (pS a0.toNatClampNeg) from by omega] at l9; have x9 := (show pS x18.toNatClampNeg = X (pS a0.toNatClampNeg) from by rw [show x18.toNatClampNeg = a0.toNatClampNeg + 1 from by have := tn_of (show a0.toInt = a0.toInt from rfl) (by omega); have := tn_of (show x18.toInt = x18.toInt from rfl) (by omega); omega]; exact hXX _ (by have := tn_of (show a0.toInt = a0.toInt from rfl) (by omega); have := tn_of (show tn.toInt = tn.toInt from rfl) (by omega); omega)); have h200 := hf170; rw [show (19 : Int32).toInt = 19 from by decide, show r152.toInt = 0 from by omega] at h200; have y9 := h200.resolve_left (fun h8 => by have := h8.2.1; omega); exact Or.inr (Or.inr (Or.inr (Or.inr (Or.inl ⟨by omega, by rw [← x9]; exact Or.inl ⟨y9.1, by decide, y9.2.2⟩⟩)))))⟩), by (try dsimp only); rw [ht]; exact ⟨hT, hF, m188⟩⟩, hS.F ht⟩) hS.2.2 dX4_readLine_234
      · have t190 : r152.toInt ≠ 0 := ti_ne c172 rfl (by decide)
        refine lv_aload_n hx hb dX4_readLine_206 rfl (lv_at hl 1 rfl) ?_
        refine lv_iconst (v := 0) hx hb dX4_readLine_207 (by decide) ?_
        have hFc := gA_free hG hA hS
        refine va_calli (va_runV (As := [.int 0]) (rest := []) ⟨hx, hb, hml, hown, hts⟩ (c_readAny0 l dC dI kA adK adV G H nC nS o0 th u154 vT tv ix_tv ix_tv K X pS hT hr_o0 m156 hr_th m155 (by have q8 := ti_all ix_tv; omega) (by have q8 := ti_all u154; omega) (by have := (show u154.toInt = u154.toInt from rfl); have := (show ix_tv.toInt = ix_tv.toInt from rfl); omega) (fun m hm => hKK m (Nat.le_trans hm (Nat.le_of_eq (tn_same hx_tv rfl rfl)))) (fun m hm => hXX m (Nat.lt_of_lt_of_eq hm (tn_same hx_tv rfl rfl))) m158 (by have q9 := (show ix_tv.toInt = ix_tv.toInt from rfl); have := (show ix_tv.toInt = ix_tv.toInt from rfl); omega) m159 (by have q8 := ti_all tv; omega) (by omega) (by omega)) (cwV 1 hts (goodIn_app (goodIn_r _ [42, 43, 44, 6] rfl (by decide +kernel)) (goodIn_ca (goodIn_r _ [16, 17, 18, 1, 2, 16, 19, 20, 21, 22, 10, 23, 24, 25, 26, 6, 27, 28, 29, 11, 12, 13, 14, 30, 31, 32, 33, 34, 35, 36, 37, 38, 39, 40, 41, 42, 43, 44] rfl (by decide +kernel)) (bs2_in _ _))) rfl rfl rfl (by decide +kernel) ⟨(Nat.le_of_ble_eq_true rfl), (Nat.le_of_ble_eq_true rfl)⟩) ⟨fun a U g mk q => by obtain ⟨q0, q1, qK, qE⟩ := q; exact ⟨q0, q1, va_K.moved (u := U) (U := U.calling g mk a) (Vm.Alike.refl U.vm) qK, EVC.blind g mk a qE⟩, gH_rc hK hT hr_o0 shc_7 rfl, fun U hU hW => ⟨rfl, hU, va_K.moved hW.alike hK, hE.call hS hFc hU hW⟩⟩ rfl rfl hl.1 rfl (lv_room (Nat.le_of_ble_eq_true rfl)) dX4_readLine_208 ⟨(Nat.le_of_ble_eq_true rfl), (Nat.le_of_ble_eq_true rfl)⟩) hS (fun q _ h => hFc q h) hFc (fun r191 u t H locs ht hvm hw192 hB _ _ hS => ?_)
        obtain ⟨u193, rfl⟩ : ∃ z, z = u := ⟨_, rfl⟩
        obtain ⟨hT, hF1, m194⟩ := hB
        rw [ht] at hT hF1 m194
        have m196 := (hF1.fld hr_o0 skc_7 (k := 11) (by decide) (by decide)).trans m157
        have hF := hF.more hF1 (by decide)
        try dsimp only at hw192
        obtain ⟨h206, h207, hf208, hf209⟩ := hw192
        refine lv_if_eq (tgt := 218) hx hb dX4_readLine_211 (by decide) (fun c210 => ?_) (fun c210 => ?_)
        · have t211 : r191.toInt = 0 := ti_eq c210 rfl (by decide)
          refine lv_iconst (v := 0) hx hb dX4_readLine_218 (by decide) ?_
          refine lv_istore_n (lv' := [(2, .int 0), (1, .int 6), (0, .ref o0)]) hx hb dX4_readLine_219 rfl hl (by decide) rfl (fun ls hl => ?_)
          refine lv_aload_n hx hb dX4_readLine_220 rfl (lv_at hl 2 rfl) ?_
          refine tw_get hx hb hts bF2_X4 hown hK hT hr_o0 shc_7 rfl 8 (by decide) (ht_at2 hts 14 rfl) (fun _ h9 => h9) dX4_readLine_221 (fun v9 m212 h9 => ?_)
          obtain ⟨b213, rfl, hg214⟩ := h9 _ rfl
          refine lv_aload_n hx hb dX4_readLine_224 rfl (lv_at hl 2 rfl) ?_
          refine tw_getM (v := .int ln) hx hb hts bF2_X4 hown hK hT hr_o0 shc_7 rfl 11 (by decide) (ht_at2 hts 7 rfl) (fun _ h9 => h9) m196 dX4_readLine_225 ?_
          refine lv_aload_n hx hb dX4_readLine_228 rfl (lv_at hl 2 rfl) ?_
          refine tw_get hx hb hts bF2_X4 hown hK hT hr_o0 shc_7 rfl 12 (by decide) (ht_at2 hts 9 rfl) (fun _ h9 => h9) dX4_readLine_229 (fun v9 m215 h9 => ?_)
          obtain ⟨x216, rfl, gx216, kx216⟩ := h9 _ rfl
          refine tw_iast (i := ln) (x := x216) hx hb hK hT hG hS hg214 shc_48 rfl (vin_t (a := ln.toInt) rfl (by omega) (by omega)) (gi_of (show x216.toInt = x216.toInt from rfl) (by omega) (by omega)) dX4_readLine_232 (fun H locs hT oq m217 oi hS => ?_)
          have hF := hF.ast hg214 skc_48 oq (by decide)
          have m227 := (el_kept (oq _ (gne hr_o0 hg214 (by decide)))).trans m194
          refine lv_iload_n hx hb dX4_readLine_233 rfl (lv_at hl 0 rfl) ?_
          exact W.zret (v := 0) hx hb hr (by decide) (fun t ht hW => ⟨⟨0, u193, rfl, (by exact ⟨(by have q8 := ti_all u193; omega), (rg_t (a := 0) (by decide) (by first | decide | omega) (by first | decide | omega)), (by omega), (by have : (0 : Int32).toInt = 0 := (by decide); have : (1 : Int32).toInt = 1 := (by decide); have : (5 : Int32).toInt = 5 := (by decide); have : (6 : Int32).toInt = 6 := (by decide); have : (7 : Int32).toInt = 7 := (by decide); have : (8 : Int32).toInt = 8 := (by decide); have : (9 : Int32).toInt = 9 := (by decide); have : (-1 : Int32).toInt = -1 := (by decide); have l9 := hf15; rw [show x2.toInt = K (pS a0.toNatClampNeg) from by omega] at l9; have x9 := (show pS x18.toNatClampNeg = X (pS a0.toNatClampNeg) from by rw [show x18.toNatClampNeg = a0.toNatClampNeg + 1 from by have := tn_of (show a0.toInt = a0.toInt from rfl) (by omega); have := tn_of (show x18.toInt = x18.toInt from rfl) (by omega); omega]; exact hXX _ (by have := tn_of (show a0.toInt = a0.toInt from rfl) (by omega); have := tn_of (show tn.toInt = tn.toInt from rfl) (by omega); omega)); have h200 := hf170; rw [show (19 : Int32).toInt = 19 from by decide, show r152.toInt = 1 from by omega] at h200; have h208 := hf209; rw [show r191.toInt = 0 from by omega] at h208; have y9 := h200.resolve_right (fun h8 => by have := h8.2.1; omega); rw [y9.2.2] at h208; exact Or.inr (Or.inr (Or.inr (Or.inr (Or.inl ⟨by omega, by rw [← x9]; exact Or.inr ⟨y9.1, h208⟩⟩)))))⟩), by (try dsimp only); rw [ht]; exact ⟨hT, hF, m227⟩⟩, hS.F ht⟩) hS.2.2 dX4_readLine_234
        · have t230 : r191.toInt ≠ 0 := ti_ne c210 rfl (by decide)
          refine lv_iconst (v := 1) hx hb dX4_readLine_214 (by decide) ?_
          refine lv_goto (tgt := 219) hx hb dX4_readLine_215 (by decide) ?_
          refine lv_istore_n (lv' := [(2, .int 1), (1, .int 6), (0, .ref o0)]) hx hb dX4_readLine_219 rfl hl (by decide) rfl (fun ls hl => ?_)
          refine lv_aload_n hx hb dX4_readLine_220 rfl (lv_at hl 2 rfl) ?_
          refine tw_get hx hb hts bF2_X4 hown hK hT hr_o0 shc_7 rfl 8 (by decide) (ht_at2 hts 14 rfl) (fun _ h9 => h9) dX4_readLine_221 (fun v9 m231 h9 => ?_)
          obtain ⟨b232, rfl, hg233⟩ := h9 _ rfl
          refine lv_aload_n hx hb dX4_readLine_224 rfl (lv_at hl 2 rfl) ?_
          refine tw_getM (v := .int ln) hx hb hts bF2_X4 hown hK hT hr_o0 shc_7 rfl 11 (by decide) (ht_at2 hts 7 rfl) (fun _ h9 => h9) m196 dX4_readLine_225 ?_
          refine lv_aload_n hx hb dX4_readLine_228 rfl (lv_at hl 2 rfl) ?_
          refine tw_get hx hb hts bF2_X4 hown hK hT hr_o0 shc_7 rfl 12 (by decide) (ht_at2 hts 9 rfl) (fun _ h9 => h9) dX4_readLine_229 (fun v9 m234 h9 => ?_)
          obtain ⟨x235, rfl, gx235, kx235⟩ := h9 _ rfl
          refine tw_iast (i := ln) (x := x235) hx hb hK hT hG hS hg233 shc_48 rfl (vin_t (a := ln.toInt) rfl (by omega) (by omega)) (gi_of (show x235.toInt = x235.toInt from rfl) (by omega) (by omega)) dX4_readLine_232 (fun H locs hT oq m236 oi hS => ?_)
          have hF := hF.ast hg233 skc_48 oq (by decide)
          have m246 := (el_kept (oq _ (gne hr_o0 hg233 (by decide)))).trans m194
          refine lv_iload_n hx hb dX4_readLine_233 rfl (lv_at hl 0 rfl) ?_
          exact W.zret (v := 1) hx hb hr (by decide) (fun t ht hW => ⟨⟨1, u193, rfl, (by exact ⟨(by have q8 := ti_all u193; omega), (rg_t (a := 1) (by decide) (by first | decide | omega) (by first | decide | omega)), (by omega), (by have : (0 : Int32).toInt = 0 := (by decide); have : (1 : Int32).toInt = 1 := (by decide); have : (5 : Int32).toInt = 5 := (by decide); have : (6 : Int32).toInt = 6 := (by decide); have : (7 : Int32).toInt = 7 := (by decide); have : (8 : Int32).toInt = 8 := (by decide); have : (9 : Int32).toInt = 9 := (by decide); have : (-1 : Int32).toInt = -1 := (by decide); have l9 := hf15; rw [show x2.toInt = K (pS a0.toNatClampNeg) from by omega] at l9; have x9 := (show pS x18.toNatClampNeg = X (pS a0.toNatClampNeg) from by rw [show x18.toNatClampNeg = a0.toNatClampNeg + 1 from by have := tn_of (show a0.toInt = a0.toInt from rfl) (by omega); have := tn_of (show x18.toInt = x18.toInt from rfl) (by omega); omega]; exact hXX _ (by have := tn_of (show a0.toInt = a0.toInt from rfl) (by omega); have := tn_of (show tn.toInt = tn.toInt from rfl) (by omega); omega)); have h200 := hf170; rw [show (19 : Int32).toInt = 19 from by decide, show r152.toInt = 1 from by omega] at h200; have h208 := hf209; rw [show r191.toInt = 1 from by omega] at h208; have y9 := h200.resolve_right (fun h8 => by have := h8.2.1; omega); rw [y9.2.2] at h208; exact Or.inr (Or.inr (Or.inr (Or.inr (Or.inl ⟨by omega, by rw [← x9]; exact Or.inr ⟨y9.1, h208⟩⟩)))))⟩), by (try dsimp only); rw [ht]; exact ⟨hT, hF, m246⟩⟩, hS.F ht⟩) hS.2.2 dX4_readLine_234
    by_cases hs249 : r5 = 7
    · subst hs249
      refine lv_tableIn (x := 7) (off := 34) (tgt := 88) hx hb dX4_readLine_54 (by decide) (by decide) (by decide) (by decide) ?_
      refine lv_aload_n hx hb dX4_readLine_88 rfl (lv_at hl 1 rfl) ?_
      refine lv_sipush (v := 900) hx hb dX4_readLine_89 (by decide) ?_
      refine lv_aload_n hx hb dX4_readLine_92 rfl (lv_at hl 1 rfl) ?_
      refine tw_get hx hb hts bF2_X4 hown hK hT hr_o0 shc_7 rfl 3 (by decide) (ht_at2 hts 44 rfl) (fun _ h9 => h9) dX4_readLine_93 (fun v9 m250 h9 => ?_)
      obtain ⟨b251, rfl, hg252⟩ := h9 _ rfl
      have hFc := gA_free hG hA hS
      refine va_calli (va_runV (As := [.int 900, .ref b251]) (rest := []) ⟨hx, hb, hml, hown, hts⟩ (c_takeNumber_firsts l dC dI kA adK adV G H nC nS o0 900 b251 th x18 ln vT tv ix_tv ix_tv K X pS hT hg252 hr_o0 m43 hr_th m48 m44 (by have q8 := ti_all ix_tv; omega) (by have q8 := ti_all x18; omega) (by have := (show x18.toInt = x18.toInt from rfl); have := (show ix_tv.toInt = ix_tv.toInt from rfl); omega) (by have q8 := ti_all ln; omega) (fun m hm => hKK m (Nat.le_trans hm (Nat.le_of_eq (tn_same hx_tv rfl rfl)))) (fun m hm => hXX m (Nat.lt_of_lt_of_eq hm (tn_same hx_tv rfl rfl))) m45 (by have q9 := (show ix_tv.toInt = ix_tv.toInt from rfl); have := (show ix_tv.toInt = ix_tv.toInt from rfl); omega) m46 (by have q8 := ti_all tv; omega) (by omega) (by omega)) (cwV 2 hts (goodIn_app (goodIn_r _ [47, 48, 49, 6] rfl (by decide +kernel)) (goodIn_ca (goodIn_r _ [46, 1, 2, 8] rfl (by decide +kernel)) (bs2_in _ _))) rfl rfl rfl (by decide +kernel) ⟨(Nat.le_of_ble_eq_true rfl), (Nat.le_of_ble_eq_true rfl)⟩) ⟨fun a U g mk q => by obtain ⟨q0, q1, qK, qE⟩ := q; exact ⟨q0, q1, va_K.moved (u := U) (U := U.calling g mk a) (Vm.Alike.refl U.vm) qK, EVC.blind g mk a qE⟩, gH_rc hK hT hr_o0 shc_7 rfl, fun U hU hW => ⟨rfl, hU, va_K.moved hW.alike hK, hE.call hS hFc hU hW⟩⟩ rfl rfl hl.1 rfl (lv_room (Nat.le_of_ble_eq_true rfl)) dX4_readLine_96 ⟨(Nat.le_of_ble_eq_true rfl), (Nat.le_of_ble_eq_true rfl)⟩) hS (fun q _ h => hFc q h) hFc (fun r253 u t H locs ht hvm hw254 hB _ _ hS => ?_)
      obtain ⟨u255, rfl⟩ : ∃ z, z = u := ⟨_, rfl⟩
      obtain ⟨hT, hF1, m256⟩ := hB
      rw [ht] at hT hF1 m256
      have m257 := (hF1.fld hr_o0 skc_7 (k := 0) (by decide) (by decide)).trans m43
      have m258 := (hF1.fld hr_o0 skc_7 (k := 11) (by decide) (by decide)).trans m44
      have m259 := m45.kept (hF1.arr hr_th skc_40 (by decide))
      have m260 := (el_kept (hF1.arr hr_th skc_40 (by decide))).trans m46
      have hF := hF.more hF1 (by decide)
      try dsimp only at hw254
      obtain ⟨h269, h270, hf271, hf272⟩ := hw254
      refine lv_if_eq (tgt := 155) hx hb dX4_readLine_99 (by decide) (fun c273 => ?_) (fun c273 => ?_)
      · have t274 : r253.toInt = 0 := ti_eq c273 rfl (by decide)
        refine lv_iconst (v := 0) hx hb dX4_readLine_155 (by decide) ?_
        exact W.zret (v := 0) hx hb hr (by decide) (fun t ht hW => ⟨⟨0, u255, rfl, (by exact ⟨(by have q8 := ti_all u255; omega), (rg_t (a := 0) (by decide) (by first | decide | omega) (by first | decide | omega)), (by omega), (by have : (0 : Int32).toInt = 0 := (by decide); have : (1 : Int32).toInt = 1 := (by decide); have : (5 : Int32).toInt = 5 := (by decide); have : (6 : Int32).toInt = 6 := (by decide); have : (7 : Int32).toInt = 7 := (by decide); have : (8 : Int32).toInt = 8 := (by decide); have : (9 : Int32).toInt = 9 := (by decide); have : (-1 : Int32).toInt = -1 := (by decide); have l9 := hf15; rw [show x2.toInt = K (pS a0.toNatClampNeg) from by omega] at l9; have x9 := (show pS x18.toNatClampNeg = X (pS a0.toNatClampNeg) from by rw [show x18.toNatClampNeg = a0.toNatClampNeg + 1 from by have := tn_of (show a0.toInt = a0.toInt from rfl) (by omega); have := tn_of (show x18.toInt = x18.toInt from rfl) (by omega); omega]; exact hXX _ (by have := tn_of (show a0.toInt = a0.toInt from rfl) (by omega); have := tn_of (show tn.toInt = tn.toInt from rfl) (by omega); omega)); have h96 := hf272; rw [show (900 : Int32).toInt = 900 from by decide, show r253.toInt = 0 from by omega] at h96; rw [x9] at h96; exact Or.inr (Or.inl ⟨by omega, Or.inl ⟨h96, by decide⟩⟩))⟩), by (try dsimp only); rw [ht]; exact ⟨hT, hF, m256⟩⟩, hS.F ht⟩) hS.2.2 dX4_readLine_156
      · have t275 : r253.toInt ≠ 0 := ti_ne c273 rfl (by decide)
        refine lv_aload_n hx hb dX4_readLine_102 rfl (lv_at hl 1 rfl) ?_
        refine lv_sipush (v := 900) hx hb dX4_readLine_103 (by decide) ?_
        refine lv_aload_n hx hb dX4_readLine_106 rfl (lv_at hl 1 rfl) ?_
        refine tw_get hx hb hts bF2_X4 hown hK hT hr_o0 shc_7 rfl 4 (by decide) (ht_at2 hts 49 rfl) (fun _ h9 => h9) dX4_readLine_107 (fun v9 m276 h9 => ?_)
        obtain ⟨b277, rfl, hg278⟩ := h9 _ rfl
        have hFc := gA_free hG hA hS
        refine va_calli (va_runV (As := [.int 900, .ref b277]) (rest := []) ⟨hx, hb, hml, hown, hts⟩ (c_takeNumber_seconds l dC dI kA adK adV G H nC nS o0 900 b277 th u255 ln vT tv ix_tv ix_tv K X pS hT hg278 hr_o0 m257 hr_th m256 m258 (by have q8 := ti_all ix_tv; omega) (by have q8 := ti_all u255; omega) (by have := (show u255.toInt = u255.toInt from rfl); have := (show ix_tv.toInt = ix_tv.toInt from rfl); omega) (by have q8 := ti_all ln; omega) (fun m hm => hKK m (Nat.le_trans hm (Nat.le_of_eq (tn_same hx_tv rfl rfl)))) (fun m hm => hXX m (Nat.lt_of_lt_of_eq hm (tn_same hx_tv rfl rfl))) m259 (by have q9 := (show ix_tv.toInt = ix_tv.toInt from rfl); have := (show ix_tv.toInt = ix_tv.toInt from rfl); omega) m260 (by have q8 := ti_all tv; omega) (by omega) (by omega)) (cwV 2 hts (goodIn_app (goodIn_r _ [47, 48, 49, 6] rfl (by decide +kernel)) (goodIn_ca (goodIn_r _ [46, 1, 2, 8] rfl (by decide +kernel)) (bs2_in _ _))) rfl rfl rfl (by decide +kernel) ⟨(Nat.le_of_ble_eq_true rfl), (Nat.le_of_ble_eq_true rfl)⟩) ⟨fun a U g mk q => by obtain ⟨q0, q1, qK, qE⟩ := q; exact ⟨q0, q1, va_K.moved (u := U) (U := U.calling g mk a) (Vm.Alike.refl U.vm) qK, EVC.blind g mk a qE⟩, gH_rc hK hT hr_o0 shc_7 rfl, fun U hU hW => ⟨rfl, hU, va_K.moved hW.alike hK, hE.call hS hFc hU hW⟩⟩ rfl rfl hl.1 rfl (lv_room (Nat.le_of_ble_eq_true rfl)) dX4_readLine_110 ⟨(Nat.le_of_ble_eq_true rfl), (Nat.le_of_ble_eq_true rfl)⟩) hS (fun q _ h => hFc q h) hFc (fun r279 u t H locs ht hvm hw280 hB _ _ hS => ?_)
        obtain ⟨u281, rfl⟩ : ∃ z, z = u := ⟨_, rfl⟩
        obtain ⟨hT, hF1, m282⟩ := hB
        rw [ht] at hT hF1 m282
        have m283 := (hF1.fld hr_o0 skc_7 (k := 0) (by decide) (by decide)).trans m257
        have m284 := (hF1.fld hr_o0 skc_7 (k := 11) (by decide) (by decide)).trans m258
        have m285 := m259.kept (hF1.arr hr_th skc_40 (by decide))
        have m286 := (el_kept (hF1.arr hr_th skc_40 (by decide))).trans m260
        have hF := hF.more hF1 (by decide)
        try dsimp only at hw280
        obtain ⟨h296, h297, hf298, hf299⟩ := hw280
        refine lv_if_eq (tgt := 155) hx hb dX4_readLine_113 (by decide) (fun c300 => ?_) (fun c300 => ?_)
        · have t301 : r279.toInt = 0 := ti_eq c300 rfl (by decide)
          refine lv_iconst (v := 0) hx hb dX4_readLine_155 (by decide) ?_
          exact W.zret (v := 0) hx hb hr (by decide) (fun t ht hW => ⟨⟨0, u281, rfl, (by exact ⟨(by have q8 := ti_all u281; omega), (rg_t (a := 0) (by decide) (by first | decide | omega) (by first | decide | omega)), (by omega), (by have : (0 : Int32).toInt = 0 := (by decide); have : (1 : Int32).toInt = 1 := (by decide); have : (5 : Int32).toInt = 5 := (by decide); have : (6 : Int32).toInt = 6 := (by decide); have : (7 : Int32).toInt = 7 := (by decide); have : (8 : Int32).toInt = 8 := (by decide); have : (9 : Int32).toInt = 9 := (by decide); have : (-1 : Int32).toInt = -1 := (by decide); have l9 := hf15; rw [show x2.toInt = K (pS a0.toNatClampNeg) from by omega] at l9; have x9 := (show pS x18.toNatClampNeg = X (pS a0.toNatClampNeg) from by rw [show x18.toNatClampNeg = a0.toNatClampNeg + 1 from by have := tn_of (show a0.toInt = a0.toInt from rfl) (by omega); have := tn_of (show x18.toInt = x18.toInt from rfl) (by omega); omega]; exact hXX _ (by have := tn_of (show a0.toInt = a0.toInt from rfl) (by omega); have := tn_of (show tn.toInt = tn.toInt from rfl) (by omega); omega)); have h96 := hf272; rw [show (900 : Int32).toInt = 900 from by decide, show r253.toInt = 1 from by omega] at h96; have h110 := hf299; rw [show (900 : Int32).toInt = 900 from by decide, show r279.toInt = 0 from by omega] at h110; rw [x9] at h96; exact Or.inr (Or.inl ⟨by omega, Or.inr ⟨_, h96, Or.inl ⟨h110, by decide⟩⟩⟩))⟩), by (try dsimp only); rw [ht]; exact ⟨hT, hF, m282⟩⟩, hS.F ht⟩) hS.2.2 dX4_readLine_156
        · have t302 : r279.toInt ≠ 0 := ti_ne c300 rfl (by decide)
          refine lv_aload_n hx hb dX4_readLine_116 rfl (lv_at hl 1 rfl) ?_
          refine lv_bipush (v := 20) hx hb dX4_readLine_117 (by decide) ?_
          have hFc := gA_free hG hA hS
          refine va_calli (va_runV (As := [.int 20]) (rest := []) ⟨hx, hb, hml, hown, hts⟩ (c_take l dC dI kA adK adV G H nC nS o0 20 th u281 vT tv ix_tv ix_tv K X pS hT hr_o0 m283 hr_th m282 (by have q8 := ti_all ix_tv; omega) (by have q8 := ti_all u281; omega) (by have := (show u281.toInt = u281.toInt from rfl); have := (show ix_tv.toInt = ix_tv.toInt from rfl); omega) (by have := (show (20 : Int32).toInt = 20 from (by decide)); omega) (fun m hm => hKK m (Nat.le_trans hm (Nat.le_of_eq (tn_same hx_tv rfl rfl)))) (fun m hm => hXX m (Nat.lt_of_lt_of_eq hm (tn_same hx_tv rfl rfl))) m285 (by have q9 := (show ix_tv.toInt = ix_tv.toInt from rfl); have := (show ix_tv.toInt = ix_tv.toInt from rfl); omega) m286 (by have q8 := ti_all tv; omega) (by omega) (by omega)) (cwV 1 hts (goodIn_app (goodIn_r _ [12, 13, 14, 6] rfl (by decide +kernel)) (goodIn_ca (goodIn_r _ [11, 1, 2] rfl (by decide +kernel)) (bs2_in _ _))) rfl rfl rfl (by decide +kernel) ⟨(Nat.le_of_ble_eq_true rfl), (Nat.le_of_ble_eq_true rfl)⟩) ⟨fun a U g mk q => by obtain ⟨q0, q1, qK, qE⟩ := q; exact ⟨q0, q1, va_K.moved (u := U) (U := U.calling g mk a) (Vm.Alike.refl U.vm) qK, EVC.blind g mk a qE⟩, gH_rc hK hT hr_o0 shc_7 rfl, fun U hU hW => ⟨rfl, hU, va_K.moved hW.alike hK, hE.call hS hFc hU hW⟩⟩ rfl rfl hl.1 rfl (lv_room (Nat.le_of_ble_eq_true rfl)) dX4_readLine_119 ⟨(Nat.le_of_ble_eq_true rfl), (Nat.le_of_ble_eq_true rfl)⟩) hS (fun q _ h => hFc q h) hFc (fun r303 u t H locs ht hvm hw304 hB _ _ hS => ?_)
          obtain ⟨u305, rfl⟩ : ∃ z, z = u := ⟨_, rfl⟩
          obtain ⟨hT, hF1, m306⟩ := hB
          rw [ht] at hT hF1 m306
          have m307 := (hF1.fld hr_o0 skc_7 (k := 0) (by decide) (by decide)).trans m283
          have m308 := (hF1.fld hr_o0 skc_7 (k := 11) (by decide) (by decide)).trans m284
          have m309 := m285.kept (hF1.arr hr_th skc_40 (by decide))
          have m310 := (el_kept (hF1.arr hr_th skc_40 (by decide))).trans m286
          have hF := hF.more hF1 (by decide)
          try dsimp only at hw304
          obtain ⟨h320, h321, hf322, hf323, hf324⟩ := hw304
          refine lv_if_eq (tgt := 155) hx hb dX4_readLine_122 (by decide) (fun c325 => ?_) (fun c325 => ?_)
          · have t326 : r303.toInt = 0 := ti_eq c325 rfl (by decide)
            refine lv_iconst (v := 0) hx hb dX4_readLine_155 (by decide) ?_
            exact W.zret (v := 0) hx hb hr (by decide) (fun t ht hW => ⟨⟨0, u305, rfl, (by exact ⟨(by have q8 := ti_all u305; omega), (rg_t (a := 0) (by decide) (by first | decide | omega) (by first | decide | omega)), (by omega), (by have : (0 : Int32).toInt = 0 := (by decide); have : (1 : Int32).toInt = 1 := (by decide); have : (5 : Int32).toInt = 5 := (by decide); have : (6 : Int32).toInt = 6 := (by decide); have : (7 : Int32).toInt = 7 := (by decide); have : (8 : Int32).toInt = 8 := (by decide); have : (9 : Int32).toInt = 9 := (by decide); have : (-1 : Int32).toInt = -1 := (by decide); have l9 := hf15; rw [show x2.toInt = K (pS a0.toNatClampNeg) from by omega] at l9; have x9 := (show pS x18.toNatClampNeg = X (pS a0.toNatClampNeg) from by rw [show x18.toNatClampNeg = a0.toNatClampNeg + 1 from by have := tn_of (show a0.toInt = a0.toInt from rfl) (by omega); have := tn_of (show x18.toInt = x18.toInt from rfl) (by omega); omega]; exact hXX _ (by have := tn_of (show a0.toInt = a0.toInt from rfl) (by omega); have := tn_of (show tn.toInt = tn.toInt from rfl) (by omega); omega)); have h96 := hf272; rw [show (900 : Int32).toInt = 900 from by decide, show r253.toInt = 1 from by omega] at h96; have h110 := hf299; rw [show (900 : Int32).toInt = 900 from by decide, show r279.toInt = 1 from by omega] at h110; have h119 := hf323; rw [show (20 : Int32).toInt = 20 from by decide, show r303.toInt = 0 from by omega] at h119; rw [x9] at h96; exact Or.inr (Or.inl ⟨by omega, Or.inr ⟨_, h96, Or.inr ⟨_, h110, Or.inl ⟨h119, by decide⟩⟩⟩⟩))⟩), by (try dsimp only); rw [ht]; exact ⟨hT, hF, m306⟩⟩, hS.F ht⟩) hS.2.2 dX4_readLine_156
          · have t327 : r303.toInt ≠ 0 := ti_ne c325 rfl (by decide)
            refine lv_aload_n hx hb dX4_readLine_125 rfl (lv_at hl 1 rfl) ?_
            refine lv_bipush (v := 95) hx hb dX4_readLine_126 (by decide) ?_
            refine lv_aload_n hx hb dX4_readLine_128 rfl (lv_at hl 1 rfl) ?_
            refine tw_get hx hb hts bF2_X4 hown hK hT hr_o0 shc_7 rfl 5 (by decide) (ht_at2 hts 50 rfl) (fun _ h9 => h9) dX4_readLine_129 (fun v9 m328 h9 => ?_)
            obtain ⟨b329, rfl, hg330⟩ := h9 _ rfl
            have hFc := gA_free hG hA hS
            refine va_calli (va_runV (As := [.int 95, .ref b329]) (rest := []) ⟨hx, hb, hml, hown, hts⟩ (c_takeNumber_froms l dC dI kA adK adV G H nC nS o0 95 b329 th u305 ln vT tv ix_tv ix_tv K X pS hT hg330 hr_o0 m307 hr_th m306 m308 (by have q8 := ti_all ix_tv; omega) (by have q8 := ti_all u305; omega) (by have := (show u305.toInt = u305.toInt from rfl); have := (show ix_tv.toInt = ix_tv.toInt from rfl); omega) (by have q8 := ti_all ln; omega) (fun m hm => hKK m (Nat.le_trans hm (Nat.le_of_eq (tn_same hx_tv rfl rfl)))) (fun m hm => hXX m (Nat.lt_of_lt_of_eq hm (tn_same hx_tv rfl rfl))) m309 (by have q9 := (show ix_tv.toInt = ix_tv.toInt from rfl); have := (show ix_tv.toInt = ix_tv.toInt from rfl); omega) m310 (by have q8 := ti_all tv; omega) (by omega) (by omega)) (cwV 2 hts (goodIn_app (goodIn_r _ [47, 48, 49, 6] rfl (by decide +kernel)) (goodIn_ca (goodIn_r _ [46, 1, 2, 8] rfl (by decide +kernel)) (bs2_in _ _))) rfl rfl rfl (by decide +kernel) ⟨(Nat.le_of_ble_eq_true rfl), (Nat.le_of_ble_eq_true rfl)⟩) ⟨fun a U g mk q => by obtain ⟨q0, q1, qK, qE⟩ := q; exact ⟨q0, q1, va_K.moved (u := U) (U := U.calling g mk a) (Vm.Alike.refl U.vm) qK, EVC.blind g mk a qE⟩, gH_rc hK hT hr_o0 shc_7 rfl, fun U hU hW => ⟨rfl, hU, va_K.moved hW.alike hK, hE.call hS hFc hU hW⟩⟩ rfl rfl hl.1 rfl (lv_room (Nat.le_of_ble_eq_true rfl)) dX4_readLine_132 ⟨(Nat.le_of_ble_eq_true rfl), (Nat.le_of_ble_eq_true rfl)⟩) hS (fun q _ h => hFc q h) hFc (fun r331 u t H locs ht hvm hw332 hB _ _ hS => ?_)
            obtain ⟨u333, rfl⟩ : ∃ z, z = u := ⟨_, rfl⟩
            obtain ⟨hT, hF1, m334⟩ := hB
            rw [ht] at hT hF1 m334
            have m335 := (hF1.fld hr_o0 skc_7 (k := 0) (by decide) (by decide)).trans m307
            have m336 := (hF1.fld hr_o0 skc_7 (k := 11) (by decide) (by decide)).trans m308
            have m337 := m309.kept (hF1.arr hr_th skc_40 (by decide))
            have m338 := (el_kept (hF1.arr hr_th skc_40 (by decide))).trans m310
            have hF := hF.more hF1 (by decide)
            try dsimp only at hw332
            obtain ⟨h349, h350, hf351, hf352⟩ := hw332
            refine lv_if_eq (tgt := 155) hx hb dX4_readLine_135 (by decide) (fun c353 => ?_) (fun c353 => ?_)
            · have t354 : r331.toInt = 0 := ti_eq c353 rfl (by decide)
              refine lv_iconst (v := 0) hx hb dX4_readLine_155 (by decide) ?_
              exact W.zret (v := 0) hx hb hr (by decide) (fun t ht hW => ⟨⟨0, u333, rfl, (by exact ⟨(by have q8 := ti_all u333; omega), (rg_t (a := 0) (by decide) (by first | decide | omega) (by first | decide | omega)), (by omega), (by have : (0 : Int32).toInt = 0 := (by decide); have : (1 : Int32).toInt = 1 := (by decide); have : (5 : Int32).toInt = 5 := (by decide); have : (6 : Int32).toInt = 6 := (by decide); have : (7 : Int32).toInt = 7 := (by decide); have : (8 : Int32).toInt = 8 := (by decide); have : (9 : Int32).toInt = 9 := (by decide); have : (-1 : Int32).toInt = -1 := (by decide); have l9 := hf15; rw [show x2.toInt = K (pS a0.toNatClampNeg) from by omega] at l9; have x9 := (show pS x18.toNatClampNeg = X (pS a0.toNatClampNeg) from by rw [show x18.toNatClampNeg = a0.toNatClampNeg + 1 from by have := tn_of (show a0.toInt = a0.toInt from rfl) (by omega); have := tn_of (show x18.toInt = x18.toInt from rfl) (by omega); omega]; exact hXX _ (by have := tn_of (show a0.toInt = a0.toInt from rfl) (by omega); have := tn_of (show tn.toInt = tn.toInt from rfl) (by omega); omega)); have h96 := hf272; rw [show (900 : Int32).toInt = 900 from by decide, show r253.toInt = 1 from by omega] at h96; have h110 := hf299; rw [show (900 : Int32).toInt = 900 from by decide, show r279.toInt = 1 from by omega] at h110; have h119 := hf323; rw [show (20 : Int32).toInt = 20 from by decide, show r303.toInt = 1 from by omega] at h119; have h132 := hf352; rw [show (95 : Int32).toInt = 95 from by decide, show r331.toInt = 0 from by omega] at h132; rw [x9] at h96; exact Or.inr (Or.inl ⟨by omega, Or.inr ⟨_, h96, Or.inr ⟨_, h110, Or.inr ⟨_, h119, Or.inl ⟨h132, by decide⟩⟩⟩⟩⟩))⟩), by (try dsimp only); rw [ht]; exact ⟨hT, hF, m334⟩⟩, hS.F ht⟩) hS.2.2 dX4_readLine_156
            · have t355 : r331.toInt ≠ 0 := ti_ne c353 rfl (by decide)
              refine lv_aload_n hx hb dX4_readLine_138 rfl (lv_at hl 1 rfl) ?_
              refine lv_bipush (v := 95) hx hb dX4_readLine_139 (by decide) ?_
              refine lv_aload_n hx hb dX4_readLine_141 rfl (lv_at hl 1 rfl) ?_
              refine tw_get hx hb hts bF2_X4 hown hK hT hr_o0 shc_7 rfl 6 (by decide) (ht_at2 hts 51 rfl) (fun _ h9 => h9) dX4_readLine_142 (fun v9 m356 h9 => ?_)
              obtain ⟨b357, rfl, hg358⟩ := h9 _ rfl
              have hFc := gA_free hG hA hS
              refine va_calli (va_runV (As := [.int 95, .ref b357]) (rest := []) ⟨hx, hb, hml, hown, hts⟩ (c_takeNumber_tos l dC dI kA adK adV G H nC nS o0 95 b357 th u333 ln vT tv ix_tv ix_tv K X pS hT hg358 hr_o0 m335 hr_th m334 m336 (by have q8 := ti_all ix_tv; omega) (by have q8 := ti_all u333; omega) (by have := (show u333.toInt = u333.toInt from rfl); have := (show ix_tv.toInt = ix_tv.toInt from rfl); omega) (by have q8 := ti_all ln; omega) (fun m hm => hKK m (Nat.le_trans hm (Nat.le_of_eq (tn_same hx_tv rfl rfl)))) (fun m hm => hXX m (Nat.lt_of_lt_of_eq hm (tn_same hx_tv rfl rfl))) m337 (by have q9 := (show ix_tv.toInt = ix_tv.toInt from rfl); have := (show ix_tv.toInt = ix_tv.toInt from rfl); omega) m338 (by have q8 := ti_all tv; omega) (by omega) (by omega)) (cwV 2 hts (goodIn_app (goodIn_r _ [47, 48, 49, 6] rfl (by decide +kernel)) (goodIn_ca (goodIn_r _ [46, 1, 2, 8] rfl (by decide +kernel)) (bs2_in _ _))) rfl rfl rfl (by decide +kernel) ⟨(Nat.le_of_ble_eq_true rfl), (Nat.le_of_ble_eq_true rfl)⟩) ⟨fun a U g mk q => by obtain ⟨q0, q1, qK, qE⟩ := q; exact ⟨q0, q1, va_K.moved (u := U) (U := U.calling g mk a) (Vm.Alike.refl U.vm) qK, EVC.blind g mk a qE⟩, gH_rc hK hT hr_o0 shc_7 rfl, fun U hU hW => ⟨rfl, hU, va_K.moved hW.alike hK, hE.call hS hFc hU hW⟩⟩ rfl rfl hl.1 rfl (lv_room (Nat.le_of_ble_eq_true rfl)) dX4_readLine_145 ⟨(Nat.le_of_ble_eq_true rfl), (Nat.le_of_ble_eq_true rfl)⟩) hS (fun q _ h => hFc q h) hFc (fun r359 u t H locs ht hvm hw360 hB _ _ hS => ?_)
              obtain ⟨u361, rfl⟩ : ∃ z, z = u := ⟨_, rfl⟩
              obtain ⟨hT, hF1, m362⟩ := hB
              rw [ht] at hT hF1 m362
              have hF := hF.more hF1 (by decide)
              try dsimp only at hw360
              obtain ⟨h378, h379, hf380, hf381⟩ := hw360
              refine lv_if_eq (tgt := 155) hx hb dX4_readLine_148 (by decide) (fun c382 => ?_) (fun c382 => ?_)
              · have t383 : r359.toInt = 0 := ti_eq c382 rfl (by decide)
                refine lv_iconst (v := 0) hx hb dX4_readLine_155 (by decide) ?_
                exact W.zret (v := 0) hx hb hr (by decide) (fun t ht hW => ⟨⟨0, u361, rfl, (by exact ⟨(by have q8 := ti_all u361; omega), (rg_t (a := 0) (by decide) (by first | decide | omega) (by first | decide | omega)), (by omega), (by have : (0 : Int32).toInt = 0 := (by decide); have : (1 : Int32).toInt = 1 := (by decide); have : (5 : Int32).toInt = 5 := (by decide); have : (6 : Int32).toInt = 6 := (by decide); have : (7 : Int32).toInt = 7 := (by decide); have : (8 : Int32).toInt = 8 := (by decide); have : (9 : Int32).toInt = 9 := (by decide); have : (-1 : Int32).toInt = -1 := (by decide); have l9 := hf15; rw [show x2.toInt = K (pS a0.toNatClampNeg) from by omega] at l9; have x9 := (show pS x18.toNatClampNeg = X (pS a0.toNatClampNeg) from by rw [show x18.toNatClampNeg = a0.toNatClampNeg + 1 from by have := tn_of (show a0.toInt = a0.toInt from rfl) (by omega); have := tn_of (show x18.toInt = x18.toInt from rfl) (by omega); omega]; exact hXX _ (by have := tn_of (show a0.toInt = a0.toInt from rfl) (by omega); have := tn_of (show tn.toInt = tn.toInt from rfl) (by omega); omega)); have h96 := hf272; rw [show (900 : Int32).toInt = 900 from by decide, show r253.toInt = 1 from by omega] at h96; have h110 := hf299; rw [show (900 : Int32).toInt = 900 from by decide, show r279.toInt = 1 from by omega] at h110; have h119 := hf323; rw [show (20 : Int32).toInt = 20 from by decide, show r303.toInt = 1 from by omega] at h119; have h132 := hf352; rw [show (95 : Int32).toInt = 95 from by decide, show r331.toInt = 1 from by omega] at h132; have h145 := hf381; rw [show (95 : Int32).toInt = 95 from by decide, show r359.toInt = 0 from by omega] at h145; rw [x9] at h96; exact Or.inr (Or.inl ⟨by omega, Or.inr ⟨_, h96, Or.inr ⟨_, h110, Or.inr ⟨_, h119, Or.inr ⟨_, h132, h145⟩⟩⟩⟩⟩))⟩), by (try dsimp only); rw [ht]; exact ⟨hT, hF, m362⟩⟩, hS.F ht⟩) hS.2.2 dX4_readLine_156
              · have t384 : r359.toInt ≠ 0 := ti_ne c382 rfl (by decide)
                refine lv_iconst (v := 1) hx hb dX4_readLine_151 (by decide) ?_
                refine lv_goto (tgt := 156) hx hb dX4_readLine_152 (by decide) ?_
                exact W.zret (v := 1) hx hb hr (by decide) (fun t ht hW => ⟨⟨1, u361, rfl, (by exact ⟨(by have q8 := ti_all u361; omega), (rg_t (a := 1) (by decide) (by first | decide | omega) (by first | decide | omega)), (by omega), (by have : (0 : Int32).toInt = 0 := (by decide); have : (1 : Int32).toInt = 1 := (by decide); have : (5 : Int32).toInt = 5 := (by decide); have : (6 : Int32).toInt = 6 := (by decide); have : (7 : Int32).toInt = 7 := (by decide); have : (8 : Int32).toInt = 8 := (by decide); have : (9 : Int32).toInt = 9 := (by decide); have : (-1 : Int32).toInt = -1 := (by decide); have l9 := hf15; rw [show x2.toInt = K (pS a0.toNatClampNeg) from by omega] at l9; have x9 := (show pS x18.toNatClampNeg = X (pS a0.toNatClampNeg) from by rw [show x18.toNatClampNeg = a0.toNatClampNeg + 1 from by have := tn_of (show a0.toInt = a0.toInt from rfl) (by omega); have := tn_of (show x18.toInt = x18.toInt from rfl) (by omega); omega]; exact hXX _ (by have := tn_of (show a0.toInt = a0.toInt from rfl) (by omega); have := tn_of (show tn.toInt = tn.toInt from rfl) (by omega); omega)); have h96 := hf272; rw [show (900 : Int32).toInt = 900 from by decide, show r253.toInt = 1 from by omega] at h96; have h110 := hf299; rw [show (900 : Int32).toInt = 900 from by decide, show r279.toInt = 1 from by omega] at h110; have h119 := hf323; rw [show (20 : Int32).toInt = 20 from by decide, show r303.toInt = 1 from by omega] at h119; have h132 := hf352; rw [show (95 : Int32).toInt = 95 from by decide, show r331.toInt = 1 from by omega] at h132; have h145 := hf381; rw [show (95 : Int32).toInt = 95 from by decide, show r359.toInt = 1 from by omega] at h145; rw [x9] at h96; exact Or.inr (Or.inl ⟨by omega, Or.inr ⟨_, h96, Or.inr ⟨_, h110, Or.inr ⟨_, h119, Or.inr ⟨_, h132, h145⟩⟩⟩⟩⟩))⟩), by (try dsimp only); rw [ht]; exact ⟨hT, hF, m362⟩⟩, hS.F ht⟩) hS.2.2 dX4_readLine_156
    by_cases hs385 : r5 = 8
    · subst hs385
      refine lv_tableIn (x := 8) (off := 103) (tgt := 157) hx hb dX4_readLine_54 (by decide) (by decide) (by decide) (by decide) ?_
      refine lv_aload_n hx hb dX4_readLine_157 rfl (lv_at hl 1 rfl) ?_
      refine lv_bipush (v := 100) hx hb dX4_readLine_158 (by decide) ?_
      refine lv_aload_n hx hb dX4_readLine_160 rfl (lv_at hl 1 rfl) ?_
      refine tw_get hx hb hts bF2_X4 hown hK hT hr_o0 shc_7 rfl 3 (by decide) (ht_at2 hts 44 rfl) (fun _ h9 => h9) dX4_readLine_161 (fun v9 m386 h9 => ?_)
      obtain ⟨b387, rfl, hg388⟩ := h9 _ rfl
      have hFc := gA_free hG hA hS
      refine va_calli (va_runV (As := [.int 100, .ref b387]) (rest := []) ⟨hx, hb, hml, hown, hts⟩ (c_takeNumber_firsts l dC dI kA adK adV G H nC nS o0 100 b387 th x18 ln vT tv ix_tv ix_tv K X pS hT hg388 hr_o0 m43 hr_th m48 m44 (by have q8 := ti_all ix_tv; omega) (by have q8 := ti_all x18; omega) (by have := (show x18.toInt = x18.toInt from rfl); have := (show ix_tv.toInt = ix_tv.toInt from rfl); omega) (by have q8 := ti_all ln; omega) (fun m hm => hKK m (Nat.le_trans hm (Nat.le_of_eq (tn_same hx_tv rfl rfl)))) (fun m hm => hXX m (Nat.lt_of_lt_of_eq hm (tn_same hx_tv rfl rfl))) m45 (by have q9 := (show ix_tv.toInt = ix_tv.toInt from rfl); have := (show ix_tv.toInt = ix_tv.toInt from rfl); omega) m46 (by have q8 := ti_all tv; omega) (by omega) (by omega)) (cwV 2 hts (goodIn_app (goodIn_r _ [47, 48, 49, 6] rfl (by decide +kernel)) (goodIn_ca (goodIn_r _ [46, 1, 2, 8] rfl (by decide +kernel)) (bs2_in _ _))) rfl rfl rfl (by decide +kernel) ⟨(Nat.le_of_ble_eq_true rfl), (Nat.le_of_ble_eq_true rfl)⟩) ⟨fun a U g mk q => by obtain ⟨q0, q1, qK, qE⟩ := q; exact ⟨q0, q1, va_K.moved (u := U) (U := U.calling g mk a) (Vm.Alike.refl U.vm) qK, EVC.blind g mk a qE⟩, gH_rc hK hT hr_o0 shc_7 rfl, fun U hU hW => ⟨rfl, hU, va_K.moved hW.alike hK, hE.call hS hFc hU hW⟩⟩ rfl rfl hl.1 rfl (lv_room (Nat.le_of_ble_eq_true rfl)) dX4_readLine_164 ⟨(Nat.le_of_ble_eq_true rfl), (Nat.le_of_ble_eq_true rfl)⟩) hS (fun q _ h => hFc q h) hFc (fun r389 u t H locs ht hvm hw390 hB _ _ hS => ?_)
      obtain ⟨u391, rfl⟩ : ∃ z, z = u := ⟨_, rfl⟩
      obtain ⟨hT, hF1, m392⟩ := hB
      rw [ht] at hT hF1 m392
      have hF := hF.more hF1 (by decide)
      try dsimp only at hw390
      obtain ⟨h405, h406, hf407, hf408⟩ := hw390
      exact W.zret (v := r389) hx hb hr (nar_b (by have q8 := ti_all r389; omega)) (fun t ht hW => ⟨⟨r389, u391, rfl, (by exact ⟨(by have q8 := ti_all u391; omega), (by have q8 := ti_all r389; omega), (by omega), (by have : (0 : Int32).toInt = 0 := (by decide); have : (1 : Int32).toInt = 1 := (by decide); have : (5 : Int32).toInt = 5 := (by decide); have : (6 : Int32).toInt = 6 := (by decide); have : (7 : Int32).toInt = 7 := (by decide); have : (8 : Int32).toInt = 8 := (by decide); have : (9 : Int32).toInt = 9 := (by decide); have : (-1 : Int32).toInt = -1 := (by decide); have l9 := hf15; rw [show x2.toInt = K (pS a0.toNatClampNeg) from by omega] at l9; have x9 := (show pS x18.toNatClampNeg = X (pS a0.toNatClampNeg) from by rw [show x18.toNatClampNeg = a0.toNatClampNeg + 1 from by have := tn_of (show a0.toInt = a0.toInt from rfl) (by omega); have := tn_of (show x18.toInt = x18.toInt from rfl) (by omega); omega]; exact hXX _ (by have := tn_of (show a0.toInt = a0.toInt from rfl) (by omega); have := tn_of (show tn.toInt = tn.toInt from rfl) (by omega); omega)); have h164 := hf408; rw [show (100 : Int32).toInt = 100 from by decide] at h164; rw [x9] at h164; exact Or.inr (Or.inr (Or.inl ⟨by omega, h164⟩)))⟩), by (try dsimp only); rw [ht]; exact ⟨hT, hF, m392⟩⟩, hS.F ht⟩) hS.2.2 dX4_readLine_167
    by_cases hs409 : r5 = 9
    · subst hs409
      refine lv_tableIn (x := 9) (off := 114) (tgt := 168) hx hb dX4_readLine_54 (by decide) (by decide) (by decide) (by decide) ?_
      refine lv_aload_n hx hb dX4_readLine_168 rfl (lv_at hl 1 rfl) ?_
      refine lv_bipush (v := 18) hx hb dX4_readLine_169 (by decide) ?_
      refine lv_aload_n hx hb dX4_readLine_171 rfl (lv_at hl 1 rfl) ?_
      refine tw_get hx hb hts bF2_X4 hown hK hT hr_o0 shc_7 rfl 3 (by decide) (ht_at2 hts 44 rfl) (fun _ h9 => h9) dX4_readLine_172 (fun v9 m410 h9 => ?_)
      obtain ⟨b411, rfl, hg412⟩ := h9 _ rfl
      have hFc := gA_free hG hA hS
      refine va_calli (va_runV (As := [.int 18, .ref b411]) (rest := []) ⟨hx, hb, hml, hown, hts⟩ (c_takeNumber_firsts l dC dI kA adK adV G H nC nS o0 18 b411 th x18 ln vT tv ix_tv ix_tv K X pS hT hg412 hr_o0 m43 hr_th m48 m44 (by have q8 := ti_all ix_tv; omega) (by have q8 := ti_all x18; omega) (by have := (show x18.toInt = x18.toInt from rfl); have := (show ix_tv.toInt = ix_tv.toInt from rfl); omega) (by have q8 := ti_all ln; omega) (fun m hm => hKK m (Nat.le_trans hm (Nat.le_of_eq (tn_same hx_tv rfl rfl)))) (fun m hm => hXX m (Nat.lt_of_lt_of_eq hm (tn_same hx_tv rfl rfl))) m45 (by have q9 := (show ix_tv.toInt = ix_tv.toInt from rfl); have := (show ix_tv.toInt = ix_tv.toInt from rfl); omega) m46 (by have q8 := ti_all tv; omega) (by omega) (by omega)) (cwV 2 hts (goodIn_app (goodIn_r _ [47, 48, 49, 6] rfl (by decide +kernel)) (goodIn_ca (goodIn_r _ [46, 1, 2, 8] rfl (by decide +kernel)) (bs2_in _ _))) rfl rfl rfl (by decide +kernel) ⟨(Nat.le_of_ble_eq_true rfl), (Nat.le_of_ble_eq_true rfl)⟩) ⟨fun a U g mk q => by obtain ⟨q0, q1, qK, qE⟩ := q; exact ⟨q0, q1, va_K.moved (u := U) (U := U.calling g mk a) (Vm.Alike.refl U.vm) qK, EVC.blind g mk a qE⟩, gH_rc hK hT hr_o0 shc_7 rfl, fun U hU hW => ⟨rfl, hU, va_K.moved hW.alike hK, hE.call hS hFc hU hW⟩⟩ rfl rfl hl.1 rfl (lv_room (Nat.le_of_ble_eq_true rfl)) dX4_readLine_175 ⟨(Nat.le_of_ble_eq_true rfl), (Nat.le_of_ble_eq_true rfl)⟩) hS (fun q _ h => hFc q h) hFc (fun r413 u t H locs ht hvm hw414 hB _ _ hS => ?_)
      obtain ⟨u415, rfl⟩ : ∃ z, z = u := ⟨_, rfl⟩
      obtain ⟨hT, hF1, m416⟩ := hB
      rw [ht] at hT hF1 m416
      have hF := hF.more hF1 (by decide)
      try dsimp only at hw414
      obtain ⟨h429, h430, hf431, hf432⟩ := hw414
      exact W.zret (v := r413) hx hb hr (nar_b (by have q8 := ti_all r413; omega)) (fun t ht hW => ⟨⟨r413, u415, rfl, (by exact ⟨(by have q8 := ti_all u415; omega), (by have q8 := ti_all r413; omega), (by omega), (by have : (0 : Int32).toInt = 0 := (by decide); have : (1 : Int32).toInt = 1 := (by decide); have : (5 : Int32).toInt = 5 := (by decide); have : (6 : Int32).toInt = 6 := (by decide); have : (7 : Int32).toInt = 7 := (by decide); have : (8 : Int32).toInt = 8 := (by decide); have : (9 : Int32).toInt = 9 := (by decide); have : (-1 : Int32).toInt = -1 := (by decide); have l9 := hf15; rw [show x2.toInt = K (pS a0.toNatClampNeg) from by omega] at l9; have x9 := (show pS x18.toNatClampNeg = X (pS a0.toNatClampNeg) from by rw [show x18.toNatClampNeg = a0.toNatClampNeg + 1 from by have := tn_of (show a0.toInt = a0.toInt from rfl) (by omega); have := tn_of (show x18.toInt = x18.toInt from rfl) (by omega); omega]; exact hXX _ (by have := tn_of (show a0.toInt = a0.toInt from rfl) (by omega); have := tn_of (show tn.toInt = tn.toInt from rfl) (by omega); omega)); have h175 := hf432; rw [show (18 : Int32).toInt = 18 from by decide] at h175; rw [x9] at h175; exact Or.inr (Or.inr (Or.inr (Or.inl ⟨by omega, h175⟩))))⟩), by (try dsimp only); rw [ht]; exact ⟨hT, hF, m416⟩⟩, hS.F ht⟩) hS.2.2 dX4_readLine_178
    have ho433 : r5.toInt < 5 ∨ 9 < r5.toInt := by
      have ehs53 : r5.toInt ≠ 5 := fun e => hs53 (Int32.toInt_inj.mp (e.trans (by decide)))
      have ehs151 : r5.toInt ≠ 6 := fun e => hs151 (Int32.toInt_inj.mp (e.trans (by decide)))
      have ehs249 : r5.toInt ≠ 7 := fun e => hs249 (Int32.toInt_inj.mp (e.trans (by decide)))
      have ehs385 : r5.toInt ≠ 8 := fun e => hs385 (Int32.toInt_inj.mp (e.trans (by decide)))
      have ehs409 : r5.toInt ≠ 9 := fun e => hs409 (Int32.toInt_inj.mp (e.trans (by decide)))
      omega
    refine lv_tableOut (tgt := 182) hx hb dX4_readLine_54 ho433 (by decide) ?_
    refine lv_aload_n hx hb dX4_readLine_182 rfl (lv_at hl 1 rfl) ?_
    refine lv_ldc (v := 99999) hx hb hown (ht_at2 hts 52 rfl) dX4_readLine_183 ?_
    refine lv_aload_n hx hb dX4_readLine_185 rfl (lv_at hl 1 rfl) ?_
    refine tw_get hx hb hts bF2_X4 hown hK hT hr_o0 shc_7 rfl 3 (by decide) (ht_at2 hts 44 rfl) (fun _ h9 => h9) dX4_readLine_186 (fun v9 m434 h9 => ?_)
    obtain ⟨b435, rfl, hg436⟩ := h9 _ rfl
    have hFc := gA_free hG hA hS
    refine va_calli (va_runV (As := [.int 99999, .ref b435]) (rest := []) ⟨hx, hb, hml, hown, hts⟩ (c_takeNumber_firsts l dC dI kA adK adV G H nC nS o0 99999 b435 th x18 ln vT tv ix_tv ix_tv K X pS hT hg436 hr_o0 m43 hr_th m48 m44 (by have q8 := ti_all ix_tv; omega) (by have q8 := ti_all x18; omega) (by have := (show x18.toInt = x18.toInt from rfl); have := (show ix_tv.toInt = ix_tv.toInt from rfl); omega) (by have q8 := ti_all ln; omega) (fun m hm => hKK m (Nat.le_trans hm (Nat.le_of_eq (tn_same hx_tv rfl rfl)))) (fun m hm => hXX m (Nat.lt_of_lt_of_eq hm (tn_same hx_tv rfl rfl))) m45 (by have q9 := (show ix_tv.toInt = ix_tv.toInt from rfl); have := (show ix_tv.toInt = ix_tv.toInt from rfl); omega) m46 (by have q8 := ti_all tv; omega) (by omega) (by omega)) (cwV 2 hts (goodIn_app (goodIn_r _ [47, 48, 49, 6] rfl (by decide +kernel)) (goodIn_ca (goodIn_r _ [46, 1, 2, 8] rfl (by decide +kernel)) (bs2_in _ _))) rfl rfl rfl (by decide +kernel) ⟨(Nat.le_of_ble_eq_true rfl), (Nat.le_of_ble_eq_true rfl)⟩) ⟨fun a U g mk q => by obtain ⟨q0, q1, qK, qE⟩ := q; exact ⟨q0, q1, va_K.moved (u := U) (U := U.calling g mk a) (Vm.Alike.refl U.vm) qK, EVC.blind g mk a qE⟩, gH_rc hK hT hr_o0 shc_7 rfl, fun U hU hW => ⟨rfl, hU, va_K.moved hW.alike hK, hE.call hS hFc hU hW⟩⟩ rfl rfl hl.1 rfl (lv_room (Nat.le_of_ble_eq_true rfl)) dX4_readLine_189 ⟨(Nat.le_of_ble_eq_true rfl), (Nat.le_of_ble_eq_true rfl)⟩) hS (fun q _ h => hFc q h) hFc (fun r437 u t H locs ht hvm hw438 hB _ _ hS => ?_)
    obtain ⟨u439, rfl⟩ : ∃ z, z = u := ⟨_, rfl⟩
    obtain ⟨hT, hF1, m440⟩ := hB
    rw [ht] at hT hF1 m440
    have m441 := (hF1.fld hr_o0 skc_7 (k := 0) (by decide) (by decide)).trans m43
    have m442 := (hF1.fld hr_o0 skc_7 (k := 11) (by decide) (by decide)).trans m44
    have m443 := m45.kept (hF1.arr hr_th skc_40 (by decide))
    have m444 := (el_kept (hF1.arr hr_th skc_40 (by decide))).trans m46
    have m450 := (hF1.fld hr_o0 skc_7 (k := 12) (by decide) (by decide)).trans m52
    have hF := hF.more hF1 (by decide)
    try dsimp only at hw438
    obtain ⟨h453, h454, hf455, hf456⟩ := hw438
    refine lv_if_ne (tgt := 197) hx hb dX4_readLine_192 (by decide) (fun c457 => ?_) (fun c457 => ?_)
    · have t458 : r437.toInt ≠ 0 := ti_ne c457 rfl (by decide)
      refine lv_aload_n hx hb dX4_readLine_197 rfl (lv_at hl 1 rfl) ?_
      refine lv_bipush (v := 19) hx hb dX4_readLine_198 (by decide) ?_
      have hFc := gA_free hG hA hS
      refine va_calli (va_runV (As := [.int 19]) (rest := []) ⟨hx, hb, hml, hown, hts⟩ (c_take l dC dI kA adK adV G H nC nS o0 19 th u439 vT tv ix_tv ix_tv K X pS hT hr_o0 m441 hr_th m440 (by have q8 := ti_all ix_tv; omega) (by have q8 := ti_all u439; omega) (by have := (show u439.toInt = u439.toInt from rfl); have := (show ix_tv.toInt = ix_tv.toInt from rfl); omega) (by have := (show (19 : Int32).toInt = 19 from (by decide)); omega) (fun m hm => hKK m (Nat.le_trans hm (Nat.le_of_eq (tn_same hx_tv rfl rfl)))) (fun m hm => hXX m (Nat.lt_of_lt_of_eq hm (tn_same hx_tv rfl rfl))) m443 (by have q9 := (show ix_tv.toInt = ix_tv.toInt from rfl); have := (show ix_tv.toInt = ix_tv.toInt from rfl); omega) m444 (by have q8 := ti_all tv; omega) (by omega) (by omega)) (cwV 1 hts (goodIn_app (goodIn_r _ [12, 13, 14, 6] rfl (by decide +kernel)) (goodIn_ca (goodIn_r _ [11, 1, 2] rfl (by decide +kernel)) (bs2_in _ _))) rfl rfl rfl (by decide +kernel) ⟨(Nat.le_of_ble_eq_true rfl), (Nat.le_of_ble_eq_true rfl)⟩) ⟨fun a U g mk q => by obtain ⟨q0, q1, qK, qE⟩ := q; exact ⟨q0, q1, va_K.moved (u := U) (U := U.calling g mk a) (Vm.Alike.refl U.vm) qK, EVC.blind g mk a qE⟩, gH_rc hK hT hr_o0 shc_7 rfl, fun U hU hW => ⟨rfl, hU, va_K.moved hW.alike hK, hE.call hS hFc hU hW⟩⟩ rfl rfl hl.1 rfl (lv_room (Nat.le_of_ble_eq_true rfl)) dX4_readLine_200 ⟨(Nat.le_of_ble_eq_true rfl), (Nat.le_of_ble_eq_true rfl)⟩) hS (fun q _ h => hFc q h) hFc (fun r459 u t H locs ht hvm hw460 hB _ _ hS => ?_)
      obtain ⟨u461, rfl⟩ : ∃ z, z = u := ⟨_, rfl⟩
      obtain ⟨hT, hF1, m462⟩ := hB
      rw [ht] at hT hF1 m462
      have m463 := (hF1.fld hr_o0 skc_7 (k := 0) (by decide) (by decide)).trans m441
      have m464 := (hF1.fld hr_o0 skc_7 (k := 11) (by decide) (by decide)).trans m442
      have m465 := m443.kept (hF1.arr hr_th skc_40 (by decide))
      have m466 := (el_kept (hF1.arr hr_th skc_40 (by decide))).trans m444
      have m471 := (hF1.fld hr_o0 skc_7 (k := 12) (by decide) (by decide)).trans m450
      have hF := hF.more hF1 (by decide)
      try dsimp only at hw460
      obtain ⟨h475, h476, hf477, hf478, hf479⟩ := hw460
      refine lv_if_eq (tgt := 214) hx hb dX4_readLine_203 (by decide) (fun c480 => ?_) (fun c480 => ?_)
      · have t481 : r459.toInt = 0 := ti_eq c480 rfl (by decide)
        refine lv_iconst (v := 1) hx hb dX4_readLine_214 (by decide) ?_
        refine lv_goto (tgt := 219) hx hb dX4_readLine_215 (by decide) ?_
        refine lv_istore_n (lv' := [(2, .int 1), (1, .int r5), (0, .ref o0)]) hx hb dX4_readLine_219 rfl hl (by decide) rfl (fun ls hl => ?_)
        refine lv_aload_n hx hb dX4_readLine_220 rfl (lv_at hl 2 rfl) ?_
        refine tw_get hx hb hts bF2_X4 hown hK hT hr_o0 shc_7 rfl 8 (by decide) (ht_at2 hts 14 rfl) (fun _ h9 => h9) dX4_readLine_221 (fun v9 m482 h9 => ?_)
        obtain ⟨b483, rfl, hg484⟩ := h9 _ rfl
        refine lv_aload_n hx hb dX4_readLine_224 rfl (lv_at hl 2 rfl) ?_
        refine tw_getM (v := .int ln) hx hb hts bF2_X4 hown hK hT hr_o0 shc_7 rfl 11 (by decide) (ht_at2 hts 7 rfl) (fun _ h9 => h9) m464 dX4_readLine_225 ?_
        refine lv_aload_n hx hb dX4_readLine_228 rfl (lv_at hl 2 rfl) ?_
        refine tw_getM (v := .int x41) hx hb hts bF2_X4 hown hK hT hr_o0 shc_7 rfl 12 (by decide) (ht_at2 hts 9 rfl) (fun _ h9 => h9) m471 dX4_readLine_229 ?_
        refine tw_iast (i := ln) (x := x41) hx hb hK hT hG hS hg484 shc_48 rfl (vin_t (a := ln.toInt) rfl (by omega) (by omega)) (gi_of (show x41.toInt = x41.toInt from rfl) (by omega) (by omega)) dX4_readLine_232 (fun H locs hT oq m485 oi hS => ?_)
        have hF := hF.ast hg484 skc_48 oq (by decide)
        have m497 := (el_kept (oq _ (gne hr_o0 hg484 (by decide)))).trans m462
        refine lv_iload_n hx hb dX4_readLine_233 rfl (lv_at hl 0 rfl) ?_
        exact W.zret (v := 1) hx hb hr (by decide) (fun t ht hW => ⟨⟨1, u461, rfl, (by exact ⟨(by have q8 := ti_all u461; omega), (rg_t (a := 1) (by decide) (by first | decide | omega) (by first | decide | omega)), (by omega), (by have : (0 : Int32).toInt = 0 := (by decide); have : (1 : Int32).toInt = 1 := (by decide); have : (5 : Int32).toInt = 5 := (by decide); have : (6 : Int32).toInt = 6 := (by decide); have : (7 : Int32).toInt = 7 := (by decide); have : (8 : Int32).toInt = 8 := (by decide); have : (9 : Int32).toInt = 9 := (by decide); have : (-1 : Int32).toInt = -1 := (by decide); have l9 := hf15; rw [show x2.toInt = K (pS a0.toNatClampNeg) from by omega] at l9; have x9 := (show pS x18.toNatClampNeg = X (pS a0.toNatClampNeg) from by rw [show x18.toNatClampNeg = a0.toNatClampNeg + 1 from by have := tn_of (show a0.toInt = a0.toInt from rfl) (by omega); have := tn_of (show x18.toInt = x18.toInt from rfl) (by omega); omega]; exact hXX _ (by have := tn_of (show a0.toInt = a0.toInt from rfl) (by omega); have := tn_of (show tn.toInt = tn.toInt from rfl) (by omega); omega)); have h189 := hf456; rw [show (99999 : Int32).toInt = 99999 from by decide, show r437.toInt = 1 from by omega] at h189; rw [x9] at h189; have h200 := hf478; rw [show (19 : Int32).toInt = 19 from by decide, show r459.toInt = 0 from by omega] at h200; have y9 := h200.resolve_left (fun h8 => by have := h8.2.1; omega); exact Or.inr (Or.inr (Or.inr (Or.inr (Or.inr (⟨⟨by omega, by omega⟩, Or.inr ⟨_, h189, Or.inl ⟨y9.1, by decide, y9.2.2⟩⟩⟩))))))⟩), by (try dsimp only); rw [ht]; exact ⟨hT, hF, m497⟩⟩, hS.F ht⟩) hS.2.2 dX4_readLine_234
      · have t499 : r459.toInt ≠ 0 := ti_ne c480 rfl (by decide)
        refine lv_aload_n hx hb dX4_readLine_206 rfl (lv_at hl 1 rfl) ?_
        refine lv_iconst (v := 0) hx hb dX4_readLine_207 (by decide) ?_
        have hFc := gA_free hG hA hS
        refine va_calli (va_runV (As := [.int 0]) (rest := []) ⟨hx, hb, hml, hown, hts⟩ (c_readAny0 l dC dI kA adK adV G H nC nS o0 th u461 vT tv ix_tv ix_tv K X pS hT hr_o0 m463 hr_th m462 (by have q8 := ti_all ix_tv; omega) (by have q8 := ti_all u461; omega) (by have := (show u461.toInt = u461.toInt from rfl); have := (show ix_tv.toInt = ix_tv.toInt from rfl); omega) (fun m hm => hKK m (Nat.le_trans hm (Nat.le_of_eq (tn_same hx_tv rfl rfl)))) (fun m hm => hXX m (Nat.lt_of_lt_of_eq hm (tn_same hx_tv rfl rfl))) m465 (by have q9 := (show ix_tv.toInt = ix_tv.toInt from rfl); have := (show ix_tv.toInt = ix_tv.toInt from rfl); omega) m466 (by have q8 := ti_all tv; omega) (by omega) (by omega)) (cwV 1 hts (goodIn_app (goodIn_r _ [42, 43, 44, 6] rfl (by decide +kernel)) (goodIn_ca (goodIn_r _ [16, 17, 18, 1, 2, 16, 19, 20, 21, 22, 10, 23, 24, 25, 26, 6, 27, 28, 29, 11, 12, 13, 14, 30, 31, 32, 33, 34, 35, 36, 37, 38, 39, 40, 41, 42, 43, 44] rfl (by decide +kernel)) (bs2_in _ _))) rfl rfl rfl (by decide +kernel) ⟨(Nat.le_of_ble_eq_true rfl), (Nat.le_of_ble_eq_true rfl)⟩) ⟨fun a U g mk q => by obtain ⟨q0, q1, qK, qE⟩ := q; exact ⟨q0, q1, va_K.moved (u := U) (U := U.calling g mk a) (Vm.Alike.refl U.vm) qK, EVC.blind g mk a qE⟩, gH_rc hK hT hr_o0 shc_7 rfl, fun U hU hW => ⟨rfl, hU, va_K.moved hW.alike hK, hE.call hS hFc hU hW⟩⟩ rfl rfl hl.1 rfl (lv_room (Nat.le_of_ble_eq_true rfl)) dX4_readLine_208 ⟨(Nat.le_of_ble_eq_true rfl), (Nat.le_of_ble_eq_true rfl)⟩) hS (fun q _ h => hFc q h) hFc (fun r500 u t H locs ht hvm hw501 hB _ _ hS => ?_)
        obtain ⟨u502, rfl⟩ : ∃ z, z = u := ⟨_, rfl⟩
        obtain ⟨hT, hF1, m503⟩ := hB
        rw [ht] at hT hF1 m503
        have m505 := (hF1.fld hr_o0 skc_7 (k := 11) (by decide) (by decide)).trans m464
        have hF := hF.more hF1 (by decide)
        try dsimp only at hw501
        obtain ⟨h516, h517, hf518, hf519⟩ := hw501
        refine lv_if_eq (tgt := 218) hx hb dX4_readLine_211 (by decide) (fun c520 => ?_) (fun c520 => ?_)
        · have t521 : r500.toInt = 0 := ti_eq c520 rfl (by decide)
          refine lv_iconst (v := 0) hx hb dX4_readLine_218 (by decide) ?_
          refine lv_istore_n (lv' := [(2, .int 0), (1, .int r5), (0, .ref o0)]) hx hb dX4_readLine_219 rfl hl (by decide) rfl (fun ls hl => ?_)
          refine lv_aload_n hx hb dX4_readLine_220 rfl (lv_at hl 2 rfl) ?_
          refine tw_get hx hb hts bF2_X4 hown hK hT hr_o0 shc_7 rfl 8 (by decide) (ht_at2 hts 14 rfl) (fun _ h9 => h9) dX4_readLine_221 (fun v9 m522 h9 => ?_)
          obtain ⟨b523, rfl, hg524⟩ := h9 _ rfl
          refine lv_aload_n hx hb dX4_readLine_224 rfl (lv_at hl 2 rfl) ?_
          refine tw_getM (v := .int ln) hx hb hts bF2_X4 hown hK hT hr_o0 shc_7 rfl 11 (by decide) (ht_at2 hts 7 rfl) (fun _ h9 => h9) m505 dX4_readLine_225 ?_
          refine lv_aload_n hx hb dX4_readLine_228 rfl (lv_at hl 2 rfl) ?_
          refine tw_get hx hb hts bF2_X4 hown hK hT hr_o0 shc_7 rfl 12 (by decide) (ht_at2 hts 9 rfl) (fun _ h9 => h9) dX4_readLine_229 (fun v9 m525 h9 => ?_)
          obtain ⟨x526, rfl, gx526, kx526⟩ := h9 _ rfl
          refine tw_iast (i := ln) (x := x526) hx hb hK hT hG hS hg524 shc_48 rfl (vin_t (a := ln.toInt) rfl (by omega) (by omega)) (gi_of (show x526.toInt = x526.toInt from rfl) (by omega) (by omega)) dX4_readLine_232 (fun H locs hT oq m527 oi hS => ?_)
          have hF := hF.ast hg524 skc_48 oq (by decide)
          have m538 := (el_kept (oq _ (gne hr_o0 hg524 (by decide)))).trans m503
          refine lv_iload_n hx hb dX4_readLine_233 rfl (lv_at hl 0 rfl) ?_
          exact W.zret (v := 0) hx hb hr (by decide) (fun t ht hW => ⟨⟨0, u502, rfl, (by exact ⟨(by have q8 := ti_all u502; omega), (rg_t (a := 0) (by decide) (by first | decide | omega) (by first | decide | omega)), (by omega), (by have : (0 : Int32).toInt = 0 := (by decide); have : (1 : Int32).toInt = 1 := (by decide); have : (5 : Int32).toInt = 5 := (by decide); have : (6 : Int32).toInt = 6 := (by decide); have : (7 : Int32).toInt = 7 := (by decide); have : (8 : Int32).toInt = 8 := (by decide); have : (9 : Int32).toInt = 9 := (by decide); have : (-1 : Int32).toInt = -1 := (by decide); have l9 := hf15; rw [show x2.toInt = K (pS a0.toNatClampNeg) from by omega] at l9; have x9 := (show pS x18.toNatClampNeg = X (pS a0.toNatClampNeg) from by rw [show x18.toNatClampNeg = a0.toNatClampNeg + 1 from by have := tn_of (show a0.toInt = a0.toInt from rfl) (by omega); have := tn_of (show x18.toInt = x18.toInt from rfl) (by omega); omega]; exact hXX _ (by have := tn_of (show a0.toInt = a0.toInt from rfl) (by omega); have := tn_of (show tn.toInt = tn.toInt from rfl) (by omega); omega)); have h189 := hf456; rw [show (99999 : Int32).toInt = 99999 from by decide, show r437.toInt = 1 from by omega] at h189; rw [x9] at h189; have h200 := hf478; rw [show (19 : Int32).toInt = 19 from by decide, show r459.toInt = 1 from by omega] at h200; have h208 := hf519; rw [show r500.toInt = 0 from by omega] at h208; have y9 := h200.resolve_right (fun h8 => by have := h8.2.1; omega); rw [y9.2.2] at h208; exact Or.inr (Or.inr (Or.inr (Or.inr (Or.inr (⟨⟨by omega, by omega⟩, Or.inr ⟨_, h189, Or.inr ⟨y9.1, h208⟩⟩⟩))))))⟩), by (try dsimp only); rw [ht]; exact ⟨hT, hF, m538⟩⟩, hS.F ht⟩) hS.2.2 dX4_readLine_234
        · have t541 : r500.toInt ≠ 0 := ti_ne c520 rfl (by decide)
          refine lv_iconst (v := 1) hx hb dX4_readLine_214 (by decide) ?_
          refine lv_goto (tgt := 219) hx hb dX4_readLine_215 (by decide) ?_
          refine lv_istore_n (lv' := [(2, .int 1), (1, .int r5), (0, .ref o0)]) hx hb dX4_readLine_219 rfl hl (by decide) rfl (fun ls hl => ?_)
          refine lv_aload_n hx hb dX4_readLine_220 rfl (lv_at hl 2 rfl) ?_
          refine tw_get hx hb hts bF2_X4 hown hK hT hr_o0 shc_7 rfl 8 (by decide) (ht_at2 hts 14 rfl) (fun _ h9 => h9) dX4_readLine_221 (fun v9 m542 h9 => ?_)
          obtain ⟨b543, rfl, hg544⟩ := h9 _ rfl
          refine lv_aload_n hx hb dX4_readLine_224 rfl (lv_at hl 2 rfl) ?_
          refine tw_getM (v := .int ln) hx hb hts bF2_X4 hown hK hT hr_o0 shc_7 rfl 11 (by decide) (ht_at2 hts 7 rfl) (fun _ h9 => h9) m505 dX4_readLine_225 ?_
          refine lv_aload_n hx hb dX4_readLine_228 rfl (lv_at hl 2 rfl) ?_
          refine tw_get hx hb hts bF2_X4 hown hK hT hr_o0 shc_7 rfl 12 (by decide) (ht_at2 hts 9 rfl) (fun _ h9 => h9) dX4_readLine_229 (fun v9 m545 h9 => ?_)
          obtain ⟨x546, rfl, gx546, kx546⟩ := h9 _ rfl
          refine tw_iast (i := ln) (x := x546) hx hb hK hT hG hS hg544 shc_48 rfl (vin_t (a := ln.toInt) rfl (by omega) (by omega)) (gi_of (show x546.toInt = x546.toInt from rfl) (by omega) (by omega)) dX4_readLine_232 (fun H locs hT oq m547 oi hS => ?_)
          have hF := hF.ast hg544 skc_48 oq (by decide)
          have m558 := (el_kept (oq _ (gne hr_o0 hg544 (by decide)))).trans m503
          refine lv_iload_n hx hb dX4_readLine_233 rfl (lv_at hl 0 rfl) ?_
          exact W.zret (v := 1) hx hb hr (by decide) (fun t ht hW => ⟨⟨1, u502, rfl, (by exact ⟨(by have q8 := ti_all u502; omega), (rg_t (a := 1) (by decide) (by first | decide | omega) (by first | decide | omega)), (by omega), (by have : (0 : Int32).toInt = 0 := (by decide); have : (1 : Int32).toInt = 1 := (by decide); have : (5 : Int32).toInt = 5 := (by decide); have : (6 : Int32).toInt = 6 := (by decide); have : (7 : Int32).toInt = 7 := (by decide); have : (8 : Int32).toInt = 8 := (by decide); have : (9 : Int32).toInt = 9 := (by decide); have : (-1 : Int32).toInt = -1 := (by decide); have l9 := hf15; rw [show x2.toInt = K (pS a0.toNatClampNeg) from by omega] at l9; have x9 := (show pS x18.toNatClampNeg = X (pS a0.toNatClampNeg) from by rw [show x18.toNatClampNeg = a0.toNatClampNeg + 1 from by have := tn_of (show a0.toInt = a0.toInt from rfl) (by omega); have := tn_of (show x18.toInt = x18.toInt from rfl) (by omega); omega]; exact hXX _ (by have := tn_of (show a0.toInt = a0.toInt from rfl) (by omega); have := tn_of (show tn.toInt = tn.toInt from rfl) (by omega); omega)); have h189 := hf456; rw [show (99999 : Int32).toInt = 99999 from by decide, show r437.toInt = 1 from by omega] at h189; rw [x9] at h189; have h200 := hf478; rw [show (19 : Int32).toInt = 19 from by decide, show r459.toInt = 1 from by omega] at h200; have h208 := hf519; rw [show r500.toInt = 1 from by omega] at h208; have y9 := h200.resolve_right (fun h8 => by have := h8.2.1; omega); rw [y9.2.2] at h208; exact Or.inr (Or.inr (Or.inr (Or.inr (Or.inr (⟨⟨by omega, by omega⟩, Or.inr ⟨_, h189, Or.inr ⟨y9.1, h208⟩⟩⟩))))))⟩), by (try dsimp only); rw [ht]; exact ⟨hT, hF, m558⟩⟩, hS.F ht⟩) hS.2.2 dX4_readLine_234
    · have t561 : r437.toInt = 0 := ti_eq c457 rfl (by decide)
      refine lv_iconst (v := 0) hx hb dX4_readLine_195 (by decide) ?_
      exact W.zret (v := 0) hx hb hr (by decide) (fun t ht hW => ⟨⟨0, u439, rfl, (by exact ⟨(by have q8 := ti_all u439; omega), (rg_t (a := 0) (by decide) (by first | decide | omega) (by first | decide | omega)), (by omega), (by have : (0 : Int32).toInt = 0 := (by decide); have : (1 : Int32).toInt = 1 := (by decide); have : (5 : Int32).toInt = 5 := (by decide); have : (6 : Int32).toInt = 6 := (by decide); have : (7 : Int32).toInt = 7 := (by decide); have : (8 : Int32).toInt = 8 := (by decide); have : (9 : Int32).toInt = 9 := (by decide); have : (-1 : Int32).toInt = -1 := (by decide); have l9 := hf15; rw [show x2.toInt = K (pS a0.toNatClampNeg) from by omega] at l9; have x9 := (show pS x18.toNatClampNeg = X (pS a0.toNatClampNeg) from by rw [show x18.toNatClampNeg = a0.toNatClampNeg + 1 from by have := tn_of (show a0.toInt = a0.toInt from rfl) (by omega); have := tn_of (show x18.toInt = x18.toInt from rfl) (by omega); omega]; exact hXX _ (by have := tn_of (show a0.toInt = a0.toInt from rfl) (by omega); have := tn_of (show tn.toInt = tn.toInt from rfl) (by omega); omega)); have h189 := hf456; rw [show (99999 : Int32).toInt = 99999 from by decide, show r437.toInt = 0 from by omega] at h189; rw [x9] at h189; exact Or.inr (Or.inr (Or.inr (Or.inr (Or.inr (⟨⟨by omega, by omega⟩, Or.inl ⟨h189, by decide⟩⟩))))))⟩), by (try dsimp only); rw [ht]; exact ⟨hT, hF, m440⟩⟩, hS.F ht⟩) hS.2.2 dX4_readLine_196
  · have t562 : r5.toInt = (-1) := ti_eq c16 rfl (by decide)
    refine lv_iconst (v := 0) hx hb dX4_readLine_18 (by decide) ?_
    exact W.zret (v := 0) hx hb hr (by decide) (fun t ht hW => ⟨⟨0, a0, rfl, (by exact ⟨(by have q8 := ti_all a0; omega), (rg_t (a := 0) (by decide) (by first | decide | omega) (by first | decide | omega)), (by omega), (by have : (0 : Int32).toInt = 0 := (by decide); have : (1 : Int32).toInt = 1 := (by decide); have : (5 : Int32).toInt = 5 := (by decide); have : (6 : Int32).toInt = 6 := (by decide); have : (7 : Int32).toInt = 7 := (by decide); have : (8 : Int32).toInt = 8 := (by decide); have : (9 : Int32).toInt = 9 := (by decide); have : (-1 : Int32).toInt = -1 := (by decide); have l9 := hf15; rw [show x2.toInt = K (pS a0.toNatClampNeg) from by omega] at l9; exact Or.inl ⟨by omega, by decide, rfl⟩)⟩), by (try dsimp only); rw [ht]; exact ⟨hT, hF, m8⟩⟩, hS.F ht⟩) hS.2.2 dX4_readLine_19
