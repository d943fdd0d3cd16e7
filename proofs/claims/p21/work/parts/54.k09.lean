def w_c_readAtom6 : List Cond := .code yX4_readAtom cX4_readAtom 4 (some .boolean) :: (HAppend.hAppend (α := List Cond) (β := List Cond) (γ := List Cond) [.fieldLink RX4 11 "SeaLand$Law" "things" "[I", .fieldLink RX4 56 "SeaLand$Law" "at" "I", .code yX4_readComparison cX4_readComparison 3 (some .boolean), .code yX4_readSum cX4_readSum 3 (some .boolean), .code yX4_readPart cX4_readPart 2 (some .boolean), .code yX4_addStep cX4_addStep 2 none, .fieldLink RX4 63 "SeaLand$Law" "stepped" "I", .fieldLink RX4 39 "SeaLand$Law" "steps" "[I", .methodLink RX4 179 yX4_addStep, .instanceMethod yX4_addStep, .selects RX4 yX4_addStep yX4_addStep, .initialized RX4, .methodLink RX4 192 yX4_readPart, .instanceMethod yX4_readPart, .selects RX4 yX4_readPart yX4_readPart, .code yX4_take cX4_take 2 (some .boolean), .methodLink RX4 70 yX4_take, .instanceMethod yX4_take, .selects RX4 yX4_take yX4_take, .methodLink RX4 189 yX4_readSum, .instanceMethod yX4_readSum, .selects RX4 yX4_readSum yX4_readSum, .methodLink RX4 186 yX4_readComparison, .instanceMethod yX4_readComparison, .selects RX4 yX4_readComparison yX4_readComparison] bs2)
set_option maxHeartbeats 4000000 in
set_option maxRecDepth 100000 in
theorem c_readAtom6 (l : Launch) (dC : Nat → ClassId) (dI : Nat → Nat → Nat) (kA : Nat → ClassId) (adK adV : Nat → Nat) (G : gT) (H0 : Heap) (nC nS : Int) (o0 : Nat) (th : Nat) (a0 : Int32) (s0 : Int32) (sp9 : Nat) (vT : Nat → Int32) (vS : Nat → Int32) (tv ix_tv : Int32) (tn : Int32) (K : Nat → Int) (X pS : Nat → Nat) (hT : gH (dC, dI) kA (SHc nC nS) G H0) (hr_o0 : G o0 = some 152) (hm_th : el H0 o0 (dI 7 0) = some (.ref th)) (hr_th : G th = some 153) (hm_a0 : el H0 o0 (dI 7 13) = some (.int a0)) (hm_s0 : el H0 o0 (dI 7 12) = some (.int s0)) (hm_sp9 : el H0 o0 (dI 7 9) = some (.ref sp9)) (hr_sp9 : G sp9 = some 162) (hq0 : 0 ≤ tn.toInt ∧ tn.toInt ≤ 400) (hq1 : 0 ≤ a0.toInt ∧ a0.toInt ≤ 400) (hat : a0.toInt ≤ tn.toInt) (hKK : ∀ m : Nat, m ≤ tn.toNatClampNeg → (vT m).toInt = K (pS m)) (hXX : ∀ m : Nat, m < tn.toNatClampNeg → pS (m + 1) = X (pS m)) (hq5 : 0 ≤ s0.toInt ∧ s0.toInt ≤ 400) (hsa : s0.toInt ≤ a0.toInt) (hc_vT : ct H0 th 401 vT) (hc_vS : ct H0 sp9 400 vS) (hx_tv : ix_tv.toInt = tn.toInt) (hm_tv : el H0 th ix_tv.toNatClampNeg = some (.int tv)) (hv_tv : 21 ≤ tv.toInt ∧ tv.toInt ≤ 21) (hgC : 0 ≤ nC ∧ nC ≤ 40) (hgS : 0 ≤ nS ∧ nS ≤ 60) : Met l yX4_readAtom w_c_readAtom6 ({ frames := 4, cells := 0, slots := 0, locals := 86 }) (va_Pc [.ref o0, .int 6] (fun U => U.heap = H0 ∧ va_K (dC, dI) vwCl (tyl kA) U ∧ EVC adK adV (gA G H0.size) U U.heap)) (va_Qi (fun (r : Int32) (u : Int32 × Int32 × (Nat → Int32)) => match u with | (a1, s1, vS1) => (0 ≤ a1.toInt ∧ a1.toInt ≤ 400) ∧ (0 ≤ s1.toInt ∧ s1.toInt ≤ 400) ∧ (0 ≤ r.toInt ∧ r.toInt ≤ 1) ∧ (a0.toInt ≤ a1.toInt ∧ a1.toInt ≤ tn.toInt) ∧ (s0.toInt ≤ s1.toInt ∧ s1.toInt - s0.toInt ≤ a1.toInt - a0.toInt) ∧ (aR K X 0 (pS a0.toNatClampNeg) r.toInt (pS a1.toNatClampNeg)) ∧ (zKp vS vS1 s0.toNatClampNeg) ∧ (r.toInt = 1 → zaZ K X 0 (pS a0.toNatClampNeg) (zC (tz vS1) s0.toNatClampNeg s1.toNatClampNeg) (pS a1.toNatClampNeg))) (fun (u : Int32 × Int32 × (Nat → Int32)) (t : State) => match u with | (a1, s1, vS1) => gH (dC, dI) kA (SHc nC nS) G t.heap ∧ gF (dC, dI) SKc G ([(152, 12), (152, 13), (162, 0)] : List (Nat × Nat)) H0 t.heap ∧ el t.heap o0 (dI 7 13) = some (.int a1) ∧ el t.heap o0 (dI 7 12) = some (.int s1) ∧ ct t.heap sp9 400 vS1) (gA G H0.size)) 0 0 (gA G H0.size) := by
  refine Met.ofW (cc := cX4_readAtom) (maxL := 4) (ret := (some .boolean)) (by decide) rfl ?_
  intro p e s m args below meth c s₁ B hml hv
  obtain ⟨rfl, hH0, hK, hE⟩ := hv
  have hx := B.exec
  have hb := B.bytes
  have hr := B.returns
  have hts := atoms_spec (ws := w_c_readAtom6) B.pre
  have hown : s.vm.findClass RX4 = some m.cls := findClass_of_methodNamed B.named
  have hlocks := B.notSynchronized
  subst hH0
  generalize hAe : gA G s.heap.size = A at hE ⊢
  have hA : ∀ q : Nat, s.heap.size ≤ q → A q := fun q h => by rw [← hAe]; exact Or.inr h
  have hG := gA_of hAe
  have hS : va_S A s.heap s.heap [] := va_S.rf
  have hF : gF (dC, dI) SKc G ([(152, 12), (152, 13), (162, 0)] : List (Nat × Nat)) s.heap s.heap := gF.rf
  have hl := lv_entry ([.ref o0, .int 6]) (n := 4) (Nat.le_of_ble_eq_true rfl)
  rw [lg_entry_eq]
  generalize (lg_sl ([.ref o0, .int 6]) ++ List.replicate (4 - (lg_sl ([.ref o0, .int 6])).length) Slot.unset).toArray = ls at hl ⊢
  have hl : lv_has ls 4 [(0, .ref o0), (1, .int 6)] := hl
  refine lv_aload_n hx hb dX4_readAtom_0 rfl (lv_at hl 0 rfl) ?_
  refine tw_getM (v := .ref th) hx hb hts bF2_X4 hown hK hT hr_o0 shc_152 rfl 0 (by decide) (ht_at2 hts 0 rfl) (fun _ h9 => h9) hm_th dX4_readAtom_1 ?_
  refine lv_aload_n hx hb dX4_readAtom_4 rfl (lv_at hl 0 rfl) ?_
  refine tw_getM (v := .int a0) hx hb hts bF2_X4 hown hK hT hr_o0 shc_152 rfl 13 (by decide) (ht_at2 hts 1 rfl) (fun _ h9 => h9) hm_a0 dX4_readAtom_5 ?_
  refine tw_iald (i := a0) hx hb hK hT hr_th shc_153 rfl (vin_t (a := a0.toInt) rfl (by omega) (by omega)) dX4_readAtom_8 (fun v9 m1 h9 => ?_)
  obtain ⟨x2, rfl, gx2, kx2⟩ := h9
  have cx2 := hc_vT.at m1 (by have q9 := tn_of (show a0.toInt = a0.toInt from rfl) (by omega); omega)
  have t3 : a0.toInt = ix_tv.toInt → x2.toInt = tv.toInt := fun h8 => congrArg Int32.toInt (el_same m1 hm_tv h8)
  have t4 : x2.toInt = K (pS a0.toNatClampNeg) := (congrArg Int32.toInt cx2).trans (hKK _ (by have := tn_of (show a0.toInt = a0.toInt from rfl) (by omega); have := tn_of (show tn.toInt = tn.toInt from rfl) (by omega); omega))
  refine lv_bipush (v := 13) hx hb dX4_readAtom_9 (by decide) ?_
  have t5 : -2147483648 ≤ x2.toInt ∧ x2.toInt ≤ 2147483647 := ti_all x2
  refine lv_icmp_ne (tgt := 18) hx hb dX4_readAtom_11 (by decide) (fun c6 => ?_) (fun c6 => ?_)
  · have t7 : x2.toInt ≠ 13 := ti_ne c6 rfl (by decide)
    refine lv_iconst (v := 0) hx hb dX4_readAtom_18 (by decide) ?_
    refine lv_istore_n (lv' := [(2, .int 0), (0, .ref o0), (1, .int 6)]) hx hb dX4_readAtom_19 rfl hl (by decide) rfl (fun ls hl => ?_)
    refine lv_iload_n hx hb dX4_readAtom_20 rfl (lv_at hl 0 rfl) ?_
    refine lv_if_ne (tgt := 43) hx hb dX4_readAtom_21 (by decide) (fun c8 => absurd c8 (by decide)) (fun c8 => ?_)
    refine lv_aload_n hx hb dX4_readAtom_24 rfl (lv_at hl 1 rfl) ?_
    refine tw_getM (v := .ref th) hx hb hts bF2_X4 hown hK hT hr_o0 shc_152 rfl 0 (by decide) (ht_at2 hts 0 rfl) (fun _ h9 => h9) hm_th dX4_readAtom_25 ?_
    refine lv_aload_n hx hb dX4_readAtom_28 rfl (lv_at hl 1 rfl) ?_
    refine tw_getM (v := .int a0) hx hb hts bF2_X4 hown hK hT hr_o0 shc_152 rfl 13 (by decide) (ht_at2 hts 1 rfl) (fun _ h9 => h9) hm_a0 dX4_readAtom_29 ?_
    refine tw_iald (i := a0) hx hb hK hT hr_th shc_153 rfl (vin_t (a := a0.toInt) rfl (by omega) (by omega)) dX4_readAtom_32 (fun v9 m9 h9 => ?_)
    obtain ⟨x10, rfl, gx10, kx10⟩ := h9
    have cx10 := hc_vT.at m9 (by have q9 := tn_of (show a0.toInt = a0.toInt from rfl) (by omega); omega)
    have t11 : a0.toInt = ix_tv.toInt → x10.toInt = tv.toInt := fun h8 => congrArg Int32.toInt (el_same m9 hm_tv h8)
    obtain rfl : x2 = x10 := (el_same m9 m1 rfl).symm
    refine lv_bipush (v := 16) hx hb dX4_readAtom_33 (by decide) ?_
    refine lv_icmp_eq (tgt := 43) hx hb dX4_readAtom_35 (by decide) (fun c12 => ?_) (fun c12 => ?_)
    · have t13 : x2.toInt = 16 := ti_eq c12 rfl (by decide)
      refine lv_iload_n hx hb dX4_readAtom_43 rfl (lv_at hl 2 rfl) ?_
      refine lv_bipush (v := 6) hx hb dX4_readAtom_44 (by decide) ?_
      refine lv_icmp_lt (tgt := 51) hx hb dX4_readAtom_46 (by decide) (fun c14 => absurd c14 (by decide)) (fun c14 => ?_)
      refine lv_iconst (v := 0) hx hb dX4_readAtom_49 (by decide) ?_
      exact W.zret (v := 0) hx hb hr (by decide) (fun t ht hW => ⟨⟨0, (a0, s0, vS), rfl, (by exact ⟨(by have q8 := ti_all a0; omega), (by have q8 := ti_all s0; omega), (rg_t (a := 0) (by decide) (by first | decide | omega) (by first | decide | omega)), (by omega), (by omega), (Or.inl ⟨by omega, by decide, rfl⟩), zKp.rf, (fun h8 => absurd h8 (by decide))⟩), by (try dsimp only); rw [ht]; exact ⟨hT, hF, hm_a0, hm_s0, hc_vS⟩⟩, hS.F ht⟩) hS.2.2 dX4_readAtom_50
    · have t15 : x2.toInt ≠ 16 := ti_ne c12 rfl (by decide)
      refine lv_aload_n hx hb dX4_readAtom_38 rfl (lv_at hl 1 rfl) ?_
      have hFc := gA_free hG hA hS
      refine va_calli (va_runV (As := []) (rest := []) ⟨hx, hb, hml, hown, hts⟩ (c_readComparison l dC dI kA adK adV G s.heap nC nS o0 th a0 s0 sp9 vT vS tv ix_tv ix_tv K X pS hT hr_o0 hm_th hr_th hm_a0 hm_s0 hm_sp9 hr_sp9 (by have q8 := ti_all ix_tv; omega) (by have q8 := ti_all a0; omega) (by have := (show a0.toInt = a0.toInt from rfl); have := (show ix_tv.toInt = ix_tv.toInt from rfl); omega) (fun m hm => hKK m (Nat.le_trans hm (Nat.le_of_eq (tn_same hx_tv rfl rfl)))) (fun m hm => hXX m (Nat.lt_of_lt_of_eq hm (tn_same hx_tv rfl rfl))) (by have q8 := ti_all s0; omega) (by have := (show s0.toInt = s0.toInt from rfl); have := (show a0.toInt = a0.toInt from rfl); omega) hc_vT hc_vS (by have q9 := (show ix_tv.toInt = ix_tv.toInt from rfl); have := (show ix_tv.toInt = ix_tv.toInt from rfl); omega) hm_tv (by have q8 := ti_all tv; omega) (by omega) (by omega)) (cwV 0 hts (goodIn_app (goodIn_r _ [23, 24, 25, 12] rfl (by decide +kernel)) (goodIn_ca (goodIn_r _ [3, 4, 5, 1, 2, 6, 7, 8, 9, 10, 11, 12, 13, 14, 15, 16, 17, 18, 19, 20, 21, 22] rfl (by decide +kernel)) (bs2_in _ _))) rfl rfl rfl (by decide +kernel) ⟨(Nat.le_of_ble_eq_true rfl), (Nat.le_of_ble_eq_true rfl)⟩) ⟨fun a U g mk q => by obtain ⟨q0, q1, qK, qE⟩ := q; exact ⟨q0, q1, va_K.moved (u := U) (U := U.calling g mk a) (Vm.Alike.refl U.vm) qK, EVC.blind g mk a qE⟩, gH_rc hK hT hr_o0 shc_152 rfl, fun U hU hW => ⟨rfl, hU, va_K.moved hW.alike hK, hE.call hS hFc hU hW⟩⟩ rfl rfl hl.1 rfl (lv_room (Nat.le_of_ble_eq_true rfl)) dX4_readAtom_39 ⟨(Nat.le_of_ble_eq_true rfl), (Nat.le_of_ble_eq_true rfl)⟩) hS (fun q _ h => hFc q h) hFc (fun r16 u t H locs ht hvm hw17 hB _ _ hS => ?_)
      obtain ⟨u18, u19, u20⟩ := u
      obtain ⟨hT, hF1, m21, m22, m23⟩ := hB
      rw [ht] at hT hF1 m21 m22 m23
      have hF := hF.more hF1 (by decide)
      try dsimp only at hw17
      obtain ⟨h32, h33, h34, hf35, hf36, hf37, hf38, hf39⟩ := hw17
      exact W.zret (v := r16) hx hb hr (nar_b (by have q8 := ti_all r16; omega)) (fun t ht hW => ⟨⟨r16, (u18, u19, u20), rfl, (by exact ⟨(by have q8 := ti_all u18; omega), (by have q8 := ti_all u19; omega), (by have q8 := ti_all r16; omega), (by omega), (by omega), (Or.inr ⟨by omega, hf37⟩), (zKp.rf.tr hf38 (by have := tn_of (show s0.toInt = s0.toInt from rfl) (by omega); omega)), (fun h8 => ⟨by omega, hf39 h8⟩)⟩), by (try dsimp only); rw [ht]; exact ⟨hT, hF, m21, m22, m23⟩⟩, hS.F ht⟩) hS.2.2 dX4_readAtom_42
  · have t40 : x2.toInt = 13 := ti_eq c6 rfl (by decide)
    refine lv_iconst (v := 1) hx hb dX4_readAtom_14 (by decide) ?_
    refine lv_goto (tgt := 19) hx hb dX4_readAtom_15 (by decide) ?_
    refine lv_istore_n (lv' := [(2, .int 1), (0, .ref o0), (1, .int 6)]) hx hb dX4_readAtom_19 rfl hl (by decide) rfl (fun ls hl => ?_)
    refine lv_iload_n hx hb dX4_readAtom_20 rfl (lv_at hl 0 rfl) ?_
    refine lv_if_ne (tgt := 43) hx hb dX4_readAtom_21 (by decide) (fun c41 => ?_) (fun c41 => absurd c41 (by decide))
    refine lv_iload_n hx hb dX4_readAtom_43 rfl (lv_at hl 2 rfl) ?_
    refine lv_bipush (v := 6) hx hb dX4_readAtom_44 (by decide) ?_
    refine lv_icmp_lt (tgt := 51) hx hb dX4_readAtom_46 (by decide) (fun c42 => absurd c42 (by decide)) (fun c42 => ?_)
    refine lv_iconst (v := 0) hx hb dX4_readAtom_49 (by decide) ?_
    exact W.zret (v := 0) hx hb hr (by decide) (fun t ht hW => ⟨⟨0, (a0, s0, vS), rfl, (by exact ⟨(by have q8 := ti_all a0; omega), (by have q8 := ti_all s0; omega), (rg_t (a := 0) (by decide) (by first | decide | omega) (by first | decide | omega)), (by omega), (by omega), (Or.inl ⟨by omega, by decide, rfl⟩), zKp.rf, (fun h8 => absurd h8 (by decide))⟩), by (try dsimp only); rw [ht]; exact ⟨hT, hF, hm_a0, hm_s0, hc_vS⟩⟩, hS.F ht⟩) hS.2.2 dX4_readAtom_50
def w_c_readAll6 : List Cond := .code yX4_readAll cX4_readAll 4 (some .boolean) :: (HAppend.hAppend (α := List Cond) (β := List Cond) (γ := List Cond) [.code yX4_readAtom cX4_readAtom 4 (some .boolean), .fieldLink RX4 11 "SeaLand$Law" "things" "[I", .fieldLink RX4 56 "SeaLand$Law" "at" "I", .code yX4_readComparison cX4_readComparison 3 (some .boolean), .code yX4_readSum cX4_readSum 3 (some .boolean), .code yX4_readPart cX4_readPart 2 (some .boolean), .code yX4_addStep cX4_addStep 2 none, .fieldLink RX4 63 "SeaLand$Law" "stepped" "I", .fieldLink RX4 39 "SeaLand$Law" "steps" "[I", .methodLink RX4 179 yX4_addStep, .instanceMethod yX4_addStep, .selects RX4 yX4_addStep yX4_addStep, .initialized RX4, .methodLink RX4 192 yX4_readPart, .instanceMethod yX4_readPart, .selects RX4 yX4_readPart yX4_readPart, .code yX4_take cX4_take 2 (some .boolean), .methodLink RX4 70 yX4_take, .instanceMethod yX4_take, .selects RX4 yX4_take yX4_take, .methodLink RX4 189 yX4_readSum, .instanceMethod yX4_readSum, .selects RX4 yX4_readSum yX4_readSum, .methodLink RX4 186 yX4_readComparison, .instanceMethod yX4_readComparison, .selects RX4 yX4_readComparison yX4_readComparison, .methodLink RX4 183 yX4_readAtom, .instanceMethod yX4_readAtom, .selects RX4 yX4_readAtom yX4_readAtom] bs2)
set_option maxHeartbeats 4000000 in
set_option maxRecDepth 100000 in
theorem c_readAll6 (l : Launch) (dC : Nat → ClassId) (dI : Nat → Nat → Nat) (kA : Nat → ClassId) (adK adV : Nat → Nat) (G : gT) (H0 : Heap) (nC nS : Int) (o0 : Nat) (th : Nat) (a0 : Int32) (s0 : Int32) (sp9 : Nat) (vT : Nat → Int32) (vS : Nat → Int32) (tv ix_tv : Int32) (tn : Int32) (K : Nat → Int) (X pS : Nat → Nat) (hT : gH (dC, dI) kA (SHc nC nS) G H0) (hr_o0 : G o0 = some 152) (hm_th : el H0 o0 (dI 7 0) = some (.ref th)) (hr_th : G th = some 153) (hm_a0 : el H0 o0 (dI 7 13) = some (.int a0)) (hm_s0 : el H0 o0 (dI 7 12) = some (.int s0)) (hm_sp9 : el H0 o0 (dI 7 9) = some (.ref sp9)) (hr_sp9 : G sp9 = some 162) (hq0 : 0 ≤ tn.toInt ∧ tn.toInt ≤ 400) (hq1 : 0 ≤ a0.toInt ∧ a0.toInt ≤ 400) (hat : a0.toInt ≤ tn.toInt) (hKK : ∀ m : Nat, m ≤ tn.toNatClampNeg → (vT m).toInt = K (pS m)) (hXX : ∀ m : Nat, m < tn.toNatClampNeg → pS (m + 1) = X (pS m)) (hq5 : 0 ≤ s0.toInt ∧ s0.toInt ≤ 400) (hsa : s0.toInt ≤ a0.toInt) (hc_vT : ct H0 th 401 vT) (hc_vS : ct H0 sp9 400 vS) (hx_tv : ix_tv.toInt = tn.toInt) (hm_tv : el H0 th ix_tv.toNatClampNeg = some (.int tv)) (hv_tv : 21 ≤ tv.toInt ∧ tv.toInt ≤ 21) (hgC : 0 ≤ nC ∧ nC ≤ 40) (hgS : 0 ≤ nS ∧ nS ≤ 60) : Met l yX4_readAll w_c_readAll6 ({ frames := 5, cells := 0, slots := 0, locals := 109 }) (va_Pc [.ref o0, .int 6] (fun U => U.heap = H0 ∧ va_K (dC, dI) vwCl (tyl kA) U ∧ EVC adK adV (gA G H0.size) U U.heap)) (va_Qi (fun (r : Int32) (u : Int32 × Int32 × (Nat → Int32)) => match u with | (a1, s1, vS1) => (0 ≤ a1.toInt ∧ a1.toInt ≤ 400) ∧ (0 ≤ s1.toInt ∧ s1.toInt ≤ 400) ∧ (0 ≤ r.toInt ∧ r.toInt ≤ 1) ∧ (a0.toInt ≤ a1.toInt ∧ a1.toInt ≤ tn.toInt) ∧ (s0.toInt ≤ s1.toInt ∧ s1.toInt - s0.toInt ≤ a1.toInt - a0.toInt) ∧ (lpR K X (aR K X 0) 14 (pS a0.toNatClampNeg) r.toInt (pS a1.toNatClampNeg)) ∧ (zKp vS vS1 s0.toNatClampNeg) ∧ (r.toInt = 1 → zlZ K X (zaZ K X 0) 14 (pS a0.toNatClampNeg) (zC (tz vS1) s0.toNatClampNeg s1.toNatClampNeg) (pS a1.toNatClampNeg))) (fun (u : Int32 × Int32 × (Nat → Int32)) (t : State) => match u with | (a1, s1, vS1) => gH (dC, dI) kA (SHc nC nS) G t.heap ∧ gF (dC, dI) SKc G ([(152, 12), (152, 13), (162, 0)] : List (Nat × Nat)) H0 t.heap ∧ el t.heap o0 (dI 7 13) = some (.int a1) ∧ el t.heap o0 (dI 7 12) = some (.int s1) ∧ ct t.heap sp9 400 vS1) (gA G H0.size)) 0 0 (gA G H0.size) := by
  refine Met.ofW (cc := cX4_readAll) (maxL := 4) (ret := (some .boolean)) (by decide) rfl ?_
  intro p e s m args below meth c s₁ B hml hv
  obtain ⟨rfl, hH0, hK, hE⟩ := hv
  have hx := B.exec
  have hb := B.bytes
  have hr := B.returns
  have hts := atoms_spec (ws := w_c_readAll6) B.pre
  have hown : s.vm.findClass RX4 = some m.cls := findClass_of_methodNamed B.named
  have hlocks := B.notSynchronized
  subst hH0
  generalize hAe : gA G s.heap.size = A at hE ⊢
  have hA : ∀ q : Nat, s.heap.size ≤ q → A q := fun q h => by rw [← hAe]; exact Or.inr h
  have hG := gA_of hAe
  have hS : va_S A s.heap s.heap [] := va_S.rf
  have hF : gF (dC, dI) SKc G ([(152, 12), (152, 13), (162, 0)] : List (Nat × Nat)) s.heap s.heap := gF.rf
  have hl := lv_entry ([.ref o0, .int 6]) (n := 4) (Nat.le_of_ble_eq_true rfl)
  rw [lg_entry_eq]
  generalize (lg_sl ([.ref o0, .int 6]) ++ List.replicate (4 - (lg_sl ([.ref o0, .int 6])).length) Slot.unset).toArray = ls at hl ⊢
  have hl : lv_has ls 4 [(0, .ref o0), (1, .int 6)] := hl
  refine lv_aload_n hx hb dX4_readAll_0 rfl (lv_at hl 0 rfl) ?_
  refine lv_iload_n hx hb dX4_readAll_1 rfl (lv_at hl 1 rfl) ?_
  have hFc := gA_free hG hA hS
  refine va_calli (va_runV (As := [.int 6]) (rest := []) ⟨hx, hb, hml, hown, hts⟩ (c_readAtom6 l dC dI kA adK adV G s.heap nC nS o0 th a0 s0 sp9 vT vS tv ix_tv ix_tv K X pS hT hr_o0 hm_th hr_th hm_a0 hm_s0 hm_sp9 hr_sp9 (by have q8 := ti_all ix_tv; omega) (by have q8 := ti_all a0; omega) (by have := (show a0.toInt = a0.toInt from rfl); have := (show ix_tv.toInt = ix_tv.toInt from rfl); omega) (fun m hm => hKK m (Nat.le_trans hm (Nat.le_of_eq (tn_same hx_tv rfl rfl)))) (fun m hm => hXX m (Nat.lt_of_lt_of_eq hm (tn_same hx_tv rfl rfl))) (by have q8 := ti_all s0; omega) (by have := (show s0.toInt = s0.toInt from rfl); have := (show a0.toInt = a0.toInt from rfl); omega) hc_vT hc_vS (by have q9 := (show ix_tv.toInt = ix_tv.toInt from rfl); have := (show ix_tv.toInt = ix_tv.toInt from rfl); omega) hm_tv (by have q8 := ti_all tv; omega) (by omega) (by omega)) (cwV 1 hts (goodIn_app (goodIn_r _ [27, 28, 29, 13] rfl (by decide +kernel)) (goodIn_ca (goodIn_r _ [1, 2, 3, 4, 5, 6, 7, 8, 9, 10, 11, 12, 13, 14, 15, 16, 17, 18, 19, 20, 21, 22, 23, 24, 25, 26] rfl (by decide +kernel)) (bs2_in _ _))) rfl rfl rfl (by decide +kernel) ⟨(Nat.le_of_ble_eq_true rfl), (Nat.le_of_ble_eq_true rfl)⟩) ⟨fun a U g mk q => by obtain ⟨q0, q1, qK, qE⟩ := q; exact ⟨q0, q1, va_K.moved (u := U) (U := U.calling g mk a) (Vm.Alike.refl U.vm) qK, EVC.blind g mk a qE⟩, gH_rc hK hT hr_o0 shc_152 rfl, fun U hU hW => ⟨rfl, hU, va_K.moved hW.alike hK, hE.call hS hFc hU hW⟩⟩ rfl rfl hl.1 rfl (lv_room (Nat.le_of_ble_eq_true rfl)) dX4_readAll_2 ⟨(Nat.le_of_ble_eq_true rfl), (Nat.le_of_ble_eq_true rfl)⟩) hS (fun q _ h => hFc q h) hFc (fun r1 u t H locs ht hvm hw2 hB _ _ hS => ?_)
  obtain ⟨u3, u4, u5⟩ := u
  obtain ⟨hT, hF1, m6, m7, m8⟩ := hB
  rw [ht] at hT hF1 m6 m7 m8
  have m9 := (hF1.fld hr_o0 skc_152 (k := 0) (by decide) (by decide)).trans hm_th
  have m12 := (hF1.fld hr_o0 skc_152 (k := 9) (by decide) (by decide)).trans hm_sp9
  have m13 := hc_vT.kept (hF1.arr hr_th skc_153 (by decide))
  have m15 := (el_kept (hF1.arr hr_th skc_153 (by decide))).trans hm_tv
  have hF := hF.more hF1 (by decide)
  try dsimp only at hw2
  obtain ⟨h16, h17, h18, hf19, hf20, hf21, hf22, hf23⟩ := hw2
  refine lv_istore_n (lv' := [(2, .int r1), (0, .ref o0), (1, .int 6)]) hx hb dX4_readAll_5 rfl hl (by decide) rfl (fun ls hl => ?_)
  refine lv_iconst (v := 0) hx hb dX4_readAll_6 (by decide) ?_
  refine lv_istore_n (lv' := [(3, .int 0), (2, .int r1), (0, .ref o0), (1, .int 6)]) hx hb dX4_readAll_7 rfl hl (by decide) rfl (fun ls hl => ?_)
  have key105 : ∀ (n105 i24 : Nat), i24 + n105 = 400 → 0 ≤ i24 → ∀ (z25 : Int32), ∀ (V28 : Nat → Int32), ∀ (z33 : Int32), ∀ (z36 : Int32), ((0 ≤ z25.toInt ∧ z25.toInt ≤ 1) ∧ (0 ≤ z33.toInt ∧ z33.toInt ≤ 400) ∧ (0 ≤ z36.toInt ∧ z36.toInt ≤ 400) ∧ (a0.toInt ≤ z33.toInt ∧ z33.toInt ≤ tn.toInt) ∧ (((z25.toInt = 1 ∧ ∀ (r : Int) (f : Nat), lpQ K X (aR K X 0) 14 (pS z33.toNatClampNeg) r f → lpR K X (aR K X 0) 14 (pS a0.toNatClampNeg) r f) ∨ (z25.toInt = 0 ∧ lpR K X (aR K X 0) 14 (pS a0.toNatClampNeg) 0 (pS z33.toNatClampNeg))) ∧ ((i24 : Nat) : Int) ≤ z33.toInt) ∧ (z25.toInt = 1 → zlI K X (zaZ K X 0) 14 (pS a0.toNatClampNeg) (zC (tz V28) s0.toNatClampNeg z36.toNatClampNeg) (pS z33.toNatClampNeg)) ∧ (zKp vS V28 s0.toNatClampNeg) ∧ (s0.toInt ≤ z36.toInt ∧ z36.toInt - s0.toInt ≤ z33.toInt - a0.toInt)) → ∀ (H : Heap) (locs : List Loc), gH (dC, dI) kA (SHc nC nS) G H → gF (dC, dI) SKc G ([(152, 12), (152, 13), (162, 0)] : List (Nat × Nat)) s.heap H → va_S A s.heap H locs → ct H th 401 vT → ct H sp9 400 V28 → el H o0 (dI 7 0) = some (.ref th) → el H o0 (dI 7 9) = some (.ref sp9) → el H th ix_tv.toNatClampNeg = some (.int tv) → el H o0 (dI 7 13) = some (.int z33) → el H o0 (dI 7 12) = some (.int z36) → ∀ ls : Array Slot, lv_has ls 4 [(3, .int (nI i24)), (2, .int z25), (0, .ref o0), (1, .int 6)] → W p l e (headSpec w_c_readAll6 ({ frames := 5, cells := 0, slots := 0, locals := 109 })).room s m #[.ref o0, .int 6] below meth c H locs 0 0 (MQ below (va_Qi (fun (r : Int32) (u : Int32 × Int32 × (Nat → Int32)) => match u with | (a1, s1, vS1) => (0 ≤ a1.toInt ∧ a1.toInt ≤ 400) ∧ (0 ≤ s1.toInt ∧ s1.toInt ≤ 400) ∧ (0 ≤ r.toInt ∧ r.toInt ≤ 1) ∧ (a0.toInt ≤ a1.toInt ∧ a1.toInt ≤ tn.toInt) ∧ (s0.toInt ≤ s1.toInt ∧ s1.toInt - s0.toInt ≤ a1.toInt - a0.toInt) ∧ (lpR K X (aR K X 0) 14 (pS a0.toNatClampNeg) r.toInt (pS a1.toNatClampNeg)) ∧ (zKp vS vS1 s0.toNatClampNeg) ∧ (r.toInt = 1 → zlZ K X (zaZ K X 0) 14 (pS a0.toNatClampNeg) (zC (tz vS1) s0.toNatClampNeg s1.toNatClampNeg) (pS a1.toNatClampNeg))) (fun (u : Int32 × Int32 × (Nat → Int32)) (t : State) => match u with | (a1, s1, vS1) => gH (dC, dI) kA (SHc nC nS) G t.heap ∧ gF (dC, dI) SKc G ([(152, 12), (152, 13), (162, 0)] : List (Nat × Nat)) s.heap t.heap ∧ el t.heap o0 (dI 7 13) = some (.int a1) ∧ el t.heap o0 (dI 7 12) = some (.int s1) ∧ ct t.heap sp9 400 vS1) A) #[.ref o0, .int 6] s 0 0 A) (F0 m 8 ls []) := by
    intro n105
    induction n105 with
    | zero =>
      intro i24 hn105 hlo106 z25 V28 z33 z36 ⟨h26, h34, h37, hj39, hj40, hj41, hj42, hj43⟩ H locs hT hF hS m27 m29 m30 m31 m32 m35 m38 ls hl
      obtain rfl : 400 = i24 := by omega
      refine lv_iload_n hx hb dX4_readAll_8 rfl (lv_at hl 0 rfl) ?_
      refine lv_sipush (v := 400) hx hb dX4_readAll_9 (by decide) ?_
      refine lv_icmp_ge (tgt := 46) hx hb dX4_readAll_12 (by decide) (fun c107 => ?_) (fun c107 => (by exfalso; have q9 : ((400 : Nat) : Int) < 400 := ti_nle c107 (by decide) (nI_toInt (by omega)); omega))
      have t108 : 400 ≤ ((400 : Nat) : Int) := ti_le c107 (by decide) (nI_toInt (by omega))
      refine lv_iload_n hx hb dX4_readAll_46 rfl (lv_at hl 1 rfl) ?_
      exact W.zret (v := z25) hx hb hr (nar_b (by have q8 := ti_all z25; omega)) (fun t ht hW => ⟨⟨z25, (z33, z36, V28), rfl, (by exact ⟨(by have q8 := ti_all z33; omega), (by have q8 := ti_all z36; omega), (by have q8 := ti_all z25; omega), (by omega), (by omega), (by rcases hj40.1 with ⟨h8, l9⟩ | ⟨h8, l9⟩; (rw [h8]; exact lp_e l9 (fun h7 => by have := tn_of (show z33.toInt = z33.toInt from rfl) (by omega); have := tn_of (show tn.toInt = tn.toInt from rfl) (by omega); have k9 := hKK tn.toNatClampNeg (Nat.le_refl _); have e9 := hc_vT.at hm_tv (by have q9 := tn_of hx_tv (by omega); omega); have k8 : (vT tn.toNatClampNeg).toInt = 21 := (by have q8 := congrArg Int32.toInt e9; rw [show ix_tv.toNatClampNeg = tn.toNatClampNeg from tn_same hx_tv rfl rfl] at q8; omega); rw [show z33.toNatClampNeg = tn.toNatClampNeg from by omega] at h7; omega)); rw [h8]; exact l9), hj42, (fun h8 => ⟨hj41 h8, fun h7 => by have := tn_of (show z33.toInt = z33.toInt from rfl) (by omega); have := tn_of (show tn.toInt = tn.toInt from rfl) (by omega); have k9 := hKK tn.toNatClampNeg (Nat.le_refl _); have e9 := hc_vT.at hm_tv (by have q9 := tn_of hx_tv (by omega); omega); have k8 : (vT tn.toNatClampNeg).toInt = 21 := (by have q8 := congrArg Int32.toInt e9; rw [show ix_tv.toNatClampNeg = tn.toNatClampNeg from tn_same hx_tv rfl rfl] at q8; omega); rw [show z33.toNatClampNeg = tn.toNatClampNeg from by omega] at h7; omega⟩)⟩), by (try dsimp only); rw [ht]; exact ⟨hT, hF, m35, m38, m29⟩⟩, hS.F ht⟩) hS.2.2 dX4_readAll_47
    | succ n105 ih105 =>
      intro i24 hn105 hlo106 z25 V28 z33 z36 ⟨h26, h34, h37, hj39, hj40, hj41, hj42, hj43⟩ H locs hT hF hS m27 m29 m30 m31 m32 m35 m38 ls hl
      have hlt108 : i24 < 400 := by omega
      refine lv_iload_n hx hb dX4_readAll_8 rfl (lv_at hl 0 rfl) ?_
      refine lv_sipush (v := 400) hx hb dX4_readAll_9 (by decide) ?_
      refine lv_icmp_ge (tgt := 46) hx hb dX4_readAll_12 (by decide) (fun c109 => (by exfalso; have q9 : 400 ≤ ((i24 : Nat) : Int) := ti_le c109 (by decide) (nI_toInt (by omega)); omega)) (fun c109 => ?_)
      have t110 : ((i24 : Nat) : Int) < 400 := ti_nle c109 (by decide) (nI_toInt (by omega))
      refine lv_iload_n hx hb dX4_readAll_15 rfl (lv_at hl 1 rfl) ?_
      refine lv_if_eq (tgt := 46) hx hb dX4_readAll_16 (by decide) (fun c111 => ?_) (fun c111 => ?_)
      · have t112 : z25.toInt = 0 := ti_eq c111 rfl (by decide)
        refine lv_iload_n hx hb dX4_readAll_46 rfl (lv_at hl 1 rfl) ?_
        exact W.zret (v := z25) hx hb hr (nar_b (by have q8 := ti_all z25; omega)) (fun t ht hW => ⟨⟨z25, (z33, z36, V28), rfl, (by exact ⟨(by have q8 := ti_all z33; omega), (by have q8 := ti_all z36; omega), (by have q8 := ti_all z25; omega), (by omega), (by omega), (by rcases hj40.1 with ⟨h8, l9⟩ | ⟨h8, l9⟩; (rw [h8]; exact lp_e l9 (fun h7 => by have := tn_of (show z33.toInt = z33.toInt from rfl) (by omega); have := tn_of (show tn.toInt = tn.toInt from rfl) (by omega); have k9 := hKK tn.toNatClampNeg (Nat.le_refl _); have e9 := hc_vT.at hm_tv (by have q9 := tn_of hx_tv (by omega); omega); have k8 : (vT tn.toNatClampNeg).toInt = 21 := (by have q8 := congrArg Int32.toInt e9; rw [show ix_tv.toNatClampNeg = tn.toNatClampNeg from tn_same hx_tv rfl rfl] at q8; omega); rw [show z33.toNatClampNeg = tn.toNatClampNeg from by omega] at h7; omega)); rw [h8]; exact l9), hj42, (fun h8 => ⟨hj41 h8, fun h7 => by have := tn_of (show z33.toInt = z33.toInt from rfl) (by omega); have := tn_of (show tn.toInt = tn.toInt from rfl) (by omega); have k9 := hKK tn.toNatClampNeg (Nat.le_refl _); have e9 := hc_vT.at hm_tv (by have q9 := tn_of hx_tv (by omega); omega); have k8 : (vT tn.toNatClampNeg).toInt = 21 := (by have q8 := congrArg Int32.toInt e9; rw [show ix_tv.toNatClampNeg = tn.toNatClampNeg from tn_same hx_tv rfl rfl] at q8; omega); rw [show z33.toNatClampNeg = tn.toNatClampNeg from by omega] at h7; omega⟩)⟩), by (try dsimp only); rw [ht]; exact ⟨hT, hF, m35, m38, m29⟩⟩, hS.F ht⟩) hS.2.2 dX4_readAll_47
      · have t113 : z25.toInt ≠ 0 := ti_ne c111 rfl (by decide)
        refine lv_aload_n hx hb dX4_readAll_19 rfl (lv_at hl 2 rfl) ?_
        refine lv_bipush (v := 14) hx hb dX4_readAll_20 (by decide) ?_
        have hFc := gA_free hG hA hS
        refine va_calli (va_runV (As := [.int 14]) (rest := []) ⟨hx, hb, hml, hown, hts⟩ (c_take l dC dI kA adK adV G H nC nS o0 14 th z33 vT tv ix_tv ix_tv K X pS hT hr_o0 m30 hr_th m35 (by have q8 := ti_all ix_tv; omega) (by have q8 := ti_all z33; omega) (by have := (show z33.toInt = z33.toInt from rfl); have := (show ix_tv.toInt = ix_tv.toInt from rfl); omega) (by have := (show (14 : Int32).toInt = 14 from (by decide)); omega) (fun m hm => hKK m (Nat.le_trans hm (Nat.le_of_eq (tn_same hx_tv rfl rfl)))) (fun m hm => hXX m (Nat.lt_of_lt_of_eq hm (tn_same hx_tv rfl rfl))) m27 (by have q9 := (show ix_tv.toInt = ix_tv.toInt from rfl); have := (show ix_tv.toInt = ix_tv.toInt from rfl); omega) m32 (by have q8 := ti_all tv; omega) (by omega) (by omega)) (cwV 1 hts (goodIn_app (goodIn_r _ [18, 19, 20, 13] rfl (by decide +kernel)) (goodIn_ca (goodIn_r _ [17, 2, 3] rfl (by decide +kernel)) (bs2_in _ _))) rfl rfl rfl (by decide +kernel) ⟨(Nat.le_of_ble_eq_true rfl), (Nat.le_of_ble_eq_true rfl)⟩) ⟨fun a U g mk q => by obtain ⟨q0, q1, qK, qE⟩ := q; exact ⟨q0, q1, va_K.moved (u := U) (U := U.calling g mk a) (Vm.Alike.refl U.vm) qK, EVC.blind g mk a qE⟩, gH_rc hK hT hr_o0 shc_152 rfl, fun U hU hW => ⟨rfl, hU, va_K.moved hW.alike hK, hE.call hS hFc hU hW⟩⟩ rfl rfl hl.1 rfl (lv_room (Nat.le_of_ble_eq_true rfl)) dX4_readAll_22 ⟨(Nat.le_of_ble_eq_true rfl), (Nat.le_of_ble_eq_true rfl)⟩) hS (fun q _ h => hFc q h) hFc (fun r114 u t H locs ht hvm hw115 hB _ _ hS => ?_)
        obtain ⟨u116, rfl⟩ : ∃ z, z = u := ⟨_, rfl⟩
        obtain ⟨hT, hF1, m117⟩ := hB
        rw [ht] at hT hF1 m117
        have m118 := m27.kept (hF1.arr hr_th skc_153 (by decide))
        have m119 := m29.kept (hF1.arr hr_sp9 skc_162 (by decide))
        have m120 := (hF1.fld hr_o0 skc_152 (k := 0) (by decide) (by decide)).trans m30
        have m121 := (hF1.fld hr_o0 skc_152 (k := 9) (by decide) (by decide)).trans m31
        have m122 := (el_kept (hF1.arr hr_th skc_153 (by decide))).trans m32
        have m124 := (hF1.fld hr_o0 skc_152 (k := 12) (by decide) (by decide)).trans m38
        have hF := hF.more hF1 (by decide)
        try dsimp only at hw115
        obtain ⟨h125, h126, hf127, hf128, hf129⟩ := hw115
        refine lv_if_eq (tgt := 46) hx hb dX4_readAll_25 (by decide) (fun c130 => ?_) (fun c130 => ?_)
        · have t131 : r114.toInt = 0 := ti_eq c130 rfl (by decide)
          refine lv_iload_n hx hb dX4_readAll_46 rfl (lv_at hl 1 rfl) ?_
          exact W.zret (v := z25) hx hb hr (nar_b (by have q8 := ti_all z25; omega)) (fun t ht hW => ⟨⟨z25, (u116, z36, V28), rfl, (by exact ⟨(by have q8 := ti_all u116; omega), (by have q8 := ti_all z36; omega), (by have q8 := ti_all z25; omega), (by omega), (by omega), (by have l9 := (hj40.1.resolve_right (fun h8 => by have := h8.1; omega)).2; have a9 := hf128.resolve_left (fun h8 => by have := h8.2.1; omega); rw [show z25.toInt = 1 from by omega, a9.2.2]; exact lp_e l9 (fun h7 => a9.1 (h7.trans (by decide)))), hj42, (fun h8 => ⟨by (try dsimp only); have a9 := hf128.resolve_left (fun h8 => by have := h8.2.1; omega); rw [a9.2.2]; exact hj41 h8, by (try dsimp only); have a9 := hf128.resolve_left (fun h8 => by have := h8.2.1; omega); rw [a9.2.2]; exact fun h7 => a9.1 (h7.trans (by decide))⟩)⟩), by (try dsimp only); rw [ht]; exact ⟨hT, hF, m117, m124, m119⟩⟩, hS.F ht⟩) hS.2.2 dX4_readAll_47
        · have t132 : r114.toInt ≠ 0 := ti_ne c130 rfl (by decide)
          refine lv_aload_n hx hb dX4_readAll_28 rfl (lv_at hl 2 rfl) ?_
          refine lv_iload_n hx hb dX4_readAll_29 rfl (lv_at hl 3 rfl) ?_
          have hFc := gA_free hG hA hS
          refine va_calli (va_runV (As := [.int 6]) (rest := []) ⟨hx, hb, hml, hown, hts⟩ (c_readAtom6 l dC dI kA adK adV G H nC nS o0 th u116 z36 sp9 vT V28 tv ix_tv ix_tv K X pS hT hr_o0 m120 hr_th m117 m124 m121 hr_sp9 (by have q8 := ti_all ix_tv; omega) (by have q8 := ti_all u116; omega) (by have := (show u116.toInt = u116.toInt from rfl); have := (show ix_tv.toInt = ix_tv.toInt from rfl); omega) (fun m hm => hKK m (Nat.le_trans hm (Nat.le_of_eq (tn_same hx_tv rfl rfl)))) (fun m hm => hXX m (Nat.lt_of_lt_of_eq hm (tn_same hx_tv rfl rfl))) (by have q8 := ti_all z36; omega) (by have := (show z36.toInt = z36.toInt from rfl); have := (show u116.toInt = u116.toInt from rfl); omega) m118 m119 (by have q9 := (show ix_tv.toInt = ix_tv.toInt from rfl); have := (show ix_tv.toInt = ix_tv.toInt from rfl); omega) m122 (by have q8 := ti_all tv; omega) (by omega) (by omega)) (cwV 1 hts (goodIn_app (goodIn_r _ [27, 28, 29, 13] rfl (by decide +kernel)) (goodIn_ca (goodIn_r _ [1, 2, 3, 4, 5, 6, 7, 8, 9, 10, 11, 12, 13, 14, 15, 16, 17, 18, 19, 20, 21, 22, 23, 24, 25, 26] rfl (by decide +kernel)) (bs2_in _ _))) rfl rfl rfl (by decide +kernel) ⟨(Nat.le_of_ble_eq_true rfl), (Nat.le_of_ble_eq_true rfl)⟩) ⟨fun a U g mk q => by obtain ⟨q0, q1, qK, qE⟩ := q; exact ⟨q0, q1, va_K.moved (u := U) (U := U.calling g mk a) (Vm.Alike.refl U.vm) qK, EVC.blind g mk a qE⟩, gH_rc hK hT hr_o0 shc_152 rfl, fun U hU hW => ⟨rfl, hU, va_K.moved hW.alike hK, hE.call hS hFc hU hW⟩⟩ rfl rfl hl.1 rfl (lv_room (Nat.le_of_ble_eq_true rfl)) dX4_readAll_30 ⟨(Nat.le_of_ble_eq_true rfl), (Nat.le_of_ble_eq_true rfl)⟩) hS (fun q _ h => hFc q h) hFc (fun r133 u t H locs ht hvm hw134 hB _ _ hS => ?_)
          obtain ⟨u135, u136, u137⟩ := u
          obtain ⟨hT, hF1, m138, m139, m140⟩ := hB
          rw [ht] at hT hF1 m138 m139 m140
          have m141 := m118.kept (hF1.arr hr_th skc_153 (by decide))
          have m143 := (hF1.fld hr_o0 skc_152 (k := 0) (by decide) (by decide)).trans m120
          have m144 := (hF1.fld hr_o0 skc_152 (k := 9) (by decide) (by decide)).trans m121
          have m145 := (el_kept (hF1.arr hr_th skc_153 (by decide))).trans m122
          have hF := hF.more hF1 (by decide)
          try dsimp only at hw134
          obtain ⟨h148, h149, h150, hf151, hf152, hf153, hf154, hf155⟩ := hw134
          refine lv_istore_n (lv' := [(2, .int r133), (3, .int (nI i24)), (0, .ref o0), (1, .int 6)]) hx hb dX4_readAll_33 rfl hl (by decide) rfl (fun ls hl => ?_)
          refine lv_aload_n hx hb dX4_readAll_34 rfl (lv_at hl 2 rfl) ?_
          refine lv_bipush (v := 14) hx hb dX4_readAll_35 (by decide) ?_
          have hFc := gA_free hG hA hS
          refine va_callv (va_runV (As := [.int 14]) (rest := []) ⟨hx, hb, hml, hown, hts⟩ (c_addStep l dC dI kA adK adV G H nC nS o0 14 u136 sp9 u137 hT hr_o0 m139 m144 hr_sp9 (rg_t (a := 14) (by decide) (by first | decide | omega) (by first | decide | omega)) (by have q8 := ti_all u136; omega) m140 (by omega) (by omega)) (cwV 1 hts (goodIn_app (goodIn_r _ [10, 11, 12, 13] rfl (by decide +kernel)) (goodIn_ca (goodIn_r _ [7, 8, 9] rfl (by decide +kernel)) (bs2_in _ _))) rfl rfl rfl (by decide +kernel) ⟨(Nat.le_of_ble_eq_true rfl), (Nat.le_of_ble_eq_true rfl)⟩) ⟨fun a U g mk q => by obtain ⟨q0, q1, qK, qE⟩ := q; exact ⟨q0, q1, va_K.moved (u := U) (U := U.calling g mk a) (Vm.Alike.refl U.vm) qK, EVC.blind g mk a qE⟩, gH_rc hK hT hr_o0 shc_152 rfl, fun U hU hW => ⟨rfl, hU, va_K.moved hW.alike hK, hE.call hS hFc hU hW⟩⟩ rfl rfl hl.1 rfl (lv_room (Nat.le_of_ble_eq_true rfl)) dX4_readAll_37 ⟨(Nat.le_of_ble_eq_true rfl), (Nat.le_of_ble_eq_true rfl)⟩) hS (fun q _ h => hFc q h) hFc (fun u t H locs ht hvm hw157 hB _ _ hS => ?_)
          obtain ⟨u158, rfl⟩ : ∃ z, z = u := ⟨_, rfl⟩
          obtain ⟨hT, hF1, m159, m160⟩ := hB
          rw [ht] at hT hF1 m159 m160
          have m161 := m141.kept (hF1.arr hr_th skc_153 (by decide))
          have m162 := (hF1.fld hr_o0 skc_152 (k := 0) (by decide) (by decide)).trans m143
          have m163 := (hF1.fld hr_o0 skc_152 (k := 9) (by decide) (by decide)).trans m144
          have m164 := (el_kept (hF1.arr hr_th skc_153 (by decide))).trans m145
          have m165 := (hF1.fld hr_o0 skc_152 (k := 13) (by decide) (by decide)).trans m138
          have hF := hF.more hF1 (by decide)
          try dsimp only at hw157
          obtain ⟨h168, hf169⟩ := hw157
          refine lv_iinc (v := nI (i24 + 1)) (lv' := [(3, .int (nI (i24 + 1))), (2, .int r133), (0, .ref o0), (1, .int 6)]) hx hb dX4_readAll_40 hl (k := 1) rfl (nI_add i24 1) (by decide) rfl (fun ls hl => ?_)
          refine lv_goto (tgt := 8) hx hb dX4_readAll_43 (by decide) ?_
          exact ih105 (i24 + 1) (by omega) (by omega) r133 (cu u137 u136.toNatClampNeg 14) u135 u158 ⟨(by have q8 := ti_all r133; omega), (by have q8 := ti_all u135; omega), (by have q8 := ti_all u158; omega), (by have := hx_tv; have := (show u135.toInt = u135.toInt from rfl); omega), ⟨(by have l9 := (hj40.1.resolve_right (fun h8 => by have := h8.1; omega)).2; have a9 := hf128.resolve_right (fun h8 => by have := h8.2.1; omega); have h9 := hf153; rw [a9.2.2] at h9; rcases (show r133.toInt = 1 ∨ r133.toInt = 0 by omega) with h8 | h8 <;> rw [h8] at h9; (exact Or.inl ⟨h8, lp_s l9 (a9.1.trans (by decide)) h9⟩); exact Or.inr ⟨h8, lp_f l9 (a9.1.trans (by decide)) h9⟩), by omega⟩, (fun h8 => by have := tn_of (show s0.toInt = s0.toInt from rfl) (by omega); have := tn_of (show z36.toInt = z36.toInt from rfl) (by omega); have := tn_of (show u136.toInt = u136.toInt from rfl) (by omega); have := tn_of (show u158.toInt = u158.toInt from rfl) (by omega); have l9 := hj41 (by omega); have a9 := hf128.resolve_right (fun h8 => by have := h8.2.1; omega); have h9 := hf155 h8; rw [a9.2.2] at h9; rw [zC_3 (sx := z36.toNatClampNeg) (s2 := u136.toNatClampNeg) (c := 14) (by omega) (by omega) hf154 (by omega) rfl (by decide)]; exact zlI_s l9 (a9.1.trans (by decide)) h9), ((hj42.tr hf154 (by have := tn_of (show s0.toInt = s0.toInt from rfl) (by omega); have := tn_of (show z36.toInt = z36.toInt from rfl) (by omega); omega)).st (by have := tn_of (show s0.toInt = s0.toInt from rfl) (by omega); have := tn_of (show u136.toInt = u136.toInt from rfl) (by omega); omega)), (by have := (show u158.toInt = u158.toInt from rfl); have := (show u135.toInt = u135.toInt from rfl); omega)⟩ _ _ hT hF hS m161 m160 m162 m163 m164 m165 m159 ls (lv_sub hl [0, 1, 2, 3] rfl)
  exact key105 (400 - 0) 0 (by omega) (Nat.le_refl _) r1 u5 u3 u4 ⟨(by have q8 := ti_all r1; omega), (by have q8 := ti_all u3; omega), (by have q8 := ti_all u4; omega), (by have := hx_tv; have := (show u3.toInt = u3.toInt from rfl); omega), ⟨(by have h9 := hf21; rcases (show r1.toInt = 1 ∨ r1.toInt = 0 by omega) with h8 | h8 <;> rw [h8] at h9; (exact Or.inl ⟨h8, lp_1 h9⟩); exact Or.inr ⟨h8, lp_0 h9⟩), by omega⟩, (fun h8 => zlI_0 (hf23 h8)), (zKp.rf.tr hf22 (by have := tn_of (show s0.toInt = s0.toInt from rfl) (by omega); omega)), (by have := (show u4.toInt = u4.toInt from rfl); have := (show u3.toInt = u3.toInt from rfl); omega)⟩ _ _ hT hF hS m13 m8 m9 m12 m15 m6 m7 ls (lv_sub hl [0, 1, 2, 3] rfl)
def w_c_readAny6 : List Cond := .code yX4_readAny cX4_readAny 4 (some .boolean) :: (HAppend.hAppend (α := List Cond) (β := List Cond) (γ := List Cond) [.code yX4_readAll cX4_readAll 4 (some .boolean), .code yX4_readAtom cX4_readAtom 4 (some .boolean), .fieldLink RX4 11 "SeaLand$Law" "things" "[I", .fieldLink RX4 56 "SeaLand$Law" "at" "I", .code yX4_readComparison cX4_readComparison 3 (some .boolean), .code yX4_readSum cX4_readSum 3 (some .boolean), .code yX4_readPart cX4_readPart 2 (some .boolean), .code yX4_addStep cX4_addStep 2 none, .fieldLink RX4 63 "SeaLand$Law" "stepped" "I", .fieldLink RX4 39 "SeaLand$Law" "steps" "[I", .methodLink RX4 179 yX4_addStep, .instanceMethod yX4_addStep, .selects RX4 yX4_addStep yX4_addStep, .initialized RX4, .methodLink RX4 192 yX4_readPart, .instanceMethod yX4_readPart, .selects RX4 yX4_readPart yX4_readPart, .code yX4_take cX4_take 2 (some .boolean), .methodLink RX4 70 yX4_take, .instanceMethod yX4_take, .selects RX4 yX4_take yX4_take, .methodLink RX4 189 yX4_readSum, .instanceMethod yX4_readSum, .selects RX4 yX4_readSum yX4_readSum, .methodLink RX4 186 yX4_readComparison, .instanceMethod yX4_readComparison, .selects RX4 yX4_readComparison yX4_readComparison, .methodLink RX4 183 yX4_readAtom, .instanceMethod yX4_readAtom, .selects RX4 yX4_readAtom yX4_readAtom, .methodLink RX4 176 yX4_readAll, .instanceMethod yX4_readAll, .selects RX4 yX4_readAll yX4_readAll] bs2)
set_option maxHeartbeats 4000000 in
set_option maxRecDepth 100000 in
theorem c_readAny6 (l : Launch) (dC : Nat → ClassId) (dI : Nat → Nat → Nat) (kA : Nat → ClassId) (adK adV : Nat → Nat) (G : gT) (H0 : Heap) (nC nS : Int) (o0 : Nat) (th : Nat) (a0 : Int32) (s0 : Int32) (sp9 : Nat) (vT : Nat → Int32) (vS : Nat → Int32) (tv ix_tv : Int32) (tn : Int32) (K : Nat → Int) (X pS : Nat → Nat) (hT : gH (dC, dI) kA (SHc nC nS) G H0) (hr_o0 : G o0 = some 152) (hm_th : el H0 o0 (dI 7 0) = some (.ref th)) (hr_th : G th = some 153) (hm_a0 : el H0 o0 (dI 7 13) = some (.int a0)) (hm_s0 : el H0 o0 (dI 7 12) = some (.int s0)) (hm_sp9 : el H0 o0 (dI 7 9) = some (.ref sp9)) (hr_sp9 : G sp9 = some 162) (hq0 : 0 ≤ tn.toInt ∧ tn.toInt ≤ 400) (hq1 : 0 ≤ a0.toInt ∧ a0.toInt ≤ 400) (hat : a0.toInt ≤ tn.toInt) (hKK : ∀ m : Nat, m ≤ tn.toNatClampNeg → (vT m).toInt = K (pS m)) (hXX : ∀ m : Nat, m < tn.toNatClampNeg → pS (m + 1) = X (pS m)) (hq5 : 0 ≤ s0.toInt ∧ s0.toInt ≤ 400) (hsa : s0.toInt ≤ a0.toInt) (hc_vT : ct H0 th 401 vT) (hc_vS : ct H0 sp9 400 vS) (hx_tv : ix_tv.toInt = tn.toInt) (hm_tv : el H0 th ix_tv.toNatClampNeg = some (.int tv)) (hv_tv : 21 ≤ tv.toInt ∧ tv.toInt ≤ 21) (hgC : 0 ≤ nC ∧ nC ≤ 40) (hgS : 0 ≤ nS ∧ nS ≤ 60) : Met l yX4_readAny w_c_readAny6 ({ frames := 6, cells := 0, slots := 0, locals := 132 }) (va_Pc [.ref o0, .int 6] (fun U => U.heap = H0 ∧ va_K (dC, dI) vwCl (tyl kA) U ∧ EVC adK adV (gA G H0.size) U U.heap)) (va_Qi (fun (r : Int32) (u : Int32 × Int32 × (Nat → Int32)) => match u with | (a1, s1, vS1) => (0 ≤ a1.toInt ∧ a1.toInt ≤ 400) ∧ (0 ≤ s1.toInt ∧ s1.toInt ≤ 400) ∧ (0 ≤ r.toInt ∧ r.toInt ≤ 1) ∧ (a0.toInt ≤ a1.toInt ∧ a1.toInt ≤ tn.toInt) ∧ (s0.toInt ≤ s1.toInt ∧ s1.toInt - s0.toInt ≤ a1.toInt - a0.toInt) ∧ (coR K X (aR K X 0) (pS a0.toNatClampNeg) r.toInt (pS a1.toNatClampNeg)) ∧ (zKp vS vS1 s0.toNatClampNeg) ∧ (r.toInt = 1 → zlZ K X (zlZ K X (zaZ K X 0) 14) 15 (pS a0.toNatClampNeg) (zC (tz vS1) s0.toNatClampNeg s1.toNatClampNeg) (pS a1.toNatClampNeg))) (fun (u : Int32 × Int32 × (Nat → Int32)) (t : State) => match u with | (a1, s1, vS1) => gH (dC, dI) kA (SHc nC nS) G t.heap ∧ gF (dC, dI) SKc G ([(152, 12), (152, 13), (162, 0)] : List (Nat × Nat)) H0 t.heap ∧ el t.heap o0 (dI 7 13) = some (.int a1) ∧ el t.heap o0 (dI 7 12) = some (.int s1) ∧ ct t.heap sp9 400 vS1) (gA G H0.size)) 0 0 (gA G H0.size) := by
  refine Met.ofW (cc := cX4_readAny) (maxL := 4) (ret := (some .boolean)) (by decide) rfl ?_
  intro p e s m args below meth c s₁ B hml hv
  obtain ⟨rfl, hH0, hK, hE⟩ := hv
  have hx := B.exec
  have hb := B.bytes
  have hr := B.returns
  have hts := atoms_spec (ws := w_c_readAny6) B.pre
  have hown : s.vm.findClass RX4 = some m.cls := findClass_of_methodNamed B.named
  have hlocks := B.notSynchronized
  subst hH0
  generalize hAe : gA G s.heap.size = A at hE ⊢
  have hA : ∀ q : Nat, s.heap.size ≤ q → A q := fun q h => by rw [← hAe]; exact Or.inr h
  have hG := gA_of hAe
  have hS : va_S A s.heap s.heap [] := va_S.rf
  have hF : gF (dC, dI) SKc G ([(152, 12), (152, 13), (162, 0)] : List (Nat × Nat)) s.heap s.heap := gF.rf
  have hl := lv_entry ([.ref o0, .int 6]) (n := 4) (Nat.le_of_ble_eq_true rfl)
  rw [lg_entry_eq]
  generalize (lg_sl ([.ref o0, .int 6]) ++ List.replicate (4 - (lg_sl ([.ref o0, .int 6])).length) Slot.unset).toArray = ls at hl ⊢
  have hl : lv_has ls 4 [(0, .ref o0), (1, .int 6)] := hl
  refine lv_aload_n hx hb dX4_readAny_0 rfl (lv_at hl 0 rfl) ?_
  refine lv_iload_n hx hb dX4_readAny_1 rfl (lv_at hl 1 rfl) ?_
  have hFc := gA_free hG hA hS
  refine va_calli (va_runV (As := [.int 6]) (rest := []) ⟨hx, hb, hml, hown, hts⟩ (c_readAll6 l dC dI kA adK adV G s.heap nC nS o0 th a0 s0 sp9 vT vS tv ix_tv ix_tv K X pS hT hr_o0 hm_th hr_th hm_a0 hm_s0 hm_sp9 hr_sp9 (by have q8 := ti_all ix_tv; omega) (by have q8 := ti_all a0; omega) (by have := (show a0.toInt = a0.toInt from rfl); have := (show ix_tv.toInt = ix_tv.toInt from rfl); omega) (fun m hm => hKK m (Nat.le_trans hm (Nat.le_of_eq (tn_same hx_tv rfl rfl)))) (fun m hm => hXX m (Nat.lt_of_lt_of_eq hm (tn_same hx_tv rfl rfl))) (by have q8 := ti_all s0; omega) (by have := (show s0.toInt = s0.toInt from rfl); have := (show a0.toInt = a0.toInt from rfl); omega) hc_vT hc_vS (by have q9 := (show ix_tv.toInt = ix_tv.toInt from rfl); have := (show ix_tv.toInt = ix_tv.toInt from rfl); omega) hm_tv (by have q8 := ti_all tv; omega) (by omega) (by omega)) (cwV 1 hts (goodIn_app (goodIn_r _ [31, 32, 33, 14] rfl (by decide +kernel)) (goodIn_ca (goodIn_r _ [1, 2, 3, 4, 5, 6, 7, 8, 9, 10, 11, 12, 13, 14, 15, 16, 17, 18, 19, 20, 21, 22, 23, 24, 25, 26, 27, 28, 29, 30] rfl (by decide +kernel)) (bs2_in _ _))) rfl rfl rfl (by decide +kernel) ⟨(Nat.le_of_ble_eq_true rfl), (Nat.le_of_ble_eq_true rfl)⟩) ⟨fun a U g mk q => by obtain ⟨q0, q1, qK, qE⟩ := q; exact ⟨q0, q1, va_K.moved (u := U) (U := U.calling g mk a) (Vm.Alike.refl U.vm) qK, EVC.blind g mk a qE⟩, gH_rc hK hT hr_o0 shc_152 rfl, fun U hU hW => ⟨rfl, hU, va_K.moved hW.alike hK, hE.call hS hFc hU hW⟩⟩ rfl rfl hl.1 rfl (lv_room (Nat.le_of_ble_eq_true rfl)) dX4_readAny_2 ⟨(Nat.le_of_ble_eq_true rfl), (Nat.le_of_ble_eq_true rfl)⟩) hS (fun q _ h => hFc q h) hFc (fun r1 u t H locs ht hvm hw2 hB _ _ hS => ?_)
  obtain ⟨u3, u4, u5⟩ := u
  obtain ⟨hT, hF1, m6, m7, m8⟩ := hB
  rw [ht] at hT hF1 m6 m7 m8
  have m9 := (hF1.fld hr_o0 skc_152 (k := 0) (by decide) (by decide)).trans hm_th
  have m12 := (hF1.fld hr_o0 skc_152 (k := 9) (by decide) (by decide)).trans hm_sp9
  have m13 := hc_vT.kept (hF1.arr hr_th skc_153 (by decide))
  have m15 := (el_kept (hF1.arr hr_th skc_153 (by decide))).trans hm_tv
  have hF := hF.more hF1 (by decide)
  try dsimp only at hw2
  obtain ⟨h16, h17, h18, hf19, hf20, hf21, hf22, hf23⟩ := hw2
  refine lv_istore_n (lv' := [(2, .int r1), (0, .ref o0), (1, .int 6)]) hx hb dX4_readAny_5 rfl hl (by decide) rfl (fun ls hl => ?_)
  refine lv_iconst (v := 0) hx hb dX4_readAny_6 (by decide) ?_
  refine lv_istore_n (lv' := [(3, .int 0), (2, .int r1), (0, .ref o0), (1, .int 6)]) hx hb dX4_readAny_7 rfl hl (by decide) rfl (fun ls hl => ?_)
  have key105 : ∀ (n105 i24 : Nat), i24 + n105 = 400 → 0 ≤ i24 → ∀ (z25 : Int32), ∀ (V28 : Nat → Int32), ∀ (z33 : Int32), ∀ (z36 : Int32), ((0 ≤ z25.toInt ∧ z25.toInt ≤ 1) ∧ (0 ≤ z33.toInt ∧ z33.toInt ≤ 400) ∧ (0 ≤ z36.toInt ∧ z36.toInt ≤ 400) ∧ (a0.toInt ≤ z33.toInt ∧ z33.toInt ≤ tn.toInt) ∧ (((z25.toInt = 1 ∧ ∀ (r : Int) (f : Nat), lpQ K X (lpR K X (aR K X 0) 14) 15 (pS z33.toNatClampNeg) r f → coR K X (aR K X 0) (pS a0.toNatClampNeg) r f) ∨ (z25.toInt = 0 ∧ coR K X (aR K X 0) (pS a0.toNatClampNeg) 0 (pS z33.toNatClampNeg))) ∧ ((i24 : Nat) : Int) ≤ z33.toInt) ∧ (z25.toInt = 1 → zlI K X (zlZ K X (zaZ K X 0) 14) 15 (pS a0.toNatClampNeg) (zC (tz V28) s0.toNatClampNeg z36.toNatClampNeg) (pS z33.toNatClampNeg)) ∧ (zKp vS V28 s0.toNatClampNeg) ∧ (s0.toInt ≤ z36.toInt ∧ z36.toInt - s0.toInt ≤ z33.toInt - a0.toInt)) → ∀ (H : Heap) (locs : List Loc), gH (dC, dI) kA (SHc nC nS) G H → gF (dC, dI) SKc G ([(152, 12), (152, 13), (162, 0)] : List (Nat × Nat)) s.heap H → va_S A s.heap H locs → ct H th 401 vT → ct H sp9 400 V28 → el H o0 (dI 7 0) = some (.ref th) → el H o0 (dI 7 9) = some (.ref sp9) → el H th ix_tv.toNatClampNeg = some (.int tv) → el H o0 (dI 7 13) = some (.int z33) → el H o0 (dI 7 12) = some (.int z36) → ∀ ls : Array Slot, lv_has ls 4 [(3, .int (nI i24)), (2, .int z25), (0, .ref o0), (1, .int 6)] → W p l e (headSpec w_c_readAny6 ({ frames := 6, cells := 0, slots := 0, locals := 132 })).room s m #[.ref o0, .int 6] below meth c H locs 0 0 (MQ below (va_Qi (fun (r : Int32) (u : Int32 × Int32 × (Nat → Int32)) => match u with | (a1, s1, vS1) => (0 ≤ a1.toInt ∧ a1.toInt ≤ 400) ∧ (0 ≤ s1.toInt ∧ s1.toInt ≤ 400) ∧ (0 ≤ r.toInt ∧ r.toInt ≤ 1) ∧ (a0.toInt ≤ a1.toInt ∧ a1.toInt ≤ tn.toInt) ∧ (s0.toInt ≤ s1.toInt ∧ s1.toInt - s0.toInt ≤ a1.toInt - a0.toInt) ∧ (coR K X (aR K X 0) (pS a0.toNatClampNeg) r.toInt (pS a1.toNatClampNeg)) ∧ (zKp vS vS1 s0.toNatClampNeg) ∧ (r.toInt = 1 → zlZ K X (zlZ K X (zaZ K X 0) 14) 15 (pS a0.toNatClampNeg) (zC (tz vS1) s0.toNatClampNeg s1.toNatClampNeg) (pS a1.toNatClampNeg))) (fun (u : Int32 × Int32 × (Nat → Int32)) (t : State) => match u with | (a1, s1, vS1) => gH (dC, dI) kA (SHc nC nS) G t.heap ∧ gF (dC, dI) SKc G ([(152, 12), (152, 13), (162, 0)] : List (Nat × Nat)) s.heap t.heap ∧ el t.heap o0 (dI 7 13) = some (.int a1) ∧ el t.heap o0 (dI 7 12) = some (.int s1) ∧ ct t.heap sp9 400 vS1) A) #[.ref o0, .int 6] s 0 0 A) (F0 m 8 ls []) := by
    intro n105
    induction n105 with
    | zero =>
      intro i24 hn105 hlo106 z25 V28 z33 z36 ⟨h26, h34, h37, hj39, hj40, hj41, hj42, hj43⟩ H locs hT hF hS m27 m29 m30 m31 m32 m35 m38 ls hl
      obtain rfl : 400 = i24 := by omega
      refine lv_iload_n hx hb dX4_readAny_8 rfl (lv_at hl 0 rfl) ?_
      refine lv_sipush (v := 400) hx hb dX4_readAny_9 (by decide) ?_
      refine lv_icmp_ge (tgt := 46) hx hb dX4_readAny_12 (by decide) (fun c107 => ?_) (fun c107 => (by exfalso; have q9 : ((400 : Nat) : Int) < 400 := ti_nle c107 (by decide) (nI_toInt (by omega)); omega))
      have t108 : 400 ≤ ((400 : Nat) : Int) := ti_le c107 (by decide) (nI_toInt (by omega))
      refine lv_iload_n hx hb dX4_readAny_46 rfl (lv_at hl 1 rfl) ?_
      exact W.zret (v := z25) hx hb hr (nar_b (by have q8 := ti_all z25; omega)) (fun t ht hW => ⟨⟨z25, (z33, z36, V28), rfl, (by exact ⟨(by have q8 := ti_all z33; omega), (by have q8 := ti_all z36; omega), (by have q8 := ti_all z25; omega), (by omega), (by omega), (by rcases hj40.1 with ⟨h8, l9⟩ | ⟨h8, l9⟩; (rw [h8]; exact lp_e l9 (fun h7 => by have := tn_of (show z33.toInt = z33.toInt from rfl) (by omega); have := tn_of (show tn.toInt = tn.toInt from rfl) (by omega); have k9 := hKK tn.toNatClampNeg (Nat.le_refl _); have e9 := hc_vT.at hm_tv (by have q9 := tn_of hx_tv (by omega); omega); have k8 : (vT tn.toNatClampNeg).toInt = 21 := (by have q8 := congrArg Int32.toInt e9; rw [show ix_tv.toNatClampNeg = tn.toNatClampNeg from tn_same hx_tv rfl rfl] at q8; omega); rw [show z33.toNatClampNeg = tn.toNatClampNeg from by omega] at h7; omega)); rw [h8]; exact l9), hj42, (fun h8 => ⟨hj41 h8, fun h7 => by have := tn_of (show z33.toInt = z33.toInt from rfl) (by omega); have := tn_of (show tn.toInt = tn.toInt from rfl) (by omega); have k9 := hKK tn.toNatClampNeg (Nat.le_refl _); have e9 := hc_vT.at hm_tv (by have q9 := tn_of hx_tv (by omega); omega); have k8 : (vT tn.toNatClampNeg).toInt = 21 := (by have q8 := congrArg Int32.toInt e9; rw [show ix_tv.toNatClampNeg = tn.toNatClampNeg from tn_same hx_tv rfl rfl] at q8; omega); rw [show z33.toNatClampNeg = tn.toNatClampNeg from by omega] at h7; omega⟩)⟩), by (try dsimp only); rw [ht]; exact ⟨hT, hF, m35, m38, m29⟩⟩, hS.F ht⟩) hS.2.2 dX4_readAny_47
    | succ n105 ih105 =>
      intro i24 hn105 hlo106 z25 V28 z33 z36 ⟨h26, h34, h37, hj39, hj40, hj41, hj42, hj43⟩ H locs hT hF hS m27 m29 m30 m31 m32 m35 m38 ls hl
      have hlt108 : i24 < 400 := by omega
      refine lv_iload_n hx hb dX4_readAny_8 rfl (lv_at hl 0 rfl) ?_
      refine lv_sipush (v := 400) hx hb dX4_readAny_9 (by decide) ?_
      refine lv_icmp_ge (tgt := 46) hx hb dX4_readAny_12 (by decide) (fun c109 => (by exfalso; have q9 : 400 ≤ ((i24 : Nat) : Int) := ti_le c109 (by decide) (nI_toInt (by omega)); omega)) (fun c109 => ?_)
      have t110 : ((i24 : Nat) : Int) < 400 := ti_nle c109 (by decide) (nI_toInt (by omega))
      refine lv_iload_n hx hb dX4_readAny_15 rfl (lv_at hl 1 rfl) ?_
      refine lv_if_eq (tgt := 46) hx hb dX4_readAny_16 (by decide) (fun c111 => ?_) (fun c111 => ?_)
      · have t112 : z25.toInt = 0 := ti_eq c111 rfl (by decide)
        refine lv_iload_n hx hb dX4_readAny_46 rfl (lv_at hl 1 rfl) ?_
        exact W.zret (v := z25) hx hb hr (nar_b (by have q8 := ti_all z25; omega)) (fun t ht hW => ⟨⟨z25, (z33, z36, V28), rfl, (by exact ⟨(by have q8 := ti_all z33; omega), (by have q8 := ti_all z36; omega), (by have q8 := ti_all z25; omega), (by omega), (by omega), (by rcases hj40.1 with ⟨h8, l9⟩ | ⟨h8, l9⟩; (rw [h8]; exact lp_e l9 (fun h7 => by have := tn_of (show z33.toInt = z33.toInt from rfl) (by omega); have := tn_of (show tn.toInt = tn.toInt from rfl) (by omega); have k9 := hKK tn.toNatClampNeg (Nat.le_refl _); have e9 := hc_vT.at hm_tv (by have q9 := tn_of hx_tv (by omega); omega); have k8 : (vT tn.toNatClampNeg).toInt = 21 := (by have q8 := congrArg Int32.toInt e9; rw [show ix_tv.toNatClampNeg = tn.toNatClampNeg from tn_same hx_tv rfl rfl] at q8; omega); rw [show z33.toNatClampNeg = tn.toNatClampNeg from by omega] at h7; omega)); rw [h8]; exact l9), hj42, (fun h8 => ⟨hj41 h8, fun h7 => by have := tn_of (show z33.toInt = z33.toInt from rfl) (by omega); have := tn_of (show tn.toInt = tn.toInt from rfl) (by omega); have k9 := hKK tn.toNatClampNeg (Nat.le_refl _); have e9 := hc_vT.at hm_tv (by have q9 := tn_of hx_tv (by omega); omega); have k8 : (vT tn.toNatClampNeg).toInt = 21 := (by have q8 := congrArg Int32.toInt e9; rw [show ix_tv.toNatClampNeg = tn.toNatClampNeg from tn_same hx_tv rfl rfl] at q8; omega); rw [show z33.toNatClampNeg = tn.toNatClampNeg from by omega] at h7; omega⟩)⟩), by (try dsimp only); rw [ht]; exact ⟨hT, hF, m35, m38, m29⟩⟩, hS.F ht⟩) hS.2.2 dX4_readAny_47
      · have t113 : z25.toInt ≠ 0 := ti_ne c111 rfl (by decide)
        refine lv_aload_n hx hb dX4_readAny_19 rfl (lv_at hl 2 rfl) ?_
        refine lv_bipush (v := 15) hx hb dX4_readAny_20 (by decide) ?_
        have hFc := gA_free hG hA hS
        refine va_calli (va_runV (As := [.int 15]) (rest := []) ⟨hx, hb, hml, hown, hts⟩ (c_take l dC dI kA adK adV G H nC nS o0 15 th z33 vT tv ix_tv ix_tv K X pS hT hr_o0 m30 hr_th m35 (by have q8 := ti_all ix_tv; omega) (by have q8 := ti_all z33; omega) (by have := (show z33.toInt = z33.toInt from rfl); have := (show ix_tv.toInt = ix_tv.toInt from rfl); omega) (by have := (show (15 : Int32).toInt = 15 from (by decide)); omega) (fun m hm => hKK m (Nat.le_trans hm (Nat.le_of_eq (tn_same hx_tv rfl rfl)))) (fun m hm => hXX m (Nat.lt_of_lt_of_eq hm (tn_same hx_tv rfl rfl))) m27 (by have q9 := (show ix_tv.toInt = ix_tv.toInt from rfl); have := (show ix_tv.toInt = ix_tv.toInt from rfl); omega) m32 (by have q8 := ti_all tv; omega) (by omega) (by omega)) (cwV 1 hts (goodIn_app (goodIn_r _ [19, 20, 21, 14] rfl (by decide +kernel)) (goodIn_ca (goodIn_r _ [18, 3, 4] rfl (by decide +kernel)) (bs2_in _ _))) rfl rfl rfl (by decide +kernel) ⟨(Nat.le_of_ble_eq_true rfl), (Nat.le_of_ble_eq_true rfl)⟩) ⟨fun a U g mk q => by obtain ⟨q0, q1, qK, qE⟩ := q; exact ⟨q0, q1, va_K.moved (u := U) (U := U.calling g mk a) (Vm.Alike.refl U.vm) qK, EVC.blind g mk a qE⟩, gH_rc hK hT hr_o0 shc_152 rfl, fun U hU hW => ⟨rfl, hU, va_K.moved hW.alike hK, hE.call hS hFc hU hW⟩⟩ rfl rfl hl.1 rfl (lv_room (Nat.le_of_ble_eq_true rfl)) dX4_readAny_22 ⟨(Nat.le_of_ble_eq_true rfl), (Nat.le_of_ble_eq_true rfl)⟩) hS (fun q _ h => hFc q h) hFc (fun r114 u t H locs ht hvm hw115 hB _ _ hS => ?_)
        obtain ⟨u116, rfl⟩ : ∃ z, z = u := ⟨_, rfl⟩
        obtain ⟨hT, hF1, m117⟩ := hB
        rw [ht] at hT hF1 m117
        have m118 := m27.kept (hF1.arr hr_th skc_153 (by decide))
        have m119 := m29.kept (hF1.arr hr_sp9 skc_162 (by decide))
        have m120 := (hF1.fld hr_o0 skc_152 (k := 0) (by decide) (by decide)).trans m30
        have m121 := (hF1.fld hr_o0 skc_152 (k := 9) (by decide) (by decide)).trans m31
        have m122 := (el_kept (hF1.arr hr_th skc_153 (by decide))).trans m32
        have m124 := (hF1.fld hr_o0 skc_152 (k := 12) (by decide) (by decide)).trans m38
        have hF := hF.more hF1 (by decide)
        try dsimp only at hw115
        obtain ⟨h125, h126, hf127, hf128, hf129⟩ := hw115
        refine lv_if_eq (tgt := 46) hx hb dX4_readAny_25 (by decide) (fun c130 => ?_) (fun c130 => ?_)
        · have t131 : r114.toInt = 0 := ti_eq c130 rfl (by decide)
          refine lv_iload_n hx hb dX4_readAny_46 rfl (lv_at hl 1 rfl) ?_
          exact W.zret (v := z25) hx hb hr (nar_b (by have q8 := ti_all z25; omega)) (fun t ht hW => ⟨⟨z25, (u116, z36, V28), rfl, (by exact ⟨(by have q8 := ti_all u116; omega), (by have q8 := ti_all z36; omega), (by have q8 := ti_all z25; omega), (by omega), (by omega), (by have l9 := (hj40.1.resolve_right (fun h8 => by have := h8.1; omega)).2; have a9 := hf128.resolve_left (fun h8 => by have := h8.2.1; omega); rw [show z25.toInt = 1 from by omega, a9.2.2]; exact lp_e l9 (fun h7 => a9.1 (h7.trans (by decide)))), hj42, (fun h8 => ⟨by (try dsimp only); have a9 := hf128.resolve_left (fun h8 => by have := h8.2.1; omega); rw [a9.2.2]; exact hj41 h8, by (try dsimp only); have a9 := hf128.resolve_left (fun h8 => by have := h8.2.1; omega); rw [a9.2.2]; exact fun h7 => a9.1 (h7.trans (by decide))⟩)⟩), by (try dsimp only); rw [ht]; exact ⟨hT, hF, m117, m124, m119⟩⟩, hS.F ht⟩) hS.2.2 dX4_readAny_47
        · have t132 : r114.toInt ≠ 0 := ti_ne c130 rfl (by decide)
          refine lv_aload_n hx hb dX4_readAny_28 rfl (lv_at hl 2 rfl) ?_
          refine lv_iload_n hx hb dX4_readAny_29 rfl (lv_at hl 3 rfl) ?_
          have hFc := gA_free hG hA hS
          refine va_calli (va_runV (As := [.int 6]) (rest := []) ⟨hx, hb, hml, hown, hts⟩ (c_readAll6 l dC dI kA adK adV G H nC nS o0 th u116 z36 sp9 vT V28 tv ix_tv ix_tv K X pS hT hr_o0 m120 hr_th m117 m124 m121 hr_sp9 (by have q8 := ti_all ix_tv; omega) (by have q8 := ti_all u116; omega) (by have := (show u116.toInt = u116.toInt from rfl); have := (show ix_tv.toInt = ix_tv.toInt from rfl); omega) (fun m hm => hKK m (Nat.le_trans hm (Nat.le_of_eq (tn_same hx_tv rfl rfl)))) (fun m hm => hXX m (Nat.lt_of_lt_of_eq hm (tn_same hx_tv rfl rfl))) (by have q8 := ti_all z36; omega) (by have := (show z36.toInt = z36.toInt from rfl); have := (show u116.toInt = u116.toInt from rfl); omega) m118 m119 (by have q9 := (show ix_tv.toInt = ix_tv.toInt from rfl); have := (show ix_tv.toInt = ix_tv.toInt from rfl); omega) m122 (by have q8 := ti_all tv; omega) (by omega) (by omega)) (cwV 1 hts (goodIn_app (goodIn_r _ [31, 32, 33, 14] rfl (by decide +kernel)) (goodIn_ca (goodIn_r _ [1, 2, 3, 4, 5, 6, 7, 8, 9, 10, 11, 12, 13, 14, 15, 16, 17, 18, 19, 20, 21, 22, 23, 24, 25, 26, 27, 28, 29, 30] rfl (by decide +kernel)) (bs2_in _ _))) rfl rfl rfl (by decide +kernel) ⟨(Nat.le_of_ble_eq_true rfl), (Nat.le_of_ble_eq_true rfl)⟩) ⟨fun a U g mk q => by obtain ⟨q0, q1, qK, qE⟩ := q; exact ⟨q0, q1, va_K.moved (u := U) (U := U.calling g mk a) (Vm.Alike.refl U.vm) qK, EVC.blind g mk a qE⟩, gH_rc hK hT hr_o0 shc_152 rfl, fun U hU hW => ⟨rfl, hU, va_K.moved hW.alike hK, hE.call hS hFc hU hW⟩⟩ rfl rfl hl.1 rfl (lv_room (Nat.le_of_ble_eq_true rfl)) dX4_readAny_30 ⟨(Nat.le_of_ble_eq_true rfl), (Nat.le_of_ble_eq_true rfl)⟩) hS (fun q _ h => hFc q h) hFc (fun r133 u t H locs ht hvm hw134 hB _ _ hS => ?_)
          obtain ⟨u135, u136, u137⟩ := u
          obtain ⟨hT, hF1, m138, m139, m140⟩ := hB
          rw [ht] at hT hF1 m138 m139 m140
          have m141 := m118.kept (hF1.arr hr_th skc_153 (by decide))
          have m143 := (hF1.fld hr_o0 skc_152 (k := 0) (by decide) (by decide)).trans m120
          have m144 := (hF1.fld hr_o0 skc_152 (k := 9) (by decide) (by decide)).trans m121
          have m145 := (el_kept (hF1.arr hr_th skc_153 (by decide))).trans m122
          have hF := hF.more hF1 (by decide)
          try dsimp only at hw134
          obtain ⟨h148, h149, h150, hf151, hf152, hf153, hf154, hf155⟩ := hw134
          refine lv_istore_n (lv' := [(2, .int r133), (3, .int (nI i24)), (0, .ref o0), (1, .int 6)]) hx hb dX4_readAny_33 rfl hl (by decide) rfl (fun ls hl => ?_)
          refine lv_aload_n hx hb dX4_readAny_34 rfl (lv_at hl 2 rfl) ?_
          refine lv_bipush (v := 15) hx hb dX4_readAny_35 (by decide) ?_
          have hFc := gA_free hG hA hS
          refine va_callv (va_runV (As := [.int 15]) (rest := []) ⟨hx, hb, hml, hown, hts⟩ (c_addStep l dC dI kA adK adV G H nC nS o0 15 u136 sp9 u137 hT hr_o0 m139 m144 hr_sp9 (rg_t (a := 15) (by decide) (by first | decide | omega) (by first | decide | omega)) (by have q8 := ti_all u136; omega) m140 (by omega) (by omega)) (cwV 1 hts (goodIn_app (goodIn_r _ [11, 12, 13, 14] rfl (by decide +kernel)) (goodIn_ca (goodIn_r _ [8, 9, 10] rfl (by decide +kernel)) (bs2_in _ _))) rfl rfl rfl (by decide +kernel) ⟨(Nat.le_of_ble_eq_true rfl), (Nat.le_of_ble_eq_true rfl)⟩) ⟨fun a U g mk q => by obtain ⟨q0, q1, qK, qE⟩ := q; exact ⟨q0, q1, va_K.moved (u := U) (U := U.calling g mk a) (Vm.Alike.refl U.vm) qK, EVC.blind g mk a qE⟩, gH_rc hK hT hr_o0 shc_152 rfl, fun U hU hW => ⟨rfl, hU, va_K.moved hW.alike hK, hE.call hS hFc hU hW⟩⟩ rfl rfl hl.1 rfl (lv_room (Nat.le_of_ble_eq_true rfl)) dX4_readAny_37 ⟨(Nat.le_of_ble_eq_true rfl), (Nat.le_of_ble_eq_true rfl)⟩) hS (fun q _ h => hFc q h) hFc (fun u t H locs ht hvm hw157 hB _ _ hS => ?_)
          obtain ⟨u158, rfl⟩ : ∃ z, z = u := ⟨_, rfl⟩
          obtain ⟨hT, hF1, m159, m160⟩ := hB
          rw [ht] at hT hF1 m159 m160
          have m161 := m141.kept (hF1.arr hr_th skc_153 (by decide))
          have m162 := (hF1.fld hr_o0 skc_152 (k := 0) (by decide) (by decide)).trans m143
          have m163 := (hF1.fld hr_o0 skc_152 (k := 9) (by decide) (by decide)).trans m144
          have m164 := (el_kept (hF1.arr hr_th skc_153 (by decide))).trans m145
          have m165 := (hF1.fld hr_o0 skc_152 (k := 13) (by decide) (by decide)).trans m138
          have hF := hF.more hF1 (by decide)
          try dsimp only at hw157
          obtain ⟨h168, hf169⟩ := hw157
          refine lv_iinc (v := nI (i24 + 1)) (lv' := [(3, .int (nI (i24 + 1))), (2, .int r133), (0, .ref o0), (1, .int 6)]) hx hb dX4_readAny_40 hl (k := 1) rfl (nI_add i24 1) (by decide) rfl (fun ls hl => ?_)
          refine lv_goto (tgt := 8) hx hb dX4_readAny_43 (by decide) ?_
          exact ih105 (i24 + 1) (by omega) (by omega) r133 (cu u137 u136.toNatClampNeg 15) u135 u158 ⟨(by have q8 := ti_all r133; omega), (by have q8 := ti_all u135; omega), (by have q8 := ti_all u158; omega), (by have := hx_tv; have := (show u135.toInt = u135.toInt from rfl); omega), ⟨(by have l9 := (hj40.1.resolve_right (fun h8 => by have := h8.1; omega)).2; have a9 := hf128.resolve_right (fun h8 => by have := h8.2.1; omega); have h9 := hf153; rw [a9.2.2] at h9; rcases (show r133.toInt = 1 ∨ r133.toInt = 0 by omega) with h8 | h8 <;> rw [h8] at h9; (exact Or.inl ⟨h8, lp_s l9 (a9.1.trans (by decide)) h9⟩); exact Or.inr ⟨h8, lp_f l9 (a9.1.trans (by decide)) h9⟩), by omega⟩, (fun h8 => by have := tn_of (show s0.toInt = s0.toInt from rfl) (by omega); have := tn_of (show z36.toInt = z36.toInt from rfl) (by omega); have := tn_of (show u136.toInt = u136.toInt from rfl) (by omega); have := tn_of (show u158.toInt = u158.toInt from rfl) (by omega); have l9 := hj41 (by omega); have a9 := hf128.resolve_right (fun h8 => by have := h8.2.1; omega); have h9 := hf155 h8; rw [a9.2.2] at h9; rw [zC_3 (sx := z36.toNatClampNeg) (s2 := u136.toNatClampNeg) (c := 15) (by omega) (by omega) hf154 (by omega) rfl (by decide)]; exact zlI_s l9 (a9.1.trans (by decide)) h9), ((hj42.tr hf154 (by have := tn_of (show s0.toInt = s0.toInt from rfl) (by omega); have := tn_of (show z36.toInt = z36.toInt from rfl) (by omega); omega)).st (by have := tn_of (show s0.toInt = s0.toInt from rfl) (by omega); have := tn_of (show u136.toInt = u136.toInt from rfl) (by omega); omega)), (by have := (show u158.toInt = u158.toInt from rfl); have := (show u135.toInt = u135.toInt from rfl); omega)⟩ _ _ hT hF hS m161 m160 m162 m163 m164 m165 m159 ls (lv_sub hl [0, 1, 2, 3] rfl)
  exact key105 (400 - 0) 0 (by omega) (Nat.le_refl _) r1 u5 u3 u4 ⟨(by have q8 := ti_all r1; omega), (by have q8 := ti_all u3; omega), (by have q8 := ti_all u4; omega), (by have := hx_tv; have := (show u3.toInt = u3.toInt from rfl); omega), ⟨(by have h9 := hf21; rcases (show r1.toInt = 1 ∨ r1.toInt = 0 by omega) with h8 | h8 <;> rw [h8] at h9; (exact Or.inl ⟨h8, lp_1 h9⟩); exact Or.inr ⟨h8, lp_0 h9⟩), by omega⟩, (fun h8 => zlI_0 (hf23 h8)), (zKp.rf.tr hf22 (by have := tn_of (show s0.toInt = s0.toInt from rfl) (by omega); omega)), (by have := (show u4.toInt = u4.toInt from rfl); have := (show u3.toInt = u3.toInt from rfl); omega)⟩ _ _ hT hF hS m13 m8 m9 m12 m15 m6 m7 ls (lv_sub hl [0, 1, 2, 3] rfl)
def w_c_readAtom5 : List Cond := .code yX4_readAtom cX4_readAtom 4 (some .boolean) :: (HAppend.hAppend (α := List Cond) (β := List Cond) (γ := List Cond) [.fieldLink RX4 11 "SeaLand$Law" "things" "[I", .fieldLink RX4 56 "SeaLand$Law" "at" "I", .code yX4_readAny cX4_readAny 4 (some .boolean), .code yX4_readAll cX4_readAll 4 (some .boolean), .code yX4_readAtom cX4_readAtom 4 (some .boolean), .code yX4_readComparison cX4_readComparison 3 (some .boolean), .code yX4_readSum cX4_readSum 3 (some .boolean), .code yX4_readPart cX4_readPart 2 (some .boolean), .code yX4_addStep cX4_addStep 2 none, .fieldLink RX4 63 "SeaLand$Law" "stepped" "I", .fieldLink RX4 39 "SeaLand$Law" "steps" "[I", .methodLink RX4 179 yX4_addStep, .instanceMethod yX4_addStep, .selects RX4 yX4_addStep yX4_addStep, .initialized RX4, .methodLink RX4 192 yX4_readPart, .instanceMethod yX4_readPart, .selects RX4 yX4_readPart yX4_readPart, .code yX4_take cX4_take 2 (some .boolean), .methodLink RX4 70 yX4_take, .instanceMethod yX4_take, .selects RX4 yX4_take yX4_take, .methodLink RX4 189 yX4_readSum, .instanceMethod yX4_readSum, .selects RX4 yX4_readSum yX4_readSum, .methodLink RX4 186 yX4_readComparison, .instanceMethod yX4_readComparison, .selects RX4 yX4_readComparison yX4_readComparison, .methodLink RX4 183 yX4_readAtom, .instanceMethod yX4_readAtom, .selects RX4 yX4_readAtom yX4_readAtom, .methodLink RX4 176 yX4_readAll, .instanceMethod yX4_readAll, .selects RX4 yX4_readAll yX4_readAll, .methodLink RX4 173 yX4_readAny, .instanceMethod yX4_readAny, .selects RX4 yX4_readAny yX4_readAny] bs2)
set_option maxHeartbeats 4000000 in
set_option maxRecDepth 100000 in
theorem c_readAtom5 (l : Launch) (dC : Nat → ClassId) (dI : Nat → Nat → Nat) (kA : Nat → ClassId) (adK adV : Nat → Nat) (G : gT) (H0 : Heap) (nC nS : Int) (o0 : Nat) (th : Nat) (a0 : Int32) (s0 : Int32) (sp9 : Nat) (vT : Nat → Int32) (vS : Nat → Int32) (tv ix_tv : Int32) (tn : Int32) (K : Nat → Int) (X pS : Nat → Nat) (hT : gH (dC, dI) kA (SHc nC nS) G H0) (hr_o0 : G o0 = some 152) (hm_th : el H0 o0 (dI 7 0) = some (.ref th)) (hr_th : G th = some 153) (hm_a0 : el H0 o0 (dI 7 13) = some (.int a0)) (hm_s0 : el H0 o0 (dI 7 12) = some (.int s0)) (hm_sp9 : el H0 o0 (dI 7 9) = some (.ref sp9)) (hr_sp9 : G sp9 = some 162) (hq0 : 0 ≤ tn.toInt ∧ tn.toInt ≤ 400) (hq1 : 0 ≤ a0.toInt ∧ a0.toInt ≤ 400) (hat : a0.toInt ≤ tn.toInt) (hKK : ∀ m : Nat, m ≤ tn.toNatClampNeg → (vT m).toInt = K (pS m)) (hXX : ∀ m : Nat, m < tn.toNatClampNeg → pS (m + 1) = X (pS m)) (hq5 : 0 ≤ s0.toInt ∧ s0.toInt ≤ 400) (hsa : s0.toInt ≤ a0.toInt) (hc_vT : ct H0 th 401 vT) (hc_vS : ct H0 sp9 400 vS) (hx_tv : ix_tv.toInt = tn.toInt) (hm_tv : el H0 th ix_tv.toNatClampNeg = some (.int tv)) (hv_tv : 21 ≤ tv.toInt ∧ tv.toInt ≤ 21) (hgC : 0 ≤ nC ∧ nC ≤ 40) (hgS : 0 ≤ nS ∧ nS ≤ 60) : Met l yX4_readAtom w_c_readAtom5 ({ frames := 7, cells := 0, slots := 0, locals := 155 }) (va_Pc [.ref o0, .int 5] (fun U => U.heap = H0 ∧ va_K (dC, dI) vwCl (tyl kA) U ∧ EVC adK adV (gA G H0.size) U U.heap)) (va_Qi (fun (r : Int32) (u : Int32 × Int32 × (Nat → Int32)) => match u with | (a1, s1, vS1) => (0 ≤ a1.toInt ∧ a1.toInt ≤ 400) ∧ (0 ≤ s1.toInt ∧ s1.toInt ≤ 400) ∧ (0 ≤ r.toInt ∧ r.toInt ≤ 1) ∧ (a0.toInt ≤ a1.toInt ∧ a1.toInt ≤ tn.toInt) ∧ (s0.toInt ≤ s1.toInt ∧ s1.toInt - s0.toInt ≤ a1.toInt - a0.toInt) ∧ (aR K X 1 (pS a0.toNatClampNeg) r.toInt (pS a1.toNatClampNeg)) ∧ (zKp vS vS1 s0.toNatClampNeg) ∧ (r.toInt = 1 → zaZ K X 1 (pS a0.toNatClampNeg) (zC (tz vS1) s0.toNatClampNeg s1.toNatClampNeg) (pS a1.toNatClampNeg))) (fun (u : Int32 × Int32 × (Nat → Int32)) (t : State) => match u with | (a1, s1, vS1) => gH (dC, dI) kA (SHc nC nS) G t.heap ∧ gF (dC, dI) SKc G ([(152, 12), (152, 13), (162, 0)] : List (Nat × Nat)) H0 t.heap ∧ el t.heap o0 (dI 7 13) = some (.int a1) ∧ el t.heap o0 (dI 7 12) = some (.int s1) ∧ ct t.heap sp9 400 vS1) (gA G H0.size)) 0 0 (gA G H0.size) := by
  refine Met.ofW (cc := cX4_readAtom) (maxL := 4) (ret := (some .boolean)) (by decide) rfl ?_
  intro p e s m args below meth c s₁ B hml hv
  obtain ⟨rfl, hH0, hK, hE⟩ := hv
  have hx := B.exec
  have hb := B.bytes
  have hr := B.returns
  have hts := atoms_spec (ws := w_c_readAtom5) B.pre
  have hown : s.vm.findClass RX4 = some m.cls := findClass_of_methodNamed B.named
  have hlocks := B.notSynchronized
  subst hH0
  generalize hAe : gA G s.heap.size = A at hE ⊢
  have hA : ∀ q : Nat, s.heap.size ≤ q → A q := fun q h => by rw [← hAe]; exact Or.inr h
  have hG := gA_of hAe
  have hS : va_S A s.heap s.heap [] := va_S.rf
  have hF : gF (dC, dI) SKc G ([(152, 12), (152, 13), (162, 0)] : List (Nat × Nat)) s.heap s.heap := gF.rf
  have hl := lv_entry ([.ref o0, .int 5]) (n := 4) (Nat.le_of_ble_eq_true rfl)
  rw [lg_entry_eq]
  generalize (lg_sl ([.ref o0, .int 5]) ++ List.replicate (4 - (lg_sl ([.ref o0, .int 5])).length) Slot.unset).toArray = ls at hl ⊢
  have hl : lv_has ls 4 [(0, .ref o0), (1, .int 5)] := hl
  refine lv_aload_n hx hb dX4_readAtom_0 rfl (lv_at hl 0 rfl) ?_
  refine tw_getM (v := .ref th) hx hb hts bF2_X4 hown hK hT hr_o0 shc_152 rfl 0 (by decide) (ht_at2 hts 0 rfl) (fun _ h9 => h9) hm_th dX4_readAtom_1 ?_
  refine lv_aload_n hx hb dX4_readAtom_4 rfl (lv_at hl 0 rfl) ?_
  refine tw_getM (v := .int a0) hx hb hts bF2_X4 hown hK hT hr_o0 shc_152 rfl 13 (by decide) (ht_at2 hts 1 rfl) (fun _ h9 => h9) hm_a0 dX4_readAtom_5 ?_
  refine tw_iald (i := a0) hx hb hK hT hr_th shc_153 rfl (vin_t (a := a0.toInt) rfl (by omega) (by omega)) dX4_readAtom_8 (fun v9 m1 h9 => ?_)
  obtain ⟨x2, rfl, gx2, kx2⟩ := h9
  have cx2 := hc_vT.at m1 (by have q9 := tn_of (show a0.toInt = a0.toInt from rfl) (by omega); omega)
  have t3 : a0.toInt = ix_tv.toInt → x2.toInt = tv.toInt := fun h8 => congrArg Int32.toInt (el_same m1 hm_tv h8)
  have t4 : x2.toInt = K (pS a0.toNatClampNeg) := (congrArg Int32.toInt cx2).trans (hKK _ (by have := tn_of (show a0.toInt = a0.toInt from rfl) (by omega); have := tn_of (show tn.toInt = tn.toInt from rfl) (by omega); omega))
  refine lv_bipush (v := 13) hx hb dX4_readAtom_9 (by decide) ?_
  have t5 : -2147483648 ≤ x2.toInt ∧ x2.toInt ≤ 2147483647 := ti_all x2
  refine lv_icmp_ne (tgt := 18) hx hb dX4_readAtom_11 (by decide) (fun c6 => ?_) (fun c6 => ?_)
  · have t7 : x2.toInt ≠ 13 := ti_ne c6 rfl (by decide)
    refine lv_iconst (v := 0) hx hb dX4_readAtom_18 (by decide) ?_
    refine lv_istore_n (lv' := [(2, .int 0), (0, .ref o0), (1, .int 5)]) hx hb dX4_readAtom_19 rfl hl (by decide) rfl (fun ls hl => ?_)
    refine lv_iload_n hx hb dX4_readAtom_20 rfl (lv_at hl 0 rfl) ?_
    refine lv_if_ne (tgt := 43) hx hb dX4_readAtom_21 (by decide) (fun c8 => absurd c8 (by decide)) (fun c8 => ?_)
    refine lv_aload_n hx hb dX4_readAtom_24 rfl (lv_at hl 1 rfl) ?_
    refine tw_getM (v := .ref th) hx hb hts bF2_X4 hown hK hT hr_o0 shc_152 rfl 0 (by decide) (ht_at2 hts 0 rfl) (fun _ h9 => h9) hm_th dX4_readAtom_25 ?_
    refine lv_aload_n hx hb dX4_readAtom_28 rfl (lv_at hl 1 rfl) ?_
    refine tw_getM (v := .int a0) hx hb hts bF2_X4 hown hK hT hr_o0 shc_152 rfl 13 (by decide) (ht_at2 hts 1 rfl) (fun _ h9 => h9) hm_a0 dX4_readAtom_29 ?_
    refine tw_iald (i := a0) hx hb hK hT hr_th shc_153 rfl (vin_t (a := a0.toInt) rfl (by omega) (by omega)) dX4_readAtom_32 (fun v9 m9 h9 => ?_)
    obtain ⟨x10, rfl, gx10, kx10⟩ := h9
    have cx10 := hc_vT.at m9 (by have q9 := tn_of (show a0.toInt = a0.toInt from rfl) (by omega); omega)
    have t11 : a0.toInt = ix_tv.toInt → x10.toInt = tv.toInt := fun h8 => congrArg Int32.toInt (el_same m9 hm_tv h8)
    obtain rfl : x2 = x10 := (el_same m9 m1 rfl).symm
    refine lv_bipush (v := 16) hx hb dX4_readAtom_33 (by decide) ?_
    refine lv_icmp_eq (tgt := 43) hx hb dX4_readAtom_35 (by decide) (fun c12 => ?_) (fun c12 => ?_)
    · have t13 : x2.toInt = 16 := ti_eq c12 rfl (by decide)
      refine lv_iload_n hx hb dX4_readAtom_43 rfl (lv_at hl 2 rfl) ?_
      refine lv_bipush (v := 6) hx hb dX4_readAtom_44 (by decide) ?_
      refine lv_icmp_lt (tgt := 51) hx hb dX4_readAtom_46 (by decide) (fun c14 => ?_) (fun c14 => absurd c14 (by decide))
      refine lv_aload_n hx hb dX4_readAtom_51 rfl (lv_at hl 1 rfl) ?_
      refine lv_dup hx hb dX4_readAtom_52 rfl ?_
      refine tw_getM (v := .int a0) hx hb hts bF2_X4 hown hK hT hr_o0 shc_152 rfl 13 (by decide) (ht_at2 hts 1 rfl) (fun _ h9 => h9) hm_a0 dX4_readAtom_53 ?_
      refine lv_iconst (v := 1) hx hb dX4_readAtom_56 (by decide) ?_
      refine lv_iadd hx hb dX4_readAtom_57 ?_
      refine lv_topi (fun x15 ex15 => ?_)
      have t16 : x15.toInt = a0.toInt + 1 := ti_add ex15 rfl (by decide) (by omega) (by omega)
      refine tw_put (v := .int x15) (ty := .int) hx hb hts bF2_X4 tyX4 tyX4_ok nmX4 hown hK hT hG hS hr_o0 shc_152 rfl 13 (by decide) (ht_at2 hts 1 rfl) (fun _ h9 => h9) rfl (by decide +kernel) rfl rfl (gl_at rfl (gi_of (show x15.toInt = x15.toInt from rfl) (by omega) (by omega))) dX4_readAtom_58 (fun H locs hT oq m17 oj hS => ?_)
      have hF := hF.put hr_o0 skc_152 oq oj (by decide)
      have m18 := (oj 0 (by decide) (by decide)).trans hm_th
      have m19 := (oj 12 (by decide) (by decide)).trans hm_s0
      have m20 := (oj 9 (by decide) (by decide)).trans hm_sp9
      have m21 := hc_vT.kept (oq _ (gne hr_th hr_o0 (by decide)))
      have m22 := hc_vS.kept (oq _ (gne hr_sp9 hr_o0 (by decide)))
      have m23 := (el_kept (oq _ (gne hr_th hr_o0 (by decide)))).trans hm_tv
      refine lv_iload_n hx hb dX4_readAtom_61 rfl (lv_at hl 0 rfl) ?_
      refine lv_if_eq (tgt := 81) hx hb dX4_readAtom_62 (by decide) (fun c25 => ?_) (fun c25 => absurd c25 (by decide))
      refine lv_aload_n hx hb dX4_readAtom_81 rfl (lv_at hl 1 rfl) ?_
      refine lv_iload_n hx hb dX4_readAtom_82 rfl (lv_at hl 2 rfl) ?_
      refine lv_iconst (v := 1) hx hb dX4_readAtom_83 (by decide) ?_
      refine lv_iadd hx hb dX4_readAtom_84 ?_
      refine lv_topi (fun x26 ex26 => ?_)
      obtain rfl : x26 = 6 := ex26.trans (by decide)
      have hFc := gA_free hG hA hS
      refine va_calli (va_runV (As := [.int 6]) (rest := []) ⟨hx, hb, hml, hown, hts⟩ (c_readAny6 l dC dI kA adK adV G H nC nS o0 th x15 s0 sp9 vT vS tv ix_tv ix_tv K X pS hT hr_o0 m18 hr_th m17 m19 m20 hr_sp9 (by have q8 := ti_all ix_tv; omega) (by have q8 := ti_all x15; omega) (by have := (show x15.toInt = x15.toInt from rfl); have := (show ix_tv.toInt = ix_tv.toInt from rfl); omega) (fun m hm => hKK m (Nat.le_trans hm (Nat.le_of_eq (tn_same hx_tv rfl rfl)))) (fun m hm => hXX m (Nat.lt_of_lt_of_eq hm (tn_same hx_tv rfl rfl))) (by have q8 := ti_all s0; omega) (by have := (show s0.toInt = s0.toInt from rfl); have := (show x15.toInt = x15.toInt from rfl); omega) m21 m22 (by have q9 := (show ix_tv.toInt = ix_tv.toInt from rfl); have := (show ix_tv.toInt = ix_tv.toInt from rfl); omega) m23 (by have q8 := ti_all tv; omega) (by omega) (by omega)) (cwV 1 hts (goodIn_app (goodIn_r _ [35, 36, 37, 15] rfl (by decide +kernel)) (goodIn_ca (goodIn_r _ [3, 4, 5, 1, 2, 6, 7, 8, 9, 10, 11, 12, 13, 14, 15, 16, 17, 18, 19, 20, 21, 22, 23, 24, 25, 26, 27, 28, 29, 30, 31, 32, 33, 34] rfl (by decide +kernel)) (bs2_in _ _))) rfl rfl rfl (by decide +kernel) ⟨(Nat.le_of_ble_eq_true rfl), (Nat.le_of_ble_eq_true rfl)⟩) ⟨fun a U g mk q => by obtain ⟨q0, q1, qK, qE⟩ := q; exact ⟨q0, q1, va_K.moved (u := U) (U := U.calling g mk a) (Vm.Alike.refl U.vm) qK, EVC.blind g mk a qE⟩, gH_rc hK hT hr_o0 shc_152 rfl, fun U hU hW => ⟨rfl, hU, va_K.moved hW.alike hK, hE.call hS hFc hU hW⟩⟩ rfl rfl hl.1 rfl (lv_room (Nat.le_of_ble_eq_true rfl)) dX4_readAtom_85 ⟨(Nat.le_of_ble_eq_true rfl), (Nat.le_of_ble_eq_true rfl)⟩) hS (fun q _ h => hFc q h) hFc (fun r27 u t H locs ht hvm hw28 hB _ _ hS => ?_)
      obtain ⟨u29, u30, u31⟩ := u
      obtain ⟨hT, hF1, m32, m33, m34⟩ := hB
      rw [ht] at hT hF1 m32 m33 m34
      have m35 := (hF1.fld hr_o0 skc_152 (k := 0) (by decide) (by decide)).trans m18
      have m38 := m21.kept (hF1.arr hr_th skc_153 (by decide))
      have m40 := (el_kept (hF1.arr hr_th skc_153 (by decide))).trans m23
      have hF := hF.more hF1 (by decide)
      try dsimp only at hw28
      obtain ⟨h43, h44, h45, hf46, hf47, hf48, hf49, hf50⟩ := hw28
      refine lv_if_eq (tgt := 104) hx hb dX4_readAtom_88 (by decide) (fun c51 => ?_) (fun c51 => ?_)
      · have t52 : r27.toInt = 0 := ti_eq c51 rfl (by decide)
        refine lv_iconst (v := 0) hx hb dX4_readAtom_104 (by decide) ?_
        exact W.zret (v := 0) hx hb hr (by decide) (fun t ht hW => ⟨⟨0, (u29, u30, u31), rfl, (by exact ⟨(by have q8 := ti_all u29; omega), (by have q8 := ti_all u30; omega), (rg_t (a := 0) (by decide) (by first | decide | omega) (by first | decide | omega)), (by omega), (by omega), (by have h9 := hf48; rw [(show pS x15.toNatClampNeg = X (pS a0.toNatClampNeg) from by rw [show x15.toNatClampNeg = a0.toNatClampNeg + 1 from by have := tn_of (show a0.toInt = a0.toInt from rfl) (by omega); have := tn_of (show x15.toInt = x15.toInt from rfl) (by omega); omega]; exact hXX _ (by have := tn_of (show a0.toInt = a0.toInt from rfl) (by omega); have := tn_of (show tn.toInt = tn.toInt from rfl) (by omega); omega))] at h9; rw [show r27.toInt = 0 from by omega] at h9; exact Or.inr (Or.inl ⟨by omega, Or.inl ⟨h9, by decide⟩⟩)), (zKp.rf.tr hf49 (by have := tn_of (show s0.toInt = s0.toInt from rfl) (by omega); omega)), (fun h8 => absurd h8 (by decide))⟩), by (try dsimp only); rw [ht]; exact ⟨hT, hF, m32, m33, m34⟩⟩, hS.F ht⟩) hS.2.2 dX4_readAtom_105
      · have t53 : r27.toInt ≠ 0 := ti_ne c51 rfl (by decide)
        refine lv_aload_n hx hb dX4_readAtom_91 rfl (lv_at hl 1 rfl) ?_
        refine lv_bipush (v := 17) hx hb dX4_readAtom_92 (by decide) ?_
        have hFc := gA_free hG hA hS
        refine va_calli (va_runV (As := [.int 17]) (rest := []) ⟨hx, hb, hml, hown, hts⟩ (c_take l dC dI kA adK adV G H nC nS o0 17 th u29 vT tv ix_tv ix_tv K X pS hT hr_o0 m35 hr_th m32 (by have q8 := ti_all ix_tv; omega) (by have q8 := ti_all u29; omega) (by have := (show u29.toInt = u29.toInt from rfl); have := (show ix_tv.toInt = ix_tv.toInt from rfl); omega) (by have := (show (17 : Int32).toInt = 17 from (by decide)); omega) (fun m hm => hKK m (Nat.le_trans hm (Nat.le_of_eq (tn_same hx_tv rfl rfl)))) (fun m hm => hXX m (Nat.lt_of_lt_of_eq hm (tn_same hx_tv rfl rfl))) m38 (by have q9 := (show ix_tv.toInt = ix_tv.toInt from rfl); have := (show ix_tv.toInt = ix_tv.toInt from rfl); omega) m40 (by have q8 := ti_all tv; omega) (by omega) (by omega)) (cwV 1 hts (goodIn_app (goodIn_r _ [20, 21, 22, 15] rfl (by decide +kernel)) (goodIn_ca (goodIn_r _ [19, 1, 2] rfl (by decide +kernel)) (bs2_in _ _))) rfl rfl rfl (by decide +kernel) ⟨(Nat.le_of_ble_eq_true rfl), (Nat.le_of_ble_eq_true rfl)⟩) ⟨fun a U g mk q => by obtain ⟨q0, q1, qK, qE⟩ := q; exact ⟨q0, q1, va_K.moved (u := U) (U := U.calling g mk a) (Vm.Alike.refl U.vm) qK, EVC.blind g mk a qE⟩, gH_rc hK hT hr_o0 shc_152 rfl, fun U hU hW => ⟨rfl, hU, va_K.moved hW.alike hK, hE.call hS hFc hU hW⟩⟩ rfl rfl hl.1 rfl (lv_room (Nat.le_of_ble_eq_true rfl)) dX4_readAtom_94 ⟨(Nat.le_of_ble_eq_true rfl), (Nat.le_of_ble_eq_true rfl)⟩) hS (fun q _ h => hFc q h) hFc (fun r54 u t H locs ht hvm hw55 hB _ _ hS => ?_)
        obtain ⟨u56, rfl⟩ : ∃ z, z = u := ⟨_, rfl⟩
        obtain ⟨hT, hF1, m57⟩ := hB
        rw [ht] at hT hF1 m57
        have m64 := (hF1.fld hr_o0 skc_152 (k := 12) (by decide) (by decide)).trans m33
        have m65 := m34.kept (hF1.arr hr_sp9 skc_162 (by decide))
        have hF := hF.more hF1 (by decide)
        try dsimp only at hw55
        obtain ⟨h66, h67, hf68, hf69, hf70⟩ := hw55
        refine lv_if_eq (tgt := 104) hx hb dX4_readAtom_97 (by decide) (fun c71 => ?_) (fun c71 => ?_)
        · have t72 : r54.toInt = 0 := ti_eq c71 rfl (by decide)
          refine lv_iconst (v := 0) hx hb dX4_readAtom_104 (by decide) ?_
          exact W.zret (v := 0) hx hb hr (by decide) (fun t ht hW => ⟨⟨0, (u56, u30, u31), rfl, (by exact ⟨(by have q8 := ti_all u56; omega), (by have q8 := ti_all u30; omega), (rg_t (a := 0) (by decide) (by first | decide | omega) (by first | decide | omega)), (by omega), (by omega), (by have h9 := hf48; rw [(show pS x15.toNatClampNeg = X (pS a0.toNatClampNeg) from by rw [show x15.toNatClampNeg = a0.toNatClampNeg + 1 from by have := tn_of (show a0.toInt = a0.toInt from rfl) (by omega); have := tn_of (show x15.toInt = x15.toInt from rfl) (by omega); omega]; exact hXX _ (by have := tn_of (show a0.toInt = a0.toInt from rfl) (by omega); have := tn_of (show tn.toInt = tn.toInt from rfl) (by omega); omega))] at h9; rw [show r27.toInt = 1 from by omega] at h9; have t9 := hf69; exact Or.inr (Or.inl ⟨by omega, Or.inr ⟨_, h9, (by have q0 : (0 : Int32).toInt = 0 := (by decide); have q1 : (1 : Int32).toInt = 1 := (by decide); rcases t9 with ⟨x1, x2, x3⟩ | ⟨x1, x2, x3⟩; (exact Or.inl ⟨x1.trans (by decide), by omega, x3⟩); exact Or.inr ⟨fun h7 => x1 (h7.trans (by decide)), by omega, x3⟩)⟩⟩)), (zKp.rf.tr hf49 (by have := tn_of (show s0.toInt = s0.toInt from rfl) (by omega); omega)), (fun h8 => absurd h8 (by decide))⟩), by (try dsimp only); rw [ht]; exact ⟨hT, hF, m57, m64, m65⟩⟩, hS.F ht⟩) hS.2.2 dX4_readAtom_105
        · have t73 : r54.toInt ≠ 0 := ti_ne c71 rfl (by decide)
          refine lv_iconst (v := 1) hx hb dX4_readAtom_100 (by decide) ?_
          refine lv_goto (tgt := 105) hx hb dX4_readAtom_101 (by decide) ?_
          exact W.zret (v := 1) hx hb hr (by decide) (fun t ht hW => ⟨⟨1, (u56, u30, u31), rfl, (by exact ⟨(by have q8 := ti_all u56; omega), (by have q8 := ti_all u30; omega), (rg_t (a := 1) (by decide) (by first | decide | omega) (by first | decide | omega)), (by omega), (by omega), (by have h9 := hf48; rw [(show pS x15.toNatClampNeg = X (pS a0.toNatClampNeg) from by rw [show x15.toNatClampNeg = a0.toNatClampNeg + 1 from by have := tn_of (show a0.toInt = a0.toInt from rfl) (by omega); have := tn_of (show x15.toInt = x15.toInt from rfl) (by omega); omega]; exact hXX _ (by have := tn_of (show a0.toInt = a0.toInt from rfl) (by omega); have := tn_of (show tn.toInt = tn.toInt from rfl) (by omega); omega))] at h9; rw [show r27.toInt = 1 from by omega] at h9; have t9 := hf69; exact Or.inr (Or.inl ⟨by omega, Or.inr ⟨_, h9, (by have q0 : (0 : Int32).toInt = 0 := (by decide); have q1 : (1 : Int32).toInt = 1 := (by decide); rcases t9 with ⟨x1, x2, x3⟩ | ⟨x1, x2, x3⟩; (exact Or.inl ⟨x1.trans (by decide), by omega, x3⟩); exact Or.inr ⟨fun h7 => x1 (h7.trans (by decide)), by omega, x3⟩)⟩⟩)), (zKp.rf.tr hf49 (by have := tn_of (show s0.toInt = s0.toInt from rfl) (by omega); omega)), (fun h8 => by have h9 := hf50 (by omega); rw [(show pS x15.toNatClampNeg = X (pS a0.toNatClampNeg) from by rw [show x15.toNatClampNeg = a0.toNatClampNeg + 1 from by have := tn_of (show a0.toInt = a0.toInt from rfl) (by omega); have := tn_of (show x15.toInt = x15.toInt from rfl) (by omega); omega]; exact hXX _ (by have := tn_of (show a0.toInt = a0.toInt from rfl) (by omega); have := tn_of (show tn.toInt = tn.toInt from rfl) (by omega); omega))] at h9; have t9 := hf69.resolve_right (fun h7 => by have := h7.2.1; omega); exact Or.inr (Or.inl ⟨by omega, _, h9, t9.1.trans (by decide), t9.2.2⟩))⟩), by (try dsimp only); rw [ht]; exact ⟨hT, hF, m57, m64, m65⟩⟩, hS.F ht⟩) hS.2.2 dX4_readAtom_105
    · have t74 : x2.toInt ≠ 16 := ti_ne c12 rfl (by decide)
      refine lv_aload_n hx hb dX4_readAtom_38 rfl (lv_at hl 1 rfl) ?_
      have hFc := gA_free hG hA hS
      refine va_calli (va_runV (As := []) (rest := []) ⟨hx, hb, hml, hown, hts⟩ (c_readComparison l dC dI kA adK adV G s.heap nC nS o0 th a0 s0 sp9 vT vS tv ix_tv ix_tv K X pS hT hr_o0 hm_th hr_th hm_a0 hm_s0 hm_sp9 hr_sp9 (by have q8 := ti_all ix_tv; omega) (by have q8 := ti_all a0; omega) (by have := (show a0.toInt = a0.toInt from rfl); have := (show ix_tv.toInt = ix_tv.toInt from rfl); omega) (fun m hm => hKK m (Nat.le_trans hm (Nat.le_of_eq (tn_same hx_tv rfl rfl)))) (fun m hm => hXX m (Nat.lt_of_lt_of_eq hm (tn_same hx_tv rfl rfl))) (by have q8 := ti_all s0; omega) (by have := (show s0.toInt = s0.toInt from rfl); have := (show a0.toInt = a0.toInt from rfl); omega) hc_vT hc_vS (by have q9 := (show ix_tv.toInt = ix_tv.toInt from rfl); have := (show ix_tv.toInt = ix_tv.toInt from rfl); omega) hm_tv (by have q8 := ti_all tv; omega) (by omega) (by omega)) (cwV 0 hts (goodIn_app (goodIn_r _ [26, 27, 28, 15] rfl (by decide +kernel)) (goodIn_ca (goodIn_r _ [6, 7, 8, 1, 2, 9, 10, 11, 12, 13, 14, 15, 16, 17, 18, 19, 20, 21, 22, 23, 24, 25] rfl (by decide +kernel)) (bs2_in _ _))) rfl rfl rfl (by decide +kernel) ⟨(Nat.le_of_ble_eq_true rfl), (Nat.le_of_ble_eq_true rfl)⟩) ⟨fun a U g mk q => by obtain ⟨q0, q1, qK, qE⟩ := q; exact ⟨q0, q1, va_K.moved (u := U) (U := U.calling g mk a) (Vm.Alike.refl U.vm) qK, EVC.blind g mk a qE⟩, gH_rc hK hT hr_o0 shc_152 rfl, fun U hU hW => ⟨rfl, hU, va_K.moved hW.alike hK, hE.call hS hFc hU hW⟩⟩ rfl rfl hl.1 rfl (lv_room (Nat.le_of_ble_eq_true rfl)) dX4_readAtom_39 ⟨(Nat.le_of_ble_eq_true rfl), (Nat.le_of_ble_eq_true rfl)⟩) hS (fun q _ h => hFc q h) hFc (fun r75 u t H locs ht hvm hw76 hB _ _ hS => ?_)
      obtain ⟨u77, u78, u79⟩ := u
      obtain ⟨hT, hF1, m80, m81, m82⟩ := hB
      rw [ht] at hT hF1 m80 m81 m82
      have hF := hF.more hF1 (by decide)
      try dsimp only at hw76
      obtain ⟨h91, h92, h93, hf94, hf95, hf96, hf97, hf98⟩ := hw76
      exact W.zret (v := r75) hx hb hr (nar_b (by have q8 := ti_all r75; omega)) (fun t ht hW => ⟨⟨r75, (u77, u78, u79), rfl, (by exact ⟨(by have q8 := ti_all u77; omega), (by have q8 := ti_all u78; omega), (by have q8 := ti_all r75; omega), (by omega), (by omega), (Or.inr (Or.inr ⟨by omega, hf96⟩)), (zKp.rf.tr hf97 (by have := tn_of (show s0.toInt = s0.toInt from rfl) (by omega); omega)), (fun h8 => Or.inr (Or.inr ⟨by omega, hf98 h8⟩))⟩), by (try dsimp only); rw [ht]; exact ⟨hT, hF, m80, m81, m82⟩⟩, hS.F ht⟩) hS.2.2 dX4_readAtom_42
  · have t99 : x2.toInt = 13 := ti_eq c6 rfl (by decide)
    refine lv_iconst (v := 1) hx hb dX4_readAtom_14 (by decide) ?_
    refine lv_goto (tgt := 19) hx hb dX4_readAtom_15 (by decide) ?_
    refine lv_istore_n (lv' := [(2, .int 1), (0, .ref o0), (1, .int 5)]) hx hb dX4_readAtom_19 rfl hl (by decide) rfl (fun ls hl => ?_)
    refine lv_iload_n hx hb dX4_readAtom_20 rfl (lv_at hl 0 rfl) ?_
    refine lv_if_ne (tgt := 43) hx hb dX4_readAtom_21 (by decide) (fun c100 => ?_) (fun c100 => absurd c100 (by decide))
    refine lv_iload_n hx hb dX4_readAtom_43 rfl (lv_at hl 2 rfl) ?_
    refine lv_bipush (v := 6) hx hb dX4_readAtom_44 (by decide) ?_
    refine lv_icmp_lt (tgt := 51) hx hb dX4_readAtom_46 (by decide) (fun c101 => ?_) (fun c101 => absurd c101 (by decide))
    refine lv_aload_n hx hb dX4_readAtom_51 rfl (lv_at hl 1 rfl) ?_
    refine lv_dup hx hb dX4_readAtom_52 rfl ?_
    refine tw_getM (v := .int a0) hx hb hts bF2_X4 hown hK hT hr_o0 shc_152 rfl 13 (by decide) (ht_at2 hts 1 rfl) (fun _ h9 => h9) hm_a0 dX4_readAtom_53 ?_
    refine lv_iconst (v := 1) hx hb dX4_readAtom_56 (by decide) ?_
    refine lv_iadd hx hb dX4_readAtom_57 ?_
    refine lv_topi (fun x102 ex102 => ?_)
    have t103 : x102.toInt = a0.toInt + 1 := ti_add ex102 rfl (by decide) (by omega) (by omega)
    refine tw_put (v := .int x102) (ty := .int) hx hb hts bF2_X4 tyX4 tyX4_ok nmX4 hown hK hT hG hS hr_o0 shc_152 rfl 13 (by decide) (ht_at2 hts 1 rfl) (fun _ h9 => h9) rfl (by decide +kernel) rfl rfl (gl_at rfl (gi_of (show x102.toInt = x102.toInt from rfl) (by omega) (by omega))) dX4_readAtom_58 (fun H locs hT oq m104 oj hS => ?_)
    have hF := hF.put hr_o0 skc_152 oq oj (by decide)
    have m105 := (oj 0 (by decide) (by decide)).trans hm_th
    have m106 := (oj 12 (by decide) (by decide)).trans hm_s0
    have m107 := (oj 9 (by decide) (by decide)).trans hm_sp9
    have m108 := hc_vT.kept (oq _ (gne hr_th hr_o0 (by decide)))
    have m109 := hc_vS.kept (oq _ (gne hr_sp9 hr_o0 (by decide)))
    have m110 := (el_kept (oq _ (gne hr_th hr_o0 (by decide)))).trans hm_tv
    refine lv_iload_n hx hb dX4_readAtom_61 rfl (lv_at hl 0 rfl) ?_
    refine lv_if_eq (tgt := 81) hx hb dX4_readAtom_62 (by decide) (fun c112 => absurd c112 (by decide)) (fun c112 => ?_)
    refine lv_aload_n hx hb dX4_readAtom_65 rfl (lv_at hl 1 rfl) ?_
    refine lv_iload_n hx hb dX4_readAtom_66 rfl (lv_at hl 2 rfl) ?_
    refine lv_iconst (v := 1) hx hb dX4_readAtom_67 (by decide) ?_
    refine lv_iadd hx hb dX4_readAtom_68 ?_
    refine lv_topi (fun x113 ex113 => ?_)
    obtain rfl : x113 = 6 := ex113.trans (by decide)
    have hFc := gA_free hG hA hS
    refine va_calli (va_runV (As := [.int 6]) (rest := []) ⟨hx, hb, hml, hown, hts⟩ (c_readAtom6 l dC dI kA adK adV G H nC nS o0 th x102 s0 sp9 vT vS tv ix_tv ix_tv K X pS hT hr_o0 m105 hr_th m104 m106 m107 hr_sp9 (by have q8 := ti_all ix_tv; omega) (by have q8 := ti_all x102; omega) (by have := (show x102.toInt = x102.toInt from rfl); have := (show ix_tv.toInt = ix_tv.toInt from rfl); omega) (fun m hm => hKK m (Nat.le_trans hm (Nat.le_of_eq (tn_same hx_tv rfl rfl)))) (fun m hm => hXX m (Nat.lt_of_lt_of_eq hm (tn_same hx_tv rfl rfl))) (by have q8 := ti_all s0; omega) (by have := (show s0.toInt = s0.toInt from rfl); have := (show x102.toInt = x102.toInt from rfl); omega) m108 m109 (by have q9 := (show ix_tv.toInt = ix_tv.toInt from rfl); have := (show ix_tv.toInt = ix_tv.toInt from rfl); omega) m110 (by have q8 := ti_all tv; omega) (by omega) (by omega)) (cwV 1 hts (goodIn_app (goodIn_r _ [29, 30, 31, 15] rfl (by decide +kernel)) (goodIn_ca (goodIn_r _ [5, 1, 2, 6, 7, 8, 9, 10, 11, 12, 13, 14, 15, 16, 17, 18, 19, 20, 21, 22, 23, 24, 25, 26, 27, 28] rfl (by decide +kernel)) (bs2_in _ _))) rfl rfl rfl (by decide +kernel) ⟨(Nat.le_of_ble_eq_true rfl), (Nat.le_of_ble_eq_true rfl)⟩) ⟨fun a U g mk q => by obtain ⟨q0, q1, qK, qE⟩ := q; exact ⟨q0, q1, va_K.moved (u := U) (U := U.calling g mk a) (Vm.Alike.refl U.vm) qK, EVC.blind g mk a qE⟩, gH_rc hK hT hr_o0 shc_152 rfl, fun U hU hW => ⟨rfl, hU, va_K.moved hW.alike hK, hE.call hS hFc hU hW⟩⟩ rfl rfl hl.1 rfl (lv_room (Nat.le_of_ble_eq_true rfl)) dX4_readAtom_69 ⟨(Nat.le_of_ble_eq_true rfl), (Nat.le_of_ble_eq_true rfl)⟩) hS (fun q _ h => hFc q h) hFc (fun r114 u t H locs ht hvm hw115 hB _ _ hS => ?_)
    obtain ⟨u116, u117, u118⟩ := u
    obtain ⟨hT, hF1, m119, m120, m121⟩ := hB
    rw [ht] at hT hF1 m119 m120 m121
    have m124 := (hF1.fld hr_o0 skc_152 (k := 9) (by decide) (by decide)).trans m107
    have hF := hF.more hF1 (by decide)
    try dsimp only at hw115
    obtain ⟨h130, h131, h132, hf133, hf134, hf135, hf136, hf137⟩ := hw115
    refine lv_istore_n (lv' := [(3, .int r114), (2, .int 1), (0, .ref o0), (1, .int 5)]) hx hb dX4_readAtom_72 rfl hl (by decide) rfl (fun ls hl => ?_)
    refine lv_aload_n hx hb dX4_readAtom_73 rfl (lv_at hl 2 rfl) ?_
    refine lv_bipush (v := 13) hx hb dX4_readAtom_74 (by decide) ?_
    have hFc := gA_free hG hA hS
    refine va_callv (va_runV (As := [.int 13]) (rest := []) ⟨hx, hb, hml, hown, hts⟩ (c_addStep l dC dI kA adK adV G H nC nS o0 13 u117 sp9 u118 hT hr_o0 m120 m124 hr_sp9 (rg_t (a := 13) (by decide) (by first | decide | omega) (by first | decide | omega)) (by have q8 := ti_all u117; omega) m121 (by omega) (by omega)) (cwV 1 hts (goodIn_app (goodIn_r _ [12, 13, 14, 15] rfl (by decide +kernel)) (goodIn_ca (goodIn_r _ [9, 10, 11] rfl (by decide +kernel)) (bs2_in _ _))) rfl rfl rfl (by decide +kernel) ⟨(Nat.le_of_ble_eq_true rfl), (Nat.le_of_ble_eq_true rfl)⟩) ⟨fun a U g mk q => by obtain ⟨q0, q1, qK, qE⟩ := q; exact ⟨q0, q1, va_K.moved (u := U) (U := U.calling g mk a) (Vm.Alike.refl U.vm) qK, EVC.blind g mk a qE⟩, gH_rc hK hT hr_o0 shc_152 rfl, fun U hU hW => ⟨rfl, hU, va_K.moved hW.alike hK, hE.call hS hFc hU hW⟩⟩ rfl rfl hl.1 rfl (lv_room (Nat.le_of_ble_eq_true rfl)) dX4_readAtom_76 ⟨(Nat.le_of_ble_eq_true rfl), (Nat.le_of_ble_eq_true rfl)⟩) hS (fun q _ h => hFc q h) hFc (fun u t H locs ht hvm hw139 hB _ _ hS => ?_)
    obtain ⟨u140, rfl⟩ : ∃ z, z = u := ⟨_, rfl⟩
    obtain ⟨hT, hF1, m141, m142⟩ := hB
    rw [ht] at hT hF1 m141 m142
    have m148 := (hF1.fld hr_o0 skc_152 (k := 13) (by decide) (by decide)).trans m119
    have hF := hF.more hF1 (by decide)
    try dsimp only at hw139
    obtain ⟨h151, hf152⟩ := hw139
    refine lv_iload_n hx hb dX4_readAtom_79 rfl (lv_at hl 0 rfl) ?_
    exact W.zret (v := r114) hx hb hr (nar_b (by have q8 := ti_all r114; omega)) (fun t ht hW => ⟨⟨r114, (u116, u140, (cu u118 u117.toNatClampNeg 13)), rfl, (by exact ⟨(by have q8 := ti_all u116; omega), (by have q8 := ti_all u140; omega), (by have q8 := ti_all r114; omega), (by omega), (by omega), (by have h9 := hf135; rw [(show pS x102.toNatClampNeg = X (pS a0.toNatClampNeg) from by rw [show x102.toNatClampNeg = a0.toNatClampNeg + 1 from by have := tn_of (show a0.toInt = a0.toInt from rfl) (by omega); have := tn_of (show x102.toInt = x102.toInt from rfl) (by omega); omega]; exact hXX _ (by have := tn_of (show a0.toInt = a0.toInt from rfl) (by omega); have := tn_of (show tn.toInt = tn.toInt from rfl) (by omega); omega))] at h9; exact Or.inl ⟨by omega, h9⟩), ((zKp.rf.tr hf136 (by have := tn_of (show s0.toInt = s0.toInt from rfl) (by omega); omega)).st (by have := tn_of (show s0.toInt = s0.toInt from rfl) (by omega); have := tn_of (show u117.toInt = u117.toInt from rfl) (by omega); omega)), (fun h8 => by have := tn_of (show s0.toInt = s0.toInt from rfl) (by omega); have := tn_of (show u117.toInt = u117.toInt from rfl) (by omega); have := tn_of (show u140.toInt = u140.toInt from rfl) (by omega); have h9 := hf137 h8; rw [(show pS x102.toNatClampNeg = X (pS a0.toNatClampNeg) from by rw [show x102.toNatClampNeg = a0.toNatClampNeg + 1 from by have := tn_of (show a0.toInt = a0.toInt from rfl) (by omega); have := tn_of (show x102.toInt = x102.toInt from rfl) (by omega); omega]; exact hXX _ (by have := tn_of (show a0.toInt = a0.toInt from rfl) (by omega); have := tn_of (show tn.toInt = tn.toInt from rfl) (by omega); omega))] at h9; exact Or.inl ⟨by omega, _, h9, zC_2 (s2 := u117.toNatClampNeg) (by omega) (by omega) rfl (by decide)⟩)⟩), by (try dsimp only); rw [ht]; exact ⟨hT, hF, m148, m141, m142⟩⟩, hS.F ht⟩) hS.2.2 dX4_readAtom_80
def w_c_readAll5 : List Cond := .code yX4_readAll cX4_readAll 4 (some .boolean) :: (HAppend.hAppend (α := List Cond) (β := List Cond) (γ := List Cond) [.code yX4_readAtom cX4_readAtom 4 (some .boolean), .fieldLink RX4 11 "SeaLand$Law" "things" "[I", .fieldLink RX4 56 "SeaLand$Law" "at" "I", .code yX4_readAny cX4_readAny 4 (some .boolean), .code yX4_readAll cX4_readAll 4 (some .boolean), .code yX4_readComparison cX4_readComparison 3 (some .boolean), .code yX4_readSum cX4_readSum 3 (some .boolean), .code yX4_readPart cX4_readPart 2 (some .boolean), .code yX4_addStep cX4_addStep 2 none, .fieldLink RX4 63 "SeaLand$Law" "stepped" "I", .fieldLink RX4 39 "SeaLand$Law" "steps" "[I", .methodLink RX4 179 yX4_addStep, .instanceMethod yX4_addStep, .selects RX4 yX4_addStep yX4_addStep, .initialized RX4, .methodLink RX4 192 yX4_readPart, .instanceMethod yX4_readPart, .selects RX4 yX4_readPart yX4_readPart, .code yX4_take cX4_take 2 (some .boolean), .methodLink RX4 70 yX4_take, .instanceMethod yX4_take, .selects RX4 yX4_take yX4_take, .methodLink RX4 189 yX4_readSum, .instanceMethod yX4_readSum, .selects RX4 yX4_readSum yX4_readSum, .methodLink RX4 186 yX4_readComparison, .instanceMethod yX4_readComparison, .selects RX4 yX4_readComparison yX4_readComparison, .methodLink RX4 183 yX4_readAtom, .instanceMethod yX4_readAtom, .selects RX4 yX4_readAtom yX4_readAtom, .methodLink RX4 176 yX4_readAll, .instanceMethod yX4_readAll, .selects RX4 yX4_readAll yX4_readAll, .methodLink RX4 173 yX4_readAny, .instanceMethod yX4_readAny, .selects RX4 yX4_readAny yX4_readAny] bs2)
set_option maxHeartbeats 4000000 in
set_option maxRecDepth 100000 in
theorem c_readAll5 (l : Launch) (dC : Nat → ClassId) (dI : Nat → Nat → Nat) (kA : Nat → ClassId) (adK adV : Nat → Nat) (G : gT) (H0 : Heap) (nC nS : Int) (o0 : Nat) (th : Nat) (a0 : Int32) (s0 : Int32) (sp9 : Nat) (vT : Nat → Int32) (vS : Nat → Int32) (tv ix_tv : Int32) (tn : Int32) (K : Nat → Int) (X pS : Nat → Nat) (hT : gH (dC, dI) kA (SHc nC nS) G H0) (hr_o0 : G o0 = some 152) (hm_th : el H0 o0 (dI 7 0) = some (.ref th)) (hr_th : G th = some 153) (hm_a0 : el H0 o0 (dI 7 13) = some (.int a0)) (hm_s0 : el H0 o0 (dI 7 12) = some (.int s0)) (hm_sp9 : el H0 o0 (dI 7 9) = some (.ref sp9)) (hr_sp9 : G sp9 = some 162) (hq0 : 0 ≤ tn.toInt ∧ tn.toInt ≤ 400) (hq1 : 0 ≤ a0.toInt ∧ a0.toInt ≤ 400) (hat : a0.toInt ≤ tn.toInt) (hKK : ∀ m : Nat, m ≤ tn.toNatClampNeg → (vT m).toInt = K (pS m)) (hXX : ∀ m : Nat, m < tn.toNatClampNeg → pS (m + 1) = X (pS m)) (hq5 : 0 ≤ s0.toInt ∧ s0.toInt ≤ 400) (hsa : s0.toInt ≤ a0.toInt) (hc_vT : ct H0 th 401 vT) (hc_vS : ct H0 sp9 400 vS) (hx_tv : ix_tv.toInt = tn.toInt) (hm_tv : el H0 th ix_tv.toNatClampNeg = some (.int tv)) (hv_tv : 21 ≤ tv.toInt ∧ tv.toInt ≤ 21) (hgC : 0 ≤ nC ∧ nC ≤ 40) (hgS : 0 ≤ nS ∧ nS ≤ 60) : Met l yX4_readAll w_c_readAll5 ({ frames := 8, cells := 0, slots := 0, locals := 178 }) (va_Pc [.ref o0, .int 5] (fun U => U.heap = H0 ∧ va_K (dC, dI) vwCl (tyl kA) U ∧ EVC adK adV (gA G H0.size) U U.heap)) (va_Qi (fun (r : Int32) (u : Int32 × Int32 × (Nat → Int32)) => match u with | (a1, s1, vS1) => (0 ≤ a1.toInt ∧ a1.toInt ≤ 400) ∧ (0 ≤ s1.toInt ∧ s1.toInt ≤ 400) ∧ (0 ≤ r.toInt ∧ r.toInt ≤ 1) ∧ (a0.toInt ≤ a1.toInt ∧ a1.toInt ≤ tn.toInt) ∧ (s0.toInt ≤ s1.toInt ∧ s1.toInt - s0.toInt ≤ a1.toInt - a0.toInt) ∧ (lpR K X (aR K X 1) 14 (pS a0.toNatClampNeg) r.toInt (pS a1.toNatClampNeg)) ∧ (zKp vS vS1 s0.toNatClampNeg) ∧ (r.toInt = 1 → zlZ K X (zaZ K X 1) 14 (pS a0.toNatClampNeg) (zC (tz vS1) s0.toNatClampNeg s1.toNatClampNeg) (pS a1.toNatClampNeg))) (fun (u : Int32 × Int32 × (Nat → Int32)) (t : State) => match u with | (a1, s1, vS1) => gH (dC, dI) kA (SHc nC nS) G t.heap ∧ gF (dC, dI) SKc G ([(152, 12), (152, 13), (162, 0)] : List (Nat × Nat)) H0 t.heap ∧ el t.heap o0 (dI 7 13) = some (.int a1) ∧ el t.heap o0 (dI 7 12) = some (.int s1) ∧ ct t.heap sp9 400 vS1) (gA G H0.size)) 0 0 (gA G H0.size) := by
  refine Met.ofW (cc := cX4_readAll) (maxL := 4) (ret := (some .boolean)) (by decide) rfl ?_
  intro p e s m args below meth c s₁ B hml hv
  obtain ⟨rfl, hH0, hK, hE⟩ := hv
  have hx := B.exec
  have hb := B.bytes
  have hr := B.returns
  have hts := atoms_spec (ws := w_c_readAll5) B.pre
  have hown : s.vm.findClass RX4 = some m.cls := findClass_of_methodNamed B.named
  have hlocks := B.notSynchronized
  subst hH0
  generalize hAe : gA G s.heap.size = A at hE ⊢
  have hA : ∀ q : Nat, s.heap.size ≤ q → A q := fun q h => by rw [← hAe]; exact Or.inr h
  have hG := gA_of hAe
  have hS : va_S A s.heap s.heap [] := va_S.rf
  have hF : gF (dC, dI) SKc G ([(152, 12), (152, 13), (162, 0)] : List (Nat × Nat)) s.heap s.heap := gF.rf
  have hl := lv_entry ([.ref o0, .int 5]) (n := 4) (Nat.le_of_ble_eq_true rfl)
  rw [lg_entry_eq]
  generalize (lg_sl ([.ref o0, .int 5]) ++ List.replicate (4 - (lg_sl ([.ref o0, .int 5])).length) Slot.unset).toArray = ls at hl ⊢
  have hl : lv_has ls 4 [(0, .ref o0), (1, .int 5)] := hl
  refine lv_aload_n hx hb dX4_readAll_0 rfl (lv_at hl 0 rfl) ?_
  refine lv_iload_n hx hb dX4_readAll_1 rfl (lv_at hl 1 rfl) ?_
  have hFc := gA_free hG hA hS
  refine va_calli (va_runV (As := [.int 5]) (rest := []) ⟨hx, hb, hml, hown, hts⟩ (c_readAtom5 l dC dI kA adK adV G s.heap nC nS o0 th a0 s0 sp9 vT vS tv ix_tv ix_tv K X pS hT hr_o0 hm_th hr_th hm_a0 hm_s0 hm_sp9 hr_sp9 (by have q8 := ti_all ix_tv; omega) (by have q8 := ti_all a0; omega) (by have := (show a0.toInt = a0.toInt from rfl); have := (show ix_tv.toInt = ix_tv.toInt from rfl); omega) (fun m hm => hKK m (Nat.le_trans hm (Nat.le_of_eq (tn_same hx_tv rfl rfl)))) (fun m hm => hXX m (Nat.lt_of_lt_of_eq hm (tn_same hx_tv rfl rfl))) (by have q8 := ti_all s0; omega) (by have := (show s0.toInt = s0.toInt from rfl); have := (show a0.toInt = a0.toInt from rfl); omega) hc_vT hc_vS (by have q9 := (show ix_tv.toInt = ix_tv.toInt from rfl); have := (show ix_tv.toInt = ix_tv.toInt from rfl); omega) hm_tv (by have q8 := ti_all tv; omega) (by omega) (by omega)) (cwV 1 hts (goodIn_app (goodIn_r _ [29, 30, 31, 15] rfl (by decide +kernel)) (goodIn_ca (goodIn_r _ [1, 2, 3, 4, 5, 1, 6, 7, 8, 9, 10, 11, 12, 13, 14, 15, 16, 17, 18, 19, 20, 21, 22, 23, 24, 25, 26, 27, 28, 29, 30, 31, 32, 33, 34, 35, 36, 37] rfl (by decide +kernel)) (bs2_in _ _))) rfl rfl rfl (by decide +kernel) ⟨(Nat.le_of_ble_eq_true rfl), (Nat.le_of_ble_eq_true rfl)⟩) ⟨fun a U g mk q => by obtain ⟨q0, q1, qK, qE⟩ := q; exact ⟨q0, q1, va_K.moved (u := U) (U := U.calling g mk a) (Vm.Alike.refl U.vm) qK, EVC.blind g mk a qE⟩, gH_rc hK hT hr_o0 shc_152 rfl, fun U hU hW => ⟨rfl, hU, va_K.moved hW.alike hK, hE.call hS hFc hU hW⟩⟩ rfl rfl hl.1 rfl (lv_room (Nat.le_of_ble_eq_true rfl)) dX4_readAll_2 ⟨(Nat.le_of_ble_eq_true rfl), (Nat.le_of_ble_eq_true rfl)⟩) hS (fun q _ h => hFc q h) hFc (fun r1 u t H locs ht hvm hw2 hB _ _ hS => ?_)
  obtain ⟨u3, u4, u5⟩ := u
  obtain ⟨hT, hF1, m6, m7, m8⟩ := hB
  rw [ht] at hT hF1 m6 m7 m8
  have m9 := (hF1.fld hr_o0 skc_152 (k := 0) (by decide) (by decide)).trans hm_th
  have m12 := (hF1.fld hr_o0 skc_152 (k := 9) (by decide) (by decide)).trans hm_sp9
  have m13 := hc_vT.kept (hF1.arr hr_th skc_153 (by decide))
  have m15 := (el_kept (hF1.arr hr_th skc_153 (by decide))).trans hm_tv
  have hF := hF.more hF1 (by decide)
  try dsimp only at hw2
  obtain ⟨h16, h17, h18, hf19, hf20, hf21, hf22, hf23⟩ := hw2
  refine lv_istore_n (lv' := [(2, .int r1), (0, .ref o0), (1, .int 5)]) hx hb dX4_readAll_5 rfl hl (by decide) rfl (fun ls hl => ?_)
  refine lv_iconst (v := 0) hx hb dX4_readAll_6 (by decide) ?_
  refine lv_istore_n (lv' := [(3, .int 0), (2, .int r1), (0, .ref o0), (1, .int 5)]) hx hb dX4_readAll_7 rfl hl (by decide) rfl (fun ls hl => ?_)
  have key105 : ∀ (n105 i24 : Nat), i24 + n105 = 400 → 0 ≤ i24 → ∀ (z25 : Int32), ∀ (V28 : Nat → Int32), ∀ (z33 : Int32), ∀ (z36 : Int32), ((0 ≤ z25.toInt ∧ z25.toInt ≤ 1) ∧ (0 ≤ z33.toInt ∧ z33.toInt ≤ 400) ∧ (0 ≤ z36.toInt ∧ z36.toInt ≤ 400) ∧ (a0.toInt ≤ z33.toInt ∧ z33.toInt ≤ tn.toInt) ∧ (((z25.toInt = 1 ∧ ∀ (r : Int) (f : Nat), lpQ K X (aR K X 1) 14 (pS z33.toNatClampNeg) r f → lpR K X (aR K X 1) 14 (pS a0.toNatClampNeg) r f) ∨ (z25.toInt = 0 ∧ lpR K X (aR K X 1) 14 (pS a0.toNatClampNeg) 0 (pS z33.toNatClampNeg))) ∧ ((i24 : Nat) : Int) ≤ z33.toInt) ∧ (z25.toInt = 1 → zlI K X (zaZ K X 1) 14 (pS a0.toNatClampNeg) (zC (tz V28) s0.toNatClampNeg z36.toNatClampNeg) (pS z33.toNatClampNeg)) ∧ (zKp vS V28 s0.toNatClampNeg) ∧ (s0.toInt ≤ z36.toInt ∧ z36.toInt - s0.toInt ≤ z33.toInt - a0.toInt)) → ∀ (H : Heap) (locs : List Loc), gH (dC, dI) kA (SHc nC nS) G H → gF (dC, dI) SKc G ([(152, 12), (152, 13), (162, 0)] : List (Nat × Nat)) s.heap H → va_S A s.heap H locs → ct H th 401 vT → ct H sp9 400 V28 → el H o0 (dI 7 0) = some (.ref th) → el H o0 (dI 7 9) = some (.ref sp9) → el H th ix_tv.toNatClampNeg = some (.int tv) → el H o0 (dI 7 13) = some (.int z33) → el H o0 (dI 7 12) = some (.int z36) → ∀ ls : Array Slot, lv_has ls 4 [(3, .int (nI i24)), (2, .int z25), (0, .ref o0), (1, .int 5)] → W p l e (headSpec w_c_readAll5 ({ frames := 8, cells := 0, slots := 0, locals := 178 })).room s m #[.ref o0, .int 5] below meth c H locs 0 0 (MQ below (va_Qi (fun (r : Int32) (u : Int32 × Int32 × (Nat → Int32)) => match u with | (a1, s1, vS1) => (0 ≤ a1.toInt ∧ a1.toInt ≤ 400) ∧ (0 ≤ s1.toInt ∧ s1.toInt ≤ 400) ∧ (0 ≤ r.toInt ∧ r.toInt ≤ 1) ∧ (a0.toInt ≤ a1.toInt ∧ a1.toInt ≤ tn.toInt) ∧ (s0.toInt ≤ s1.toInt ∧ s1.toInt - s0.toInt ≤ a1.toInt - a0.toInt) ∧ (lpR K X (aR K X 1) 14 (pS a0.toNatClampNeg) r.toInt (pS a1.toNatClampNeg)) ∧ (zKp vS vS1 s0.toNatClampNeg) ∧ (r.toInt = 1 → zlZ K X (zaZ K X 1) 14 (pS a0.toNatClampNeg) (zC (tz vS1) s0.toNatClampNeg s1.toNatClampNeg) (pS a1.toNatClampNeg))) (fun (u : Int32 × Int32 × (Nat → Int32)) (t : State) => match u with | (a1, s1, vS1) => gH (dC, dI) kA (SHc nC nS) G t.heap ∧ gF (dC, dI) SKc G ([(152, 12), (152, 13), (162, 0)] : List (Nat × Nat)) s.heap t.heap ∧ el t.heap o0 (dI 7 13) = some (.int a1) ∧ el t.heap o0 (dI 7 12) = some (.int s1) ∧ ct t.heap sp9 400 vS1) A) #[.ref o0, .int 5] s 0 0 A) (F0 m 8 ls []) := by
    intro n105
    induction n105 with
    | zero =>
      intro i24 hn105 hlo106 z25 V28 z33 z36 ⟨h26, h34, h37, hj39, hj40, hj41, hj42, hj43⟩ H locs hT hF hS m27 m29 m30 m31 m32 m35 m38 ls hl
      obtain rfl : 400 = i24 := by omega
      refine lv_iload_n hx hb dX4_readAll_8 rfl (lv_at hl 0 rfl) ?_
      refine lv_sipush (v := 400) hx hb dX4_readAll_9 (by decide) ?_
      refine lv_icmp_ge (tgt := 46) hx hb dX4_readAll_12 (by decide) (fun c107 => ?_) (fun c107 => (by exfalso; have q9 : ((400 : Nat) : Int) < 400 := ti_nle c107 (by decide) (nI_toInt (by omega)); omega))
      have t108 : 400 ≤ ((400 : Nat) : Int) := ti_le c107 (by decide) (nI_toInt (by omega))
      refine lv_iload_n hx hb dX4_readAll_46 rfl (lv_at hl 1 rfl) ?_
      exact W.zret (v := z25) hx hb hr (nar_b (by have q8 := ti_all z25; omega)) (fun t ht hW => ⟨⟨z25, (z33, z36, V28), rfl, (by exact ⟨(by have q8 := ti_all z33; omega), (by have q8 := ti_all z36; omega), (by have q8 := ti_all z25; omega), (by omega), (by omega), (by rcases hj40.1 with ⟨h8, l9⟩ | ⟨h8, l9⟩; (rw [h8]; exact lp_e l9 (fun h7 => by have := tn_of (show z33.toInt = z33.toInt from rfl) (by omega); have := tn_of (show tn.toInt = tn.toInt from rfl) (by omega); have k9 := hKK tn.toNatClampNeg (Nat.le_refl _); have e9 := hc_vT.at hm_tv (by have q9 := tn_of hx_tv (by omega); omega); have k8 : (vT tn.toNatClampNeg).toInt = 21 := (by have q8 := congrArg Int32.toInt e9; rw [show ix_tv.toNatClampNeg = tn.toNatClampNeg from tn_same hx_tv rfl rfl] at q8; omega); rw [show z33.toNatClampNeg = tn.toNatClampNeg from by omega] at h7; omega)); rw [h8]; exact l9), hj42, (fun h8 => ⟨hj41 h8, fun h7 => by have := tn_of (show z33.toInt = z33.toInt from rfl) (by omega); have := tn_of (show tn.toInt = tn.toInt from rfl) (by omega); have k9 := hKK tn.toNatClampNeg (Nat.le_refl _); have e9 := hc_vT.at hm_tv (by have q9 := tn_of hx_tv (by omega); omega); have k8 : (vT tn.toNatClampNeg).toInt = 21 := (by have q8 := congrArg Int32.toInt e9; rw [show ix_tv.toNatClampNeg = tn.toNatClampNeg from tn_same hx_tv rfl rfl] at q8; omega); rw [show z33.toNatClampNeg = tn.toNatClampNeg from by omega] at h7; omega⟩)⟩), by (try dsimp only); rw [ht]; exact ⟨hT, hF, m35, m38, m29⟩⟩, hS.F ht⟩) hS.2.2 dX4_readAll_47
    | succ n105 ih105 =>
      intro i24 hn105 hlo106 z25 V28 z33 z36 ⟨h26, h34, h37, hj39, hj40, hj41, hj42, hj43⟩ H locs hT hF hS m27 m29 m30 m31 m32 m35 m38 ls hl
      have hlt108 : i24 < 400 := by omega
      refine lv_iload_n hx hb dX4_readAll_8 rfl (lv_at hl 0 rfl) ?_
      refine lv_sipush (v := 400) hx hb dX4_readAll_9 (by decide) ?_
      refine lv_icmp_ge (tgt := 46) hx hb dX4_readAll_12 (by decide) (fun c109 => (by exfalso; have q9 : 400 ≤ ((i24 : Nat) : Int) := ti_le c109 (by decide) (nI_toInt (by omega)); omega)) (fun c109 => ?_)
      have t110 : ((i24 : Nat) : Int) < 400 := ti_nle c109 (by decide) (nI_toInt (by omega))
      refine lv_iload_n hx hb dX4_readAll_15 rfl (lv_at hl 1 rfl) ?_
      refine lv_if_eq (tgt := 46) hx hb dX4_readAll_16 (by decide) (fun c111 => ?_) (fun c111 => ?_)
      · have t112 : z25.toInt = 0 := ti_eq c111 rfl (by decide)
        refine lv_iload_n hx hb dX4_readAll_46 rfl (lv_at hl 1 rfl) ?_
        exact W.zret (v := z25) hx hb hr (nar_b (by have q8 := ti_all z25; omega)) (fun t ht hW => ⟨⟨z25, (z33, z36, V28), rfl, (by exact ⟨(by have q8 := ti_all z33; omega), (by have q8 := ti_all z36; omega), (by have q8 := ti_all z25; omega), (by omega), (by omega), (by rcases hj40.1 with ⟨h8, l9⟩ | ⟨h8, l9⟩; (rw [h8]; exact lp_e l9 (fun h7 => by have := tn_of (show z33.toInt = z33.toInt from rfl) (by omega); have := tn_of (show tn.toInt = tn.toInt from rfl) (by omega); have k9 := hKK tn.toNatClampNeg (Nat.le_refl _); have e9 := hc_vT.at hm_tv (by have q9 := tn_of hx_tv (by omega); omega); have k8 : (vT tn.toNatClampNeg).toInt = 21 := (by have q8 := congrArg Int32.toInt e9; rw [show ix_tv.toNatClampNeg = tn.toNatClampNeg from tn_same hx_tv rfl rfl] at q8; omega); rw [show z33.toNatClampNeg = tn.toNatClampNeg from by omega] at h7; omega)); rw [h8]; exact l9), hj42, (fun h8 => ⟨hj41 h8, fun h7 => by have := tn_of (show z33.toInt = z33.toInt from rfl) (by omega); have := tn_of (show tn.toInt = tn.toInt from rfl) (by omega); have k9 := hKK tn.toNatClampNeg (Nat.le_refl _); have e9 := hc_vT.at hm_tv (by have q9 := tn_of hx_tv (by omega); omega); have k8 : (vT tn.toNatClampNeg).toInt = 21 := (by have q8 := congrArg Int32.toInt e9; rw [show ix_tv.toNatClampNeg = tn.toNatClampNeg from tn_same hx_tv rfl rfl] at q8; omega); rw [show z33.toNatClampNeg = tn.toNatClampNeg from by omega] at h7; omega⟩)⟩), by (try dsimp only); rw [ht]; exact ⟨hT, hF, m35, m38, m29⟩⟩, hS.F ht⟩) hS.2.2 dX4_readAll_47
      · have t113 : z25.toInt ≠ 0 := ti_ne c111 rfl (by decide)
        refine lv_aload_n hx hb dX4_readAll_19 rfl (lv_at hl 2 rfl) ?_
        refine lv_bipush (v := 14) hx hb dX4_readAll_20 (by decide) ?_
        have hFc := gA_free hG hA hS
        refine va_calli (va_runV (As := [.int 14]) (rest := []) ⟨hx, hb, hml, hown, hts⟩ (c_take l dC dI kA adK adV G H nC nS o0 14 th z33 vT tv ix_tv ix_tv K X pS hT hr_o0 m30 hr_th m35 (by have q8 := ti_all ix_tv; omega) (by have q8 := ti_all z33; omega) (by have := (show z33.toInt = z33.toInt from rfl); have := (show ix_tv.toInt = ix_tv.toInt from rfl); omega) (by have := (show (14 : Int32).toInt = 14 from (by decide)); omega) (fun m hm => hKK m (Nat.le_trans hm (Nat.le_of_eq (tn_same hx_tv rfl rfl)))) (fun m hm => hXX m (Nat.lt_of_lt_of_eq hm (tn_same hx_tv rfl rfl))) m27 (by have q9 := (show ix_tv.toInt = ix_tv.toInt from rfl); have := (show ix_tv.toInt = ix_tv.toInt from rfl); omega) m32 (by have q8 := ti_all tv; omega) (by omega) (by omega)) (cwV 1 hts (goodIn_app (goodIn_r _ [20, 21, 22, 15] rfl (by decide +kernel)) (goodIn_ca (goodIn_r _ [19, 2, 3] rfl (by decide +kernel)) (bs2_in _ _))) rfl rfl rfl (by decide +kernel) ⟨(Nat.le_of_ble_eq_true rfl), (Nat.le_of_ble_eq_true rfl)⟩) ⟨fun a U g mk q => by obtain ⟨q0, q1, qK, qE⟩ := q; exact ⟨q0, q1, va_K.moved (u := U) (U := U.calling g mk a) (Vm.Alike.refl U.vm) qK, EVC.blind g mk a qE⟩, gH_rc hK hT hr_o0 shc_152 rfl, fun U hU hW => ⟨rfl, hU, va_K.moved hW.alike hK, hE.call hS hFc hU hW⟩⟩ rfl rfl hl.1 rfl (lv_room (Nat.le_of_ble_eq_true rfl)) dX4_readAll_22 ⟨(Nat.le_of_ble_eq_true rfl), (Nat.le_of_ble_eq_true rfl)⟩) hS (fun q _ h => hFc q h) hFc (fun r114 u t H locs ht hvm hw115 hB _ _ hS => ?_)
        obtain ⟨u116, rfl⟩ : ∃ z, z = u := ⟨_, rfl⟩
        obtain ⟨hT, hF1, m117⟩ := hB
        rw [ht] at hT hF1 m117
        have m118 := m27.kept (hF1.arr hr_th skc_153 (by decide))
        have m119 := m29.kept (hF1.arr hr_sp9 skc_162 (by decide))
        have m120 := (hF1.fld hr_o0 skc_152 (k := 0) (by decide) (by decide)).trans m30
        have m121 := (hF1.fld hr_o0 skc_152 (k := 9) (by decide) (by decide)).trans m31
        have m122 := (el_kept (hF1.arr hr_th skc_153 (by decide))).trans m32
        have m124 := (hF1.fld hr_o0 skc_152 (k := 12) (by decide) (by decide)).trans m38
        have hF := hF.more hF1 (by decide)
        try dsimp only at hw115
        obtain ⟨h125, h126, hf127, hf128, hf129⟩ := hw115
        refine lv_if_eq (tgt := 46) hx hb dX4_readAll_25 (by decide) (fun c130 => ?_) (fun c130 => ?_)
        · have t131 : r114.toInt = 0 := ti_eq c130 rfl (by decide)
          refine lv_iload_n hx hb dX4_readAll_46 rfl (lv_at hl 1 rfl) ?_
          exact W.zret (v := z25) hx hb hr (nar_b (by have q8 := ti_all z25; omega)) (fun t ht hW => ⟨⟨z25, (u116, z36, V28), rfl, (by exact ⟨(by have q8 := ti_all u116; omega), (by have q8 := ti_all z36; omega), (by have q8 := ti_all z25; omega), (by omega), (by omega), (by have l9 := (hj40.1.resolve_right (fun h8 => by have := h8.1; omega)).2; have a9 := hf128.resolve_left (fun h8 => by have := h8.2.1; omega); rw [show z25.toInt = 1 from by omega, a9.2.2]; exact lp_e l9 (fun h7 => a9.1 (h7.trans (by decide)))), hj42, (fun h8 => ⟨by (try dsimp only); have a9 := hf128.resolve_left (fun h8 => by have := h8.2.1; omega); rw [a9.2.2]; exact hj41 h8, by (try dsimp only); have a9 := hf128.resolve_left (fun h8 => by have := h8.2.1; omega); rw [a9.2.2]; exact fun h7 => a9.1 (h7.trans (by decide))⟩)⟩), by (try dsimp only); rw [ht]; exact ⟨hT, hF, m117, m124, m119⟩⟩, hS.F ht⟩) hS.2.2 dX4_readAll_47
        · have t132 : r114.toInt ≠ 0 := ti_ne c130 rfl (by decide)
          refine lv_aload_n hx hb dX4_readAll_28 rfl (lv_at hl 2 rfl) ?_
          refine lv_iload_n hx hb dX4_readAll_29 rfl (lv_at hl 3 rfl) ?_
          have hFc := gA_free hG hA hS
          refine va_calli (va_runV (As := [.int 5]) (rest := []) ⟨hx, hb, hml, hown, hts⟩ (c_readAtom5 l dC dI kA adK adV G H nC nS o0 th u116 z36 sp9 vT V28 tv ix_tv ix_tv K X pS hT hr_o0 m120 hr_th m117 m124 m121 hr_sp9 (by have q8 := ti_all ix_tv; omega) (by have q8 := ti_all u116; omega) (by have := (show u116.toInt = u116.toInt from rfl); have := (show ix_tv.toInt = ix_tv.toInt from rfl); omega) (fun m hm => hKK m (Nat.le_trans hm (Nat.le_of_eq (tn_same hx_tv rfl rfl)))) (fun m hm => hXX m (Nat.lt_of_lt_of_eq hm (tn_same hx_tv rfl rfl))) (by have q8 := ti_all z36; omega) (by have := (show z36.toInt = z36.toInt from rfl); have := (show u116.toInt = u116.toInt from rfl); omega) m118 m119 (by have q9 := (show ix_tv.toInt = ix_tv.toInt from rfl); have := (show ix_tv.toInt = ix_tv.toInt from rfl); omega) m122 (by have q8 := ti_all tv; omega) (by omega) (by omega)) (cwV 1 hts (goodIn_app (goodIn_r _ [29, 30, 31, 15] rfl (by decide +kernel)) (goodIn_ca (goodIn_r _ [1, 2, 3, 4, 5, 1, 6, 7, 8, 9, 10, 11, 12, 13, 14, 15, 16, 17, 18, 19, 20, 21, 22, 23, 24, 25, 26, 27, 28, 29, 30, 31, 32, 33, 34, 35, 36, 37] rfl (by decide +kernel)) (bs2_in _ _))) rfl rfl rfl (by decide +kernel) ⟨(Nat.le_of_ble_eq_true rfl), (Nat.le_of_ble_eq_true rfl)⟩) ⟨fun a U g mk q => by obtain ⟨q0, q1, qK, qE⟩ := q; exact ⟨q0, q1, va_K.moved (u := U) (U := U.calling g mk a) (Vm.Alike.refl U.vm) qK, EVC.blind g mk a qE⟩, gH_rc hK hT hr_o0 shc_152 rfl, fun U hU hW => ⟨rfl, hU, va_K.moved hW.alike hK, hE.call hS hFc hU hW⟩⟩ rfl rfl hl.1 rfl (lv_room (Nat.le_of_ble_eq_true rfl)) dX4_readAll_30 ⟨(Nat.le_of_ble_eq_true rfl), (Nat.le_of_ble_eq_true rfl)⟩) hS (fun q _ h => hFc q h) hFc (fun r133 u t H locs ht hvm hw134 hB _ _ hS => ?_)
          obtain ⟨u135, u136, u137⟩ := u
          obtain ⟨hT, hF1, m138, m139, m140⟩ := hB
          rw [ht] at hT hF1 m138 m139 m140
          have m141 := m118.kept (hF1.arr hr_th skc_153 (by decide))
          have m143 := (hF1.fld hr_o0 skc_152 (k := 0) (by decide) (by decide)).trans m120
          have m144 := (hF1.fld hr_o0 skc_152 (k := 9) (by decide) (by decide)).trans m121
          have m145 := (el_kept (hF1.arr hr_th skc_153 (by decide))).trans m122
          have hF := hF.more hF1 (by decide)
          try dsimp only at hw134
          obtain ⟨h148, h149, h150, hf151, hf152, hf153, hf154, hf155⟩ := hw134
          refine lv_istore_n (lv' := [(2, .int r133), (3, .int (nI i24)), (0, .ref o0), (1, .int 5)]) hx hb dX4_readAll_33 rfl hl (by decide) rfl (fun ls hl => ?_)
          refine lv_aload_n hx hb dX4_readAll_34 rfl (lv_at hl 2 rfl) ?_
          refine lv_bipush (v := 14) hx hb dX4_readAll_35 (by decide) ?_
          have hFc := gA_free hG hA hS
          refine va_callv (va_runV (As := [.int 14]) (rest := []) ⟨hx, hb, hml, hown, hts⟩ (c_addStep l dC dI kA adK adV G H nC nS o0 14 u136 sp9 u137 hT hr_o0 m139 m144 hr_sp9 (rg_t (a := 14) (by decide) (by first | decide | omega) (by first | decide | omega)) (by have q8 := ti_all u136; omega) m140 (by omega) (by omega)) (cwV 1 hts (goodIn_app (goodIn_r _ [12, 13, 14, 15] rfl (by decide +kernel)) (goodIn_ca (goodIn_r _ [9, 10, 11] rfl (by decide +kernel)) (bs2_in _ _))) rfl rfl rfl (by decide +kernel) ⟨(Nat.le_of_ble_eq_true rfl), (Nat.le_of_ble_eq_true rfl)⟩) ⟨fun a U g mk q => by obtain ⟨q0, q1, qK, qE⟩ := q; exact ⟨q0, q1, va_K.moved (u := U) (U := U.calling g mk a) (Vm.Alike.refl U.vm) qK, EVC.blind g mk a qE⟩, gH_rc hK hT hr_o0 shc_152 rfl, fun U hU hW => ⟨rfl, hU, va_K.moved hW.alike hK, hE.call hS hFc hU hW⟩⟩ rfl rfl hl.1 rfl (lv_room (Nat.le_of_ble_eq_true rfl)) dX4_readAll_37 ⟨(Nat.le_of_ble_eq_true rfl), (Nat.le_of_ble_eq_true rfl)⟩) hS (fun q _ h => hFc q h) hFc (fun u t H locs ht hvm hw157 hB _ _ hS => ?_)
          obtain ⟨u158, rfl⟩ : ∃ z, z = u := ⟨_, rfl⟩
          obtain ⟨hT, hF1, m159, m160⟩ := hB
          rw [ht] at hT hF1 m159 m160
          have m161 := m141.kept (hF1.arr hr_th skc_153 (by decide))
          have m162 := (hF1.fld hr_o0 skc_152 (k := 0) (by decide) (by decide)).trans m143
          have m163 := (hF1.fld hr_o0 skc_152 (k := 9) (by decide) (by decide)).trans m144
          have m164 := (el_kept (hF1.arr hr_th skc_153 (by decide))).trans m145
          have m165 := (hF1.fld hr_o0 skc_152 (k := 13) (by decide) (by decide)).trans m138
          have hF := hF.more hF1 (by decide)
          try dsimp only at hw157
          obtain ⟨h168, hf169⟩ := hw157
          refine lv_iinc (v := nI (i24 + 1)) (lv' := [(3, .int (nI (i24 + 1))), (2, .int r133), (0, .ref o0), (1, .int 5)]) hx hb dX4_readAll_40 hl (k := 1) rfl (nI_add i24 1) (by decide) rfl (fun ls hl => ?_)
          refine lv_goto (tgt := 8) hx hb dX4_readAll_43 (by decide) ?_
          exact ih105 (i24 + 1) (by omega) (by omega) r133 (cu u137 u136.toNatClampNeg 14) u135 u158 ⟨(by have q8 := ti_all r133; omega), (by have q8 := ti_all u135; omega), (by have q8 := ti_all u158; omega), (by have := hx_tv; have := (show u135.toInt = u135.toInt from rfl); omega), ⟨(by have l9 := (hj40.1.resolve_right (fun h8 => by have := h8.1; omega)).2; have a9 := hf128.resolve_right (fun h8 => by have := h8.2.1; omega); have h9 := hf153; rw [a9.2.2] at h9; rcases (show r133.toInt = 1 ∨ r133.toInt = 0 by omega) with h8 | h8 <;> rw [h8] at h9; (exact Or.inl ⟨h8, lp_s l9 (a9.1.trans (by decide)) h9⟩); exact Or.inr ⟨h8, lp_f l9 (a9.1.trans (by decide)) h9⟩), by omega⟩, (fun h8 => by have := tn_of (show s0.toInt = s0.toInt from rfl) (by omega); have := tn_of (show z36.toInt = z36.toInt from rfl) (by omega); have := tn_of (show u136.toInt = u136.toInt from rfl) (by omega); have := tn_of (show u158.toInt = u158.toInt from rfl) (by omega); have l9 := hj41 (by omega); have a9 := hf128.resolve_right (fun h8 => by have := h8.2.1; omega); have h9 := hf155 h8; rw [a9.2.2] at h9; rw [zC_3 (sx := z36.toNatClampNeg) (s2 := u136.toNatClampNeg) (c := 14) (by omega) (by omega) hf154 (by omega) rfl (by decide)]; exact zlI_s l9 (a9.1.trans (by decide)) h9), ((hj42.tr hf154 (by have := tn_of (show s0.toInt = s0.toInt from rfl) (by omega); have := tn_of (show z36.toInt = z36.toInt from rfl) (by omega); omega)).st (by have := tn_of (show s0.toInt = s0.toInt from rfl) (by omega); have := tn_of (show u136.toInt = u136.toInt from rfl) (by omega); omega)), (by have := (show u158.toInt = u158.toInt from rfl); have := (show u135.toInt = u135.toInt from rfl); omega)⟩ _ _ hT hF hS m161 m160 m162 m163 m164 m165 m159 ls (lv_sub hl [0, 1, 2, 3] rfl)
  exact key105 (400 - 0) 0 (by omega) (Nat.le_refl _) r1 u5 u3 u4 ⟨(by have q8 := ti_all r1; omega), (by have q8 := ti_all u3; omega), (by have q8 := ti_all u4; omega), (by have := hx_tv; have := (show u3.toInt = u3.toInt from rfl); omega), ⟨(by have h9 := hf21; rcases (show r1.toInt = 1 ∨ r1.toInt = 0 by omega) with h8 | h8 <;> rw [h8] at h9; (exact Or.inl ⟨h8, lp_1 h9⟩); exact Or.inr ⟨h8, lp_0 h9⟩), by omega⟩, (fun h8 => zlI_0 (hf23 h8)), (zKp.rf.tr hf22 (by have := tn_of (show s0.toInt = s0.toInt from rfl) (by omega); omega)), (by have := (show u4.toInt = u4.toInt from rfl); have := (show u3.toInt = u3.toInt from rfl); omega)⟩ _ _ hT hF hS m13 m8 m9 m12 m15 m6 m7 ls (lv_sub hl [0, 1, 2, 3] rfl)
def w_c_readAny5 : List Cond := .code yX4_readAny cX4_readAny 4 (some .boolean) :: (HAppend.hAppend (α := List Cond) (β := List Cond) (γ := List Cond) [.code yX4_readAll cX4_readAll 4 (some .boolean), .code yX4_readAtom cX4_readAtom 4 (some .boolean), .fieldLink RX4 11 "SeaLand$Law" "things" "[I", .fieldLink RX4 56 "SeaLand$Law" "at" "I", .code yX4_readAny cX4_readAny 4 (some .boolean), .code yX4_readComparison cX4_readComparison 3 (some .boolean), .code yX4_readSum cX4_readSum 3 (some .boolean), .code yX4_readPart cX4_readPart 2 (some .boolean), .code yX4_addStep cX4_addStep 2 none, .fieldLink RX4 63 "SeaLand$Law" "stepped" "I", .fieldLink RX4 39 "SeaLand$Law" "steps" "[I", .methodLink RX4 179 yX4_addStep, .instanceMethod yX4_addStep, .selects RX4 yX4_addStep yX4_addStep, .initialized RX4, .methodLink RX4 192 yX4_readPart, .instanceMethod yX4_readPart, .selects RX4 yX4_readPart yX4_readPart, .code yX4_take cX4_take 2 (some .boolean), .methodLink RX4 70 yX4_take, .instanceMethod yX4_take, .selects RX4 yX4_take yX4_take, .methodLink RX4 189 yX4_readSum, .instanceMethod yX4_readSum, .selects RX4 yX4_readSum yX4_readSum, .methodLink RX4 186 yX4_readComparison, .instanceMethod yX4_readComparison, .selects RX4 yX4_readComparison yX4_readComparison, .methodLink RX4 183 yX4_readAtom, .instanceMethod yX4_readAtom, .selects RX4 yX4_readAtom yX4_readAtom, .methodLink RX4 176 yX4_readAll, .instanceMethod yX4_readAll, .selects RX4 yX4_readAll yX4_readAll, .methodLink RX4 173 yX4_readAny, .instanceMethod yX4_readAny, .selects RX4 yX4_readAny yX4_readAny] bs2)
set_option maxHeartbeats 4000000 in
set_option maxRecDepth 100000 in
theorem c_readAny5 (l : Launch) (dC : Nat → ClassId) (dI : Nat → Nat → Nat) (kA : Nat → ClassId) (adK adV : Nat → Nat) (G : gT) (H0 : Heap) (nC nS : Int) (o0 : Nat) (th : Nat) (a0 : Int32) (s0 : Int32) (sp9 : Nat) (vT : Nat → Int32) (vS : Nat → Int32) (tv ix_tv : Int32) (tn : Int32) (K : Nat → Int) (X pS : Nat → Nat) (hT : gH (dC, dI) kA (SHc nC nS) G H0) (hr_o0 : G o0 = some 152) (hm_th : el H0 o0 (dI 7 0) = some (.ref th)) (hr_th : G th = some 153) (hm_a0 : el H0 o0 (dI 7 13) = some (.int a0)) (hm_s0 : el H0 o0 (dI 7 12) = some (.int s0)) (hm_sp9 : el H0 o0 (dI 7 9) = some (.ref sp9)) (hr_sp9 : G sp9 = some 162) (hq0 : 0 ≤ tn.toInt ∧ tn.toInt ≤ 400) (hq1 : 0 ≤ a0.toInt ∧ a0.toInt ≤ 400) (hat : a0.toInt ≤ tn.toInt) (hKK : ∀ m : Nat, m ≤ tn.toNatClampNeg → (vT m).toInt = K (pS m)) (hXX : ∀ m : Nat, m < tn.toNatClampNeg → pS (m + 1) = X (pS m)) (hq5 : 0 ≤ s0.toInt ∧ s0.toInt ≤ 400) (hsa : s0.toInt ≤ a0.toInt) (hc_vT : ct H0 th 401 vT) (hc_vS : ct H0 sp9 400 vS) (hx_tv : ix_tv.toInt = tn.toInt) (hm_tv : el H0 th ix_tv.toNatClampNeg = some (.int tv)) (hv_tv : 21 ≤ tv.toInt ∧ tv.toInt ≤ 21) (hgC : 0 ≤ nC ∧ nC ≤ 40) (hgS : 0 ≤ nS ∧ nS ≤ 60) : Met l yX4_readAny w_c_readAny5 ({ frames := 9, cells := 0, slots := 0, locals := 201 }) (va_Pc [.ref o0, .int 5] (fun U => U.heap = H0 ∧ va_K (dC, dI) vwCl (tyl kA) U ∧ EVC adK adV (gA G H0.size) U U.heap)) (va_Qi (fun (r : Int32) (u : Int32 × Int32 × (Nat → Int32)) => match u with | (a1, s1, vS1) => (0 ≤ a1.toInt ∧ a1.toInt ≤ 400) ∧ (0 ≤ s1.toInt ∧ s1.toInt ≤ 400) ∧ (0 ≤ r.toInt ∧ r.toInt ≤ 1) ∧ (a0.toInt ≤ a1.toInt ∧ a1.toInt ≤ tn.toInt) ∧ (s0.toInt ≤ s1.toInt ∧ s1.toInt - s0.toInt ≤ a1.toInt - a0.toInt) ∧ (coR K X (aR K X 1) (pS a0.toNatClampNeg) r.toInt (pS a1.toNatClampNeg)) ∧ (zKp vS vS1 s0.toNatClampNeg) ∧ (r.toInt = 1 → zlZ K X (zlZ K X (zaZ K X 1) 14) 15 (pS a0.toNatClampNeg) (zC (tz vS1) s0.toNatClampNeg s1.toNatClampNeg) (pS a1.toNatClampNeg))) (fun (u : Int32 × Int32 × (Nat → Int32)) (t : State) => match u with | (a1, s1, vS1) => gH (dC, dI) kA (SHc nC nS) G t.heap ∧ gF (dC, dI) SKc G ([(152, 12), (152, 13), (162, 0)] : List (Nat × Nat)) H0 t.heap ∧ el t.heap o0 (dI 7 13) = some (.int a1) ∧ el t.heap o0 (dI 7 12) = some (.int s1) ∧ ct t.heap sp9 400 vS1) (gA G H0.size)) 0 0 (gA G H0.size) := by
  refine Met.ofW (cc := cX4_readAny) (maxL := 4) (ret := (some .boolean)) (by decide) rfl ?_
  intro p e s m args below meth c s₁ B hml hv
  obtain ⟨rfl, hH0, hK, hE⟩ := hv
  have hx := B.exec
  have hb := B.bytes
  have hr := B.returns
  have hts := atoms_spec (ws := w_c_readAny5) B.pre
  have hown : s.vm.findClass RX4 = some m.cls := findClass_of_methodNamed B.named
  have hlocks := B.notSynchronized
  subst hH0
  generalize hAe : gA G s.heap.size = A at hE ⊢
  have hA : ∀ q : Nat, s.heap.size ≤ q → A q := fun q h => by rw [← hAe]; exact Or.inr h
  have hG := gA_of hAe
  have hS : va_S A s.heap s.heap [] := va_S.rf
  have hF : gF (dC, dI) SKc G ([(152, 12), (152, 13), (162, 0)] : List (Nat × Nat)) s.heap s.heap := gF.rf
  have hl := lv_entry ([.ref o0, .int 5]) (n := 4) (Nat.le_of_ble_eq_true rfl)
  rw [lg_entry_eq]
  generalize (lg_sl ([.ref o0, .int 5]) ++ List.replicate (4 - (lg_sl ([.ref o0, .int 5])).length) Slot.unset).toArray = ls at hl ⊢
  have hl : lv_has ls 4 [(0, .ref o0), (1, .int 5)] := hl
  refine lv_aload_n hx hb dX4_readAny_0 rfl (lv_at hl 0 rfl) ?_
  refine lv_iload_n hx hb dX4_readAny_1 rfl (lv_at hl 1 rfl) ?_
  have hFc := gA_free hG hA hS
  refine va_calli (va_runV (As := [.int 5]) (rest := []) ⟨hx, hb, hml, hown, hts⟩ (c_readAll5 l dC dI kA adK adV G s.heap nC nS o0 th a0 s0 sp9 vT vS tv ix_tv ix_tv K X pS hT hr_o0 hm_th hr_th hm_a0 hm_s0 hm_sp9 hr_sp9 (by have q8 := ti_all ix_tv; omega) (by have q8 := ti_all a0; omega) (by have := (show a0.toInt = a0.toInt from rfl); have := (show ix_tv.toInt = ix_tv.toInt from rfl); omega) (fun m hm => hKK m (Nat.le_trans hm (Nat.le_of_eq (tn_same hx_tv rfl rfl)))) (fun m hm => hXX m (Nat.lt_of_lt_of_eq hm (tn_same hx_tv rfl rfl))) (by have q8 := ti_all s0; omega) (by have := (show s0.toInt = s0.toInt from rfl); have := (show a0.toInt = a0.toInt from rfl); omega) hc_vT hc_vS (by have q9 := (show ix_tv.toInt = ix_tv.toInt from rfl); have := (show ix_tv.toInt = ix_tv.toInt from rfl); omega) hm_tv (by have q8 := ti_all tv; omega) (by omega) (by omega)) (cwV 1 hts (goodIn_app (goodIn_r _ [32, 33, 34, 15] rfl (by decide +kernel)) (goodIn_ca (goodIn_r _ [1, 2, 3, 4, 5, 1, 6, 7, 8, 9, 10, 11, 12, 13, 14, 15, 16, 17, 18, 19, 20, 21, 22, 23, 24, 25, 26, 27, 28, 29, 30, 31, 32, 33, 34, 35, 36, 37] rfl (by decide +kernel)) (bs2_in _ _))) rfl rfl rfl (by decide +kernel) ⟨(Nat.le_of_ble_eq_true rfl), (Nat.le_of_ble_eq_true rfl)⟩) ⟨fun a U g mk q => by obtain ⟨q0, q1, qK, qE⟩ := q; exact ⟨q0, q1, va_K.moved (u := U) (U := U.calling g mk a) (Vm.Alike.refl U.vm) qK, EVC.blind g mk a qE⟩, gH_rc hK hT hr_o0 shc_152 rfl, fun U hU hW => ⟨rfl, hU, va_K.moved hW.alike hK, hE.call hS hFc hU hW⟩⟩ rfl rfl hl.1 rfl (lv_room (Nat.le_of_ble_eq_true rfl)) dX4_readAny_2 ⟨(Nat.le_of_ble_eq_true rfl), (Nat.le_of_ble_eq_true rfl)⟩) hS (fun q _ h => hFc q h) hFc (fun r1 u t H locs ht hvm hw2 hB _ _ hS => ?_)
  obtain ⟨u3, u4, u5⟩ := u
  obtain ⟨hT, hF1, m6, m7, m8⟩ := hB
  rw [ht] at hT hF1 m6 m7 m8
  have m9 := (hF1.fld hr_o0 skc_152 (k := 0) (by decide) (by decide)).trans hm_th
  have m12 := (hF1.fld hr_o0 skc_152 (k := 9) (by decide) (by decide)).trans hm_sp9
  have m13 := hc_vT.kept (hF1.arr hr_th skc_153 (by decide))
  have m15 := (el_kept (hF1.arr hr_th skc_153 (by decide))).trans hm_tv
  have hF := hF.more hF1 (by decide)
  try dsimp only at hw2
  obtain ⟨h16, h17, h18, hf19, hf20, hf21, hf22, hf23⟩ := hw2
  refine lv_istore_n (lv' := [(2, .int r1), (0, .ref o0), (1, .int 5)]) hx hb dX4_readAny_5 rfl hl (by decide) rfl (fun ls hl => ?_)
  refine lv_iconst (v := 0) hx hb dX4_readAny_6 (by decide) ?_
  refine lv_istore_n (lv' := [(3, .int 0), (2, .int r1), (0, .ref o0), (1, .int 5)]) hx hb dX4_readAny_7 rfl hl (by decide) rfl (fun ls hl => ?_)
  have key105 : ∀ (n105 i24 : Nat), i24 + n105 = 400 → 0 ≤ i24 → ∀ (z25 : Int32), ∀ (V28 : Nat → Int32), ∀ (z33 : Int32), ∀ (z36 : Int32), ((0 ≤ z25.toInt ∧ z25.toInt ≤ 1) ∧ (0 ≤ z33.toInt ∧ z33.toInt ≤ 400) ∧ (0 ≤ z36.toInt ∧ z36.toInt ≤ 400) ∧ (a0.toInt ≤ z33.toInt ∧ z33.toInt ≤ tn.toInt) ∧ (((z25.toInt = 1 ∧ ∀ (r : Int) (f : Nat), lpQ K X (lpR K X (aR K X 1) 14) 15 (pS z33.toNatClampNeg) r f → coR K X (aR K X 1) (pS a0.toNatClampNeg) r f) ∨ (z25.toInt = 0 ∧ coR K X (aR K X 1) (pS a0.toNatClampNeg) 0 (pS z33.toNatClampNeg))) ∧ ((i24 : Nat) : Int) ≤ z33.toInt) ∧ (z25.toInt = 1 → zlI K X (zlZ K X (zaZ K X 1) 14) 15 (pS a0.toNatClampNeg) (zC (tz V28) s0.toNatClampNeg z36.toNatClampNeg) (pS z33.toNatClampNeg)) ∧ (zKp vS V28 s0.toNatClampNeg) ∧ (s0.toInt ≤ z36.toInt ∧ z36.toInt - s0.toInt ≤ z33.toInt - a0.toInt)) → ∀ (H : Heap) (locs : List Loc), gH (dC, dI) kA (SHc nC nS) G H → gF (dC, dI) SKc G ([(152, 12), (152, 13), (162, 0)] : List (Nat × Nat)) s.heap H → va_S A s.heap H locs → ct H th 401 vT → ct H sp9 400 V28 → el H o0 (dI 7 0) = some (.ref th) → el H o0 (dI 7 9) = some (.ref sp9) → el H th ix_tv.toNatClampNeg = some (.int tv) → el H o0 (dI 7 13) = some (.int z33) → el H o0 (dI 7 12) = some (.int z36) → ∀ ls : Array Slot, lv_has ls 4 [(3, .int (nI i24)), (2, .int z25), (0, .ref o0), (1, .int 5)] → W p l e (headSpec w_c_readAny5 ({ frames := 9, cells := 0, slots := 0, locals := 201 })).room s m #[.ref o0, .int 5] below meth c H locs 0 0 (MQ below (va_Qi (fun (r : Int32) (u : Int32 × Int32 × (Nat → Int32)) => match u with | (a1, s1, vS1) => (0 ≤ a1.toInt ∧ a1.toInt ≤ 400) ∧ (0 ≤ s1.toInt ∧ s1.toInt ≤ 400) ∧ (0 ≤ r.toInt ∧ r.toInt ≤ 1) ∧ (a0.toInt ≤ a1.toInt ∧ a1.toInt ≤ tn.toInt) ∧ (s0.toInt ≤ s1.toInt ∧ s1.toInt - s0.toInt ≤ a1.toInt - a0.toInt) ∧ (coR K X (aR K X 1) (pS a0.toNatClampNeg) r.toInt (pS a1.toNatClampNeg)) ∧ (zKp vS vS1 s0.toNatClampNeg) ∧ (r.toInt = 1 → zlZ K X (zlZ K X (zaZ K X 1) 14) 15 (pS a0.toNatClampNeg) (zC (tz vS1) s0.toNatClampNeg s1.toNatClampNeg) (pS a1.toNatClampNeg))) (fun (u : Int32 × Int32 × (Nat → Int32)) (t : State) => match u with | (a1, s1, vS1) => gH (dC, dI) kA (SHc nC nS) G t.heap ∧ gF (dC, dI) SKc G ([(152, 12), (152, 13), (162, 0)] : List (Nat × Nat)) s.heap t.heap ∧ el t.heap o0 (dI 7 13) = some (.int a1) ∧ el t.heap o0 (dI 7 12) = some (.int s1) ∧ ct t.heap sp9 400 vS1) A) #[.ref o0, .int 5] s 0 0 A) (F0 m 8 ls []) := by
    intro n105
    induction n105 with
    | zero =>
      intro i24 hn105 hlo106 z25 V28 z33 z36 ⟨h26, h34, h37, hj39, hj40, hj41, hj42, hj43⟩ H locs hT hF hS m27 m29 m30 m31 m32 m35 m38 ls hl
      obtain rfl : 400 = i24 := by omega
      refine lv_iload_n hx hb dX4_readAny_8 rfl (lv_at hl 0 rfl) ?_
      refine lv_sipush (v := 400) hx hb dX4_readAny_9 (by decide) ?_
      refine lv_icmp_ge (tgt := 46) hx hb dX4_readAny_12 (by decide) (fun c107 => ?_) (fun c107 => (by exfalso; have q9 : ((400 : Nat) : Int) < 400 := ti_nle c107 (by decide) (nI_toInt (by omega)); omega))
      have t108 : 400 ≤ ((400 : Nat) : Int) := ti_le c107 (by decide) (nI_toInt (by omega))
      refine lv_iload_n hx hb dX4_readAny_46 rfl (lv_at hl 1 rfl) ?_
      exact W.zret (v := z25) hx hb hr (nar_b (by have q8 := ti_all z25; omega)) (fun t ht hW => ⟨⟨z25, (z33, z36, V28), rfl, (by exact ⟨(by have q8 := ti_all z33; omega), (by have q8 := ti_all z36; omega), (by have q8 := ti_all z25; omega), (by omega), (by omega), (by rcases hj40.1 with ⟨h8, l9⟩ | ⟨h8, l9⟩; (rw [h8]; exact lp_e l9 (fun h7 => by have := tn_of (show z33.toInt = z33.toInt from rfl) (by omega); have := tn_of (show tn.toInt = tn.toInt from rfl) (by omega); have k9 := hKK tn.toNatClampNeg (Nat.le_refl _); have e9 := hc_vT.at hm_tv (by have q9 := tn_of hx_tv (by omega); omega); have k8 : (vT tn.toNatClampNeg).toInt = 21 := (by have q8 := congrArg Int32.toInt e9; rw [show ix_tv.toNatClampNeg = tn.toNatClampNeg from tn_same hx_tv rfl rfl] at q8; omega); rw [show z33.toNatClampNeg = tn.toNatClampNeg from by omega] at h7; omega)); rw [h8]; exact l9), hj42, (fun h8 => ⟨hj41 h8, fun h7 => by have := tn_of (show z33.toInt = z33.toInt from rfl) (by omega); have := tn_of (show tn.toInt = tn.toInt from rfl) (by omega); have k9 := hKK tn.toNatClampNeg (Nat.le_refl _); have e9 := hc_vT.at hm_tv (by have q9 := tn_of hx_tv (by omega); omega); have k8 : (vT tn.toNatClampNeg).toInt = 21 := (by have q8 := congrArg Int32.toInt e9; rw [show ix_tv.toNatClampNeg = tn.toNatClampNeg from tn_same hx_tv rfl rfl] at q8; omega); rw [show z33.toNatClampNeg = tn.toNatClampNeg from by omega] at h7; omega⟩)⟩), by (try dsimp only); rw [ht]; exact ⟨hT, hF, m35, m38, m29⟩⟩, hS.F ht⟩) hS.2.2 dX4_readAny_47
    | succ n105 ih105 =>
      intro i24 hn105 hlo106 z25 V28 z33 z36 ⟨h26, h34, h37, hj39, hj40, hj41, hj42, hj43⟩ H locs hT hF hS m27 m29 m30 m31 m32 m35 m38 ls hl
      have hlt108 : i24 < 400 := by omega
      refine lv_iload_n hx hb dX4_readAny_8 rfl (lv_at hl 0 rfl) ?_
      refine lv_sipush (v := 400) hx hb dX4_readAny_9 (by decide) ?_
      refine lv_icmp_ge (tgt := 46) hx hb dX4_readAny_12 (by decide) (fun c109 => (by exfalso; have q9 : 400 ≤ ((i24 : Nat) : Int) := ti_le c109 (by decide) (nI_toInt (by omega)); omega)) (fun c109 => ?_)
      have t110 : ((i24 : Nat) : Int) < 400 := ti_nle c109 (by decide) (nI_toInt (by omega))
      refine lv_iload_n hx hb dX4_readAny_15 rfl (lv_at hl 1 rfl) ?_
      refine lv_if_eq (tgt := 46) hx hb dX4_readAny_16 (by decide) (fun c111 => ?_) (fun c111 => ?_)
      · have t112 : z25.toInt = 0 := ti_eq c111 rfl (by decide)
        refine lv_iload_n hx hb dX4_readAny_46 rfl (lv_at hl 1 rfl) ?_
        exact W.zret (v := z25) hx hb hr (nar_b (by have q8 := ti_all z25; omega)) (fun t ht hW => ⟨⟨z25, (z33, z36, V28), rfl, (by exact ⟨(by have q8 := ti_all z33; omega), (by have q8 := ti_all z36; omega), (by have q8 := ti_all z25; omega), (by omega), (by omega), (by rcases hj40.1 with ⟨h8, l9⟩ | ⟨h8, l9⟩; (rw [h8]; exact lp_e l9 (fun h7 => by have := tn_of (show z33.toInt = z33.toInt from rfl) (by omega); have := tn_of (show tn.toInt = tn.toInt from rfl) (by omega); have k9 := hKK tn.toNatClampNeg (Nat.le_refl _); have e9 := hc_vT.at hm_tv (by have q9 := tn_of hx_tv (by omega); omega); have k8 : (vT tn.toNatClampNeg).toInt = 21 := (by have q8 := congrArg Int32.toInt e9; rw [show ix_tv.toNatClampNeg = tn.toNatClampNeg from tn_same hx_tv rfl rfl] at q8; omega); rw [show z33.toNatClampNeg = tn.toNatClampNeg from by omega] at h7; omega)); rw [h8]; exact l9), hj42, (fun h8 => ⟨hj41 h8, fun h7 => by have := tn_of (show z33.toInt = z33.toInt from rfl) (by omega); have := tn_of (show tn.toInt = tn.toInt from rfl) (by omega); have k9 := hKK tn.toNatClampNeg (Nat.le_refl _); have e9 := hc_vT.at hm_tv (by have q9 := tn_of hx_tv (by omega); omega); have k8 : (vT tn.toNatClampNeg).toInt = 21 := (by have q8 := congrArg Int32.toInt e9; rw [show ix_tv.toNatClampNeg = tn.toNatClampNeg from tn_same hx_tv rfl rfl] at q8; omega); rw [show z33.toNatClampNeg = tn.toNatClampNeg from by omega] at h7; omega⟩)⟩), by (try dsimp only); rw [ht]; exact ⟨hT, hF, m35, m38, m29⟩⟩, hS.F ht⟩) hS.2.2 dX4_readAny_47
      · have t113 : z25.toInt ≠ 0 := ti_ne c111 rfl (by decide)
        refine lv_aload_n hx hb dX4_readAny_19 rfl (lv_at hl 2 rfl) ?_
        refine lv_bipush (v := 15) hx hb dX4_readAny_20 (by decide) ?_
        have hFc := gA_free hG hA hS
        refine va_calli (va_runV (As := [.int 15]) (rest := []) ⟨hx, hb, hml, hown, hts⟩ (c_take l dC dI kA adK adV G H nC nS o0 15 th z33 vT tv ix_tv ix_tv K X pS hT hr_o0 m30 hr_th m35 (by have q8 := ti_all ix_tv; omega) (by have q8 := ti_all z33; omega) (by have := (show z33.toInt = z33.toInt from rfl); have := (show ix_tv.toInt = ix_tv.toInt from rfl); omega) (by have := (show (15 : Int32).toInt = 15 from (by decide)); omega) (fun m hm => hKK m (Nat.le_trans hm (Nat.le_of_eq (tn_same hx_tv rfl rfl)))) (fun m hm => hXX m (Nat.lt_of_lt_of_eq hm (tn_same hx_tv rfl rfl))) m27 (by have q9 := (show ix_tv.toInt = ix_tv.toInt from rfl); have := (show ix_tv.toInt = ix_tv.toInt from rfl); omega) m32 (by have q8 := ti_all tv; omega) (by omega) (by omega)) (cwV 1 hts (goodIn_app (goodIn_r _ [20, 21, 22, 15] rfl (by decide +kernel)) (goodIn_ca (goodIn_r _ [19, 3, 4] rfl (by decide +kernel)) (bs2_in _ _))) rfl rfl rfl (by decide +kernel) ⟨(Nat.le_of_ble_eq_true rfl), (Nat.le_of_ble_eq_true rfl)⟩) ⟨fun a U g mk q => by obtain ⟨q0, q1, qK, qE⟩ := q; exact ⟨q0, q1, va_K.moved (u := U) (U := U.calling g mk a) (Vm.Alike.refl U.vm) qK, EVC.blind g mk a qE⟩, gH_rc hK hT hr_o0 shc_152 rfl, fun U hU hW => ⟨rfl, hU, va_K.moved hW.alike hK, hE.call hS hFc hU hW⟩⟩ rfl rfl hl.1 rfl (lv_room (Nat.le_of_ble_eq_true rfl)) dX4_readAny_22 ⟨(Nat.le_of_ble_eq_true rfl), (Nat.le_of_ble_eq_true rfl)⟩) hS (fun q _ h => hFc q h) hFc (fun r114 u t H locs ht hvm hw115 hB _ _ hS => ?_)
        obtain ⟨u116, rfl⟩ : ∃ z, z = u := ⟨_, rfl⟩
        obtain ⟨hT, hF1, m117⟩ := hB
        rw [ht] at hT hF1 m117
        have m118 := m27.kept (hF1.arr hr_th skc_153 (by decide))
        have m119 := m29.kept (hF1.arr hr_sp9 skc_162 (by decide))
        have m120 := (hF1.fld hr_o0 skc_152 (k := 0) (by decide) (by decide)).trans m30
        have m121 := (hF1.fld hr_o0 skc_152 (k := 9) (by decide) (by decide)).trans m31
        have m122 := (el_kept (hF1.arr hr_th skc_153 (by decide))).trans m32
        have m124 := (hF1.fld hr_o0 skc_152 (k := 12) (by decide) (by decide)).trans m38
        have hF := hF.more hF1 (by decide)
        try dsimp only at hw115
        obtain ⟨h125, h126, hf127, hf128, hf129⟩ := hw115
        refine lv_if_eq (tgt := 46) hx hb dX4_readAny_25 (by decide) (fun c130 => ?_) (fun c130 => ?_)
        · have t131 : r114.toInt = 0 := ti_eq c130 rfl (by decide)
          refine lv_iload_n hx hb dX4_readAny_46 rfl (lv_at hl 1 rfl) ?_
          exact W.zret (v := z25) hx hb hr (nar_b (by have q8 := ti_all z25; omega)) (fun t ht hW => ⟨⟨z25, (u116, z36, V28), rfl, (by exact ⟨(by have q8 := ti_all u116; omega), (by have q8 := ti_all z36; omega), (by have q8 := ti_all z25; omega), (by omega), (by omega), (by have l9 := (hj40.1.resolve_right (fun h8 => by have := h8.1; omega)).2; have a9 := hf128.resolve_left (fun h8 => by have := h8.2.1; omega); rw [show z25.toInt = 1 from by omega, a9.2.2]; exact lp_e l9 (fun h7 => a9.1 (h7.trans (by decide)))), hj42, (fun h8 => ⟨by (try dsimp only); have a9 := hf128.resolve_left (fun h8 => by have := h8.2.1; omega); rw [a9.2.2]; exact hj41 h8, by (try dsimp only); have a9 := hf128.resolve_left (fun h8 => by have := h8.2.1; omega); rw [a9.2.2]; exact fun h7 => a9.1 (h7.trans (by decide))⟩)⟩), by (try dsimp only); rw [ht]; exact ⟨hT, hF, m117, m124, m119⟩⟩, hS.F ht⟩) hS.2.2 dX4_readAny_47
        · have t132 : r114.toInt ≠ 0 := ti_ne c130 rfl (by decide)
          refine lv_aload_n hx hb dX4_readAny_28 rfl (lv_at hl 2 rfl) ?_
          refine lv_iload_n hx hb dX4_readAny_29 rfl (lv_at hl 3 rfl) ?_
          have hFc := gA_free hG hA hS
          refine va_calli (va_runV (As := [.int 5]) (rest := []) ⟨hx, hb, hml, hown, hts⟩ (c_readAll5 l dC dI kA adK adV G H nC nS o0 th u116 z36 sp9 vT V28 tv ix_tv ix_tv K X pS hT hr_o0 m120 hr_th m117 m124 m121 hr_sp9 (by have q8 := ti_all ix_tv; omega) (by have q8 := ti_all u116; omega) (by have := (show u116.toInt = u116.toInt from rfl); have := (show ix_tv.toInt = ix_tv.toInt from rfl); omega) (fun m hm => hKK m (Nat.le_trans hm (Nat.le_of_eq (tn_same hx_tv rfl rfl)))) (fun m hm => hXX m (Nat.lt_of_lt_of_eq hm (tn_same hx_tv rfl rfl))) (by have q8 := ti_all z36; omega) (by have := (show z36.toInt = z36.toInt from rfl); have := (show u116.toInt = u116.toInt from rfl); omega) m118 m119 (by have q9 := (show ix_tv.toInt = ix_tv.toInt from rfl); have := (show ix_tv.toInt = ix_tv.toInt from rfl); omega) m122 (by have q8 := ti_all tv; omega) (by omega) (by omega)) (cwV 1 hts (goodIn_app (goodIn_r _ [32, 33, 34, 15] rfl (by decide +kernel)) (goodIn_ca (goodIn_r _ [1, 2, 3, 4, 5, 1, 6, 7, 8, 9, 10, 11, 12, 13, 14, 15, 16, 17, 18, 19, 20, 21, 22, 23, 24, 25, 26, 27, 28, 29, 30, 31, 32, 33, 34, 35, 36, 37] rfl (by decide +kernel)) (bs2_in _ _))) rfl rfl rfl (by decide +kernel) ⟨(Nat.le_of_ble_eq_true rfl), (Nat.le_of_ble_eq_true rfl)⟩) ⟨fun a U g mk q => by obtain ⟨q0, q1, qK, qE⟩ := q; exact ⟨q0, q1, va_K.moved (u := U) (U := U.calling g mk a) (Vm.Alike.refl U.vm) qK, EVC.blind g mk a qE⟩, gH_rc hK hT hr_o0 shc_152 rfl, fun U hU hW => ⟨rfl, hU, va_K.moved hW.alike hK, hE.call hS hFc hU hW⟩⟩ rfl rfl hl.1 rfl (lv_room (Nat.le_of_ble_eq_true rfl)) dX4_readAny_30 ⟨(Nat.le_of_ble_eq_true rfl), (Nat.le_of_ble_eq_true rfl)⟩) hS (fun q _ h => hFc q h) hFc (fun r133 u t H locs ht hvm hw134 hB _ _ hS => ?_)
          obtain ⟨u135, u136, u137⟩ := u
          obtain ⟨hT, hF1, m138, m139, m140⟩ := hB
          rw [ht] at hT hF1 m138 m139 m140
          have m141 := m118.kept (hF1.arr hr_th skc_153 (by decide))
          have m143 := (hF1.fld hr_o0 skc_152 (k := 0) (by decide) (by decide)).trans m120
          have m144 := (hF1.fld hr_o0 skc_152 (k := 9) (by decide) (by decide)).trans m121
          have m145 := (el_kept (hF1.arr hr_th skc_153 (by decide))).trans m122
          have hF := hF.more hF1 (by decide)
          try dsimp only at hw134
          obtain ⟨h148, h149, h150, hf151, hf152, hf153, hf154, hf155⟩ := hw134
          refine lv_istore_n (lv' := [(2, .int r133), (3, .int (nI i24)), (0, .ref o0), (1, .int 5)]) hx hb dX4_readAny_33 rfl hl (by decide) rfl (fun ls hl => ?_)
          refine lv_aload_n hx hb dX4_readAny_34 rfl (lv_at hl 2 rfl) ?_
          refine lv_bipush (v := 15) hx hb dX4_readAny_35 (by decide) ?_
          have hFc := gA_free hG hA hS
          refine va_callv (va_runV (As := [.int 15]) (rest := []) ⟨hx, hb, hml, hown, hts⟩ (c_addStep l dC dI kA adK adV G H nC nS o0 15 u136 sp9 u137 hT hr_o0 m139 m144 hr_sp9 (rg_t (a := 15) (by decide) (by first | decide | omega) (by first | decide | omega)) (by have q8 := ti_all u136; omega) m140 (by omega) (by omega)) (cwV 1 hts (goodIn_app (goodIn_r _ [12, 13, 14, 15] rfl (by decide +kernel)) (goodIn_ca (goodIn_r _ [9, 10, 11] rfl (by decide +kernel)) (bs2_in _ _))) rfl rfl rfl (by decide +kernel) ⟨(Nat.le_of_ble_eq_true rfl), (Nat.le_of_ble_eq_true rfl)⟩) ⟨fun a U g mk q => by obtain ⟨q0, q1, qK, qE⟩ := q; exact ⟨q0, q1, va_K.moved (u := U) (U := U.calling g mk a) (Vm.Alike.refl U.vm) qK, EVC.blind g mk a qE⟩, gH_rc hK hT hr_o0 shc_152 rfl, fun U hU hW => ⟨rfl, hU, va_K.moved hW.alike hK, hE.call hS hFc hU hW⟩⟩ rfl rfl hl.1 rfl (lv_room (Nat.le_of_ble_eq_true rfl)) dX4_readAny_37 ⟨(Nat.le_of_ble_eq_true rfl), (Nat.le_of_ble_eq_true rfl)⟩) hS (fun q _ h => hFc q h) hFc (fun u t H locs ht hvm hw157 hB _ _ hS => ?_)
          obtain ⟨u158, rfl⟩ : ∃ z, z = u := ⟨_, rfl⟩
          obtain ⟨hT, hF1, m159, m160⟩ := hB
          rw [ht] at hT hF1 m159 m160
          have m161 := m141.kept (hF1.arr hr_th skc_153 (by decide))
          have m162 := (hF1.fld hr_o0 skc_152 (k := 0) (by decide) (by decide)).trans m143
          have m163 := (hF1.fld hr_o0 skc_152 (k := 9) (by decide) (by decide)).trans m144
          have m164 := (el_kept (hF1.arr hr_th skc_153 (by decide))).trans m145
          have m165 := (hF1.fld hr_o0 skc_152 (k := 13) (by decide) (by decide)).trans m138
          have hF := hF.more hF1 (by decide)
          try dsimp only at hw157
          obtain ⟨h168, hf169⟩ := hw157
          refine lv_iinc (v := nI (i24 + 1)) (lv' := [(3, .int (nI (i24 + 1))), (2, .int r133), (0, .ref o0), (1, .int 5)]) hx hb dX4_readAny_40 hl (k := 1) rfl (nI_add i24 1) (by decide) rfl (fun ls hl => ?_)
          refine lv_goto (tgt := 8) hx hb dX4_readAny_43 (by decide) ?_
          exact ih105 (i24 + 1) (by omega) (by omega) r133 (cu u137 u136.toNatClampNeg 15) u135 u158 ⟨(by have q8 := ti_all r133; omega), (by have q8 := ti_all u135; omega), (by have q8 := ti_all u158; omega), (by have := hx_tv; have := (show u135.toInt = u135.toInt from rfl); omega), ⟨(by have l9 := (hj40.1.resolve_right (fun h8 => by have := h8.1; omega)).2; have a9 := hf128.resolve_right (fun h8 => by have := h8.2.1; omega); have h9 := hf153; rw [a9.2.2] at h9; rcases (show r133.toInt = 1 ∨ r133.toInt = 0 by omega) with h8 | h8 <;> rw [h8] at h9; (exact Or.inl ⟨h8, lp_s l9 (a9.1.trans (by decide)) h9⟩); exact Or.inr ⟨h8, lp_f l9 (a9.1.trans (by decide)) h9⟩), by omega⟩, (fun h8 => by have := tn_of (show s0.toInt = s0.toInt from rfl) (by omega); have := tn_of (show z36.toInt = z36.toInt from rfl) (by omega); have := tn_of (show u136.toInt = u136.toInt from rfl) (by omega); have := tn_of (show u158.toInt = u158.toInt from rfl) (by omega); have l9 := hj41 (by omega); have a9 := hf128.resolve_right (fun h8 => by have := h8.2.1; omega); have h9 := hf155 h8; rw [a9.2.2] at h9; rw [zC_3 (sx := z36.toNatClampNeg) (s2 := u136.toNatClampNeg) (c := 15) (by omega) (by omega) hf154 (by omega) rfl (by decide)]; exact zlI_s l9 (a9.1.trans (by decide)) h9), ((hj42.tr hf154 (by have := tn_of (show s0.toInt = s0.toInt from rfl) (by omega); have := tn_of (show z36.toInt = z36.toInt from rfl) (by omega); omega)).st (by have := tn_of (show s0.toInt = s0.toInt from rfl) (by omega); have := tn_of (show u136.toInt = u136.toInt from rfl) (by omega); omega)), (by have := (show u158.toInt = u158.toInt from rfl); have := (show u135.toInt = u135.toInt from rfl); omega)⟩ _ _ hT hF hS m161 m160 m162 m163 m164 m165 m159 ls (lv_sub hl [0, 1, 2, 3] rfl)
  exact key105 (400 - 0) 0 (by omega) (Nat.le_refl _) r1 u5 u3 u4 ⟨(by have q8 := ti_all r1; omega), (by have q8 := ti_all u3; omega), (by have q8 := ti_all u4; omega), (by have := hx_tv; have := (show u3.toInt = u3.toInt from rfl); omega), ⟨(by have h9 := hf21; rcases (show r1.toInt = 1 ∨ r1.toInt = 0 by omega) with h8 | h8 <;> rw [h8] at h9; (exact Or.inl ⟨h8, lp_1 h9⟩); exact Or.inr ⟨h8, lp_0 h9⟩), by omega⟩, (fun h8 => zlI_0 (hf23 h8)), (zKp.rf.tr hf22 (by have := tn_of (show s0.toInt = s0.toInt from rfl) (by omega); omega)), (by have := (show u4.toInt = u4.toInt from rfl); have := (show u3.toInt = u3.toInt from rfl); omega)⟩ _ _ hT hF hS m13 m8 m9 m12 m15 m6 m7 ls (lv_sub hl [0, 1, 2, 3] rfl)
def w_c_readAtom4 : List Cond := .code yX4_readAtom cX4_readAtom 4 (some .boolean) :: (HAppend.hAppend (α := List Cond) (β := List Cond) (γ := List Cond) [.fieldLink RX4 11 "SeaLand$Law" "things" "[I", .fieldLink RX4 56 "SeaLand$Law" "at" "I", .code yX4_readAny cX4_readAny 4 (some .boolean), .code yX4_readAll cX4_readAll 4 (some .boolean), .code yX4_readAtom cX4_readAtom 4 (some .boolean), .code yX4_readComparison cX4_readComparison 3 (some .boolean), .code yX4_readSum cX4_readSum 3 (some .boolean), .code yX4_readPart cX4_readPart 2 (some .boolean), .code yX4_addStep cX4_addStep 2 none, .fieldLink RX4 63 "SeaLand$Law" "stepped" "I", .fieldLink RX4 39 "SeaLand$Law" "steps" "[I", .methodLink RX4 179 yX4_addStep, .instanceMethod yX4_addStep, .selects RX4 yX4_addStep yX4_addStep, .initialized RX4, .methodLink RX4 192 yX4_readPart, .instanceMethod yX4_readPart, .selects RX4 yX4_readPart yX4_readPart, .code yX4_take cX4_take 2 (some .boolean), .methodLink RX4 70 yX4_take, .instanceMethod yX4_take, .selects RX4 yX4_take yX4_take, .methodLink RX4 189 yX4_readSum, .instanceMethod yX4_readSum, .selects RX4 yX4_readSum yX4_readSum, .methodLink RX4 186 yX4_readComparison, .instanceMethod yX4_readComparison, .selects RX4 yX4_readComparison yX4_readComparison, .methodLink RX4 183 yX4_readAtom, .instanceMethod yX4_readAtom, .selects RX4 yX4_readAtom yX4_readAtom, .methodLink RX4 176 yX4_readAll, .instanceMethod yX4_readAll, .selects RX4 yX4_readAll yX4_readAll, .methodLink RX4 173 yX4_readAny, .instanceMethod yX4_readAny, .selects RX4 yX4_readAny yX4_readAny] bs2)
set_option maxHeartbeats 4000000 in
set_option maxRecDepth 100000 in
theorem c_readAtom4 (l : Launch) (dC : Nat → ClassId) (dI : Nat → Nat → Nat) (kA : Nat → ClassId) (adK adV : Nat → Nat) (G : gT) (H0 : Heap) (nC nS : Int) (o0 : Nat) (th : Nat) (a0 : Int32) (s0 : Int32) (sp9 : Nat) (vT : Nat → Int32) (vS : Nat → Int32) (tv ix_tv : Int32) (tn : Int32) (K : Nat → Int) (X pS : Nat → Nat) (hT : gH (dC, dI) kA (SHc nC nS) G H0) (hr_o0 : G o0 = some 152) (hm_th : el H0 o0 (dI 7 0) = some (.ref th)) (hr_th : G th = some 153) (hm_a0 : el H0 o0 (dI 7 13) = some (.int a0)) (hm_s0 : el H0 o0 (dI 7 12) = some (.int s0)) (hm_sp9 : el H0 o0 (dI 7 9) = some (.ref sp9)) (hr_sp9 : G sp9 = some 162) (hq0 : 0 ≤ tn.toInt ∧ tn.toInt ≤ 400) (hq1 : 0 ≤ a0.toInt ∧ a0.toInt ≤ 400) (hat : a0.toInt ≤ tn.toInt) (hKK : ∀ m : Nat, m ≤ tn.toNatClampNeg → (vT m).toInt = K (pS m)) (hXX : ∀ m : Nat, m < tn.toNatClampNeg → pS (m + 1) = X (pS m)) (hq5 : 0 ≤ s0.toInt ∧ s0.toInt ≤ 400) (hsa : s0.toInt ≤ a0.toInt) (hc_vT : ct H0 th 401 vT) (hc_vS : ct H0 sp9 400 vS) (hx_tv : ix_tv.toInt = tn.toInt) (hm_tv : el H0 th ix_tv.toNatClampNeg = some (.int tv)) (hv_tv : 21 ≤ tv.toInt ∧ tv.toInt ≤ 21) (hgC : 0 ≤ nC ∧ nC ≤ 40) (hgS : 0 ≤ nS ∧ nS ≤ 60) : Met l yX4_readAtom w_c_readAtom4 ({ frames := 10, cells := 0, slots := 0, locals := 224 }) (va_Pc [.ref o0, .int 4] (fun U => U.heap = H0 ∧ va_K (dC, dI) vwCl (tyl kA) U ∧ EVC adK adV (gA G H0.size) U U.heap)) (va_Qi (fun (r : Int32) (u : Int32 × Int32 × (Nat → Int32)) => match u with | (a1, s1, vS1) => (0 ≤ a1.toInt ∧ a1.toInt ≤ 400) ∧ (0 ≤ s1.toInt ∧ s1.toInt ≤ 400) ∧ (0 ≤ r.toInt ∧ r.toInt ≤ 1) ∧ (a0.toInt ≤ a1.toInt ∧ a1.toInt ≤ tn.toInt) ∧ (s0.toInt ≤ s1.toInt ∧ s1.toInt - s0.toInt ≤ a1.toInt - a0.toInt) ∧ (aR K X 2 (pS a0.toNatClampNeg) r.toInt (pS a1.toNatClampNeg)) ∧ (zKp vS vS1 s0.toNatClampNeg) ∧ (r.toInt = 1 → zaZ K X 2 (pS a0.toNatClampNeg) (zC (tz vS1) s0.toNatClampNeg s1.toNatClampNeg) (pS a1.toNatClampNeg))) (fun (u : Int32 × Int32 × (Nat → Int32)) (t : State) => match u with | (a1, s1, vS1) => gH (dC, dI) kA (SHc nC nS) G t.heap ∧ gF (dC, dI) SKc G ([(152, 12), (152, 13), (162, 0)] : List (Nat × Nat)) H0 t.heap ∧ el t.heap o0 (dI 7 13) = some (.int a1) ∧ el t.heap o0 (dI 7 12) = some (.int s1) ∧ ct t.heap sp9 400 vS1) (gA G H0.size)) 0 0 (gA G H0.size) := by
  refine Met.ofW (cc := cX4_readAtom) (maxL := 4) (ret := (some .boolean)) (by decide) rfl ?_
  intro p e s m args below meth c s₁ B hml hv
  obtain ⟨rfl, hH0, hK, hE⟩ := hv
  have hx := B.exec
  have hb := B.bytes
  have hr := B.returns
  have hts := atoms_spec (ws := w_c_readAtom4) B.pre
  have hown : s.vm.findClass RX4 = some m.cls := findClass_of_methodNamed B.named
  have hlocks := B.notSynchronized
  subst hH0
  generalize hAe : gA G s.heap.size = A at hE ⊢
  have hA : ∀ q : Nat, s.heap.size ≤ q → A q := fun q h => by rw [← hAe]; exact Or.inr h
  have hG := gA_of hAe
  have hS : va_S A s.heap s.heap [] := va_S.rf
  have hF : gF (dC, dI) SKc G ([(152, 12), (152, 13), (162, 0)] : List (Nat × Nat)) s.heap s.heap := gF.rf
  have hl := lv_entry ([.ref o0, .int 4]) (n := 4) (Nat.le_of_ble_eq_true rfl)
  rw [lg_entry_eq]
  generalize (lg_sl ([.ref o0, .int 4]) ++ List.replicate (4 - (lg_sl ([.ref o0, .int 4])).length) Slot.unset).toArray = ls at hl ⊢
  have hl : lv_has ls 4 [(0, .ref o0), (1, .int 4)] := hl
  refine lv_aload_n hx hb dX4_readAtom_0 rfl (lv_at hl 0 rfl) ?_
  refine tw_getM (v := .ref th) hx hb hts bF2_X4 hown hK hT hr_o0 shc_152 rfl 0 (by decide) (ht_at2 hts 0 rfl) (fun _ h9 => h9) hm_th dX4_readAtom_1 ?_
  refine lv_aload_n hx hb dX4_readAtom_4 rfl (lv_at hl 0 rfl) ?_
  refine tw_getM (v := .int a0) hx hb hts bF2_X4 hown hK hT hr_o0 shc_152 rfl 13 (by decide) (ht_at2 hts 1 rfl) (fun _ h9 => h9) hm_a0 dX4_readAtom_5 ?_
  refine tw_iald (i := a0) hx hb hK hT hr_th shc_153 rfl (vin_t (a := a0.toInt) rfl (by omega) (by omega)) dX4_readAtom_8 (fun v9 m1 h9 => ?_)
  obtain ⟨x2, rfl, gx2, kx2⟩ := h9
  have cx2 := hc_vT.at m1 (by have q9 := tn_of (show a0.toInt = a0.toInt from rfl) (by omega); omega)
  have t3 : a0.toInt = ix_tv.toInt → x2.toInt = tv.toInt := fun h8 => congrArg Int32.toInt (el_same m1 hm_tv h8)
  have t4 : x2.toInt = K (pS a0.toNatClampNeg) := (congrArg Int32.toInt cx2).trans (hKK _ (by have := tn_of (show a0.toInt = a0.toInt from rfl) (by omega); have := tn_of (show tn.toInt = tn.toInt from rfl) (by omega); omega))
  refine lv_bipush (v := 13) hx hb dX4_readAtom_9 (by decide) ?_
  have t5 : -2147483648 ≤ x2.toInt ∧ x2.toInt ≤ 2147483647 := ti_all x2
  refine lv_icmp_ne (tgt := 18) hx hb dX4_readAtom_11 (by decide) (fun c6 => ?_) (fun c6 => ?_)
  · have t7 : x2.toInt ≠ 13 := ti_ne c6 rfl (by decide)
    refine lv_iconst (v := 0) hx hb dX4_readAtom_18 (by decide) ?_
    refine lv_istore_n (lv' := [(2, .int 0), (0, .ref o0), (1, .int 4)]) hx hb dX4_readAtom_19 rfl hl (by decide) rfl (fun ls hl => ?_)
    refine lv_iload_n hx hb dX4_readAtom_20 rfl (lv_at hl 0 rfl) ?_
    refine lv_if_ne (tgt := 43) hx hb dX4_readAtom_21 (by decide) (fun c8 => absurd c8 (by decide)) (fun c8 => ?_)
    refine lv_aload_n hx hb dX4_readAtom_24 rfl (lv_at hl 1 rfl) ?_
    refine tw_getM (v := .ref th) hx hb hts bF2_X4 hown hK hT hr_o0 shc_152 rfl 0 (by decide) (ht_at2 hts 0 rfl) (fun _ h9 => h9) hm_th dX4_readAtom_25 ?_
    refine lv_aload_n hx hb dX4_readAtom_28 rfl (lv_at hl 1 rfl) ?_
    refine tw_getM (v := .int a0) hx hb hts bF2_X4 hown hK hT hr_o0 shc_152 rfl 13 (by decide) (ht_at2 hts 1 rfl) (fun _ h9 => h9) hm_a0 dX4_readAtom_29 ?_
    refine tw_iald (i := a0) hx hb hK hT hr_th shc_153 rfl (vin_t (a := a0.toInt) rfl (by omega) (by omega)) dX4_readAtom_32 (fun v9 m9 h9 => ?_)
    obtain ⟨x10, rfl, gx10, kx10⟩ := h9
    have cx10 := hc_vT.at m9 (by have q9 := tn_of (show a0.toInt = a0.toInt from rfl) (by omega); omega)
    have t11 : a0.toInt = ix_tv.toInt → x10.toInt = tv.toInt := fun h8 => congrArg Int32.toInt (el_same m9 hm_tv h8)
    obtain rfl : x2 = x10 := (el_same m9 m1 rfl).symm
    refine lv_bipush (v := 16) hx hb dX4_readAtom_33 (by decide) ?_
    refine lv_icmp_eq (tgt := 43) hx hb dX4_readAtom_35 (by decide) (fun c12 => ?_) (fun c12 => ?_)
    · have t13 : x2.toInt = 16 := ti_eq c12 rfl (by decide)
      refine lv_iload_n hx hb dX4_readAtom_43 rfl (lv_at hl 2 rfl) ?_
      refine lv_bipush (v := 6) hx hb dX4_readAtom_44 (by decide) ?_
      refine lv_icmp_lt (tgt := 51) hx hb dX4_readAtom_46 (by decide) (fun c14 => ?_) (fun c14 => absurd c14 (by decide))
      refine lv_aload_n hx hb dX4_readAtom_51 rfl (lv_at hl 1 rfl) ?_
      refine lv_dup hx hb dX4_readAtom_52 rfl ?_
      refine tw_getM (v := .int a0) hx hb hts bF2_X4 hown hK hT hr_o0 shc_152 rfl 13 (by decide) (ht_at2 hts 1 rfl) (fun _ h9 => h9) hm_a0 dX4_readAtom_53 ?_
      refine lv_iconst (v := 1) hx hb dX4_readAtom_56 (by decide) ?_
      refine lv_iadd hx hb dX4_readAtom_57 ?_
      refine lv_topi (fun x15 ex15 => ?_)
      have t16 : x15.toInt = a0.toInt + 1 := ti_add ex15 rfl (by decide) (by omega) (by omega)
      refine tw_put (v := .int x15) (ty := .int) hx hb hts bF2_X4 tyX4 tyX4_ok nmX4 hown hK hT hG hS hr_o0 shc_152 rfl 13 (by decide) (ht_at2 hts 1 rfl) (fun _ h9 => h9) rfl (by decide +kernel) rfl rfl (gl_at rfl (gi_of (show x15.toInt = x15.toInt from rfl) (by omega) (by omega))) dX4_readAtom_58 (fun H locs hT oq m17 oj hS => ?_)
      have hF := hF.put hr_o0 skc_152 oq oj (by decide)
      have m18 := (oj 0 (by decide) (by decide)).trans hm_th
      have m19 := (oj 12 (by decide) (by decide)).trans hm_s0
      have m20 := (oj 9 (by decide) (by decide)).trans hm_sp9
      have m21 := hc_vT.kept (oq _ (gne hr_th hr_o0 (by decide)))
      have m22 := hc_vS.kept (oq _ (gne hr_sp9 hr_o0 (by decide)))
      have m23 := (el_kept (oq _ (gne hr_th hr_o0 (by decide)))).trans hm_tv
      refine lv_iload_n hx hb dX4_readAtom_61 rfl (lv_at hl 0 rfl) ?_
      refine lv_if_eq (tgt := 81) hx hb dX4_readAtom_62 (by decide) (fun c25 => ?_) (fun c25 => absurd c25 (by decide))
      refine lv_aload_n hx hb dX4_readAtom_81 rfl (lv_at hl 1 rfl) ?_
      refine lv_iload_n hx hb dX4_readAtom_82 rfl (lv_at hl 2 rfl) ?_
      refine lv_iconst (v := 1) hx hb dX4_readAtom_83 (by decide) ?_
      refine lv_iadd hx hb dX4_readAtom_84 ?_
      refine lv_topi (fun x26 ex26 => ?_)
      obtain rfl : x26 = 5 := ex26.trans (by decide)
      have hFc := gA_free hG hA hS
      refine va_calli (va_runV (As := [.int 5]) (rest := []) ⟨hx, hb, hml, hown, hts⟩ (c_readAny5 l dC dI kA adK adV G H nC nS o0 th x15 s0 sp9 vT vS tv ix_tv ix_tv K X pS hT hr_o0 m18 hr_th m17 m19 m20 hr_sp9 (by have q8 := ti_all ix_tv; omega) (by have q8 := ti_all x15; omega) (by have := (show x15.toInt = x15.toInt from rfl); have := (show ix_tv.toInt = ix_tv.toInt from rfl); omega) (fun m hm => hKK m (Nat.le_trans hm (Nat.le_of_eq (tn_same hx_tv rfl rfl)))) (fun m hm => hXX m (Nat.lt_of_lt_of_eq hm (tn_same hx_tv rfl rfl))) (by have q8 := ti_all s0; omega) (by have := (show s0.toInt = s0.toInt from rfl); have := (show x15.toInt = x15.toInt from rfl); omega) m21 m22 (by have q9 := (show ix_tv.toInt = ix_tv.toInt from rfl); have := (show ix_tv.toInt = ix_tv.toInt from rfl); omega) m23 (by have q8 := ti_all tv; omega) (by omega) (by omega)) (cwV 1 hts (goodIn_app (goodIn_r _ [35, 36, 37, 15] rfl (by decide +kernel)) (goodIn_ca (goodIn_r _ [3, 4, 5, 1, 2, 3, 6, 7, 8, 9, 10, 11, 12, 13, 14, 15, 16, 17, 18, 19, 20, 21, 22, 23, 24, 25, 26, 27, 28, 29, 30, 31, 32, 33, 34, 35, 36, 37] rfl (by decide +kernel)) (bs2_in _ _))) rfl rfl rfl (by decide +kernel) ⟨(Nat.le_of_ble_eq_true rfl), (Nat.le_of_ble_eq_true rfl)⟩) ⟨fun a U g mk q => by obtain ⟨q0, q1, qK, qE⟩ := q; exact ⟨q0, q1, va_K.moved (u := U) (U := U.calling g mk a) (Vm.Alike.refl U.vm) qK, EVC.blind g mk a qE⟩, gH_rc hK hT hr_o0 shc_152 rfl, fun U hU hW => ⟨rfl, hU, va_K.moved hW.alike hK, hE.call hS hFc hU hW⟩⟩ rfl rfl hl.1 rfl (lv_room (Nat.le_of_ble_eq_true rfl)) dX4_readAtom_85 ⟨(Nat.le_of_ble_eq_true rfl), (Nat.le_of_ble_eq_true rfl)⟩) hS (fun q _ h => hFc q h) hFc (fun r27 u t H locs ht hvm hw28 hB _ _ hS => ?_)
      obtain ⟨u29, u30, u31⟩ := u
      obtain ⟨hT, hF1, m32, m33, m34⟩ := hB
      rw [ht] at hT hF1 m32 m33 m34
      have m35 := (hF1.fld hr_o0 skc_152 (k := 0) (by decide) (by decide)).trans m18
      have m38 := m21.kept (hF1.arr hr_th skc_153 (by decide))
      have m40 := (el_kept (hF1.arr hr_th skc_153 (by decide))).trans m23
      have hF := hF.more hF1 (by decide)
      try dsimp only at hw28
      obtain ⟨h43, h44, h45, hf46, hf47, hf48, hf49, hf50⟩ := hw28
      refine lv_if_eq (tgt := 104) hx hb dX4_readAtom_88 (by decide) (fun c51 => ?_) (fun c51 => ?_)
      · have t52 : r27.toInt = 0 := ti_eq c51 rfl (by decide)
        refine lv_iconst (v := 0) hx hb dX4_readAtom_104 (by decide) ?_
        exact W.zret (v := 0) hx hb hr (by decide) (fun t ht hW => ⟨⟨0, (u29, u30, u31), rfl, (by exact ⟨(by have q8 := ti_all u29; omega), (by have q8 := ti_all u30; omega), (rg_t (a := 0) (by decide) (by first | decide | omega) (by first | decide | omega)), (by omega), (by omega), (by have h9 := hf48; rw [(show pS x15.toNatClampNeg = X (pS a0.toNatClampNeg) from by rw [show x15.toNatClampNeg = a0.toNatClampNeg + 1 from by have := tn_of (show a0.toInt = a0.toInt from rfl) (by omega); have := tn_of (show x15.toInt = x15.toInt from rfl) (by omega); omega]; exact hXX _ (by have := tn_of (show a0.toInt = a0.toInt from rfl) (by omega); have := tn_of (show tn.toInt = tn.toInt from rfl) (by omega); omega))] at h9; rw [show r27.toInt = 0 from by omega] at h9; exact Or.inr (Or.inl ⟨by omega, Or.inl ⟨h9, by decide⟩⟩)), (zKp.rf.tr hf49 (by have := tn_of (show s0.toInt = s0.toInt from rfl) (by omega); omega)), (fun h8 => absurd h8 (by decide))⟩), by (try dsimp only); rw [ht]; exact ⟨hT, hF, m32, m33, m34⟩⟩, hS.F ht⟩) hS.2.2 dX4_readAtom_105
      · have t53 : r27.toInt ≠ 0 := ti_ne c51 rfl (by decide)
        refine lv_aload_n hx hb dX4_readAtom_91 rfl (lv_at hl 1 rfl) ?_
        refine lv_bipush (v := 17) hx hb dX4_readAtom_92 (by decide) ?_
        have hFc := gA_free hG hA hS
        refine va_calli (va_runV (As := [.int 17]) (rest := []) ⟨hx, hb, hml, hown, hts⟩ (c_take l dC dI kA adK adV G H nC nS o0 17 th u29 vT tv ix_tv ix_tv K X pS hT hr_o0 m35 hr_th m32 (by have q8 := ti_all ix_tv; omega) (by have q8 := ti_all u29; omega) (by have := (show u29.toInt = u29.toInt from rfl); have := (show ix_tv.toInt = ix_tv.toInt from rfl); omega) (by have := (show (17 : Int32).toInt = 17 from (by decide)); omega) (fun m hm => hKK m (Nat.le_trans hm (Nat.le_of_eq (tn_same hx_tv rfl rfl)))) (fun m hm => hXX m (Nat.lt_of_lt_of_eq hm (tn_same hx_tv rfl rfl))) m38 (by have q9 := (show ix_tv.toInt = ix_tv.toInt from rfl); have := (show ix_tv.toInt = ix_tv.toInt from rfl); omega) m40 (by have q8 := ti_all tv; omega) (by omega) (by omega)) (cwV 1 hts (goodIn_app (goodIn_r _ [20, 21, 22, 15] rfl (by decide +kernel)) (goodIn_ca (goodIn_r _ [19, 1, 2] rfl (by decide +kernel)) (bs2_in _ _))) rfl rfl rfl (by decide +kernel) ⟨(Nat.le_of_ble_eq_true rfl), (Nat.le_of_ble_eq_true rfl)⟩) ⟨fun a U g mk q => by obtain ⟨q0, q1, qK, qE⟩ := q; exact ⟨q0, q1, va_K.moved (u := U) (U := U.calling g mk a) (Vm.Alike.refl U.vm) qK, EVC.blind g mk a qE⟩, gH_rc hK hT hr_o0 shc_152 rfl, fun U hU hW => ⟨rfl, hU, va_K.moved hW.alike hK, hE.call hS hFc hU hW⟩⟩ rfl rfl hl.1 rfl (lv_room (Nat.le_of_ble_eq_true rfl)) dX4_readAtom_94 ⟨(Nat.le_of_ble_eq_true rfl), (Nat.le_of_ble_eq_true rfl)⟩) hS (fun q _ h => hFc q h) hFc (fun r54 u t H locs ht hvm hw55 hB _ _ hS => ?_)
        obtain ⟨u56, rfl⟩ : ∃ z, z = u := ⟨_, rfl⟩
        obtain ⟨hT, hF1, m57⟩ := hB
        rw [ht] at hT hF1 m57
        have m64 := (hF1.fld hr_o0 skc_152 (k := 12) (by decide) (by decide)).trans m33
        have m65 := m34.kept (hF1.arr hr_sp9 skc_162 (by decide))
        have hF := hF.more hF1 (by decide)
        try dsimp only at hw55
        obtain ⟨h66, h67, hf68, hf69, hf70⟩ := hw55
        refine lv_if_eq (tgt := 104) hx hb dX4_readAtom_97 (by decide) (fun c71 => ?_) (fun c71 => ?_)
        · have t72 : r54.toInt = 0 := ti_eq c71 rfl (by decide)
          refine lv_iconst (v := 0) hx hb dX4_readAtom_104 (by decide) ?_
          exact W.zret (v := 0) hx hb hr (by decide) (fun t ht hW => ⟨⟨0, (u56, u30, u31), rfl, (by exact ⟨(by have q8 := ti_all u56; omega), (by have q8 := ti_all u30; omega), (rg_t (a := 0) (by decide) (by first | decide | omega) (by first | decide | omega)), (by omega), (by omega), (by have h9 := hf48; rw [(show pS x15.toNatClampNeg = X (pS a0.toNatClampNeg) from by rw [show x15.toNatClampNeg = a0.toNatClampNeg + 1 from by have := tn_of (show a0.toInt = a0.toInt from rfl) (by omega); have := tn_of (show x15.toInt = x15.toInt from rfl) (by omega); omega]; exact hXX _ (by have := tn_of (show a0.toInt = a0.toInt from rfl) (by omega); have := tn_of (show tn.toInt = tn.toInt from rfl) (by omega); omega))] at h9; rw [show r27.toInt = 1 from by omega] at h9; have t9 := hf69; exact Or.inr (Or.inl ⟨by omega, Or.inr ⟨_, h9, (by have q0 : (0 : Int32).toInt = 0 := (by decide); have q1 : (1 : Int32).toInt = 1 := (by decide); rcases t9 with ⟨x1, x2, x3⟩ | ⟨x1, x2, x3⟩; (exact Or.inl ⟨x1.trans (by decide), by omega, x3⟩); exact Or.inr ⟨fun h7 => x1 (h7.trans (by decide)), by omega, x3⟩)⟩⟩)), (zKp.rf.tr hf49 (by have := tn_of (show s0.toInt = s0.toInt from rfl) (by omega); omega)), (fun h8 => absurd h8 (by decide))⟩), by (try dsimp only); rw [ht]; exact ⟨hT, hF, m57, m64, m65⟩⟩, hS.F ht⟩) hS.2.2 dX4_readAtom_105
        · have t73 : r54.toInt ≠ 0 := ti_ne c71 rfl (by decide)
          refine lv_iconst (v := 1) hx hb dX4_readAtom_100 (by decide) ?_
          refine lv_goto (tgt := 105) hx hb dX4_readAtom_101 (by decide) ?_
          exact W.zret (v := 1) hx hb hr (by decide) (fun t ht hW => ⟨⟨1, (u56, u30, u31), rfl, (by exact ⟨(by have q8 := ti_all u56; omega), (by have q8 := ti_all u30; omega), (rg_t (a := 1) (by decide) (by first | decide | omega) (by first | decide | omega)), (by omega), (by omega), (by have h9 := hf48; rw [(show pS x15.toNatClampNeg = X (pS a0.toNatClampNeg) from by rw [show x15.toNatClampNeg = a0.toNatClampNeg + 1 from by have := tn_of (show a0.toInt = a0.toInt from rfl) (by omega); have := tn_of (show x15.toInt = x15.toInt from rfl) (by omega); omega]; exact hXX _ (by have := tn_of (show a0.toInt = a0.toInt from rfl) (by omega); have := tn_of (show tn.toInt = tn.toInt from rfl) (by omega); omega))] at h9; rw [show r27.toInt = 1 from by omega] at h9; have t9 := hf69; exact Or.inr (Or.inl ⟨by omega, Or.inr ⟨_, h9, (by have q0 : (0 : Int32).toInt = 0 := (by decide); have q1 : (1 : Int32).toInt = 1 := (by decide); rcases t9 with ⟨x1, x2, x3⟩ | ⟨x1, x2, x3⟩; (exact Or.inl ⟨x1.trans (by decide), by omega, x3⟩); exact Or.inr ⟨fun h7 => x1 (h7.trans (by decide)), by omega, x3⟩)⟩⟩)), (zKp.rf.tr hf49 (by have := tn_of (show s0.toInt = s0.toInt from rfl) (by omega); omega)), (fun h8 => by have h9 := hf50 (by omega); rw [(show pS x15.toNatClampNeg = X (pS a0.toNatClampNeg) from by rw [show x15.toNatClampNeg = a0.toNatClampNeg + 1 from by have := tn_of (show a0.toInt = a0.toInt from rfl) (by omega); have := tn_of (show x15.toInt = x15.toInt from rfl) (by omega); omega]; exact hXX _ (by have := tn_of (show a0.toInt = a0.toInt from rfl) (by omega); have := tn_of (show tn.toInt = tn.toInt from rfl) (by omega); omega))] at h9; have t9 := hf69.resolve_right (fun h7 => by have := h7.2.1; omega); exact Or.inr (Or.inl ⟨by omega, _, h9, t9.1.trans (by decide), t9.2.2⟩))⟩), by (try dsimp only); rw [ht]; exact ⟨hT, hF, m57, m64, m65⟩⟩, hS.F ht⟩) hS.2.2 dX4_readAtom_105
    · have t74 : x2.toInt ≠ 16 := ti_ne c12 rfl (by decide)
      refine lv_aload_n hx hb dX4_readAtom_38 rfl (lv_at hl 1 rfl) ?_
      have hFc := gA_free hG hA hS
      refine va_calli (va_runV (As := []) (rest := []) ⟨hx, hb, hml, hown, hts⟩ (c_readComparison l dC dI kA adK adV G s.heap nC nS o0 th a0 s0 sp9 vT vS tv ix_tv ix_tv K X pS hT hr_o0 hm_th hr_th hm_a0 hm_s0 hm_sp9 hr_sp9 (by have q8 := ti_all ix_tv; omega) (by have q8 := ti_all a0; omega) (by have := (show a0.toInt = a0.toInt from rfl); have := (show ix_tv.toInt = ix_tv.toInt from rfl); omega) (fun m hm => hKK m (Nat.le_trans hm (Nat.le_of_eq (tn_same hx_tv rfl rfl)))) (fun m hm => hXX m (Nat.lt_of_lt_of_eq hm (tn_same hx_tv rfl rfl))) (by have q8 := ti_all s0; omega) (by have := (show s0.toInt = s0.toInt from rfl); have := (show a0.toInt = a0.toInt from rfl); omega) hc_vT hc_vS (by have q9 := (show ix_tv.toInt = ix_tv.toInt from rfl); have := (show ix_tv.toInt = ix_tv.toInt from rfl); omega) hm_tv (by have q8 := ti_all tv; omega) (by omega) (by omega)) (cwV 0 hts (goodIn_app (goodIn_r _ [26, 27, 28, 15] rfl (by decide +kernel)) (goodIn_ca (goodIn_r _ [6, 7, 8, 1, 2, 9, 10, 11, 12, 13, 14, 15, 16, 17, 18, 19, 20, 21, 22, 23, 24, 25] rfl (by decide +kernel)) (bs2_in _ _))) rfl rfl rfl (by decide +kernel) ⟨(Nat.le_of_ble_eq_true rfl), (Nat.le_of_ble_eq_true rfl)⟩) ⟨fun a U g mk q => by obtain ⟨q0, q1, qK, qE⟩ := q; exact ⟨q0, q1, va_K.moved (u := U) (U := U.calling g mk a) (Vm.Alike.refl U.vm) qK, EVC.blind g mk a qE⟩, gH_rc hK hT hr_o0 shc_152 rfl, fun U hU hW => ⟨rfl, hU, va_K.moved hW.alike hK, hE.call hS hFc hU hW⟩⟩ rfl rfl hl.1 rfl (lv_room (Nat.le_of_ble_eq_true rfl)) dX4_readAtom_39 ⟨(Nat.le_of_ble_eq_true rfl), (Nat.le_of_ble_eq_true rfl)⟩) hS (fun q _ h => hFc q h) hFc (fun r75 u t H locs ht hvm hw76 hB _ _ hS => ?_)
      obtain ⟨u77, u78, u79⟩ := u
      obtain ⟨hT, hF1, m80, m81, m82⟩ := hB
      rw [ht] at hT hF1 m80 m81 m82
      have hF := hF.more hF1 (by decide)
      try dsimp only at hw76
      obtain ⟨h91, h92, h93, hf94, hf95, hf96, hf97, hf98⟩ := hw76
      exact W.zret (v := r75) hx hb hr (nar_b (by have q8 := ti_all r75; omega)) (fun t ht hW => ⟨⟨r75, (u77, u78, u79), rfl, (by exact ⟨(by have q8 := ti_all u77; omega), (by have q8 := ti_all u78; omega), (by have q8 := ti_all r75; omega), (by omega), (by omega), (Or.inr (Or.inr ⟨by omega, hf96⟩)), (zKp.rf.tr hf97 (by have := tn_of (show s0.toInt = s0.toInt from rfl) (by omega); omega)), (fun h8 => Or.inr (Or.inr ⟨by omega, hf98 h8⟩))⟩), by (try dsimp only); rw [ht]; exact ⟨hT, hF, m80, m81, m82⟩⟩, hS.F ht⟩) hS.2.2 dX4_readAtom_42
  · have t99 : x2.toInt = 13 := ti_eq c6 rfl (by decide)
    refine lv_iconst (v := 1) hx hb dX4_readAtom_14 (by decide) ?_
    refine lv_goto (tgt := 19) hx hb dX4_readAtom_15 (by decide) ?_
    refine lv_istore_n (lv' := [(2, .int 1), (0, .ref o0), (1, .int 4)]) hx hb dX4_readAtom_19 rfl hl (by decide) rfl (fun ls hl => ?_)
    refine lv_iload_n hx hb dX4_readAtom_20 rfl (lv_at hl 0 rfl) ?_
    refine lv_if_ne (tgt := 43) hx hb dX4_readAtom_21 (by decide) (fun c100 => ?_) (fun c100 => absurd c100 (by decide))
    refine lv_iload_n hx hb dX4_readAtom_43 rfl (lv_at hl 2 rfl) ?_
    refine lv_bipush (v := 6) hx hb dX4_readAtom_44 (by decide) ?_
    refine lv_icmp_lt (tgt := 51) hx hb dX4_readAtom_46 (by decide) (fun c101 => ?_) (fun c101 => absurd c101 (by decide))
    refine lv_aload_n hx hb dX4_readAtom_51 rfl (lv_at hl 1 rfl) ?_
    refine lv_dup hx hb dX4_readAtom_52 rfl ?_
    refine tw_getM (v := .int a0) hx hb hts bF2_X4 hown hK hT hr_o0 shc_152 rfl 13 (by decide) (ht_at2 hts 1 rfl) (fun _ h9 => h9) hm_a0 dX4_readAtom_53 ?_
    refine lv_iconst (v := 1) hx hb dX4_readAtom_56 (by decide) ?_
    refine lv_iadd hx hb dX4_readAtom_57 ?_
    refine lv_topi (fun x102 ex102 => ?_)
    have t103 : x102.toInt = a0.toInt + 1 := ti_add ex102 rfl (by decide) (by omega) (by omega)
    refine tw_put (v := .int x102) (ty := .int) hx hb hts bF2_X4 tyX4 tyX4_ok nmX4 hown hK hT hG hS hr_o0 shc_152 rfl 13 (by decide) (ht_at2 hts 1 rfl) (fun _ h9 => h9) rfl (by decide +kernel) rfl rfl (gl_at rfl (gi_of (show x102.toInt = x102.toInt from rfl) (by omega) (by omega))) dX4_readAtom_58 (fun H locs hT oq m104 oj hS => ?_)
    have hF := hF.put hr_o0 skc_152 oq oj (by decide)
    have m105 := (oj 0 (by decide) (by decide)).trans hm_th
    have m106 := (oj 12 (by decide) (by decide)).trans hm_s0
    have m107 := (oj 9 (by decide) (by decide)).trans hm_sp9
    have m108 := hc_vT.kept (oq _ (gne hr_th hr_o0 (by decide)))
    have m109 := hc_vS.kept (oq _ (gne hr_sp9 hr_o0 (by decide)))
    have m110 := (el_kept (oq _ (gne hr_th hr_o0 (by decide)))).trans hm_tv
    refine lv_iload_n hx hb dX4_readAtom_61 rfl (lv_at hl 0 rfl) ?_
    refine lv_if_eq (tgt := 81) hx hb dX4_readAtom_62 (by decide) (fun c112 => absurd c112 (by decide)) (fun c112 => ?_)
    refine lv_aload_n hx hb dX4_readAtom_65 rfl (lv_at hl 1 rfl) ?_
    refine lv_iload_n hx hb dX4_readAtom_66 rfl (lv_at hl 2 rfl) ?_
    refine lv_iconst (v := 1) hx hb dX4_readAtom_67 (by decide) ?_
    refine lv_iadd hx hb dX4_readAtom_68 ?_
    refine lv_topi (fun x113 ex113 => ?_)
    obtain rfl : x113 = 5 := ex113.trans (by decide)
    have hFc := gA_free hG hA hS
    refine va_calli (va_runV (As := [.int 5]) (rest := []) ⟨hx, hb, hml, hown, hts⟩ (c_readAtom5 l dC dI kA adK adV G H nC nS o0 th x102 s0 sp9 vT vS tv ix_tv ix_tv K X pS hT hr_o0 m105 hr_th m104 m106 m107 hr_sp9 (by have q8 := ti_all ix_tv; omega) (by have q8 := ti_all x102; omega) (by have := (show x102.toInt = x102.toInt from rfl); have := (show ix_tv.toInt = ix_tv.toInt from rfl); omega) (fun m hm => hKK m (Nat.le_trans hm (Nat.le_of_eq (tn_same hx_tv rfl rfl)))) (fun m hm => hXX m (Nat.lt_of_lt_of_eq hm (tn_same hx_tv rfl rfl))) (by have q8 := ti_all s0; omega) (by have := (show s0.toInt = s0.toInt from rfl); have := (show x102.toInt = x102.toInt from rfl); omega) m108 m109 (by have q9 := (show ix_tv.toInt = ix_tv.toInt from rfl); have := (show ix_tv.toInt = ix_tv.toInt from rfl); omega) m110 (by have q8 := ti_all tv; omega) (by omega) (by omega)) (cwV 1 hts (goodIn_app (goodIn_r _ [29, 30, 31, 15] rfl (by decide +kernel)) (goodIn_ca (goodIn_r _ [5, 1, 2, 3, 4, 5, 6, 7, 8, 9, 10, 11, 12, 13, 14, 15, 16, 17, 18, 19, 20, 21, 22, 23, 24, 25, 26, 27, 28, 29, 30, 31, 32, 33, 34, 35, 36, 37] rfl (by decide +kernel)) (bs2_in _ _))) rfl rfl rfl (by decide +kernel) ⟨(Nat.le_of_ble_eq_true rfl), (Nat.le_of_ble_eq_true rfl)⟩) ⟨fun a U g mk q => by obtain ⟨q0, q1, qK, qE⟩ := q; exact ⟨q0, q1, va_K.moved (u := U) (U := U.calling g mk a) (Vm.Alike.refl U.vm) qK, EVC.blind g mk a qE⟩, gH_rc hK hT hr_o0 shc_152 rfl, fun U hU hW => ⟨rfl, hU, va_K.moved hW.alike hK, hE.call hS hFc hU hW⟩⟩ rfl rfl hl.1 rfl (lv_room (Nat.le_of_ble_eq_true rfl)) dX4_readAtom_69 ⟨(Nat.le_of_ble_eq_true rfl), (Nat.le_of_ble_eq_true rfl)⟩) hS (fun q _ h => hFc q h) hFc (fun r114 u t H locs ht hvm hw115 hB _ _ hS => ?_)
    obtain ⟨u116, u117, u118⟩ := u
    obtain ⟨hT, hF1, m119, m120, m121⟩ := hB
    rw [ht] at hT hF1 m119 m120 m121
    have m124 := (hF1.fld hr_o0 skc_152 (k := 9) (by decide) (by decide)).trans m107
    have hF := hF.more hF1 (by decide)
    try dsimp only at hw115
    obtain ⟨h130, h131, h132, hf133, hf134, hf135, hf136, hf137⟩ := hw115
    refine lv_istore_n (lv' := [(3, .int r114), (2, .int 1), (0, .ref o0), (1, .int 4)]) hx hb dX4_readAtom_72 rfl hl (by decide) rfl (fun ls hl => ?_)
    refine lv_aload_n hx hb dX4_readAtom_73 rfl (lv_at hl 2 rfl) ?_
    refine lv_bipush (v := 13) hx hb dX4_readAtom_74 (by decide) ?_
    have hFc := gA_free hG hA hS
    refine va_callv (va_runV (As := [.int 13]) (rest := []) ⟨hx, hb, hml, hown, hts⟩ (c_addStep l dC dI kA adK adV G H nC nS o0 13 u117 sp9 u118 hT hr_o0 m120 m124 hr_sp9 (rg_t (a := 13) (by decide) (by first | decide | omega) (by first | decide | omega)) (by have q8 := ti_all u117; omega) m121 (by omega) (by omega)) (cwV 1 hts (goodIn_app (goodIn_r _ [12, 13, 14, 15] rfl (by decide +kernel)) (goodIn_ca (goodIn_r _ [9, 10, 11] rfl (by decide +kernel)) (bs2_in _ _))) rfl rfl rfl (by decide +kernel) ⟨(Nat.le_of_ble_eq_true rfl), (Nat.le_of_ble_eq_true rfl)⟩) ⟨fun a U g mk q => by obtain ⟨q0, q1, qK, qE⟩ := q; exact ⟨q0, q1, va_K.moved (u := U) (U := U.calling g mk a) (Vm.Alike.refl U.vm) qK, EVC.blind g mk a qE⟩, gH_rc hK hT hr_o0 shc_152 rfl, fun U hU hW => ⟨rfl, hU, va_K.moved hW.alike hK, hE.call hS hFc hU hW⟩⟩ rfl rfl hl.1 rfl (lv_room (Nat.le_of_ble_eq_true rfl)) dX4_readAtom_76 ⟨(Nat.le_of_ble_eq_true rfl), (Nat.le_of_ble_eq_true rfl)⟩) hS (fun q _ h => hFc q h) hFc (fun u t H locs ht hvm hw139 hB _ _ hS => ?_)
    obtain ⟨u140, rfl⟩ : ∃ z, z = u := ⟨_, rfl⟩
    obtain ⟨hT, hF1, m141, m142⟩ := hB
    rw [ht] at hT hF1 m141 m142
    have m148 := (hF1.fld hr_o0 skc_152 (k := 13) (by decide) (by decide)).trans m119
    have hF := hF.more hF1 (by decide)
    try dsimp only at hw139
    obtain ⟨h151, hf152⟩ := hw139
    refine lv_iload_n hx hb dX4_readAtom_79 rfl (lv_at hl 0 rfl) ?_
    exact W.zret (v := r114) hx hb hr (nar_b (by have q8 := ti_all r114; omega)) (fun t ht hW => ⟨⟨r114, (u116, u140, (cu u118 u117.toNatClampNeg 13)), rfl, (by exact ⟨(by have q8 := ti_all u116; omega), (by have q8 := ti_all u140; omega), (by have q8 := ti_all r114; omega), (by omega), (by omega), (by have h9 := hf135; rw [(show pS x102.toNatClampNeg = X (pS a0.toNatClampNeg) from by rw [show x102.toNatClampNeg = a0.toNatClampNeg + 1 from by have := tn_of (show a0.toInt = a0.toInt from rfl) (by omega); have := tn_of (show x102.toInt = x102.toInt from rfl) (by omega); omega]; exact hXX _ (by have := tn_of (show a0.toInt = a0.toInt from rfl) (by omega); have := tn_of (show tn.toInt = tn.toInt from rfl) (by omega); omega))] at h9; exact Or.inl ⟨by omega, h9⟩), ((zKp.rf.tr hf136 (by have := tn_of (show s0.toInt = s0.toInt from rfl) (by omega); omega)).st (by have := tn_of (show s0.toInt = s0.toInt from rfl) (by omega); have := tn_of (show u117.toInt = u117.toInt from rfl) (by omega); omega)), (fun h8 => by have := tn_of (show s0.toInt = s0.toInt from rfl) (by omega); have := tn_of (show u117.toInt = u117.toInt from rfl) (by omega); have := tn_of (show u140.toInt = u140.toInt from rfl) (by omega); have h9 := hf137 h8; rw [(show pS x102.toNatClampNeg = X (pS a0.toNatClampNeg) from by rw [show x102.toNatClampNeg = a0.toNatClampNeg + 1 from by have := tn_of (show a0.toInt = a0.toInt from rfl) (by omega); have := tn_of (show x102.toInt = x102.toInt from rfl) (by omega); omega]; exact hXX _ (by have := tn_of (show a0.toInt = a0.toInt from rfl) (by omega); have := tn_of (show tn.toInt = tn.toInt from rfl) (by omega); omega))] at h9; exact Or.inl ⟨by omega, _, h9, zC_2 (s2 := u117.toNatClampNeg) (by omega) (by omega) rfl (by decide)⟩)⟩), by (try dsimp only); rw [ht]; exact ⟨hT, hF, m148, m141, m142⟩⟩, hS.F ht⟩) hS.2.2 dX4_readAtom_80
def w_c_readAll4 : List Cond := .code yX4_readAll cX4_readAll 4 (some .boolean) :: (HAppend.hAppend (α := List Cond) (β := List Cond) (γ := List Cond) [.code yX4_readAtom cX4_readAtom 4 (some .boolean), .fieldLink RX4 11 "SeaLand$Law" "things" "[I", .fieldLink RX4 56 "SeaLand$Law" "at" "I", .code yX4_readAny cX4_readAny 4 (some .boolean), .code yX4_readAll cX4_readAll 4 (some .boolean), .code yX4_readComparison cX4_readComparison 3 (some .boolean), .code yX4_readSum cX4_readSum 3 (some .boolean), .code yX4_readPart cX4_readPart 2 (some .boolean), .code yX4_addStep cX4_addStep 2 none, .fieldLink RX4 63 "SeaLand$Law" "stepped" "I", .fieldLink RX4 39 "SeaLand$Law" "steps" "[I", .methodLink RX4 179 yX4_addStep, .instanceMethod yX4_addStep, .selects RX4 yX4_addStep yX4_addStep, .initialized RX4, .methodLink RX4 192 yX4_readPart, .instanceMethod yX4_readPart, .selects RX4 yX4_readPart yX4_readPart, .code yX4_take cX4_take 2 (some .boolean), .methodLink RX4 70 yX4_take, .instanceMethod yX4_take, .selects RX4 yX4_take yX4_take, .methodLink RX4 189 yX4_readSum, .instanceMethod yX4_readSum, .selects RX4 yX4_readSum yX4_readSum, .methodLink RX4 186 yX4_readComparison, .instanceMethod yX4_readComparison, .selects RX4 yX4_readComparison yX4_readComparison, .methodLink RX4 183 yX4_readAtom, .instanceMethod yX4_readAtom, .selects RX4 yX4_readAtom yX4_readAtom, .methodLink RX4 176 yX4_readAll, .instanceMethod yX4_readAll, .selects RX4 yX4_readAll yX4_readAll, .methodLink RX4 173 yX4_readAny, .instanceMethod yX4_readAny, .selects RX4 yX4_readAny yX4_readAny] bs2)
set_option maxHeartbeats 4000000 in
set_option maxRecDepth 100000 in
theorem c_readAll4 (l : Launch) (dC : Nat → ClassId) (dI : Nat → Nat → Nat) (kA : Nat → ClassId) (adK adV : Nat → Nat) (G : gT) (H0 : Heap) (nC nS : Int) (o0 : Nat) (th : Nat) (a0 : Int32) (s0 : Int32) (sp9 : Nat) (vT : Nat → Int32) (vS : Nat → Int32) (tv ix_tv : Int32) (tn : Int32) (K : Nat → Int) (X pS : Nat → Nat) (hT : gH (dC, dI) kA (SHc nC nS) G H0) (hr_o0 : G o0 = some 152) (hm_th : el H0 o0 (dI 7 0) = some (.ref th)) (hr_th : G th = some 153) (hm_a0 : el H0 o0 (dI 7 13) = some (.int a0)) (hm_s0 : el H0 o0 (dI 7 12) = some (.int s0)) (hm_sp9 : el H0 o0 (dI 7 9) = some (.ref sp9)) (hr_sp9 : G sp9 = some 162) (hq0 : 0 ≤ tn.toInt ∧ tn.toInt ≤ 400) (hq1 : 0 ≤ a0.toInt ∧ a0.toInt ≤ 400) (hat : a0.toInt ≤ tn.toInt) (hKK : ∀ m : Nat, m ≤ tn.toNatClampNeg → (vT m).toInt = K (pS m)) (hXX : ∀ m : Nat, m < tn.toNatClampNeg → pS (m + 1) = X (pS m)) (hq5 : 0 ≤ s0.toInt ∧ s0.toInt ≤ 400) (hsa : s0.toInt ≤ a0.toInt) (hc_vT : ct H0 th 401 vT) (hc_vS : ct H0 sp9 400 vS) (hx_tv : ix_tv.toInt = tn.toInt) (hm_tv : el H0 th ix_tv.toNatClampNeg = some (.int tv)) (hv_tv : 21 ≤ tv.toInt ∧ tv.toInt ≤ 21) (hgC : 0 ≤ nC ∧ nC ≤ 40) (hgS : 0 ≤ nS ∧ nS ≤ 60) : Met l yX4_readAll w_c_readAll4 ({ frames := 11, cells := 0, slots := 0, locals := 247 }) (va_Pc [.ref o0, .int 4] (fun U => U.heap = H0 ∧ va_K (dC, dI) vwCl (tyl kA) U ∧ EVC adK adV (gA G H0.size) U U.heap)) (va_Qi (fun (r : Int32) (u : Int32 × Int32 × (Nat → Int32)) => match u with | (a1, s1, vS1) => (0 ≤ a1.toInt ∧ a1.toInt ≤ 400) ∧ (0 ≤ s1.toInt ∧ s1.toInt ≤ 400) ∧ (0 ≤ r.toInt ∧ r.toInt ≤ 1) ∧ (a0.toInt ≤ a1.toInt ∧ a1.toInt ≤ tn.toInt) ∧ (s0.toInt ≤ s1.toInt ∧ s1.toInt - s0.toInt ≤ a1.toInt - a0.toInt) ∧ (lpR K X (aR K X 2) 14 (pS a0.toNatClampNeg) r.toInt (pS a1.toNatClampNeg)) ∧ (zKp vS vS1 s0.toNatClampNeg) ∧ (r.toInt = 1 → zlZ K X (zaZ K X 2) 14 (pS a0.toNatClampNeg) (zC (tz vS1) s0.toNatClampNeg s1.toNatClampNeg) (pS a1.toNatClampNeg))) (fun (u : Int32 × Int32 × (Nat → Int32)) (t : State) => match u with | (a1, s1, vS1) => gH (dC, dI) kA (SHc nC nS) G t.heap ∧ gF (dC, dI) SKc G ([(152, 12), (152, 13), (162, 0)] : List (Nat × Nat)) H0 t.heap ∧ el t.heap o0 (dI 7 13) = some (.int a1) ∧ el t.heap o0 (dI 7 12) = some (.int s1) ∧ ct t.heap sp9 400 vS1) (gA G H0.size)) 0 0 (gA G H0.size) := by
  refine Met.ofW (cc := cX4_readAll) (maxL := 4) (ret := (some .boolean)) (by decide) rfl ?_
  intro p e s m args below meth c s₁ B hml hv
  obtain ⟨rfl, hH0, hK, hE⟩ := hv
  have hx := B.exec
  have hb := B.bytes
  have hr := B.returns
  have hts := atoms_spec (ws := w_c_readAll4) B.pre
  have hown : s.vm.findClass RX4 = some m.cls := findClass_of_methodNamed B.named
  have hlocks := B.notSynchronized
  subst hH0
  generalize hAe : gA G s.heap.size = A at hE ⊢
  have hA : ∀ q : Nat, s.heap.size ≤ q → A q := fun q h => by rw [← hAe]; exact Or.inr h
  have hG := gA_of hAe
  have hS : va_S A s.heap s.heap [] := va_S.rf
  have hF : gF (dC, dI) SKc G ([(152, 12), (152, 13), (162, 0)] : List (Nat × Nat)) s.heap s.heap := gF.rf
  have hl := lv_entry ([.ref o0, .int 4]) (n := 4) (Nat.le_of_ble_eq_true rfl)
  rw [lg_entry_eq]
  generalize (lg_sl ([.ref o0, .int 4]) ++ List.replicate (4 - (lg_sl ([.ref o0, .int 4])).length) Slot.unset).toArray = ls at hl ⊢
  have hl : lv_has ls 4 [(0, .ref o0), (1, .int 4)] := hl
  refine lv_aload_n hx hb dX4_readAll_0 rfl (lv_at hl 0 rfl) ?_
  refine lv_iload_n hx hb dX4_readAll_1 rfl (lv_at hl 1 rfl) ?_
  have hFc := gA_free hG hA hS
  refine va_calli (va_runV (As := [.int 4]) (rest := []) ⟨hx, hb, hml, hown, hts⟩ (c_readAtom4 l dC dI kA adK adV G s.heap nC nS o0 th a0 s0 sp9 vT vS tv ix_tv ix_tv K X pS hT hr_o0 hm_th hr_th hm_a0 hm_s0 hm_sp9 hr_sp9 (by have q8 := ti_all ix_tv; omega) (by have q8 := ti_all a0; omega) (by have := (show a0.toInt = a0.toInt from rfl); have := (show ix_tv.toInt = ix_tv.toInt from rfl); omega) (fun m hm => hKK m (Nat.le_trans hm (Nat.le_of_eq (tn_same hx_tv rfl rfl)))) (fun m hm => hXX m (Nat.lt_of_lt_of_eq hm (tn_same hx_tv rfl rfl))) (by have q8 := ti_all s0; omega) (by have := (show s0.toInt = s0.toInt from rfl); have := (show a0.toInt = a0.toInt from rfl); omega) hc_vT hc_vS (by have q9 := (show ix_tv.toInt = ix_tv.toInt from rfl); have := (show ix_tv.toInt = ix_tv.toInt from rfl); omega) hm_tv (by have q8 := ti_all tv; omega) (by omega) (by omega)) (cwV 1 hts (goodIn_app (goodIn_r _ [29, 30, 31, 15] rfl (by decide +kernel)) (goodIn_ca (goodIn_r _ [1, 2, 3, 4, 5, 1, 6, 7, 8, 9, 10, 11, 12, 13, 14, 15, 16, 17, 18, 19, 20, 21, 22, 23, 24, 25, 26, 27, 28, 29, 30, 31, 32, 33, 34, 35, 36, 37] rfl (by decide +kernel)) (bs2_in _ _))) rfl rfl rfl (by decide +kernel) ⟨(Nat.le_of_ble_eq_true rfl), (Nat.le_of_ble_eq_true rfl)⟩) ⟨fun a U g mk q => by obtain ⟨q0, q1, qK, qE⟩ := q; exact ⟨q0, q1, va_K.moved (u := U) (U := U.calling g mk a) (Vm.Alike.refl U.vm) qK, EVC.blind g mk a qE⟩, gH_rc hK hT hr_o0 shc_152 rfl, fun U hU hW => ⟨rfl, hU, va_K.moved hW.alike hK, hE.call hS hFc hU hW⟩⟩ rfl rfl hl.1 rfl (lv_room (Nat.le_of_ble_eq_true rfl)) dX4_readAll_2 ⟨(Nat.le_of_ble_eq_true rfl), (Nat.le_of_ble_eq_true rfl)⟩) hS (fun q _ h => hFc q h) hFc (fun r1 u t H locs ht hvm hw2 hB _ _ hS => ?_)
  obtain ⟨u3, u4, u5⟩ := u
  obtain ⟨hT, hF1, m6, m7, m8⟩ := hB
  rw [ht] at hT hF1 m6 m7 m8
  have m9 := (hF1.fld hr_o0 skc_152 (k := 0) (by decide) (by decide)).trans hm_th
  have m12 := (hF1.fld hr_o0 skc_152 (k := 9) (by decide) (by decide)).trans hm_sp9
  have m13 := hc_vT.kept (hF1.arr hr_th skc_153 (by decide))
  have m15 := (el_kept (hF1.arr hr_th skc_153 (by decide))).trans hm_tv
  have hF := hF.more hF1 (by decide)
  try dsimp only at hw2
  obtain ⟨h16, h17, h18, hf19, hf20, hf21, hf22, hf23⟩ := hw2
  refine lv_istore_n (lv' := [(2, .int r1), (0, .ref o0), (1, .int 4)]) hx hb dX4_readAll_5 rfl hl (by decide) rfl (fun ls hl => ?_)
  refine lv_iconst (v := 0) hx hb dX4_readAll_6 (by decide) ?_
  refine lv_istore_n (lv' := [(3, .int 0), (2, .int r1), (0, .ref o0), (1, .int 4)]) hx hb dX4_readAll_7 rfl hl (by decide) rfl (fun ls hl => ?_)
  have key105 : ∀ (n105 i24 : Nat), i24 + n105 = 400 → 0 ≤ i24 → ∀ (z25 : Int32), ∀ (V28 : Nat → Int32), ∀ (z33 : Int32), ∀ (z36 : Int32), ((0 ≤ z25.toInt ∧ z25.toInt ≤ 1) ∧ (0 ≤ z33.toInt ∧ z33.toInt ≤ 400) ∧ (0 ≤ z36.toInt ∧ z36.toInt ≤ 400) ∧ (a0.toInt ≤ z33.toInt ∧ z33.toInt ≤ tn.toInt) ∧ (((z25.toInt = 1 ∧ ∀ (r : Int) (f : Nat), lpQ K X (aR K X 2) 14 (pS z33.toNatClampNeg) r f → lpR K X (aR K X 2) 14 (pS a0.toNatClampNeg) r f) ∨ (z25.toInt = 0 ∧ lpR K X (aR K X 2) 14 (pS a0.toNatClampNeg) 0 (pS z33.toNatClampNeg))) ∧ ((i24 : Nat) : Int) ≤ z33.toInt) ∧ (z25.toInt = 1 → zlI K X (zaZ K X 2) 14 (pS a0.toNatClampNeg) (zC (tz V28) s0.toNatClampNeg z36.toNatClampNeg) (pS z33.toNatClampNeg)) ∧ (zKp vS V28 s0.toNatClampNeg) ∧ (s0.toInt ≤ z36.toInt ∧ z36.toInt - s0.toInt ≤ z33.toInt - a0.toInt)) → ∀ (H : Heap) (locs : List Loc), gH (dC, dI) kA (SHc nC nS) G H → gF (dC, dI) SKc G ([(152, 12), (152, 13), (162, 0)] : List (Nat × Nat)) s.heap H → va_S A s.heap H locs → ct H th 401 vT → ct H sp9 400 V28 → el H o0 (dI 7 0) = some (.ref th) → el H o0 (dI 7 9) = some (.ref sp9) → el H th ix_tv.toNatClampNeg = some (.int tv) → el H o0 (dI 7 13) = some (.int z33) → el H o0 (dI 7 12) = some (.int z36) → ∀ ls : Array Slot, lv_has ls 4 [(3, .int (nI i24)), (2, .int z25), (0, .ref o0), (1, .int 4)] → W p l e (headSpec w_c_readAll4 ({ frames := 11, cells := 0, slots := 0, locals := 247 })).room s m #[.ref o0, .int 4] below meth c H locs 0 0 (MQ below (va_Qi (fun (r : Int32) (u : Int32 × Int32 × (Nat → Int32)) => match u with | (a1, s1, vS1) => (0 ≤ a1.toInt ∧ a1.toInt ≤ 400) ∧ (0 ≤ s1.toInt ∧ s1.toInt ≤ 400) ∧ (0 ≤ r.toInt ∧ r.toInt ≤ 1) ∧ (a0.toInt ≤ a1.toInt ∧ a1.toInt ≤ tn.toInt) ∧ (s0.toInt ≤ s1.toInt ∧ s1.toInt - s0.toInt ≤ a1.toInt - a0.toInt) ∧ (lpR K X (aR K X 2) 14 (pS a0.toNatClampNeg) r.toInt (pS a1.toNatClampNeg)) ∧ (zKp vS vS1 s0.toNatClampNeg) ∧ (r.toInt = 1 → zlZ K X (zaZ K X 2) 14 (pS a0.toNatClampNeg) (zC (tz vS1) s0.toNatClampNeg s1.toNatClampNeg) (pS a1.toNatClampNeg))) (fun (u : Int32 × Int32 × (Nat → Int32)) (t : State) => match u with | (a1, s1, vS1) => gH (dC, dI) kA (SHc nC nS) G t.heap ∧ gF (dC, dI) SKc G ([(152, 12), (152, 13), (162, 0)] : List (Nat × Nat)) s.heap t.heap ∧ el t.heap o0 (dI 7 13) = some (.int a1) ∧ el t.heap o0 (dI 7 12) = some (.int s1) ∧ ct t.heap sp9 400 vS1) A) #[.ref o0, .int 4] s 0 0 A) (F0 m 8 ls []) := by
    intro n105
    induction n105 with
    | zero =>
      intro i24 hn105 hlo106 z25 V28 z33 z36 ⟨h26, h34, h37, hj39, hj40, hj41, hj42, hj43⟩ H locs hT hF hS m27 m29 m30 m31 m32 m35 m38 ls hl
      obtain rfl : 400 = i24 := by omega
      refine lv_iload_n hx hb dX4_readAll_8 rfl (lv_at hl 0 rfl) ?_
      refine lv_sipush (v := 400) hx hb dX4_readAll_9 (by decide) ?_
      refine lv_icmp_ge (tgt := 46) hx hb dX4_readAll_12 (by decide) (fun c107 => ?_) (fun c107 => (by exfalso; have q9 : ((400 : Nat) : Int) < 400 := ti_nle c107 (by decide) (nI_toInt (by omega)); omega))
      have t108 : 400 ≤ ((400 : Nat) : Int) := ti_le c107 (by decide) (nI_toInt (by omega))
      refine lv_iload_n hx hb dX4_readAll_46 rfl (lv_at hl 1 rfl) ?_
      exact W.zret (v := z25) hx hb hr (nar_b (by have q8 := ti_all z25; omega)) (fun t ht hW => ⟨⟨z25, (z33, z36, V28), rfl, (by exact ⟨(by have q8 := ti_all z33; omega), (by have q8 := ti_all z36; omega), (by have q8 := ti_all z25; omega), (by omega), (by omega), (by rcases hj40.1 with ⟨h8, l9⟩ | ⟨h8, l9⟩; (rw [h8]; exact lp_e l9 (fun h7 => by have := tn_of (show z33.toInt = z33.toInt from rfl) (by omega); have := tn_of (show tn.toInt = tn.toInt from rfl) (by omega); have k9 := hKK tn.toNatClampNeg (Nat.le_refl _); have e9 := hc_vT.at hm_tv (by have q9 := tn_of hx_tv (by omega); omega); have k8 : (vT tn.toNatClampNeg).toInt = 21 := (by have q8 := congrArg Int32.toInt e9; rw [show ix_tv.toNatClampNeg = tn.toNatClampNeg from tn_same hx_tv rfl rfl] at q8; omega); rw [show z33.toNatClampNeg = tn.toNatClampNeg from by omega] at h7; omega)); rw [h8]; exact l9), hj42, (fun h8 => ⟨hj41 h8, fun h7 => by have := tn_of (show z33.toInt = z33.toInt from rfl) (by omega); have := tn_of (show tn.toInt = tn.toInt from rfl) (by omega); have k9 := hKK tn.toNatClampNeg (Nat.le_refl _); have e9 := hc_vT.at hm_tv (by have q9 := tn_of hx_tv (by omega); omega); have k8 : (vT tn.toNatClampNeg).toInt = 21 := (by have q8 := congrArg Int32.toInt e9; rw [show ix_tv.toNatClampNeg = tn.toNatClampNeg from tn_same hx_tv rfl rfl] at q8; omega); rw [show z33.toNatClampNeg = tn.toNatClampNeg from by omega] at h7; omega⟩)⟩), by (try dsimp only); rw [ht]; exact ⟨hT, hF, m35, m38, m29⟩⟩, hS.F ht⟩) hS.2.2 dX4_readAll_47
    | succ n105 ih105 =>
      intro i24 hn105 hlo106 z25 V28 z33 z36 ⟨h26, h34, h37, hj39, hj40, hj41, hj42, hj43⟩ H locs hT hF hS m27 m29 m30 m31 m32 m35 m38 ls hl
      have hlt108 : i24 < 400 := by omega
      refine lv_iload_n hx hb dX4_readAll_8 rfl (lv_at hl 0 rfl) ?_
      refine lv_sipush (v := 400) hx hb dX4_readAll_9 (by decide) ?_
      refine lv_icmp_ge (tgt := 46) hx hb dX4_readAll_12 (by decide) (fun c109 => (by exfalso; have q9 : 400 ≤ ((i24 : Nat) : Int) := ti_le c109 (by decide) (nI_toInt (by omega)); omega)) (fun c109 => ?_)
      have t110 : ((i24 : Nat) : Int) < 400 := ti_nle c109 (by decide) (nI_toInt (by omega))
      refine lv_iload_n hx hb dX4_readAll_15 rfl (lv_at hl 1 rfl) ?_
      refine lv_if_eq (tgt := 46) hx hb dX4_readAll_16 (by decide) (fun c111 => ?_) (fun c111 => ?_)
      · have t112 : z25.toInt = 0 := ti_eq c111 rfl (by decide)
        refine lv_iload_n hx hb dX4_readAll_46 rfl (lv_at hl 1 rfl) ?_
        exact W.zret (v := z25) hx hb hr (nar_b (by have q8 := ti_all z25; omega)) (fun t ht hW => ⟨⟨z25, (z33, z36, V28), rfl, (by exact ⟨(by have q8 := ti_all z33; omega), (by have q8 := ti_all z36; omega), (by have q8 := ti_all z25; omega), (by omega), (by omega), (by rcases hj40.1 with ⟨h8, l9⟩ | ⟨h8, l9⟩; (rw [h8]; exact lp_e l9 (fun h7 => by have := tn_of (show z33.toInt = z33.toInt from rfl) (by omega); have := tn_of (show tn.toInt = tn.toInt from rfl) (by omega); have k9 := hKK tn.toNatClampNeg (Nat.le_refl _); have e9 := hc_vT.at hm_tv (by have q9 := tn_of hx_tv (by omega); omega); have k8 : (vT tn.toNatClampNeg).toInt = 21 := (by have q8 := congrArg Int32.toInt e9; rw [show ix_tv.toNatClampNeg = tn.toNatClampNeg from tn_same hx_tv rfl rfl] at q8; omega); rw [show z33.toNatClampNeg = tn.toNatClampNeg from by omega] at h7; omega)); rw [h8]; exact l9), hj42, (fun h8 => ⟨hj41 h8, fun h7 => by have := tn_of (show z33.toInt = z33.toInt from rfl) (by omega); have := tn_of (show tn.toInt = tn.toInt from rfl) (by omega); have k9 := hKK tn.toNatClampNeg (Nat.le_refl _); have e9 := hc_vT.at hm_tv (by have q9 := tn_of hx_tv (by omega); omega); have k8 : (vT tn.toNatClampNeg).toInt = 21 := (by have q8 := congrArg Int32.toInt e9; rw [show ix_tv.toNatClampNeg = tn.toNatClampNeg from tn_same hx_tv rfl rfl] at q8; omega); rw [show z33.toNatClampNeg = tn.toNatClampNeg from by omega] at h7; omega⟩)⟩), by (try dsimp only); rw [ht]; exact ⟨hT, hF, m35, m38, m29⟩⟩, hS.F ht⟩) hS.2.2 dX4_readAll_47
      · have t113 : z25.toInt ≠ 0 := ti_ne c111 rfl (by decide)
        refine lv_aload_n hx hb dX4_readAll_19 rfl (lv_at hl 2 rfl) ?_
        refine lv_bipush (v := 14) hx hb dX4_readAll_20 (by decide) ?_
        have hFc := gA_free hG hA hS
        refine va_calli (va_runV (As := [.int 14]) (rest := []) ⟨hx, hb, hml, hown, hts⟩ (c_take l dC dI kA adK adV G H nC nS o0 14 th z33 vT tv ix_tv ix_tv K X pS hT hr_o0 m30 hr_th m35 (by have q8 := ti_all ix_tv; omega) (by have q8 := ti_all z33; omega) (by have := (show z33.toInt = z33.toInt from rfl); have := (show ix_tv.toInt = ix_tv.toInt from rfl); omega) (by have := (show (14 : Int32).toInt = 14 from (by decide)); omega) (fun m hm => hKK m (Nat.le_trans hm (Nat.le_of_eq (tn_same hx_tv rfl rfl)))) (fun m hm => hXX m (Nat.lt_of_lt_of_eq hm (tn_same hx_tv rfl rfl))) m27 (by have q9 := (show ix_tv.toInt = ix_tv.toInt from rfl); have := (show ix_tv.toInt = ix_tv.toInt from rfl); omega) m32 (by have q8 := ti_all tv; omega) (by omega) (by omega)) (cwV 1 hts (goodIn_app (goodIn_r _ [20, 21, 22, 15] rfl (by decide +kernel)) (goodIn_ca (goodIn_r _ [19, 2, 3] rfl (by decide +kernel)) (bs2_in _ _))) rfl rfl rfl (by decide +kernel) ⟨(Nat.le_of_ble_eq_true rfl), (Nat.le_of_ble_eq_true rfl)⟩) ⟨fun a U g mk q => by obtain ⟨q0, q1, qK, qE⟩ := q; exact ⟨q0, q1, va_K.moved (u := U) (U := U.calling g mk a) (Vm.Alike.refl U.vm) qK, EVC.blind g mk a qE⟩, gH_rc hK hT hr_o0 shc_152 rfl, fun U hU hW => ⟨rfl, hU, va_K.moved hW.alike hK, hE.call hS hFc hU hW⟩⟩ rfl rfl hl.1 rfl (lv_room (Nat.le_of_ble_eq_true rfl)) dX4_readAll_22 ⟨(Nat.le_of_ble_eq_true rfl), (Nat.le_of_ble_eq_true rfl)⟩) hS (fun q _ h => hFc q h) hFc (fun r114 u t H locs ht hvm hw115 hB _ _ hS => ?_)
        obtain ⟨u116, rfl⟩ : ∃ z, z = u := ⟨_, rfl⟩
        obtain ⟨hT, hF1, m117⟩ := hB
        rw [ht] at hT hF1 m117
        have m118 := m27.kept (hF1.arr hr_th skc_153 (by decide))
        have m119 := m29.kept (hF1.arr hr_sp9 skc_162 (by decide))
        have m120 := (hF1.fld hr_o0 skc_152 (k := 0) (by decide) (by decide)).trans m30
        have m121 := (hF1.fld hr_o0 skc_152 (k := 9) (by decide) (by decide)).trans m31
        have m122 := (el_kept (hF1.arr hr_th skc_153 (by decide))).trans m32
        have m124 := (hF1.fld hr_o0 skc_152 (k := 12) (by decide) (by decide)).trans m38
        have hF := hF.more hF1 (by decide)
        try dsimp only at hw115
        obtain ⟨h125, h126, hf127, hf128, hf129⟩ := hw115
        refine lv_if_eq (tgt := 46) hx hb dX4_readAll_25 (by decide) (fun c130 => ?_) (fun c130 => ?_)
        · have t131 : r114.toInt = 0 := ti_eq c130 rfl (by decide)
          refine lv_iload_n hx hb dX4_readAll_46 rfl (lv_at hl 1 rfl) ?_
          exact W.zret (v := z25) hx hb hr (nar_b (by have q8 := ti_all z25; omega)) (fun t ht hW => ⟨⟨z25, (u116, z36, V28), rfl, (by exact ⟨(by have q8 := ti_all u116; omega), (by have q8 := ti_all z36; omega), (by have q8 := ti_all z25; omega), (by omega), (by omega), (by have l9 := (hj40.1.resolve_right (fun h8 => by have := h8.1; omega)).2; have a9 := hf128.resolve_left (fun h8 => by have := h8.2.1; omega); rw [show z25.toInt = 1 from by omega, a9.2.2]; exact lp_e l9 (fun h7 => a9.1 (h7.trans (by decide)))), hj42, (fun h8 => ⟨by (try dsimp only); have a9 := hf128.resolve_left (fun h8 => by have := h8.2.1; omega); rw [a9.2.2]; exact hj41 h8, by (try dsimp only); have a9 := hf128.resolve_left (fun h8 => by have := h8.2.1; omega); rw [a9.2.2]; exact fun h7 => a9.1 (h7.trans (by decide))⟩)⟩), by (try dsimp only); rw [ht]; exact ⟨hT, hF, m117, m124, m119⟩⟩, hS.F ht⟩) hS.2.2 dX4_readAll_47
        · have t132 : r114.toInt ≠ 0 := ti_ne c130 rfl (by decide)
          refine lv_aload_n hx hb dX4_readAll_28 rfl (lv_at hl 2 rfl) ?_
          refine lv_iload_n hx hb dX4_readAll_29 rfl (lv_at hl 3 rfl) ?_
          have hFc := gA_free hG hA hS
          refine va_calli (va_runV (As := [.int 4]) (rest := []) ⟨hx, hb, hml, hown, hts⟩ (c_readAtom4 l dC dI kA adK adV G H nC nS o0 th u116 z36 sp9 vT V28 tv ix_tv ix_tv K X pS hT hr_o0 m120 hr_th m117 m124 m121 hr_sp9 (by have q8 := ti_all ix_tv; omega) (by have q8 := ti_all u116; omega) (by have := (show u116.toInt = u116.toInt from rfl); have := (show ix_tv.toInt = ix_tv.toInt from rfl); omega) (fun m hm => hKK m (Nat.le_trans hm (Nat.le_of_eq (tn_same hx_tv rfl rfl)))) (fun m hm => hXX m (Nat.lt_of_lt_of_eq hm (tn_same hx_tv rfl rfl))) (by have q8 := ti_all z36; omega) (by have := (show z36.toInt = z36.toInt from rfl); have := (show u116.toInt = u116.toInt from rfl); omega) m118 m119 (by have q9 := (show ix_tv.toInt = ix_tv.toInt from rfl); have := (show ix_tv.toInt = ix_tv.toInt from rfl); omega) m122 (by have q8 := ti_all tv; omega) (by omega) (by omega)) (cwV 1 hts (goodIn_app (goodIn_r _ [29, 30, 31, 15] rfl (by decide +kernel)) (goodIn_ca (goodIn_r _ [1, 2, 3, 4, 5, 1, 6, 7, 8, 9, 10, 11, 12, 13, 14, 15, 16, 17, 18, 19, 20, 21, 22, 23, 24, 25, 26, 27, 28, 29, 30, 31, 32, 33, 34, 35, 36, 37] rfl (by decide +kernel)) (bs2_in _ _))) rfl rfl rfl (by decide +kernel) ⟨(Nat.le_of_ble_eq_true rfl), (Nat.le_of_ble_eq_true rfl)⟩) ⟨fun a U g mk q => by obtain ⟨q0, q1, qK, qE⟩ := q; exact ⟨q0, q1, va_K.moved (u := U) (U := U.calling g mk a) (Vm.Alike.refl U.vm) qK, EVC.blind g mk a qE⟩, gH_rc hK hT hr_o0 shc_152 rfl, fun U hU hW => ⟨rfl, hU, va_K.moved hW.alike hK, hE.call hS hFc hU hW⟩⟩ rfl rfl hl.1 rfl (lv_room (Nat.le_of_ble_eq_true rfl)) dX4_readAll_30 ⟨(Nat.le_of_ble_eq_true rfl), (Nat.le_of_ble_eq_true rfl)⟩) hS (fun q _ h => hFc q h) hFc (fun r133 u t H locs ht hvm hw134 hB _ _ hS => ?_)
          obtain ⟨u135, u136, u137⟩ := u
          obtain ⟨hT, hF1, m138, m139, m140⟩ := hB
          rw [ht] at hT hF1 m138 m139 m140
          have m141 := m118.kept (hF1.arr hr_th skc_153 (by decide))
          have m143 := (hF1.fld hr_o0 skc_152 (k := 0) (by decide) (by decide)).trans m120
          have m144 := (hF1.fld hr_o0 skc_152 (k := 9) (by decide) (by decide)).trans m121
          have m145 := (el_kept (hF1.arr hr_th skc_153 (by decide))).trans m122
          have hF := hF.more hF1 (by decide)
          try dsimp only at hw134
          obtain ⟨h148, h149, h150, hf151, hf152, hf153, hf154, hf155⟩ := hw134
          refine lv_istore_n (lv' := [(2, .int r133), (3, .int (nI i24)), (0, .ref o0), (1, .int 4)]) hx hb dX4_readAll_33 rfl hl (by decide) rfl (fun ls hl => ?_)
          refine lv_aload_n hx hb dX4_readAll_34 rfl (lv_at hl 2 rfl) ?_
          refine lv_bipush (v := 14) hx hb dX4_readAll_35 (by decide) ?_
          have hFc := gA_free hG hA hS
          refine va_callv (va_runV (As := [.int 14]) (rest := []) ⟨hx, hb, hml, hown, hts⟩ (c_addStep l dC dI kA adK adV G H nC nS o0 14 u136 sp9 u137 hT hr_o0 m139 m144 hr_sp9 (rg_t (a := 14) (by decide) (by first | decide | omega) (by first | decide | omega)) (by have q8 := ti_all u136; omega) m140 (by omega) (by omega)) (cwV 1 hts (goodIn_app (goodIn_r _ [12, 13, 14, 15] rfl (by decide +kernel)) (goodIn_ca (goodIn_r _ [9, 10, 11] rfl (by decide +kernel)) (bs2_in _ _))) rfl rfl rfl (by decide +kernel) ⟨(Nat.le_of_ble_eq_true rfl), (Nat.le_of_ble_eq_true rfl)⟩) ⟨fun a U g mk q => by obtain ⟨q0, q1, qK, qE⟩ := q; exact ⟨q0, q1, va_K.moved (u := U) (U := U.calling g mk a) (Vm.Alike.refl U.vm) qK, EVC.blind g mk a qE⟩, gH_rc hK hT hr_o0 shc_152 rfl, fun U hU hW => ⟨rfl, hU, va_K.moved hW.alike hK, hE.call hS hFc hU hW⟩⟩ rfl rfl hl.1 rfl (lv_room (Nat.le_of_ble_eq_true rfl)) dX4_readAll_37 ⟨(Nat.le_of_ble_eq_true rfl), (Nat.le_of_ble_eq_true rfl)⟩) hS (fun q _ h => hFc q h) hFc (fun u t H locs ht hvm hw157 hB _ _ hS => ?_)
          obtain ⟨u158, rfl⟩ : ∃ z, z = u := ⟨_, rfl⟩
          obtain ⟨hT, hF1, m159, m160⟩ := hB
          rw [ht] at hT hF1 m159 m160
          have m161 := m141.kept (hF1.arr hr_th skc_153 (by decide))
          have m162 := (hF1.fld hr_o0 skc_152 (k := 0) (by decide) (by decide)).trans m143
          have m163 := (hF1.fld hr_o0 skc_152 (k := 9) (by decide) (by decide)).trans m144
          have m164 := (el_kept (hF1.arr hr_th skc_153 (by decide))).trans m145
          have m165 := (hF1.fld hr_o0 skc_152 (k := 13) (by decide) (by decide)).trans m138
          have hF := hF.more hF1 (by decide)
          try dsimp only at hw157
          obtain ⟨h168, hf169⟩ := hw157
          refine lv_iinc (v := nI (i24 + 1)) (lv' := [(3, .int (nI (i24 + 1))), (2, .int r133), (0, .ref o0), (1, .int 4)]) hx hb dX4_readAll_40 hl (k := 1) rfl (nI_add i24 1) (by decide) rfl (fun ls hl => ?_)
          refine lv_goto (tgt := 8) hx hb dX4_readAll_43 (by decide) ?_
          exact ih105 (i24 + 1) (by omega) (by omega) r133 (cu u137 u136.toNatClampNeg 14) u135 u158 ⟨(by have q8 := ti_all r133; omega), (by have q8 := ti_all u135; omega), (by have q8 := ti_all u158; omega), (by have := hx_tv; have := (show u135.toInt = u135.toInt from rfl); omega), ⟨(by have l9 := (hj40.1.resolve_right (fun h8 => by have := h8.1; omega)).2; have a9 := hf128.resolve_right (fun h8 => by have := h8.2.1; omega); have h9 := hf153; rw [a9.2.2] at h9; rcases (show r133.toInt = 1 ∨ r133.toInt = 0 by omega) with h8 | h8 <;> rw [h8] at h9; (exact Or.inl ⟨h8, lp_s l9 (a9.1.trans (by decide)) h9⟩); exact Or.inr ⟨h8, lp_f l9 (a9.1.trans (by decide)) h9⟩), by omega⟩, (fun h8 => by have := tn_of (show s0.toInt = s0.toInt from rfl) (by omega); have := tn_of (show z36.toInt = z36.toInt from rfl) (by omega); have := tn_of (show u136.toInt = u136.toInt from rfl) (by omega); have := tn_of (show u158.toInt = u158.toInt from rfl) (by omega); have l9 := hj41 (by omega); have a9 := hf128.resolve_right (fun h8 => by have := h8.2.1; omega); have h9 := hf155 h8; rw [a9.2.2] at h9; rw [zC_3 (sx := z36.toNatClampNeg) (s2 := u136.toNatClampNeg) (c := 14) (by omega) (by omega) hf154 (by omega) rfl (by decide)]; exact zlI_s l9 (a9.1.trans (by decide)) h9), ((hj42.tr hf154 (by have := tn_of (show s0.toInt = s0.toInt from rfl) (by omega); have := tn_of (show z36.toInt = z36.toInt from rfl) (by omega); omega)).st (by have := tn_of (show s0.toInt = s0.toInt from rfl) (by omega); have := tn_of (show u136.toInt = u136.toInt from rfl) (by omega); omega)), (by have := (show u158.toInt = u158.toInt from rfl); have := (show u135.toInt = u135.toInt from rfl); omega)⟩ _ _ hT hF hS m161 m160 m162 m163 m164 m165 m159 ls (lv_sub hl [0, 1, 2, 3] rfl)
  exact key105 (400 - 0) 0 (by omega) (Nat.le_refl _) r1 u5 u3 u4 ⟨(by have q8 := ti_all r1; omega), (by have q8 := ti_all u3; omega), (by have q8 := ti_all u4; omega), (by have := hx_tv; have := (show u3.toInt = u3.toInt from rfl); omega), ⟨(by have h9 := hf21; rcases (show r1.toInt = 1 ∨ r1.toInt = 0 by omega) with h8 | h8 <;> rw [h8] at h9; (exact Or.inl ⟨h8, lp_1 h9⟩); exact Or.inr ⟨h8, lp_0 h9⟩), by omega⟩, (fun h8 => zlI_0 (hf23 h8)), (zKp.rf.tr hf22 (by have := tn_of (show s0.toInt = s0.toInt from rfl) (by omega); omega)), (by have := (show u4.toInt = u4.toInt from rfl); have := (show u3.toInt = u3.toInt from rfl); omega)⟩ _ _ hT hF hS m13 m8 m9 m12 m15 m6 m7 ls (lv_sub hl [0, 1, 2, 3] rfl)
def w_c_readAny4 : List Cond := .code yX4_readAny cX4_readAny 4 (some .boolean) :: (HAppend.hAppend (α := List Cond) (β := List Cond) (γ := List Cond) [.code yX4_readAll cX4_readAll 4 (some .boolean), .code yX4_readAtom cX4_readAtom 4 (some .boolean), .fieldLink RX4 11 "SeaLand$Law" "things" "[I", .fieldLink RX4 56 "SeaLand$Law" "at" "I", .code yX4_readAny cX4_readAny 4 (some .boolean), .code yX4_readComparison cX4_readComparison 3 (some .boolean), .code yX4_readSum cX4_readSum 3 (some .boolean), .code yX4_readPart cX4_readPart 2 (some .boolean), .code yX4_addStep cX4_addStep 2 none, .fieldLink RX4 63 "SeaLand$Law" "stepped" "I", .fieldLink RX4 39 "SeaLand$Law" "steps" "[I", .methodLink RX4 179 yX4_addStep, .instanceMethod yX4_addStep, .selects RX4 yX4_addStep yX4_addStep, .initialized RX4, .methodLink RX4 192 yX4_readPart, .instanceMethod yX4_readPart, .selects RX4 yX4_readPart yX4_readPart, .code yX4_take cX4_take 2 (some .boolean), .methodLink RX4 70 yX4_take, .instanceMethod yX4_take, .selects RX4 yX4_take yX4_take, .methodLink RX4 189 yX4_readSum, .instanceMethod yX4_readSum, .selects RX4 yX4_readSum yX4_readSum, .methodLink RX4 186 yX4_readComparison, .instanceMethod yX4_readComparison, .selects RX4 yX4_readComparison yX4_readComparison, .methodLink RX4 183 yX4_readAtom, .instanceMethod yX4_readAtom, .selects RX4 yX4_readAtom yX4_readAtom, .methodLink RX4 176 yX4_readAll, .instanceMethod yX4_readAll, .selects RX4 yX4_readAll yX4_readAll, .methodLink RX4 173 yX4_readAny, .instanceMethod yX4_readAny, .selects RX4 yX4_readAny yX4_readAny] bs2)
set_option maxHeartbeats 4000000 in
set_option maxRecDepth 100000 in
theorem c_readAny4 (l : Launch) (dC : Nat → ClassId) (dI : Nat → Nat → Nat) (kA : Nat → ClassId) (adK adV : Nat → Nat) (G : gT) (H0 : Heap) (nC nS : Int) (o0 : Nat) (th : Nat) (a0 : Int32) (s0 : Int32) (sp9 : Nat) (vT : Nat → Int32) (vS : Nat → Int32) (tv ix_tv : Int32) (tn : Int32) (K : Nat → Int) (X pS : Nat → Nat) (hT : gH (dC, dI) kA (SHc nC nS) G H0) (hr_o0 : G o0 = some 152) (hm_th : el H0 o0 (dI 7 0) = some (.ref th)) (hr_th : G th = some 153) (hm_a0 : el H0 o0 (dI 7 13) = some (.int a0)) (hm_s0 : el H0 o0 (dI 7 12) = some (.int s0)) (hm_sp9 : el H0 o0 (dI 7 9) = some (.ref sp9)) (hr_sp9 : G sp9 = some 162) (hq0 : 0 ≤ tn.toInt ∧ tn.toInt ≤ 400) (hq1 : 0 ≤ a0.toInt ∧ a0.toInt ≤ 400) (hat : a0.toInt ≤ tn.toInt) (hKK : ∀ m : Nat, m ≤ tn.toNatClampNeg → (vT m).toInt = K (pS m)) (hXX : ∀ m : Nat, m < tn.toNatClampNeg → pS (m + 1) = X (pS m)) (hq5 : 0 ≤ s0.toInt ∧ s0.toInt ≤ 400) (hsa : s0.toInt ≤ a0.toInt) (hc_vT : ct H0 th 401 vT) (hc_vS : ct H0 sp9 400 vS) (hx_tv : ix_tv.toInt = tn.toInt) (hm_tv : el H0 th ix_tv.toNatClampNeg = some (.int tv)) (hv_tv : 21 ≤ tv.toInt ∧ tv.toInt ≤ 21) (hgC : 0 ≤ nC ∧ nC ≤ 40) (hgS : 0 ≤ nS ∧ nS ≤ 60) : Met l yX4_readAny w_c_readAny4 ({ frames := 12, cells := 0, slots := 0, locals := 270 }) (va_Pc [.ref o0, .int 4] (fun U => U.heap = H0 ∧ va_K (dC, dI) vwCl (tyl kA) U ∧ EVC adK adV (gA G H0.size) U U.heap)) (va_Qi (fun (r : Int32) (u : Int32 × Int32 × (Nat → Int32)) => match u with | (a1, s1, vS1) => (0 ≤ a1.toInt ∧ a1.toInt ≤ 400) ∧ (0 ≤ s1.toInt ∧ s1.toInt ≤ 400) ∧ (0 ≤ r.toInt ∧ r.toInt ≤ 1) ∧ (a0.toInt ≤ a1.toInt ∧ a1.toInt ≤ tn.toInt) ∧ (s0.toInt ≤ s1.toInt ∧ s1.toInt - s0.toInt ≤ a1.toInt - a0.toInt) ∧ (coR K X (aR K X 2) (pS a0.toNatClampNeg) r.toInt (pS a1.toNatClampNeg)) ∧ (zKp vS vS1 s0.toNatClampNeg) ∧ (r.toInt = 1 → zlZ K X (zlZ K X (zaZ K X 2) 14) 15 (pS a0.toNatClampNeg) (zC (tz vS1) s0.toNatClampNeg s1.toNatClampNeg) (pS a1.toNatClampNeg))) (fun (u : Int32 × Int32 × (Nat → Int32)) (t : State) => match u with | (a1, s1, vS1) => gH (dC, dI) kA (SHc nC nS) G t.heap ∧ gF (dC, dI) SKc G ([(152, 12), (152, 13), (162, 0)] : List (Nat × Nat)) H0 t.heap ∧ el t.heap o0 (dI 7 13) = some (.int a1) ∧ el t.heap o0 (dI 7 12) = some (.int s1) ∧ ct t.heap sp9 400 vS1) (gA G H0.size)) 0 0 (gA G H0.size) := by
  refine Met.ofW (cc := cX4_readAny) (maxL := 4) (ret := (some .boolean)) (by decide) rfl ?_
  intro p e s m args below meth c s₁ B hml hv
  obtain ⟨rfl, hH0, hK, hE⟩ := hv
  have hx := B.exec
  have hb := B.bytes
  have hr := B.returns
  have hts := atoms_spec (ws := w_c_readAny4) B.pre
  have hown : s.vm.findClass RX4 = some m.cls := findClass_of_methodNamed B.named
  have hlocks := B.notSynchronized
  subst hH0
  generalize hAe : gA G s.heap.size = A at hE ⊢
  have hA : ∀ q : Nat, s.heap.size ≤ q → A q := fun q h => by rw [← hAe]; exact Or.inr h
  have hG := gA_of hAe
  have hS : va_S A s.heap s.heap [] := va_S.rf
  have hF : gF (dC, dI) SKc G ([(152, 12), (152, 13), (162, 0)] : List (Nat × Nat)) s.heap s.heap := gF.rf
  have hl := lv_entry ([.ref o0, .int 4]) (n := 4) (Nat.le_of_ble_eq_true rfl)
  rw [lg_entry_eq]
  generalize (lg_sl ([.ref o0, .int 4]) ++ List.replicate (4 - (lg_sl ([.ref o0, .int 4])).length) Slot.unset).toArray = ls at hl ⊢
  have hl : lv_has ls 4 [(0, .ref o0), (1, .int 4)] := hl
  refine lv_aload_n hx hb dX4_readAny_0 rfl (lv_at hl 0 rfl) ?_
  refine lv_iload_n hx hb dX4_readAny_1 rfl (lv_at hl 1 rfl) ?_
  have hFc := gA_free hG hA hS
  refine va_calli (va_runV (As := [.int 4]) (rest := []) ⟨hx, hb, hml, hown, hts⟩ (c_readAll4 l dC dI kA adK adV G s.heap nC nS o0 th a0 s0 sp9 vT vS tv ix_tv ix_tv K X pS hT hr_o0 hm_th hr_th hm_a0 hm_s0 hm_sp9 hr_sp9 (by have q8 := ti_all ix_tv; omega) (by have q8 := ti_all a0; omega) (by have := (show a0.toInt = a0.toInt from rfl); have := (show ix_tv.toInt = ix_tv.toInt from rfl); omega) (fun m hm => hKK m (Nat.le_trans hm (Nat.le_of_eq (tn_same hx_tv rfl rfl)))) (fun m hm => hXX m (Nat.lt_of_lt_of_eq hm (tn_same hx_tv rfl rfl))) (by have q8 := ti_all s0; omega) (by have := (show s0.toInt = s0.toInt from rfl); have := (show a0.toInt = a0.toInt from rfl); omega) hc_vT hc_vS (by have q9 := (show ix_tv.toInt = ix_tv.toInt from rfl); have := (show ix_tv.toInt = ix_tv.toInt from rfl); omega) hm_tv (by have q8 := ti_all tv; omega) (by omega) (by omega)) (cwV 1 hts (goodIn_app (goodIn_r _ [32, 33, 34, 15] rfl (by decide +kernel)) (goodIn_ca (goodIn_r _ [1, 2, 3, 4, 5, 1, 6, 7, 8, 9, 10, 11, 12, 13, 14, 15, 16, 17, 18, 19, 20, 21, 22, 23, 24, 25, 26, 27, 28, 29, 30, 31, 32, 33, 34, 35, 36, 37] rfl (by decide +kernel)) (bs2_in _ _))) rfl rfl rfl (by decide +kernel) ⟨(Nat.le_of_ble_eq_true rfl), (Nat.le_of_ble_eq_true rfl)⟩) ⟨fun a U g mk q => by obtain ⟨q0, q1, qK, qE⟩ := q; exact ⟨q0, q1, va_K.moved (u := U) (U := U.calling g mk a) (Vm.Alike.refl U.vm) qK, EVC.blind g mk a qE⟩, gH_rc hK hT hr_o0 shc_152 rfl, fun U hU hW => ⟨rfl, hU, va_K.moved hW.alike hK, hE.call hS hFc hU hW⟩⟩ rfl rfl hl.1 rfl (lv_room (Nat.le_of_ble_eq_true rfl)) dX4_readAny_2 ⟨(Nat.le_of_ble_eq_true rfl), (Nat.le_of_ble_eq_true rfl)⟩) hS (fun q _ h => hFc q h) hFc (fun r1 u t H locs ht hvm hw2 hB _ _ hS => ?_)
  obtain ⟨u3, u4, u5⟩ := u
  obtain ⟨hT, hF1, m6, m7, m8⟩ := hB
  rw [ht] at hT hF1 m6 m7 m8
  have m9 := (hF1.fld hr_o0 skc_152 (k := 0) (by decide) (by decide)).trans hm_th
  have m12 := (hF1.fld hr_o0 skc_152 (k := 9) (by decide) (by decide)).trans hm_sp9
  have m13 := hc_vT.kept (hF1.arr hr_th skc_153 (by decide))
  have m15 := (el_kept (hF1.arr hr_th skc_153 (by decide))).trans hm_tv
  have hF := hF.more hF1 (by decide)
  try dsimp only at hw2
  obtain ⟨h16, h17, h18, hf19, hf20, hf21, hf22, hf23⟩ := hw2
  refine lv_istore_n (lv' := [(2, .int r1), (0, .ref o0), (1, .int 4)]) hx hb dX4_readAny_5 rfl hl (by decide) rfl (fun ls hl => ?_)
  refine lv_iconst (v := 0) hx hb dX4_readAny_6 (by decide) ?_
  refine lv_istore_n (lv' := [(3, .int 0), (2, .int r1), (0, .ref o0), (1, .int 4)]) hx hb dX4_readAny_7 rfl hl (by decide) rfl (fun ls hl => ?_)
  have key105 : ∀ (n105 i24 : Nat), i24 + n105 = 400 → 0 ≤ i24 → ∀ (z25 : Int32), ∀ (V28 : Nat → Int32), ∀ (z33 : Int32), ∀ (z36 : Int32), ((0 ≤ z25.toInt ∧ z25.toInt ≤ 1) ∧ (0 ≤ z33.toInt ∧ z33.toInt ≤ 400) ∧ (0 ≤ z36.toInt ∧ z36.toInt ≤ 400) ∧ (a0.toInt ≤ z33.toInt ∧ z33.toInt ≤ tn.toInt) ∧ (((z25.toInt = 1 ∧ ∀ (r : Int) (f : Nat), lpQ K X (lpR K X (aR K X 2) 14) 15 (pS z33.toNatClampNeg) r f → coR K X (aR K X 2) (pS a0.toNatClampNeg) r f) ∨ (z25.toInt = 0 ∧ coR K X (aR K X 2) (pS a0.toNatClampNeg) 0 (pS z33.toNatClampNeg))) ∧ ((i24 : Nat) : Int) ≤ z33.toInt) ∧ (z25.toInt = 1 → zlI K X (zlZ K X (zaZ K X 2) 14) 15 (pS a0.toNatClampNeg) (zC (tz V28) s0.toNatClampNeg z36.toNatClampNeg) (pS z33.toNatClampNeg)) ∧ (zKp vS V28 s0.toNatClampNeg) ∧ (s0.toInt ≤ z36.toInt ∧ z36.toInt - s0.toInt ≤ z33.toInt - a0.toInt)) → ∀ (H : Heap) (locs : List Loc), gH (dC, dI) kA (SHc nC nS) G H → gF (dC, dI) SKc G ([(152, 12), (152, 13), (162, 0)] : List (Nat × Nat)) s.heap H → va_S A s.heap H locs → ct H th 401 vT → ct H sp9 400 V28 → el H o0 (dI 7 0) = some (.ref th) → el H o0 (dI 7 9) = some (.ref sp9) → el H th ix_tv.toNatClampNeg = some (.int tv) → el H o0 (dI 7 13) = some (.int z33) → el H o0 (dI 7 12) = some (.int z36) → ∀ ls : Array Slot, lv_has ls 4 [(3, .int (nI i24)), (2, .int z25), (0, .ref o0), (1, .int 4)] → W p l e (headSpec w_c_readAny4 ({ frames := 12, cells := 0, slots := 0, locals := 270 })).room s m #[.ref o0, .int 4] below meth c H locs 0 0 (MQ below (va_Qi (fun (r : Int32) (u : Int32 × Int32 × (Nat → Int32)) => match u with | (a1, s1, vS1) => (0 ≤ a1.toInt ∧ a1.toInt ≤ 400) ∧ (0 ≤ s1.toInt ∧ s1.toInt ≤ 400) ∧ (0 ≤ r.toInt ∧ r.toInt ≤ 1) ∧ (a0.toInt ≤ a1.toInt ∧ a1.toInt ≤ tn.toInt) ∧ (s0.toInt ≤ s1.toInt ∧ s1.toInt - s0.toInt ≤ a1.toInt - a0.toInt) ∧ (coR K X (aR K X 2) (pS a0.toNatClampNeg) r.toInt (pS a1.toNatClampNeg)) ∧ (zKp vS vS1 s0.toNatClampNeg) ∧ (r.toInt = 1 → zlZ K X (zlZ K X (zaZ K X 2) 14) 15 (pS a0.toNatClampNeg) (zC (tz vS1) s0.toNatClampNeg s1.toNatClampNeg) (pS a1.toNatClampNeg))) (fun (u : Int32 × Int32 × (Nat → Int32)) (t : State) => match u with | (a1, s1, vS1) => gH (dC, dI) kA (SHc nC nS) G t.heap ∧ gF (dC, dI) SKc G ([(152, 12), (152, 13), (162, 0)] : List (Nat × Nat)) s.heap t.heap ∧ el t.heap o0 (dI 7 13) = some (.int a1) ∧ el t.heap o0 (dI 7 12) = some (.int s1) ∧ ct t.heap sp9 400 vS1) A) #[.ref o0, .int 4] s 0 0 A) (F0 m 8 ls []) := by
    intro n105
    induction n105 with
    | zero =>
      intro i24 hn105 hlo106 z25 V28 z33 z36 ⟨h26, h34, h37, hj39, hj40, hj41, hj42, hj43⟩ H locs hT hF hS m27 m29 m30 m31 m32 m35 m38 ls hl
      obtain rfl : 400 = i24 := by omega
      refine lv_iload_n hx hb dX4_readAny_8 rfl (lv_at hl 0 rfl) ?_
      refine lv_sipush (v := 400) hx hb dX4_readAny_9 (by decide) ?_
      refine lv_icmp_ge (tgt := 46) hx hb dX4_readAny_12 (by decide) (fun c107 => ?_) (fun c107 => (by exfalso; have q9 : ((400 : Nat) : Int) < 400 := ti_nle c107 (by decide) (nI_toInt (by omega)); omega))
      have t108 : 400 ≤ ((400 : Nat) : Int) := ti_le c107 (by decide) (nI_toInt (by omega))
      refine lv_iload_n hx hb dX4_readAny_46 rfl (lv_at hl 1 rfl) ?_
      exact W.zret (v := z25) hx hb hr (nar_b (by have q8 := ti_all z25; omega)) (fun t ht hW => ⟨⟨z25, (z33, z36, V28), rfl, (by exact ⟨(by have q8 := ti_all z33; omega), (by have q8 := ti_all z36; omega), (by have q8 := ti_all z25; omega), (by omega), (by omega), (by rcases hj40.1 with ⟨h8, l9⟩ | ⟨h8, l9⟩; (rw [h8]; exact lp_e l9 (fun h7 => by have := tn_of (show z33.toInt = z33.toInt from rfl) (by omega); have := tn_of (show tn.toInt = tn.toInt from rfl) (by omega); have k9 := hKK tn.toNatClampNeg (Nat.le_refl _); have e9 := hc_vT.at hm_tv (by have q9 := tn_of hx_tv (by omega); omega); have k8 : (vT tn.toNatClampNeg).toInt = 21 := (by have q8 := congrArg Int32.toInt e9; rw [show ix_tv.toNatClampNeg = tn.toNatClampNeg from tn_same hx_tv rfl rfl] at q8; omega); rw [show z33.toNatClampNeg = tn.toNatClampNeg from by omega] at h7; omega)); rw [h8]; exact l9), hj42, (fun h8 => ⟨hj41 h8, fun h7 => by have := tn_of (show z33.toInt = z33.toInt from rfl) (by omega); have := tn_of (show tn.toInt = tn.toInt from rfl) (by omega); have k9 := hKK tn.toNatClampNeg (Nat.le_refl _); have e9 := hc_vT.at hm_tv (by have q9 := tn_of hx_tv (by omega); omega); have k8 : (vT tn.toNatClampNeg).toInt = 21 := (by have q8 := congrArg Int32.toInt e9; rw [show ix_tv.toNatClampNeg = tn.toNatClampNeg from tn_same hx_tv rfl rfl] at q8; omega); rw [show z33.toNatClampNeg = tn.toNatClampNeg from by omega] at h7; omega⟩)⟩), by (try dsimp only); rw [ht]; exact ⟨hT, hF, m35, m38, m29⟩⟩, hS.F ht⟩) hS.2.2 dX4_readAny_47
    | succ n105 ih105 =>
      intro i24 hn105 hlo106 z25 V28 z33 z36 ⟨h26, h34, h37, hj39, hj40, hj41, hj42, hj43⟩ H locs hT hF hS m27 m29 m30 m31 m32 m35 m38 ls hl
      have hlt108 : i24 < 400 := by omega
      refine lv_iload_n hx hb dX4_readAny_8 rfl (lv_at hl 0 rfl) ?_
      refine lv_sipush (v := 400) hx hb dX4_readAny_9 (by decide) ?_
      refine lv_icmp_ge (tgt := 46) hx hb dX4_readAny_12 (by decide) (fun c109 => (by exfalso; have q9 : 400 ≤ ((i24 : Nat) : Int) := ti_le c109 (by decide) (nI_toInt (by omega)); omega)) (fun c109 => ?_)
      have t110 : ((i24 : Nat) : Int) < 400 := ti_nle c109 (by decide) (nI_toInt (by omega))
      refine lv_iload_n hx hb dX4_readAny_15 rfl (lv_at hl 1 rfl) ?_
      refine lv_if_eq (tgt := 46) hx hb dX4_readAny_16 (by decide) (fun c111 => ?_) (fun c111 => ?_)
      · have t112 : z25.toInt = 0 := ti_eq c111 rfl (by decide)
        refine lv_iload_n hx hb dX4_readAny_46 rfl (lv_at hl 1 rfl) ?_
        exact W.zret (v := z25) hx hb hr (nar_b (by have q8 := ti_all z25; omega)) (fun t ht hW => ⟨⟨z25, (z33, z36, V28), rfl, (by exact ⟨(by have q8 := ti_all z33; omega), (by have q8 := ti_all z36; omega), (by have q8 := ti_all z25; omega), (by omega), (by omega), (by rcases hj40.1 with ⟨h8, l9⟩ | ⟨h8, l9⟩; (rw [h8]; exact lp_e l9 (fun h7 => by have := tn_of (show z33.toInt = z33.toInt from rfl) (by omega); have := tn_of (show tn.toInt = tn.toInt from rfl) (by omega); have k9 := hKK tn.toNatClampNeg (Nat.le_refl _); have e9 := hc_vT.at hm_tv (by have q9 := tn_of hx_tv (by omega); omega); have k8 : (vT tn.toNatClampNeg).toInt = 21 := (by have q8 := congrArg Int32.toInt e9; rw [show ix_tv.toNatClampNeg = tn.toNatClampNeg from tn_same hx_tv rfl rfl] at q8; omega); rw [show z33.toNatClampNeg = tn.toNatClampNeg from by omega] at h7; omega)); rw [h8]; exact l9), hj42, (fun h8 => ⟨hj41 h8, fun h7 => by have := tn_of (show z33.toInt = z33.toInt from rfl) (by omega); have := tn_of (show tn.toInt = tn.toInt from rfl) (by omega); have k9 := hKK tn.toNatClampNeg (Nat.le_refl _); have e9 := hc_vT.at hm_tv (by have q9 := tn_of hx_tv (by omega); omega); have k8 : (vT tn.toNatClampNeg).toInt = 21 := (by have q8 := congrArg Int32.toInt e9; rw [show ix_tv.toNatClampNeg = tn.toNatClampNeg from tn_same hx_tv rfl rfl] at q8; omega); rw [show z33.toNatClampNeg = tn.toNatClampNeg from by omega] at h7; omega⟩)⟩), by (try dsimp only); rw [ht]; exact ⟨hT, hF, m35, m38, m29⟩⟩, hS.F ht⟩) hS.2.2 dX4_readAny_47
      · have t113 : z25.toInt ≠ 0 := ti_ne c111 rfl (by decide)
        refine lv_aload_n hx hb dX4_readAny_19 rfl (lv_at hl 2 rfl) ?_
        refine lv_bipush (v := 15) hx hb dX4_readAny_20 (by decide) ?_
        have hFc := gA_free hG hA hS
        refine va_calli (va_runV (As := [.int 15]) (rest := []) ⟨hx, hb, hml, hown, hts⟩ (c_take l dC dI kA adK adV G H nC nS o0 15 th z33 vT tv ix_tv ix_tv K X pS hT hr_o0 m30 hr_th m35 (by have q8 := ti_all ix_tv; omega) (by have q8 := ti_all z33; omega) (by have := (show z33.toInt = z33.toInt from rfl); have := (show ix_tv.toInt = ix_tv.toInt from rfl); omega) (by have := (show (15 : Int32).toInt = 15 from (by decide)); omega) (fun m hm => hKK m (Nat.le_trans hm (Nat.le_of_eq (tn_same hx_tv rfl rfl)))) (fun m hm => hXX m (Nat.lt_of_lt_of_eq hm (tn_same hx_tv rfl rfl))) m27 (by have q9 := (show ix_tv.toInt = ix_tv.toInt from rfl); have := (show ix_tv.toInt = ix_tv.toInt from rfl); omega) m32 (by have q8 := ti_all tv; omega) (by omega) (by omega)) (cwV 1 hts (goodIn_app (goodIn_r _ [20, 21, 22, 15] rfl (by decide +kernel)) (goodIn_ca (goodIn_r _ [19, 3, 4] rfl (by decide +kernel)) (bs2_in _ _))) rfl rfl rfl (by decide +kernel) ⟨(Nat.le_of_ble_eq_true rfl), (Nat.le_of_ble_eq_true rfl)⟩) ⟨fun a U g mk q => by obtain ⟨q0, q1, qK, qE⟩ := q; exact ⟨q0, q1, va_K.moved (u := U) (U := U.calling g mk a) (Vm.Alike.refl U.vm) qK, EVC.blind g mk a qE⟩, gH_rc hK hT hr_o0 shc_152 rfl, fun U hU hW => ⟨rfl, hU, va_K.moved hW.alike hK, hE.call hS hFc hU hW⟩⟩ rfl rfl hl.1 rfl (lv_room (Nat.le_of_ble_eq_true rfl)) dX4_readAny_22 ⟨(Nat.le_of_ble_eq_true rfl), (Nat.le_of_ble_eq_true rfl)⟩) hS (fun q _ h => hFc q h) hFc (fun r114 u t H locs ht hvm hw115 hB _ _ hS => ?_)
        obtain ⟨u116, rfl⟩ : ∃ z, z = u := ⟨_, rfl⟩
        obtain ⟨hT, hF1, m117⟩ := hB
        rw [ht] at hT hF1 m117
        have m118 := m27.kept (hF1.arr hr_th skc_153 (by decide))
        have m119 := m29.kept (hF1.arr hr_sp9 skc_162 (by decide))
        have m120 := (hF1.fld hr_o0 skc_152 (k := 0) (by decide) (by decide)).trans m30
        have m121 := (hF1.fld hr_o0 skc_152 (k := 9) (by decide) (by decide)).trans m31
        have m122 := (el_kept (hF1.arr hr_th skc_153 (by decide))).trans m32
        have m124 := (hF1.fld hr_o0 skc_152 (k := 12) (by decide) (by decide)).trans m38
        have hF := hF.more hF1 (by decide)
        try dsimp only at hw115
        obtain ⟨h125, h126, hf127, hf128, hf129⟩ := hw115
        refine lv_if_eq (tgt := 46) hx hb dX4_readAny_25 (by decide) (fun c130 => ?_) (fun c130 => ?_)
        · have t131 : r114.toInt = 0 := ti_eq c130 rfl (by decide)
          refine lv_iload_n hx hb dX4_readAny_46 rfl (lv_at hl 1 rfl) ?_
          exact W.zret (v := z25) hx hb hr (nar_b (by have q8 := ti_all z25; omega)) (fun t ht hW => ⟨⟨z25, (u116, z36, V28), rfl, (by exact ⟨(by have q8 := ti_all u116; omega), (by have q8 := ti_all z36; omega), (by have q8 := ti_all z25; omega), (by omega), (by omega), (by have l9 := (hj40.1.resolve_right (fun h8 => by have := h8.1; omega)).2; have a9 := hf128.resolve_left (fun h8 => by have := h8.2.1; omega); rw [show z25.toInt = 1 from by omega, a9.2.2]; exact lp_e l9 (fun h7 => a9.1 (h7.trans (by decide)))), hj42, (fun h8 => ⟨by (try dsimp only); have a9 := hf128.resolve_left (fun h8 => by have := h8.2.1; omega); rw [a9.2.2]; exact hj41 h8, by (try dsimp only); have a9 := hf128.resolve_left (fun h8 => by have := h8.2.1; omega); rw [a9.2.2]; exact fun h7 => a9.1 (h7.trans (by decide))⟩)⟩), by (try dsimp only); rw [ht]; exact ⟨hT, hF, m117, m124, m119⟩⟩, hS.F ht⟩) hS.2.2 dX4_readAny_47
        · have t132 : r114.toInt ≠ 0 := ti_ne c130 rfl (by decide)
          refine lv_aload_n hx hb dX4_readAny_28 rfl (lv_at hl 2 rfl) ?_
          refine lv_iload_n hx hb dX4_readAny_29 rfl (lv_at hl 3 rfl) ?_
          have hFc := gA_free hG hA hS
          refine va_calli (va_runV (As := [.int 4]) (rest := []) ⟨hx, hb, hml, hown, hts⟩ (c_readAll4 l dC dI kA adK adV G H nC nS o0 th u116 z36 sp9 vT V28 tv ix_tv ix_tv K X pS hT hr_o0 m120 hr_th m117 m124 m121 hr_sp9 (by have q8 := ti_all ix_tv; omega) (by have q8 := ti_all u116; omega) (by have := (show u116.toInt = u116.toInt from rfl); have := (show ix_tv.toInt = ix_tv.toInt from rfl); omega) (fun m hm => hKK m (Nat.le_trans hm (Nat.le_of_eq (tn_same hx_tv rfl rfl)))) (fun m hm => hXX m (Nat.lt_of_lt_of_eq hm (tn_same hx_tv rfl rfl))) (by have q8 := ti_all z36; omega) (by have := (show z36.toInt = z36.toInt from rfl); have := (show u116.toInt = u116.toInt from rfl); omega) m118 m119 (by have q9 := (show ix_tv.toInt = ix_tv.toInt from rfl); have := (show ix_tv.toInt = ix_tv.toInt from rfl); omega) m122 (by have q8 := ti_all tv; omega) (by omega) (by omega)) (cwV 1 hts (goodIn_app (goodIn_r _ [32, 33, 34, 15] rfl (by decide +kernel)) (goodIn_ca (goodIn_r _ [1, 2, 3, 4, 5, 1, 6, 7, 8, 9, 10, 11, 12, 13, 14, 15, 16, 17, 18, 19, 20, 21, 22, 23, 24, 25, 26, 27, 28, 29, 30, 31, 32, 33, 34, 35, 36, 37] rfl (by decide +kernel)) (bs2_in _ _))) rfl rfl rfl (by decide +kernel) ⟨(Nat.le_of_ble_eq_true rfl), (Nat.le_of_ble_eq_true rfl)⟩) ⟨fun a U g mk q => by obtain ⟨q0, q1, qK, qE⟩ := q; exact ⟨q0, q1, va_K.moved (u := U) (U := U.calling g mk a) (Vm.Alike.refl U.vm) qK, EVC.blind g mk a qE⟩, gH_rc hK hT hr_o0 shc_152 rfl, fun U hU hW => ⟨rfl, hU, va_K.moved hW.alike hK, hE.call hS hFc hU hW⟩⟩ rfl rfl hl.1 rfl (lv_room (Nat.le_of_ble_eq_true rfl)) dX4_readAny_30 ⟨(Nat.le_of_ble_eq_true rfl), (Nat.le_of_ble_eq_true rfl)⟩) hS (fun q _ h => hFc q h) hFc (fun r133 u t H locs ht hvm hw134 hB _ _ hS => ?_)
          obtain ⟨u135, u136, u137⟩ := u
          obtain ⟨hT, hF1, m138, m139, m140⟩ := hB
          rw [ht] at hT hF1 m138 m139 m140
          have m141 := m118.kept (hF1.arr hr_th skc_153 (by decide))
          have m143 := (hF1.fld hr_o0 skc_152 (k := 0) (by decide) (by decide)).trans m120
          have m144 := (hF1.fld hr_o0 skc_152 (k := 9) (by decide) (by decide)).trans m121
          have m145 := (el_kept (hF1.arr hr_th skc_153 (by decide))).trans m122
          have hF := hF.more hF1 (by decide)
          try dsimp only at hw134
          obtain ⟨h148, h149, h150, hf151, hf152, hf153, hf154, hf155⟩ := hw134
          refine lv_istore_n (lv' := [(2, .int r133), (3, .int (nI i24)), (0, .ref o0), (1, .int 4)]) hx hb dX4_readAny_33 rfl hl (by decide) rfl (fun ls hl => ?_)
          refine lv_aload_n hx hb dX4_readAny_34 rfl (lv_at hl 2 rfl) ?_
          refine lv_bipush (v := 15) hx hb dX4_readAny_35 (by decide) ?_
          have hFc := gA_free hG hA hS
          refine va_callv (va_runV (As := [.int 15]) (rest := []) ⟨hx, hb, hml, hown, hts⟩ (c_addStep l dC dI kA adK adV G H nC nS o0 15 u136 sp9 u137 hT hr_o0 m139 m144 hr_sp9 (rg_t (a := 15) (by decide) (by first | decide | omega) (by first | decide | omega)) (by have q8 := ti_all u136; omega) m140 (by omega) (by omega)) (cwV 1 hts (goodIn_app (goodIn_r _ [12, 13, 14, 15] rfl (by decide +kernel)) (goodIn_ca (goodIn_r _ [9, 10, 11] rfl (by decide +kernel)) (bs2_in _ _))) rfl rfl rfl (by decide +kernel) ⟨(Nat.le_of_ble_eq_true rfl), (Nat.le_of_ble_eq_true rfl)⟩) ⟨fun a U g mk q => by obtain ⟨q0, q1, qK, qE⟩ := q; exact ⟨q0, q1, va_K.moved (u := U) (U := U.calling g mk a) (Vm.Alike.refl U.vm) qK, EVC.blind g mk a qE⟩, gH_rc hK hT hr_o0 shc_152 rfl, fun U hU hW => ⟨rfl, hU, va_K.moved hW.alike hK, hE.call hS hFc hU hW⟩⟩ rfl rfl hl.1 rfl (lv_room (Nat.le_of_ble_eq_true rfl)) dX4_readAny_37 ⟨(Nat.le_of_ble_eq_true rfl), (Nat.le_of_ble_eq_true rfl)⟩) hS (fun q _ h => hFc q h) hFc (fun u t H locs ht hvm hw157 hB _ _ hS => ?_)
          obtain ⟨u158, rfl⟩ : ∃ z, z = u := ⟨_, rfl⟩
          obtain ⟨hT, hF1, m159, m160⟩ := hB
          rw [ht] at hT hF1 m159 m160
          have m161 := m141.kept (hF1.arr hr_th skc_153 (by decide))
          have m162 := (hF1.fld hr_o0 skc_152 (k := 0) (by decide) (by decide)).trans m143
          have m163 := (hF1.fld hr_o0 skc_152 (k := 9) (by decide) (by decide)).trans m144
          have m164 := (el_kept (hF1.arr hr_th skc_153 (by decide))).trans m145
          have m165 := (hF1.fld hr_o0 skc_152 (k := 13) (by decide) (by decide)).trans m138
          have hF := hF.more hF1 (by decide)
          try dsimp only at hw157
          obtain ⟨h168, hf169⟩ := hw157
          refine lv_iinc (v := nI (i24 + 1)) (lv' := [(3, .int (nI (i24 + 1))), (2, .int r133), (0, .ref o0), (1, .int 4)]) hx hb dX4_readAny_40 hl (k := 1) rfl (nI_add i24 1) (by decide) rfl (fun ls hl => ?_)
          refine lv_goto (tgt := 8) hx hb dX4_readAny_43 (by decide) ?_
          exact ih105 (i24 + 1) (by omega) (by omega) r133 (cu u137 u136.toNatClampNeg 15) u135 u158 ⟨(by have q8 := ti_all r133; omega), (by have q8 := ti_all u135; omega), (by have q8 := ti_all u158; omega), (by have := hx_tv; have := (show u135.toInt = u135.toInt from rfl); omega), ⟨(by have l9 := (hj40.1.resolve_right (fun h8 => by have := h8.1; omega)).2; have a9 := hf128.resolve_right (fun h8 => by have := h8.2.1; omega); have h9 := hf153; rw [a9.2.2] at h9; rcases (show r133.toInt = 1 ∨ r133.toInt = 0 by omega) with h8 | h8 <;> rw [h8] at h9; (exact Or.inl ⟨h8, lp_s l9 (a9.1.trans (by decide)) h9⟩); exact Or.inr ⟨h8, lp_f l9 (a9.1.trans (by decide)) h9⟩), by omega⟩, (fun h8 => by have := tn_of (show s0.toInt = s0.toInt from rfl) (by omega); have := tn_of (show z36.toInt = z36.toInt from rfl) (by omega); have := tn_of (show u136.toInt = u136.toInt from rfl) (by omega); have := tn_of (show u158.toInt = u158.toInt from rfl) (by omega); have l9 := hj41 (by omega); have a9 := hf128.resolve_right (fun h8 => by have := h8.2.1; omega); have h9 := hf155 h8; rw [a9.2.2] at h9; rw [zC_3 (sx := z36.toNatClampNeg) (s2 := u136.toNatClampNeg) (c := 15) (by omega) (by omega) hf154 (by omega) rfl (by decide)]; exact zlI_s l9 (a9.1.trans (by decide)) h9), ((hj42.tr hf154 (by have := tn_of (show s0.toInt = s0.toInt from rfl) (by omega); have := tn_of (show z36.toInt = z36.toInt from rfl) (by omega); omega)).st (by have := tn_of (show s0.toInt = s0.toInt from rfl) (by omega); have := tn_of (show u136.toInt = u136.toInt from rfl) (by omega); omega)), (by have := (show u158.toInt = u158.toInt from rfl); have := (show u135.toInt = u135.toInt from rfl); omega)⟩ _ _ hT hF hS m161 m160 m162 m163 m164 m165 m159 ls (lv_sub hl [0, 1, 2, 3] rfl)
  exact key105 (400 - 0) 0 (by omega) (Nat.le_refl _) r1 u5 u3 u4 ⟨(by have q8 := ti_all r1; omega), (by have q8 := ti_all u3; omega), (by have q8 := ti_all u4; omega), (by have := hx_tv; have := (show u3.toInt = u3.toInt from rfl); omega), ⟨(by have h9 := hf21; rcases (show r1.toInt = 1 ∨ r1.toInt = 0 by omega) with h8 | h8 <;> rw [h8] at h9; (exact Or.inl ⟨h8, lp_1 h9⟩); exact Or.inr ⟨h8, lp_0 h9⟩), by omega⟩, (fun h8 => zlI_0 (hf23 h8)), (zKp.rf.tr hf22 (by have := tn_of (show s0.toInt = s0.toInt from rfl) (by omega); omega)), (by have := (show u4.toInt = u4.toInt from rfl); have := (show u3.toInt = u3.toInt from rfl); omega)⟩ _ _ hT hF hS m13 m8 m9 m12 m15 m6 m7 ls (lv_sub hl [0, 1, 2, 3] rfl)
def w_c_readAtom3 : List Cond := .code yX4_readAtom cX4_readAtom 4 (some .boolean) :: (HAppend.hAppend (α := List Cond) (β := List Cond) (γ := List Cond) [.fieldLink RX4 11 "SeaLand$Law" "things" "[I", .fieldLink RX4 56 "SeaLand$Law" "at" "I", .code yX4_readAny cX4_readAny 4 (some .boolean), .code yX4_readAll cX4_readAll 4 (some .boolean), .code yX4_readAtom cX4_readAtom 4 (some .boolean), .code yX4_readComparison cX4_readComparison 3 (some .boolean), .code yX4_readSum cX4_readSum 3 (some .boolean), .code yX4_readPart cX4_readPart 2 (some .boolean), .code yX4_addStep cX4_addStep 2 none, .fieldLink RX4 63 "SeaLand$Law" "stepped" "I", .fieldLink RX4 39 "SeaLand$Law" "steps" "[I", .methodLink RX4 179 yX4_addStep, .instanceMethod yX4_addStep, .selects RX4 yX4_addStep yX4_addStep, .initialized RX4, .methodLink RX4 192 yX4_readPart, .instanceMethod yX4_readPart, .selects RX4 yX4_readPart yX4_readPart, .code yX4_take cX4_take 2 (some .boolean), .methodLink RX4 70 yX4_take, .instanceMethod yX4_take, .selects RX4 yX4_take yX4_take, .methodLink RX4 189 yX4_readSum, .instanceMethod yX4_readSum, .selects RX4 yX4_readSum yX4_readSum, .methodLink RX4 186 yX4_readComparison, .instanceMethod yX4_readComparison, .selects RX4 yX4_readComparison yX4_readComparison, .methodLink RX4 183 yX4_readAtom, .instanceMethod yX4_readAtom, .selects RX4 yX4_readAtom yX4_readAtom, .methodLink RX4 176 yX4_readAll, .instanceMethod yX4_readAll, .selects RX4 yX4_readAll yX4_readAll, .methodLink RX4 173 yX4_readAny, .instanceMethod yX4_readAny, .selects RX4 yX4_readAny yX4_readAny] bs2)
set_option maxHeartbeats 4000000 in
set_option maxRecDepth 100000 in
theorem c_readAtom3 (l : Launch) (dC : Nat → ClassId) (dI : Nat → Nat → Nat) (kA : Nat → ClassId) (adK adV : Nat → Nat) (G : gT) (H0 : Heap) (nC nS : Int) (o0 : Nat) (th : Nat) (a0 : Int32) (s0 : Int32) (sp9 : Nat) (vT : Nat → Int32) (vS : Nat → Int32) (tv ix_tv : Int32) (tn : Int32) (K : Nat → Int) (X pS : Nat → Nat) (hT : gH (dC, dI) kA (SHc nC nS) G H0) (hr_o0 : G o0 = some 152) (hm_th : el H0 o0 (dI 7 0) = some (.ref th)) (hr_th : G th = some 153) (hm_a0 : el H0 o0 (dI 7 13) = some (.int a0)) (hm_s0 : el H0 o0 (dI 7 12) = some (.int s0)) (hm_sp9 : el H0 o0 (dI 7 9) = some (.ref sp9)) (hr_sp9 : G sp9 = some 162) (hq0 : 0 ≤ tn.toInt ∧ tn.toInt ≤ 400) (hq1 : 0 ≤ a0.toInt ∧ a0.toInt ≤ 400) (hat : a0.toInt ≤ tn.toInt) (hKK : ∀ m : Nat, m ≤ tn.toNatClampNeg → (vT m).toInt = K (pS m)) (hXX : ∀ m : Nat, m < tn.toNatClampNeg → pS (m + 1) = X (pS m)) (hq5 : 0 ≤ s0.toInt ∧ s0.toInt ≤ 400) (hsa : s0.toInt ≤ a0.toInt) (hc_vT : ct H0 th 401 vT) (hc_vS : ct H0 sp9 400 vS) (hx_tv : ix_tv.toInt = tn.toInt) (hm_tv : el H0 th ix_tv.toNatClampNeg = some (.int tv)) (hv_tv : 21 ≤ tv.toInt ∧ tv.toInt ≤ 21) (hgC : 0 ≤ nC ∧ nC ≤ 40) (hgS : 0 ≤ nS ∧ nS ≤ 60) : Met l yX4_readAtom w_c_readAtom3 ({ frames := 13, cells := 0, slots := 0, locals := 293 }) (va_Pc [.ref o0, .int 3] (fun U => U.heap = H0 ∧ va_K (dC, dI) vwCl (tyl kA) U ∧ EVC adK adV (gA G H0.size) U U.heap)) (va_Qi (fun (r : Int32) (u : Int32 × Int32 × (Nat → Int32)) => match u with | (a1, s1, vS1) => (0 ≤ a1.toInt ∧ a1.toInt ≤ 400) ∧ (0 ≤ s1.toInt ∧ s1.toInt ≤ 400) ∧ (0 ≤ r.toInt ∧ r.toInt ≤ 1) ∧ (a0.toInt ≤ a1.toInt ∧ a1.toInt ≤ tn.toInt) ∧ (s0.toInt ≤ s1.toInt ∧ s1.toInt - s0.toInt ≤ a1.toInt - a0.toInt) ∧ (aR K X 3 (pS a0.toNatClampNeg) r.toInt (pS a1.toNatClampNeg)) ∧ (zKp vS vS1 s0.toNatClampNeg) ∧ (r.toInt = 1 → zaZ K X 3 (pS a0.toNatClampNeg) (zC (tz vS1) s0.toNatClampNeg s1.toNatClampNeg) (pS a1.toNatClampNeg))) (fun (u : Int32 × Int32 × (Nat → Int32)) (t : State) => match u with | (a1, s1, vS1) => gH (dC, dI) kA (SHc nC nS) G t.heap ∧ gF (dC, dI) SKc G ([(152, 12), (152, 13), (162, 0)] : List (Nat × Nat)) H0 t.heap ∧ el t.heap o0 (dI 7 13) = some (.int a1) ∧ el t.heap o0 (dI 7 12) = some (.int s1) ∧ ct t.heap sp9 400 vS1) (gA G H0.size)) 0 0 (gA G H0.size) := by
  refine Met.ofW (cc := cX4_readAtom) (maxL := 4) (ret := (some .boolean)) (by decide) rfl ?_
  intro p e s m args below meth c s₁ B hml hv
  obtain ⟨rfl, hH0, hK, hE⟩ := hv
  have hx := B.exec
  have hb := B.bytes
  have hr := B.returns
  have hts := atoms_spec (ws := w_c_readAtom3) B.pre
  have hown : s.vm.findClass RX4 = some m.cls := findClass_of_methodNamed B.named
  have hlocks := B.notSynchronized
  subst hH0
  generalize hAe : gA G s.heap.size = A at hE ⊢
  have hA : ∀ q : Nat, s.heap.size ≤ q → A q := fun q h => by rw [← hAe]; exact Or.inr h
  have hG := gA_of hAe
  have hS : va_S A s.heap s.heap [] := va_S.rf
  have hF : gF (dC, dI) SKc G ([(152, 12), (152, 13), (162, 0)] : List (Nat × Nat)) s.heap s.heap := gF.rf
  have hl := lv_entry ([.ref o0, .int 3]) (n := 4) (Nat.le_of_ble_eq_true rfl)
  rw [lg_entry_eq]
  generalize (lg_sl ([.ref o0, .int 3]) ++ List.replicate (4 - (lg_sl ([.ref o0, .int 3])).length) Slot.unset).toArray = ls at hl ⊢
  have hl : lv_has ls 4 [(0, .ref o0), (1, .int 3)] := hl
  refine lv_aload_n hx hb dX4_readAtom_0 rfl (lv_at hl 0 rfl) ?_
  refine tw_getM (v := .ref th) hx hb hts bF2_X4 hown hK hT hr_o0 shc_152 rfl 0 (by decide) (ht_at2 hts 0 rfl) (fun _ h9 => h9) hm_th dX4_readAtom_1 ?_
  refine lv_aload_n hx hb dX4_readAtom_4 rfl (lv_at hl 0 rfl) ?_
  refine tw_getM (v := .int a0) hx hb hts bF2_X4 hown hK hT hr_o0 shc_152 rfl 13 (by decide) (ht_at2 hts 1 rfl) (fun _ h9 => h9) hm_a0 dX4_readAtom_5 ?_
  refine tw_iald (i := a0) hx hb hK hT hr_th shc_153 rfl (vin_t (a := a0.toInt) rfl (by omega) (by omega)) dX4_readAtom_8 (fun v9 m1 h9 => ?_)
  obtain ⟨x2, rfl, gx2, kx2⟩ := h9
  have cx2 := hc_vT.at m1 (by have q9 := tn_of (show a0.toInt = a0.toInt from rfl) (by omega); omega)
  have t3 : a0.toInt = ix_tv.toInt → x2.toInt = tv.toInt := fun h8 => congrArg Int32.toInt (el_same m1 hm_tv h8)
  have t4 : x2.toInt = K (pS a0.toNatClampNeg) := (congrArg Int32.toInt cx2).trans (hKK _ (by have := tn_of (show a0.toInt = a0.toInt from rfl) (by omega); have := tn_of (show tn.toInt = tn.toInt from rfl) (by omega); omega))
  refine lv_bipush (v := 13) hx hb dX4_readAtom_9 (by decide) ?_
  have t5 : -2147483648 ≤ x2.toInt ∧ x2.toInt ≤ 2147483647 := ti_all x2
  refine lv_icmp_ne (tgt := 18) hx hb dX4_readAtom_11 (by decide) (fun c6 => ?_) (fun c6 => ?_)
  · have t7 : x2.toInt ≠ 13 := ti_ne c6 rfl (by decide)
    refine lv_iconst (v := 0) hx hb dX4_readAtom_18 (by decide) ?_
    refine lv_istore_n (lv' := [(2, .int 0), (0, .ref o0), (1, .int 3)]) hx hb dX4_readAtom_19 rfl hl (by decide) rfl (fun ls hl => ?_)
    refine lv_iload_n hx hb dX4_readAtom_20 rfl (lv_at hl 0 rfl) ?_
    refine lv_if_ne (tgt := 43) hx hb dX4_readAtom_21 (by decide) (fun c8 => absurd c8 (by decide)) (fun c8 => ?_)
    refine lv_aload_n hx hb dX4_readAtom_24 rfl (lv_at hl 1 rfl) ?_
    refine tw_getM (v := .ref th) hx hb hts bF2_X4 hown hK hT hr_o0 shc_152 rfl 0 (by decide) (ht_at2 hts 0 rfl) (fun _ h9 => h9) hm_th dX4_readAtom_25 ?_
    refine lv_aload_n hx hb dX4_readAtom_28 rfl (lv_at hl 1 rfl) ?_
    refine tw_getM (v := .int a0) hx hb hts bF2_X4 hown hK hT hr_o0 shc_152 rfl 13 (by decide) (ht_at2 hts 1 rfl) (fun _ h9 => h9) hm_a0 dX4_readAtom_29 ?_
    refine tw_iald (i := a0) hx hb hK hT hr_th shc_153 rfl (vin_t (a := a0.toInt) rfl (by omega) (by omega)) dX4_readAtom_32 (fun v9 m9 h9 => ?_)
    obtain ⟨x10, rfl, gx10, kx10⟩ := h9
    have cx10 := hc_vT.at m9 (by have q9 := tn_of (show a0.toInt = a0.toInt from rfl) (by omega); omega)
    have t11 : a0.toInt = ix_tv.toInt → x10.toInt = tv.toInt := fun h8 => congrArg Int32.toInt (el_same m9 hm_tv h8)
    obtain rfl : x2 = x10 := (el_same m9 m1 rfl).symm
    refine lv_bipush (v := 16) hx hb dX4_readAtom_33 (by decide) ?_
    refine lv_icmp_eq (tgt := 43) hx hb dX4_readAtom_35 (by decide) (fun c12 => ?_) (fun c12 => ?_)
    · have t13 : x2.toInt = 16 := ti_eq c12 rfl (by decide)
      refine lv_iload_n hx hb dX4_readAtom_43 rfl (lv_at hl 2 rfl) ?_
      refine lv_bipush (v := 6) hx hb dX4_readAtom_44 (by decide) ?_
      refine lv_icmp_lt (tgt := 51) hx hb dX4_readAtom_46 (by decide) (fun c14 => ?_) (fun c14 => absurd c14 (by decide))
      refine lv_aload_n hx hb dX4_readAtom_51 rfl (lv_at hl 1 rfl) ?_
      refine lv_dup hx hb dX4_readAtom_52 rfl ?_
      refine tw_getM (v := .int a0) hx hb hts bF2_X4 hown hK hT hr_o0 shc_152 rfl 13 (by decide) (ht_at2 hts 1 rfl) (fun _ h9 => h9) hm_a0 dX4_readAtom_53 ?_
      refine lv_iconst (v := 1) hx hb dX4_readAtom_56 (by decide) ?_
      refine lv_iadd hx hb dX4_readAtom_57 ?_
      refine lv_topi (fun x15 ex15 => ?_)
      have t16 : x15.toInt = a0.toInt + 1 := ti_add ex15 rfl (by decide) (by omega) (by omega)
      refine tw_put (v := .int x15) (ty := .int) hx hb hts bF2_X4 tyX4 tyX4_ok nmX4 hown hK hT hG hS hr_o0 shc_152 rfl 13 (by decide) (ht_at2 hts 1 rfl) (fun _ h9 => h9) rfl (by decide +kernel) rfl rfl (gl_at rfl (gi_of (show x15.toInt = x15.toInt from rfl) (by omega) (by omega))) dX4_readAtom_58 (fun H locs hT oq m17 oj hS => ?_)
      have hF := hF.put hr_o0 skc_152 oq oj (by decide)
      have m18 := (oj 0 (by decide) (by decide)).trans hm_th
      have m19 := (oj 12 (by decide) (by decide)).trans hm_s0
      have m20 := (oj 9 (by decide) (by decide)).trans hm_sp9
      have m21 := hc_vT.kept (oq _ (gne hr_th hr_o0 (by decide)))
      have m22 := hc_vS.kept (oq _ (gne hr_sp9 hr_o0 (by decide)))
      have m23 := (el_kept (oq _ (gne hr_th hr_o0 (by decide)))).trans hm_tv
      refine lv_iload_n hx hb dX4_readAtom_61 rfl (lv_at hl 0 rfl) ?_
      refine lv_if_eq (tgt := 81) hx hb dX4_readAtom_62 (by decide) (fun c25 => ?_) (fun c25 => absurd c25 (by decide))
      refine lv_aload_n hx hb dX4_readAtom_81 rfl (lv_at hl 1 rfl) ?_
      refine lv_iload_n hx hb dX4_readAtom_82 rfl (lv_at hl 2 rfl) ?_
      refine lv_iconst (v := 1) hx hb dX4_readAtom_83 (by decide) ?_
      refine lv_iadd hx hb dX4_readAtom_84 ?_
      refine lv_topi (fun x26 ex26 => ?_)
      obtain rfl : x26 = 4 := ex26.trans (by decide)
      have hFc := gA_free hG hA hS
      refine va_calli (va_runV (As := [.int 4]) (rest := []) ⟨hx, hb, hml, hown, hts⟩ (c_readAny4 l dC dI kA adK adV G H nC nS o0 th x15 s0 sp9 vT vS tv ix_tv ix_tv K X pS hT hr_o0 m18 hr_th m17 m19 m20 hr_sp9 (by have q8 := ti_all ix_tv; omega) (by have q8 := ti_all x15; omega) (by have := (show x15.toInt = x15.toInt from rfl); have := (show ix_tv.toInt = ix_tv.toInt from rfl); omega) (fun m hm => hKK m (Nat.le_trans hm (Nat.le_of_eq (tn_same hx_tv rfl rfl)))) (fun m hm => hXX m (Nat.lt_of_lt_of_eq hm (tn_same hx_tv rfl rfl))) (by have q8 := ti_all s0; omega) (by have := (show s0.toInt = s0.toInt from rfl); have := (show x15.toInt = x15.toInt from rfl); omega) m21 m22 (by have q9 := (show ix_tv.toInt = ix_tv.toInt from rfl); have := (show ix_tv.toInt = ix_tv.toInt from rfl); omega) m23 (by have q8 := ti_all tv; omega) (by omega) (by omega)) (cwV 1 hts (goodIn_app (goodIn_r _ [35, 36, 37, 15] rfl (by decide +kernel)) (goodIn_ca (goodIn_r _ [3, 4, 5, 1, 2, 3, 6, 7, 8, 9, 10, 11, 12, 13, 14, 15, 16, 17, 18, 19, 20, 21, 22, 23, 24, 25, 26, 27, 28, 29, 30, 31, 32, 33, 34, 35, 36, 37] rfl (by decide +kernel)) (bs2_in _ _))) rfl rfl rfl (by decide +kernel) ⟨(Nat.le_of_ble_eq_true rfl), (Nat.le_of_ble_eq_true rfl)⟩) ⟨fun a U g mk q => by obtain ⟨q0, q1, qK, qE⟩ := q; exact ⟨q0, q1, va_K.moved (u := U) (U := U.calling g mk a) (Vm.Alike.refl U.vm) qK, EVC.blind g mk a qE⟩, gH_rc hK hT hr_o0 shc_152 rfl, fun U hU hW => ⟨rfl, hU, va_K.moved hW.alike hK, hE.call hS hFc hU hW⟩⟩ rfl rfl hl.1 rfl (lv_room (Nat.le_of_ble_eq_true rfl)) dX4_readAtom_85 ⟨(Nat.le_of_ble_eq_true rfl), (Nat.le_of_ble_eq_true rfl)⟩) hS (fun q _ h => hFc q h) hFc (fun r27 u t H locs ht hvm hw28 hB _ _ hS => ?_)
      obtain ⟨u29, u30, u31⟩ := u
      obtain ⟨hT, hF1, m32, m33, m34⟩ := hB
      rw [ht] at hT hF1 m32 m33 m34
      have m35 := (hF1.fld hr_o0 skc_152 (k := 0) (by decide) (by decide)).trans m18
      have m38 := m21.kept (hF1.arr hr_th skc_153 (by decide))
      have m40 := (el_kept (hF1.arr hr_th skc_153 (by decide))).trans m23
      have hF := hF.more hF1 (by decide)
      try dsimp only at hw28
      obtain ⟨h43, h44, h45, hf46, hf47, hf48, hf49, hf50⟩ := hw28
      refine lv_if_eq (tgt := 104) hx hb dX4_readAtom_88 (by decide) (fun c51 => ?_) (fun c51 => ?_)
      · have t52 : r27.toInt = 0 := ti_eq c51 rfl (by decide)
        refine lv_iconst (v := 0) hx hb dX4_readAtom_104 (by decide) ?_
        exact W.zret (v := 0) hx hb hr (by decide) (fun t ht hW => ⟨⟨0, (u29, u30, u31), rfl, (by exact ⟨(by have q8 := ti_all u29; omega), (by have q8 := ti_all u30; omega), (rg_t (a := 0) (by decide) (by first | decide | omega) (by first | decide | omega)), (by omega), (by omega), (by have h9 := hf48; rw [(show pS x15.toNatClampNeg = X (pS a0.toNatClampNeg) from by rw [show x15.toNatClampNeg = a0.toNatClampNeg + 1 from by have := tn_of (show a0.toInt = a0.toInt from rfl) (by omega); have := tn_of (show x15.toInt = x15.toInt from rfl) (by omega); omega]; exact hXX _ (by have := tn_of (show a0.toInt = a0.toInt from rfl) (by omega); have := tn_of (show tn.toInt = tn.toInt from rfl) (by omega); omega))] at h9; rw [show r27.toInt = 0 from by omega] at h9; exact Or.inr (Or.inl ⟨by omega, Or.inl ⟨h9, by decide⟩⟩)), (zKp.rf.tr hf49 (by have := tn_of (show s0.toInt = s0.toInt from rfl) (by omega); omega)), (fun h8 => absurd h8 (by decide))⟩), by (try dsimp only); rw [ht]; exact ⟨hT, hF, m32, m33, m34⟩⟩, hS.F ht⟩) hS.2.2 dX4_readAtom_105
      · have t53 : r27.toInt ≠ 0 := ti_ne c51 rfl (by decide)
        refine lv_aload_n hx hb dX4_readAtom_91 rfl (lv_at hl 1 rfl) ?_
        refine lv_bipush (v := 17) hx hb dX4_readAtom_92 (by decide) ?_
        have hFc := gA_free hG hA hS
        refine va_calli (va_runV (As := [.int 17]) (rest := []) ⟨hx, hb, hml, hown, hts⟩ (c_take l dC dI kA adK adV G H nC nS o0 17 th u29 vT tv ix_tv ix_tv K X pS hT hr_o0 m35 hr_th m32 (by have q8 := ti_all ix_tv; omega) (by have q8 := ti_all u29; omega) (by have := (show u29.toInt = u29.toInt from rfl); have := (show ix_tv.toInt = ix_tv.toInt from rfl); omega) (by have := (show (17 : Int32).toInt = 17 from (by decide)); omega) (fun m hm => hKK m (Nat.le_trans hm (Nat.le_of_eq (tn_same hx_tv rfl rfl)))) (fun m hm => hXX m (Nat.lt_of_lt_of_eq hm (tn_same hx_tv rfl rfl))) m38 (by have q9 := (show ix_tv.toInt = ix_tv.toInt from rfl); have := (show ix_tv.toInt = ix_tv.toInt from rfl); omega) m40 (by have q8 := ti_all tv; omega) (by omega) (by omega)) (cwV 1 hts (goodIn_app (goodIn_r _ [20, 21, 22, 15] rfl (by decide +kernel)) (goodIn_ca (goodIn_r _ [19, 1, 2] rfl (by decide +kernel)) (bs2_in _ _))) rfl rfl rfl (by decide +kernel) ⟨(Nat.le_of_ble_eq_true rfl), (Nat.le_of_ble_eq_true rfl)⟩) ⟨fun a U g mk q => by obtain ⟨q0, q1, qK, qE⟩ := q; exact ⟨q0, q1, va_K.moved (u := U) (U := U.calling g mk a) (Vm.Alike.refl U.vm) qK, EVC.blind g mk a qE⟩, gH_rc hK hT hr_o0 shc_152 rfl, fun U hU hW => ⟨rfl, hU, va_K.moved hW.alike hK, hE.call hS hFc hU hW⟩⟩ rfl rfl hl.1 rfl (lv_room (Nat.le_of_ble_eq_true rfl)) dX4_readAtom_94 ⟨(Nat.le_of_ble_eq_true rfl), (Nat.le_of_ble_eq_true rfl)⟩) hS (fun q _ h => hFc q h) hFc (fun r54 u t H locs ht hvm hw55 hB _ _ hS => ?_)
        obtain ⟨u56, rfl⟩ : ∃ z, z = u := ⟨_, rfl⟩
        obtain ⟨hT, hF1, m57⟩ := hB
        rw [ht] at hT hF1 m57
        have m64 := (hF1.fld hr_o0 skc_152 (k := 12) (by decide) (by decide)).trans m33
        have m65 := m34.kept (hF1.arr hr_sp9 skc_162 (by decide))
        have hF := hF.more hF1 (by decide)
        try dsimp only at hw55
        obtain ⟨h66, h67, hf68, hf69, hf70⟩ := hw55
        refine lv_if_eq (tgt := 104) hx hb dX4_readAtom_97 (by decide) (fun c71 => ?_) (fun c71 => ?_)
        · have t72 : r54.toInt = 0 := ti_eq c71 rfl (by decide)
          refine lv_iconst (v := 0) hx hb dX4_readAtom_104 (by decide) ?_
          exact W.zret (v := 0) hx hb hr (by decide) (fun t ht hW => ⟨⟨0, (u56, u30, u31), rfl, (by exact ⟨(by have q8 := ti_all u56; omega), (by have q8 := ti_all u30; omega), (rg_t (a := 0) (by decide) (by first | decide | omega) (by first | decide | omega)), (by omega), (by omega), (by have h9 := hf48; rw [(show pS x15.toNatClampNeg = X (pS a0.toNatClampNeg) from by rw [show x15.toNatClampNeg = a0.toNatClampNeg + 1 from by have := tn_of (show a0.toInt = a0.toInt from rfl) (by omega); have := tn_of (show x15.toInt = x15.toInt from rfl) (by omega); omega]; exact hXX _ (by have := tn_of (show a0.toInt = a0.toInt from rfl) (by omega); have := tn_of (show tn.toInt = tn.toInt from rfl) (by omega); omega))] at h9; rw [show r27.toInt = 1 from by omega] at h9; have t9 := hf69; exact Or.inr (Or.inl ⟨by omega, Or.inr ⟨_, h9, (by have q0 : (0 : Int32).toInt = 0 := (by decide); have q1 : (1 : Int32).toInt = 1 := (by decide); rcases t9 with ⟨x1, x2, x3⟩ | ⟨x1, x2, x3⟩; (exact Or.inl ⟨x1.trans (by decide), by omega, x3⟩); exact Or.inr ⟨fun h7 => x1 (h7.trans (by decide)), by omega, x3⟩)⟩⟩)), (zKp.rf.tr hf49 (by have := tn_of (show s0.toInt = s0.toInt from rfl) (by omega); omega)), (fun h8 => absurd h8 (by decide))⟩), by (try dsimp only); rw [ht]; exact ⟨hT, hF, m57, m64, m65⟩⟩, hS.F ht⟩) hS.2.2 dX4_readAtom_105
        · have t73 : r54.toInt ≠ 0 := ti_ne c71 rfl (by decide)
          refine lv_iconst (v := 1) hx hb dX4_readAtom_100 (by decide) ?_
          refine lv_goto (tgt := 105) hx hb dX4_readAtom_101 (by decide) ?_
          exact W.zret (v := 1) hx hb hr (by decide) (fun t ht hW => ⟨⟨1, (u56, u30, u31), rfl, (by exact ⟨(by have q8 := ti_all u56; omega), (by have q8 := ti_all u30; omega), (rg_t (a := 1) (by decide) (by first | decide | omega) (by first | decide | omega)), (by omega), (by omega), (by have h9 := hf48; rw [(show pS x15.toNatClampNeg = X (pS a0.toNatClampNeg) from by rw [show x15.toNatClampNeg = a0.toNatClampNeg + 1 from by have := tn_of (show a0.toInt = a0.toInt from rfl) (by omega); have := tn_of (show x15.toInt = x15.toInt from rfl) (by omega); omega]; exact hXX _ (by have := tn_of (show a0.toInt = a0.toInt from rfl) (by omega); have := tn_of (show tn.toInt = tn.toInt from rfl) (by omega); omega))] at h9; rw [show r27.toInt = 1 from by omega] at h9; have t9 := hf69; exact Or.inr (Or.inl ⟨by omega, Or.inr ⟨_, h9, (by have q0 : (0 : Int32).toInt = 0 := (by decide); have q1 : (1 : Int32).toInt = 1 := (by decide); rcases t9 with ⟨x1, x2, x3⟩ | ⟨x1, x2, x3⟩; (exact Or.inl ⟨x1.trans (by decide), by omega, x3⟩); exact Or.inr ⟨fun h7 => x1 (h7.trans (by decide)), by omega, x3⟩)⟩⟩)), (zKp.rf.tr hf49 (by have := tn_of (show s0.toInt = s0.toInt from rfl) (by omega); omega)), (fun h8 => by have h9 := hf50 (by omega); rw [(show pS x15.toNatClampNeg = X (pS a0.toNatClampNeg) from by rw [show x15.toNatClampNeg = a0.toNatClampNeg + 1 from by have := tn_of (show a0.toInt = a0.toInt from rfl) (by omega); have := tn_of (show x15.toInt = x15.toInt from rfl) (by omega); omega]; exact hXX _ (by have := tn_of (show a0.toInt = a0.toInt from rfl) (by omega); have := tn_of (show tn.toInt = tn.toInt from rfl) (by omega); omega))] at h9; have t9 := hf69.resolve_right (fun h7 => by have := h7.2.1; omega); exact Or.inr (Or.inl ⟨by omega, _, h9, t9.1.trans (by decide), t9.2.2⟩))⟩), by (try dsimp only); rw [ht]; exact ⟨hT, hF, m57, m64, m65⟩⟩, hS.F ht⟩) hS.2.2 dX4_readAtom_105
    · have t74 : x2.toInt ≠ 16 := ti_ne c12 rfl (by decide)
      refine lv_aload_n hx hb dX4_readAtom_38 rfl (lv_at hl 1 rfl) ?_
      have hFc := gA_free hG hA hS
      refine va_calli (va_runV (As := []) (rest := []) ⟨hx, hb, hml, hown, hts⟩ (c_readComparison l dC dI kA adK adV G s.heap nC nS o0 th a0 s0 sp9 vT vS tv ix_tv ix_tv K X pS hT hr_o0 hm_th hr_th hm_a0 hm_s0 hm_sp9 hr_sp9 (by have q8 := ti_all ix_tv; omega) (by have q8 := ti_all a0; omega) (by have := (show a0.toInt = a0.toInt from rfl); have := (show ix_tv.toInt = ix_tv.toInt from rfl); omega) (fun m hm => hKK m (Nat.le_trans hm (Nat.le_of_eq (tn_same hx_tv rfl rfl)))) (fun m hm => hXX m (Nat.lt_of_lt_of_eq hm (tn_same hx_tv rfl rfl))) (by have q8 := ti_all s0; omega) (by have := (show s0.toInt = s0.toInt from rfl); have := (show a0.toInt = a0.toInt from rfl); omega) hc_vT hc_vS (by have q9 := (show ix_tv.toInt = ix_tv.toInt from rfl); have := (show ix_tv.toInt = ix_tv.toInt from rfl); omega) hm_tv (by have q8 := ti_all tv; omega) (by omega) (by omega)) (cwV 0 hts (goodIn_app (goodIn_r _ [26, 27, 28, 15] rfl (by decide +kernel)) (goodIn_ca (goodIn_r _ [6, 7, 8, 1, 2, 9, 10, 11, 12, 13, 14, 15, 16, 17, 18, 19, 20, 21, 22, 23, 24, 25] rfl (by decide +kernel)) (bs2_in _ _))) rfl rfl rfl (by decide +kernel) ⟨(Nat.le_of_ble_eq_true rfl), (Nat.le_of_ble_eq_true rfl)⟩) ⟨fun a U g mk q => by obtain ⟨q0, q1, qK, qE⟩ := q; exact ⟨q0, q1, va_K.moved (u := U) (U := U.calling g mk a) (Vm.Alike.refl U.vm) qK, EVC.blind g mk a qE⟩, gH_rc hK hT hr_o0 shc_152 rfl, fun U hU hW => ⟨rfl, hU, va_K.moved hW.alike hK, hE.call hS hFc hU hW⟩⟩ rfl rfl hl.1 rfl (lv_room (Nat.le_of_ble_eq_true rfl)) dX4_readAtom_39 ⟨(Nat.le_of_ble_eq_true rfl), (Nat.le_of_ble_eq_true rfl)⟩) hS (fun q _ h => hFc q h) hFc (fun r75 u t H locs ht hvm hw76 hB _ _ hS => ?_)
      obtain ⟨u77, u78, u79⟩ := u
      obtain ⟨hT, hF1, m80, m81, m82⟩ := hB
      rw [ht] at hT hF1 m80 m81 m82
      have hF := hF.more hF1 (by decide)
      try dsimp only at hw76
      obtain ⟨h91, h92, h93, hf94, hf95, hf96, hf97, hf98⟩ := hw76
      exact W.zret (v := r75) hx hb hr (nar_b (by have q8 := ti_all r75; omega)) (fun t ht hW => ⟨⟨r75, (u77, u78, u79), rfl, (by exact ⟨(by have q8 := ti_all u77; omega), (by have q8 := ti_all u78; omega), (by have q8 := ti_all r75; omega), (by omega), (by omega), (Or.inr (Or.inr ⟨by omega, hf96⟩)), (zKp.rf.tr hf97 (by have := tn_of (show s0.toInt = s0.toInt from rfl) (by omega); omega)), (fun h8 => Or.inr (Or.inr ⟨by omega, hf98 h8⟩))⟩), by (try dsimp only); rw [ht]; exact ⟨hT, hF, m80, m81, m82⟩⟩, hS.F ht⟩) hS.2.2 dX4_readAtom_42
  · have t99 : x2.toInt = 13 := ti_eq c6 rfl (by decide)
    refine lv_iconst (v := 1) hx hb dX4_readAtom_14 (by decide) ?_
    refine lv_goto (tgt := 19) hx hb dX4_readAtom_15 (by decide) ?_
    refine lv_istore_n (lv' := [(2, .int 1), (0, .ref o0), (1, .int 3)]) hx hb dX4_readAtom_19 rfl hl (by decide) rfl (fun ls hl => ?_)
    refine lv_iload_n hx hb dX4_readAtom_20 rfl (lv_at hl 0 rfl) ?_
    refine lv_if_ne (tgt := 43) hx hb dX4_readAtom_21 (by decide) (fun c100 => ?_) (fun c100 => absurd c100 (by decide))
    refine lv_iload_n hx hb dX4_readAtom_43 rfl (lv_at hl 2 rfl) ?_
    refine lv_bipush (v := 6) hx hb dX4_readAtom_44 (by decide) ?_
    refine lv_icmp_lt (tgt := 51) hx hb dX4_readAtom_46 (by decide) (fun c101 => ?_) (fun c101 => absurd c101 (by decide))
    refine lv_aload_n hx hb dX4_readAtom_51 rfl (lv_at hl 1 rfl) ?_
    refine lv_dup hx hb dX4_readAtom_52 rfl ?_
    refine tw_getM (v := .int a0) hx hb hts bF2_X4 hown hK hT hr_o0 shc_152 rfl 13 (by decide) (ht_at2 hts 1 rfl) (fun _ h9 => h9) hm_a0 dX4_readAtom_53 ?_
    refine lv_iconst (v := 1) hx hb dX4_readAtom_56 (by decide) ?_
    refine lv_iadd hx hb dX4_readAtom_57 ?_
    refine lv_topi (fun x102 ex102 => ?_)
    have t103 : x102.toInt = a0.toInt + 1 := ti_add ex102 rfl (by decide) (by omega) (by omega)
    refine tw_put (v := .int x102) (ty := .int) hx hb hts bF2_X4 tyX4 tyX4_ok nmX4 hown hK hT hG hS hr_o0 shc_152 rfl 13 (by decide) (ht_at2 hts 1 rfl) (fun _ h9 => h9) rfl (by decide +kernel) rfl rfl (gl_at rfl (gi_of (show x102.toInt = x102.toInt from rfl) (by omega) (by omega))) dX4_readAtom_58 (fun H locs hT oq m104 oj hS => ?_)
    have hF := hF.put hr_o0 skc_152 oq oj (by decide)
    have m105 := (oj 0 (by decide) (by decide)).trans hm_th
    have m106 := (oj 12 (by decide) (by decide)).trans hm_s0
    have m107 := (oj 9 (by decide) (by decide)).trans hm_sp9
    have m108 := hc_vT.kept (oq _ (gne hr_th hr_o0 (by decide)))
    have m109 := hc_vS.kept (oq _ (gne hr_sp9 hr_o0 (by decide)))
    have m110 := (el_kept (oq _ (gne hr_th hr_o0 (by decide)))).trans hm_tv
    refine lv_iload_n hx hb dX4_readAtom_61 rfl (lv_at hl 0 rfl) ?_
    refine lv_if_eq (tgt := 81) hx hb dX4_readAtom_62 (by decide) (fun c112 => absurd c112 (by decide)) (fun c112 => ?_)
    refine lv_aload_n hx hb dX4_readAtom_65 rfl (lv_at hl 1 rfl) ?_
    refine lv_iload_n hx hb dX4_readAtom_66 rfl (lv_at hl 2 rfl) ?_
    refine lv_iconst (v := 1) hx hb dX4_readAtom_67 (by decide) ?_
    refine lv_iadd hx hb dX4_readAtom_68 ?_
    refine lv_topi (fun x113 ex113 => ?_)
    obtain rfl : x113 = 4 := ex113.trans (by decide)
    have hFc := gA_free hG hA hS
    refine va_calli (va_runV (As := [.int 4]) (rest := []) ⟨hx, hb, hml, hown, hts⟩ (c_readAtom4 l dC dI kA adK adV G H nC nS o0 th x102 s0 sp9 vT vS tv ix_tv ix_tv K X pS hT hr_o0 m105 hr_th m104 m106 m107 hr_sp9 (by have q8 := ti_all ix_tv; omega) (by have q8 := ti_all x102; omega) (by have := (show x102.toInt = x102.toInt from rfl); have := (show ix_tv.toInt = ix_tv.toInt from rfl); omega) (fun m hm => hKK m (Nat.le_trans hm (Nat.le_of_eq (tn_same hx_tv rfl rfl)))) (fun m hm => hXX m (Nat.lt_of_lt_of_eq hm (tn_same hx_tv rfl rfl))) (by have q8 := ti_all s0; omega) (by have := (show s0.toInt = s0.toInt from rfl); have := (show x102.toInt = x102.toInt from rfl); omega) m108 m109 (by have q9 := (show ix_tv.toInt = ix_tv.toInt from rfl); have := (show ix_tv.toInt = ix_tv.toInt from rfl); omega) m110 (by have q8 := ti_all tv; omega) (by omega) (by omega)) (cwV 1 hts (goodIn_app (goodIn_r _ [29, 30, 31, 15] rfl (by decide +kernel)) (goodIn_ca (goodIn_r _ [5, 1, 2, 3, 4, 5, 6, 7, 8, 9, 10, 11, 12, 13, 14, 15, 16, 17, 18, 19, 20, 21, 22, 23, 24, 25, 26, 27, 28, 29, 30, 31, 32, 33, 34, 35, 36, 37] rfl (by decide +kernel)) (bs2_in _ _))) rfl rfl rfl (by decide +kernel) ⟨(Nat.le_of_ble_eq_true rfl), (Nat.le_of_ble_eq_true rfl)⟩) ⟨fun a U g mk q => by obtain ⟨q0, q1, qK, qE⟩ := q; exact ⟨q0, q1, va_K.moved (u := U) (U := U.calling g mk a) (Vm.Alike.refl U.vm) qK, EVC.blind g mk a qE⟩, gH_rc hK hT hr_o0 shc_152 rfl, fun U hU hW => ⟨rfl, hU, va_K.moved hW.alike hK, hE.call hS hFc hU hW⟩⟩ rfl rfl hl.1 rfl (lv_room (Nat.le_of_ble_eq_true rfl)) dX4_readAtom_69 ⟨(Nat.le_of_ble_eq_true rfl), (Nat.le_of_ble_eq_true rfl)⟩) hS (fun q _ h => hFc q h) hFc (fun r114 u t H locs ht hvm hw115 hB _ _ hS => ?_)
    obtain ⟨u116, u117, u118⟩ := u
    obtain ⟨hT, hF1, m119, m120, m121⟩ := hB
    rw [ht] at hT hF1 m119 m120 m121
    have m124 := (hF1.fld hr_o0 skc_152 (k := 9) (by decide) (by decide)).trans m107
    have hF := hF.more hF1 (by decide)
    try dsimp only at hw115
    obtain ⟨h130, h131, h132, hf133, hf134, hf135, hf136, hf137⟩ := hw115
    refine lv_istore_n (lv' := [(3, .int r114), (2, .int 1), (0, .ref o0), (1, .int 3)]) hx hb dX4_readAtom_72 rfl hl (by decide) rfl (fun ls hl => ?_)
    refine lv_aload_n hx hb dX4_readAtom_73 rfl (lv_at hl 2 rfl) ?_
    refine lv_bipush (v := 13) hx hb dX4_readAtom_74 (by decide) ?_
    have hFc := gA_free hG hA hS
    refine va_callv (va_runV (As := [.int 13]) (rest := []) ⟨hx, hb, hml, hown, hts⟩ (c_addStep l dC dI kA adK adV G H nC nS o0 13 u117 sp9 u118 hT hr_o0 m120 m124 hr_sp9 (rg_t (a := 13) (by decide) (by first | decide | omega) (by first | decide | omega)) (by have q8 := ti_all u117; omega) m121 (by omega) (by omega)) (cwV 1 hts (goodIn_app (goodIn_r _ [12, 13, 14, 15] rfl (by decide +kernel)) (goodIn_ca (goodIn_r _ [9, 10, 11] rfl (by decide +kernel)) (bs2_in _ _))) rfl rfl rfl (by decide +kernel) ⟨(Nat.le_of_ble_eq_true rfl), (Nat.le_of_ble_eq_true rfl)⟩) ⟨fun a U g mk q => by obtain ⟨q0, q1, qK, qE⟩ := q; exact ⟨q0, q1, va_K.moved (u := U) (U := U.calling g mk a) (Vm.Alike.refl U.vm) qK, EVC.blind g mk a qE⟩, gH_rc hK hT hr_o0 shc_152 rfl, fun U hU hW => ⟨rfl, hU, va_K.moved hW.alike hK, hE.call hS hFc hU hW⟩⟩ rfl rfl hl.1 rfl (lv_room (Nat.le_of_ble_eq_true rfl)) dX4_readAtom_76 ⟨(Nat.le_of_ble_eq_true rfl), (Nat.le_of_ble_eq_true rfl)⟩) hS (fun q _ h => hFc q h) hFc (fun u t H locs ht hvm hw139 hB _ _ hS => ?_)
    obtain ⟨u140, rfl⟩ : ∃ z, z = u := ⟨_, rfl⟩
    obtain ⟨hT, hF1, m141, m142⟩ := hB
    rw [ht] at hT hF1 m141 m142
    have m148 := (hF1.fld hr_o0 skc_152 (k := 13) (by decide) (by decide)).trans m119
    have hF := hF.more hF1 (by decide)
    try dsimp only at hw139
    obtain ⟨h151, hf152⟩ := hw139
    refine lv_iload_n hx hb dX4_readAtom_79 rfl (lv_at hl 0 rfl) ?_
    exact W.zret (v := r114) hx hb hr (nar_b (by have q8 := ti_all r114; omega)) (fun t ht hW => ⟨⟨r114, (u116, u140, (cu u118 u117.toNatClampNeg 13)), rfl, (by exact ⟨(by have q8 := ti_all u116; omega), (by have q8 := ti_all u140; omega), (by have q8 := ti_all r114; omega), (by omega), (by omega), (by have h9 := hf135; rw [(show pS x102.toNatClampNeg = X (pS a0.toNatClampNeg) from by rw [show x102.toNatClampNeg = a0.toNatClampNeg + 1 from by have := tn_of (show a0.toInt = a0.toInt from rfl) (by omega); have := tn_of (show x102.toInt = x102.toInt from rfl) (by omega); omega]; exact hXX _ (by have := tn_of (show a0.toInt = a0.toInt from rfl) (by omega); have := tn_of (show tn.toInt = tn.toInt from rfl) (by omega); omega))] at h9; exact Or.inl ⟨by omega, h9⟩), ((zKp.rf.tr hf136 (by have := tn_of (show s0.toInt = s0.toInt from rfl) (by omega); omega)).st (by have := tn_of (show s0.toInt = s0.toInt from rfl) (by omega); have := tn_of (show u117.toInt = u117.toInt from rfl) (by omega); omega)), (fun h8 => by have := tn_of (show s0.toInt = s0.toInt from rfl) (by omega); have := tn_of (show u117.toInt = u117.toInt from rfl) (by omega); have := tn_of (show u140.toInt = u140.toInt from rfl) (by omega); have h9 := hf137 h8; rw [(show pS x102.toNatClampNeg = X (pS a0.toNatClampNeg) from by rw [show x102.toNatClampNeg = a0.toNatClampNeg + 1 from by have := tn_of (show a0.toInt = a0.toInt from rfl) (by omega); have := tn_of (show x102.toInt = x102.toInt from rfl) (by omega); omega]; exact hXX _ (by have := tn_of (show a0.toInt = a0.toInt from rfl) (by omega); have := tn_of (show tn.toInt = tn.toInt from rfl) (by omega); omega))] at h9; exact Or.inl ⟨by omega, _, h9, zC_2 (s2 := u117.toNatClampNeg) (by omega) (by omega) rfl (by decide)⟩)⟩), by (try dsimp only); rw [ht]; exact ⟨hT, hF, m148, m141, m142⟩⟩, hS.F ht⟩) hS.2.2 dX4_readAtom_80
def w_c_readAll3 : List Cond := .code yX4_readAll cX4_readAll 4 (some .boolean) :: (HAppend.hAppend (α := List Cond) (β := List Cond) (γ := List Cond) [.code yX4_readAtom cX4_readAtom 4 (some .boolean), .fieldLink RX4 11 "SeaLand$Law" "things" "[I", .fieldLink RX4 56 "SeaLand$Law" "at" "I", .code yX4_readAny cX4_readAny 4 (some .boolean), .code yX4_readAll cX4_readAll 4 (some .boolean), .code yX4_readComparison cX4_readComparison 3 (some .boolean), .code yX4_readSum cX4_readSum 3 (some .boolean), .code yX4_readPart cX4_readPart 2 (some .boolean), .code yX4_addStep cX4_addStep 2 none, .fieldLink RX4 63 "SeaLand$Law" "stepped" "I", .fieldLink RX4 39 "SeaLand$Law" "steps" "[I", .methodLink RX4 179 yX4_addStep, .instanceMethod yX4_addStep, .selects RX4 yX4_addStep yX4_addStep, .initialized RX4, .methodLink RX4 192 yX4_readPart, .instanceMethod yX4_readPart, .selects RX4 yX4_readPart yX4_readPart, .code yX4_take cX4_take 2 (some .boolean), .methodLink RX4 70 yX4_take, .instanceMethod yX4_take, .selects RX4 yX4_take yX4_take, .methodLink RX4 189 yX4_readSum, .instanceMethod yX4_readSum, .selects RX4 yX4_readSum yX4_readSum, .methodLink RX4 186 yX4_readComparison, .instanceMethod yX4_readComparison, .selects RX4 yX4_readComparison yX4_readComparison, .methodLink RX4 183 yX4_readAtom, .instanceMethod yX4_readAtom, .selects RX4 yX4_readAtom yX4_readAtom, .methodLink RX4 176 yX4_readAll, .instanceMethod yX4_readAll, .selects RX4 yX4_readAll yX4_readAll, .methodLink RX4 173 yX4_readAny, .instanceMethod yX4_readAny, .selects RX4 yX4_readAny yX4_readAny] bs2)
set_option maxHeartbeats 4000000 in
set_option maxRecDepth 100000 in
theorem c_readAll3 (l : Launch) (dC : Nat → ClassId) (dI : Nat → Nat → Nat) (kA : Nat → ClassId) (adK adV : Nat → Nat) (G : gT) (H0 : Heap) (nC nS : Int) (o0 : Nat) (th : Nat) (a0 : Int32) (s0 : Int32) (sp9 : Nat) (vT : Nat → Int32) (vS : Nat → Int32) (tv ix_tv : Int32) (tn : Int32) (K : Nat → Int) (X pS : Nat → Nat) (hT : gH (dC, dI) kA (SHc nC nS) G H0) (hr_o0 : G o0 = some 152) (hm_th : el H0 o0 (dI 7 0) = some (.ref th)) (hr_th : G th = some 153) (hm_a0 : el H0 o0 (dI 7 13) = some (.int a0)) (hm_s0 : el H0 o0 (dI 7 12) = some (.int s0)) (hm_sp9 : el H0 o0 (dI 7 9) = some (.ref sp9)) (hr_sp9 : G sp9 = some 162) (hq0 : 0 ≤ tn.toInt ∧ tn.toInt ≤ 400) (hq1 : 0 ≤ a0.toInt ∧ a0.toInt ≤ 400) (hat : a0.toInt ≤ tn.toInt) (hKK : ∀ m : Nat, m ≤ tn.toNatClampNeg → (vT m).toInt = K (pS m)) (hXX : ∀ m : Nat, m < tn.toNatClampNeg → pS (m + 1) = X (pS m)) (hq5 : 0 ≤ s0.toInt ∧ s0.toInt ≤ 400) (hsa : s0.toInt ≤ a0.toInt) (hc_vT : ct H0 th 401 vT) (hc_vS : ct H0 sp9 400 vS) (hx_tv : ix_tv.toInt = tn.toInt) (hm_tv : el H0 th ix_tv.toNatClampNeg = some (.int tv)) (hv_tv : 21 ≤ tv.toInt ∧ tv.toInt ≤ 21) (hgC : 0 ≤ nC ∧ nC ≤ 40) (hgS : 0 ≤ nS ∧ nS ≤ 60) : Met l yX4_readAll w_c_readAll3 ({ frames := 14, cells := 0, slots := 0, locals := 316 }) (va_Pc [.ref o0, .int 3] (fun U => U.heap = H0 ∧ va_K (dC, dI) vwCl (tyl kA) U ∧ EVC adK adV (gA G H0.size) U U.heap)) (va_Qi (fun (r : Int32) (u : Int32 × Int32 × (Nat → Int32)) => match u with | (a1, s1, vS1) => (0 ≤ a1.toInt ∧ a1.toInt ≤ 400) ∧ (0 ≤ s1.toInt ∧ s1.toInt ≤ 400) ∧ (0 ≤ r.toInt ∧ r.toInt ≤ 1) ∧ (a0.toInt ≤ a1.toInt ∧ a1.toInt ≤ tn.toInt) ∧ (s0.toInt ≤ s1.toInt ∧ s1.toInt - s0.toInt ≤ a1.toInt - a0.toInt) ∧ (lpR K X (aR K X 3) 14 (pS a0.toNatClampNeg) r.toInt (pS a1.toNatClampNeg)) ∧ (zKp vS vS1 s0.toNatClampNeg) ∧ (r.toInt = 1 → zlZ K X (zaZ K X 3) 14 (pS a0.toNatClampNeg) (zC (tz vS1) s0.toNatClampNeg s1.toNatClampNeg) (pS a1.toNatClampNeg))) (fun (u : Int32 × Int32 × (Nat → Int32)) (t : State) => match u with | (a1, s1, vS1) => gH (dC, dI) kA (SHc nC nS) G t.heap ∧ gF (dC, dI) SKc G ([(152, 12), (152, 13), (162, 0)] : List (Nat × Nat)) H0 t.heap ∧ el t.heap o0 (dI 7 13) = some (.int a1) ∧ el t.heap o0 (dI 7 12) = some (.int s1) ∧ ct t.heap sp9 400 vS1) (gA G H0.size)) 0 0 (gA G H0.size) := by
  refine Met.ofW (cc := cX4_readAll) (maxL := 4) (ret := (some .boolean)) (by decide) rfl ?_
  intro p e s m args below meth c s₁ B hml hv
  obtain ⟨rfl, hH0, hK, hE⟩ := hv
  have hx := B.exec
  have hb := B.bytes
  have hr := B.returns
  have hts := atoms_spec (ws := w_c_readAll3) B.pre
  have hown : s.vm.findClass RX4 = some m.cls := findClass_of_methodNamed B.named
  have hlocks := B.notSynchronized
  subst hH0
  generalize hAe : gA G s.heap.size = A at hE ⊢
  have hA : ∀ q : Nat, s.heap.size ≤ q → A q := fun q h => by rw [← hAe]; exact Or.inr h
  have hG := gA_of hAe
  have hS : va_S A s.heap s.heap [] := va_S.rf
  have hF : gF (dC, dI) SKc G ([(152, 12), (152, 13), (162, 0)] : List (Nat × Nat)) s.heap s.heap := gF.rf
  have hl := lv_entry ([.ref o0, .int 3]) (n := 4) (Nat.le_of_ble_eq_true rfl)
  rw [lg_entry_eq]
  generalize (lg_sl ([.ref o0, .int 3]) ++ List.replicate (4 - (lg_sl ([.ref o0, .int 3])).length) Slot.unset).toArray = ls at hl ⊢
  have hl : lv_has ls 4 [(0, .ref o0), (1, .int 3)] := hl
  refine lv_aload_n hx hb dX4_readAll_0 rfl (lv_at hl 0 rfl) ?_
  refine lv_iload_n hx hb dX4_readAll_1 rfl (lv_at hl 1 rfl) ?_
  have hFc := gA_free hG hA hS
  refine va_calli (va_runV (As := [.int 3]) (rest := []) ⟨hx, hb, hml, hown, hts⟩ (c_readAtom3 l dC dI kA adK adV G s.heap nC nS o0 th a0 s0 sp9 vT vS tv ix_tv ix_tv K X pS hT hr_o0 hm_th hr_th hm_a0 hm_s0 hm_sp9 hr_sp9 (by have q8 := ti_all ix_tv; omega) (by have q8 := ti_all a0; omega) (by have := (show a0.toInt = a0.toInt from rfl); have := (show ix_tv.toInt = ix_tv.toInt from rfl); omega) (fun m hm => hKK m (Nat.le_trans hm (Nat.le_of_eq (tn_same hx_tv rfl rfl)))) (fun m hm => hXX m (Nat.lt_of_lt_of_eq hm (tn_same hx_tv rfl rfl))) (by have q8 := ti_all s0; omega) (by have := (show s0.toInt = s0.toInt from rfl); have := (show a0.toInt = a0.toInt from rfl); omega) hc_vT hc_vS (by have q9 := (show ix_tv.toInt = ix_tv.toInt from rfl); have := (show ix_tv.toInt = ix_tv.toInt from rfl); omega) hm_tv (by have q8 := ti_all tv; omega) (by omega) (by omega)) (cwV 1 hts (goodIn_app (goodIn_r _ [29, 30, 31, 15] rfl (by decide +kernel)) (goodIn_ca (goodIn_r _ [1, 2, 3, 4, 5, 1, 6, 7, 8, 9, 10, 11, 12, 13, 14, 15, 16, 17, 18, 19, 20, 21, 22, 23, 24, 25, 26, 27, 28, 29, 30, 31, 32, 33, 34, 35, 36, 37] rfl (by decide +kernel)) (bs2_in _ _))) rfl rfl rfl (by decide +kernel) ⟨(Nat.le_of_ble_eq_true rfl), (Nat.le_of_ble_eq_true rfl)⟩) ⟨fun a U g mk q => by obtain ⟨q0, q1, qK, qE⟩ := q; exact ⟨q0, q1, va_K.moved (u := U) (U := U.calling g mk a) (Vm.Alike.refl U.vm) qK, EVC.blind g mk a qE⟩, gH_rc hK hT hr_o0 shc_152 rfl, fun U hU hW => ⟨rfl, hU, va_K.moved hW.alike hK, hE.call hS hFc hU hW⟩⟩ rfl rfl hl.1 rfl (lv_room (Nat.le_of_ble_eq_true rfl)) dX4_readAll_2 ⟨(Nat.le_of_ble_eq_true rfl), (Nat.le_of_ble_eq_true rfl)⟩) hS (fun q _ h => hFc q h) hFc (fun r1 u t H locs ht hvm hw2 hB _ _ hS => ?_)
  obtain ⟨u3, u4, u5⟩ := u
  obtain ⟨hT, hF1, m6, m7, m8⟩ := hB
  rw [ht] at hT hF1 m6 m7 m8
  have m9 := (hF1.fld hr_o0 skc_152 (k := 0) (by decide) (by decide)).trans hm_th
  have m12 := (hF1.fld hr_o0 skc_152 (k := 9) (by decide) (by decide)).trans hm_sp9
  have m13 := hc_vT.kept (hF1.arr hr_th skc_153 (by decide))
  have m15 := (el_kept (hF1.arr hr_th skc_153 (by decide))).trans hm_tv
  have hF := hF.more hF1 (by decide)
  try dsimp only at hw2
  obtain ⟨h16, h17, h18, hf19, hf20, hf21, hf22, hf23⟩ := hw2
  refine lv_istore_n (lv' := [(2, .int r1), (0, .ref o0), (1, .int 3)]) hx hb dX4_readAll_5 rfl hl (by decide) rfl (fun ls hl => ?_)
  refine lv_iconst (v := 0) hx hb dX4_readAll_6 (by decide) ?_
  refine lv_istore_n (lv' := [(3, .int 0), (2, .int r1), (0, .ref o0), (1, .int 3)]) hx hb dX4_readAll_7 rfl hl (by decide) rfl (fun ls hl => ?_)
  have key105 : ∀ (n105 i24 : Nat), i24 + n105 = 400 → 0 ≤ i24 → ∀ (z25 : Int32), ∀ (V28 : Nat → Int32), ∀ (z33 : Int32), ∀ (z36 : Int32), ((0 ≤ z25.toInt ∧ z25.toInt ≤ 1) ∧ (0 ≤ z33.toInt ∧ z33.toInt ≤ 400) ∧ (0 ≤ z36.toInt ∧ z36.toInt ≤ 400) ∧ (a0.toInt ≤ z33.toInt ∧ z33.toInt ≤ tn.toInt) ∧ (((z25.toInt = 1 ∧ ∀ (r : Int) (f : Nat), lpQ K X (aR K X 3) 14 (pS z33.toNatClampNeg) r f → lpR K X (aR K X 3) 14 (pS a0.toNatClampNeg) r f) ∨ (z25.toInt = 0 ∧ lpR K X (aR K X 3) 14 (pS a0.toNatClampNeg) 0 (pS z33.toNatClampNeg))) ∧ ((i24 : Nat) : Int) ≤ z33.toInt) ∧ (z25.toInt = 1 → zlI K X (zaZ K X 3) 14 (pS a0.toNatClampNeg) (zC (tz V28) s0.toNatClampNeg z36.toNatClampNeg) (pS z33.toNatClampNeg)) ∧ (zKp vS V28 s0.toNatClampNeg) ∧ (s0.toInt ≤ z36.toInt ∧ z36.toInt - s0.toInt ≤ z33.toInt - a0.toInt)) → ∀ (H : Heap) (locs : List Loc), gH (dC, dI) kA (SHc nC nS) G H → gF (dC, dI) SKc G ([(152, 12), (152, 13), (162, 0)] : List (Nat × Nat)) s.heap H → va_S A s.heap H locs → ct H th 401 vT → ct H sp9 400 V28 → el H o0 (dI 7 0) = some (.ref th) → el H o0 (dI 7 9) = some (.ref sp9) → el H th ix_tv.toNatClampNeg = some (.int tv) → el H o0 (dI 7 13) = some (.int z33) → el H o0 (dI 7 12) = some (.int z36) → ∀ ls : Array Slot, lv_has ls 4 [(3, .int (nI i24)), (2, .int z25), (0, .ref o0), (1, .int 3)] → W p l e (headSpec w_c_readAll3 ({ frames := 14, cells := 0, slots := 0, locals := 316 })).room s m #[.ref o0, .int 3] below meth c H locs 0 0 (MQ below (va_Qi (fun (r : Int32) (u : Int32 × Int32 × (Nat → Int32)) => match u with | (a1, s1, vS1) => (0 ≤ a1.toInt ∧ a1.toInt ≤ 400) ∧ (0 ≤ s1.toInt ∧ s1.toInt ≤ 400) ∧ (0 ≤ r.toInt ∧ r.toInt ≤ 1) ∧ (a0.toInt ≤ a1.toInt ∧ a1.toInt ≤ tn.toInt) ∧ (s0.toInt ≤ s1.toInt ∧ s1.toInt - s0.toInt ≤ a1.toInt - a0.toInt) ∧ (lpR K X (aR K X 3) 14 (pS a0.toNatClampNeg) r.toInt (pS a1.toNatClampNeg)) ∧ (zKp vS vS1 s0.toNatClampNeg) ∧ (r.toInt = 1 → zlZ K X (zaZ K X 3) 14 (pS a0.toNatClampNeg) (zC (tz vS1) s0.toNatClampNeg s1.toNatClampNeg) (pS a1.toNatClampNeg))) (fun (u : Int32 × Int32 × (Nat → Int32)) (t : State) => match u with | (a1, s1, vS1) => gH (dC, dI) kA (SHc nC nS) G t.heap ∧ gF (dC, dI) SKc G ([(152, 12), (152, 13), (162, 0)] : List (Nat × Nat)) s.heap t.heap ∧ el t.heap o0 (dI 7 13) = some (.int a1) ∧ el t.heap o0 (dI 7 12) = some (.int s1) ∧ ct t.heap sp9 400 vS1) A) #[.ref o0, .int 3] s 0 0 A) (F0 m 8 ls []) := by
    intro n105
    induction n105 with
    | zero =>
      intro i24 hn105 hlo106 z25 V28 z33 z36 ⟨h26, h34, h37, hj39, hj40, hj41, hj42, hj43⟩ H locs hT hF hS m27 m29 m30 m31 m32 m35 m38 ls hl
      obtain rfl : 400 = i24 := by omega
      refine lv_iload_n hx hb dX4_readAll_8 rfl (lv_at hl 0 rfl) ?_
      refine lv_sipush (v := 400) hx hb dX4_readAll_9 (by decide) ?_
      refine lv_icmp_ge (tgt := 46) hx hb dX4_readAll_12 (by decide) (fun c107 => ?_) (fun c107 => (by exfalso; have q9 : ((400 : Nat) : Int) < 400 := ti_nle c107 (by decide) (nI_toInt (by omega)); omega))
      have t108 : 400 ≤ ((400 : Nat) : Int) := ti_le c107 (by decide) (nI_toInt (by omega))
      refine lv_iload_n hx hb dX4_readAll_46 rfl (lv_at hl 1 rfl) ?_
      exact W.zret (v := z25) hx hb hr (nar_b (by have q8 := ti_all z25; omega)) (fun t ht hW => ⟨⟨z25, (z33, z36, V28), rfl, (by exact ⟨(by have q8 := ti_all z33; omega), (by have q8 := ti_all z36; omega), (by have q8 := ti_all z25; omega), (by omega), (by omega), (by rcases hj40.1 with ⟨h8, l9⟩ | ⟨h8, l9⟩; (rw [h8]; exact lp_e l9 (fun h7 => by have := tn_of (show z33.toInt = z33.toInt from rfl) (by omega); have := tn_of (show tn.toInt = tn.toInt from rfl) (by omega); have k9 := hKK tn.toNatClampNeg (Nat.le_refl _); have e9 := hc_vT.at hm_tv (by have q9 := tn_of hx_tv (by omega); omega); have k8 : (vT tn.toNatClampNeg).toInt = 21 := (by have q8 := congrArg Int32.toInt e9; rw [show ix_tv.toNatClampNeg = tn.toNatClampNeg from tn_same hx_tv rfl rfl] at q8; omega); rw [show z33.toNatClampNeg = tn.toNatClampNeg from by omega] at h7; omega)); rw [h8]; exact l9), hj42, (fun h8 => ⟨hj41 h8, fun h7 => by have := tn_of (show z33.toInt = z33.toInt from rfl) (by omega); have := tn_of (show tn.toInt = tn.toInt from rfl) (by omega); have k9 := hKK tn.toNatClampNeg (Nat.le_refl _); have e9 := hc_vT.at hm_tv (by have q9 := tn_of hx_tv (by omega); omega); have k8 : (vT tn.toNatClampNeg).toInt = 21 := (by have q8 := congrArg Int32.toInt e9; rw [show ix_tv.toNatClampNeg = tn.toNatClampNeg from tn_same hx_tv rfl rfl] at q8; omega); rw [show z33.toNatClampNeg = tn.toNatClampNeg from by omega] at h7; omega⟩)⟩), by (try dsimp only); rw [ht]; exact ⟨hT, hF, m35, m38, m29⟩⟩, hS.F ht⟩) hS.2.2 dX4_readAll_47
    | succ n105 ih105 =>
      intro i24 hn105 hlo106 z25 V28 z33 z36 ⟨h26, h34, h37, hj39, hj40, hj41, hj42, hj43⟩ H locs hT hF hS m27 m29 m30 m31 m32 m35 m38 ls hl
      have hlt108 : i24 < 400 := by omega
      refine lv_iload_n hx hb dX4_readAll_8 rfl (lv_at hl 0 rfl) ?_
      refine lv_sipush (v := 400) hx hb dX4_readAll_9 (by decide) ?_
      refine lv_icmp_ge (tgt := 46) hx hb dX4_readAll_12 (by decide) (fun c109 => (by exfalso; have q9 : 400 ≤ ((i24 : Nat) : Int) := ti_le c109 (by decide) (nI_toInt (by omega)); omega)) (fun c109 => ?_)
      have t110 : ((i24 : Nat) : Int) < 400 := ti_nle c109 (by decide) (nI_toInt (by omega))
      refine lv_iload_n hx hb dX4_readAll_15 rfl (lv_at hl 1 rfl) ?_
      refine lv_if_eq (tgt := 46) hx hb dX4_readAll_16 (by decide) (fun c111 => ?_) (fun c111 => ?_)
      · have t112 : z25.toInt = 0 := ti_eq c111 rfl (by decide)
        refine lv_iload_n hx hb dX4_readAll_46 rfl (lv_at hl 1 rfl) ?_
        exact W.zret (v := z25) hx hb hr (nar_b (by have q8 := ti_all z25; omega)) (fun t ht hW => ⟨⟨z25, (z33, z36, V28), rfl, (by exact ⟨(by have q8 := ti_all z33; omega), (by have q8 := ti_all z36; omega), (by have q8 := ti_all z25; omega), (by omega), (by omega), (by rcases hj40.1 with ⟨h8, l9⟩ | ⟨h8, l9⟩; (rw [h8]; exact lp_e l9 (fun h7 => by have := tn_of (show z33.toInt = z33.toInt from rfl) (by omega); have := tn_of (show tn.toInt = tn.toInt from rfl) (by omega); have k9 := hKK tn.toNatClampNeg (Nat.le_refl _); have e9 := hc_vT.at hm_tv (by have q9 := tn_of hx_tv (by omega); omega); have k8 : (vT tn.toNatClampNeg).toInt = 21 := (by have q8 := congrArg Int32.toInt e9; rw [show ix_tv.toNatClampNeg = tn.toNatClampNeg from tn_same hx_tv rfl rfl] at q8; omega); rw [show z33.toNatClampNeg = tn.toNatClampNeg from by omega] at h7; omega)); rw [h8]; exact l9), hj42, (fun h8 => ⟨hj41 h8, fun h7 => by have := tn_of (show z33.toInt = z33.toInt from rfl) (by omega); have := tn_of (show tn.toInt = tn.toInt from rfl) (by omega); have k9 := hKK tn.toNatClampNeg (Nat.le_refl _); have e9 := hc_vT.at hm_tv (by have q9 := tn_of hx_tv (by omega); omega); have k8 : (vT tn.toNatClampNeg).toInt = 21 := (by have q8 := congrArg Int32.toInt e9; rw [show ix_tv.toNatClampNeg = tn.toNatClampNeg from tn_same hx_tv rfl rfl] at q8; omega); rw [show z33.toNatClampNeg = tn.toNatClampNeg from by omega] at h7; omega⟩)⟩), by (try dsimp only); rw [ht]; exact ⟨hT, hF, m35, m38, m29⟩⟩, hS.F ht⟩) hS.2.2 dX4_readAll_47
      · have t113 : z25.toInt ≠ 0 := ti_ne c111 rfl (by decide)
        refine lv_aload_n hx hb dX4_readAll_19 rfl (lv_at hl 2 rfl) ?_
        refine lv_bipush (v := 14) hx hb dX4_readAll_20 (by decide) ?_
        have hFc := gA_free hG hA hS
        refine va_calli (va_runV (As := [.int 14]) (rest := []) ⟨hx, hb, hml, hown, hts⟩ (c_take l dC dI kA adK adV G H nC nS o0 14 th z33 vT tv ix_tv ix_tv K X pS hT hr_o0 m30 hr_th m35 (by have q8 := ti_all ix_tv; omega) (by have q8 := ti_all z33; omega) (by have := (show z33.toInt = z33.toInt from rfl); have := (show ix_tv.toInt = ix_tv.toInt from rfl); omega) (by have := (show (14 : Int32).toInt = 14 from (by decide)); omega) (fun m hm => hKK m (Nat.le_trans hm (Nat.le_of_eq (tn_same hx_tv rfl rfl)))) (fun m hm => hXX m (Nat.lt_of_lt_of_eq hm (tn_same hx_tv rfl rfl))) m27 (by have q9 := (show ix_tv.toInt = ix_tv.toInt from rfl); have := (show ix_tv.toInt = ix_tv.toInt from rfl); omega) m32 (by have q8 := ti_all tv; omega) (by omega) (by omega)) (cwV 1 hts (goodIn_app (goodIn_r _ [20, 21, 22, 15] rfl (by decide +kernel)) (goodIn_ca (goodIn_r _ [19, 2, 3] rfl (by decide +kernel)) (bs2_in _ _))) rfl rfl rfl (by decide +kernel) ⟨(Nat.le_of_ble_eq_true rfl), (Nat.le_of_ble_eq_true rfl)⟩) ⟨fun a U g mk q => by obtain ⟨q0, q1, qK, qE⟩ := q; exact ⟨q0, q1, va_K.moved (u := U) (U := U.calling g mk a) (Vm.Alike.refl U.vm) qK, EVC.blind g mk a qE⟩, gH_rc hK hT hr_o0 shc_152 rfl, fun U hU hW => ⟨rfl, hU, va_K.moved hW.alike hK, hE.call hS hFc hU hW⟩⟩ rfl rfl hl.1 rfl (lv_room (Nat.le_of_ble_eq_true rfl)) dX4_readAll_22 ⟨(Nat.le_of_ble_eq_true rfl), (Nat.le_of_ble_eq_true rfl)⟩) hS (fun q _ h => hFc q h) hFc (fun r114 u t H locs ht hvm hw115 hB _ _ hS => ?_)
        obtain ⟨u116, rfl⟩ : ∃ z, z = u := ⟨_, rfl⟩
        obtain ⟨hT, hF1, m117⟩ := hB
        rw [ht] at hT hF1 m117
        have m118 := m27.kept (hF1.arr hr_th skc_153 (by decide))
        have m119 := m29.kept (hF1.arr hr_sp9 skc_162 (by decide))
        have m120 := (hF1.fld hr_o0 skc_152 (k := 0) (by decide) (by decide)).trans m30
        have m121 := (hF1.fld hr_o0 skc_152 (k := 9) (by decide) (by decide)).trans m31
        have m122 := (el_kept (hF1.arr hr_th skc_153 (by decide))).trans m32
        have m124 := (hF1.fld hr_o0 skc_152 (k := 12) (by decide) (by decide)).trans m38
        have hF := hF.more hF1 (by decide)
        try dsimp only at hw115
        obtain ⟨h125, h126, hf127, hf128, hf129⟩ := hw115
        refine lv_if_eq (tgt := 46) hx hb dX4_readAll_25 (by decide) (fun c130 => ?_) (fun c130 => ?_)
        · have t131 : r114.toInt = 0 := ti_eq c130 rfl (by decide)
          refine lv_iload_n hx hb dX4_readAll_46 rfl (lv_at hl 1 rfl) ?_
          exact W.zret (v := z25) hx hb hr (nar_b (by have q8 := ti_all z25; omega)) (fun t ht hW => ⟨⟨z25, (u116, z36, V28), rfl, (by exact ⟨(by have q8 := ti_all u116; omega), (by have q8 := ti_all z36; omega), (by have q8 := ti_all z25; omega), (by omega), (by omega), (by have l9 := (hj40.1.resolve_right (fun h8 => by have := h8.1; omega)).2; have a9 := hf128.resolve_left (fun h8 => by have := h8.2.1; omega); rw [show z25.toInt = 1 from by omega, a9.2.2]; exact lp_e l9 (fun h7 => a9.1 (h7.trans (by decide)))), hj42, (fun h8 => ⟨by (try dsimp only); have a9 := hf128.resolve_left (fun h8 => by have := h8.2.1; omega); rw [a9.2.2]; exact hj41 h8, by (try dsimp only); have a9 := hf128.resolve_left (fun h8 => by have := h8.2.1; omega); rw [a9.2.2]; exact fun h7 => a9.1 (h7.trans (by decide))⟩)⟩), by (try dsimp only); rw [ht]; exact ⟨hT, hF, m117, m124, m119⟩⟩, hS.F ht⟩) hS.2.2 dX4_readAll_47
        · have t132 : r114.toInt ≠ 0 := ti_ne c130 rfl (by decide)
          refine lv_aload_n hx hb dX4_readAll_28 rfl (lv_at hl 2 rfl) ?_
          refine lv_iload_n hx hb dX4_readAll_29 rfl (lv_at hl 3 rfl) ?_
          have hFc := gA_free hG hA hS
          refine va_calli (va_runV (As := [.int 3]) (rest := []) ⟨hx, hb, hml, hown, hts⟩ (c_readAtom3 l dC dI kA adK adV G H nC nS o0 th u116 z36 sp9 vT V28 tv ix_tv ix_tv K X pS hT hr_o0 m120 hr_th m117 m124 m121 hr_sp9 (by have q8 := ti_all ix_tv; omega) (by have q8 := ti_all u116; omega) (by have := (show u116.toInt = u116.toInt from rfl); have := (show ix_tv.toInt = ix_tv.toInt from rfl); omega) (fun m hm => hKK m (Nat.le_trans hm (Nat.le_of_eq (tn_same hx_tv rfl rfl)))) (fun m hm => hXX m (Nat.lt_of_lt_of_eq hm (tn_same hx_tv rfl rfl))) (by have q8 := ti_all z36; omega) (by have := (show z36.toInt = z36.toInt from rfl); have := (show u116.toInt = u116.toInt from rfl); omega) m118 m119 (by have q9 := (show ix_tv.toInt = ix_tv.toInt from rfl); have := (show ix_tv.toInt = ix_tv.toInt from rfl); omega) m122 (by have q8 := ti_all tv; omega) (by omega) (by omega)) (cwV 1 hts (goodIn_app (goodIn_r _ [29, 30, 31, 15] rfl (by decide +kernel)) (goodIn_ca (goodIn_r _ [1, 2, 3, 4, 5, 1, 6, 7, 8, 9, 10, 11, 12, 13, 14, 15, 16, 17, 18, 19, 20, 21, 22, 23, 24, 25, 26, 27, 28, 29, 30, 31, 32, 33, 34, 35, 36, 37] rfl (by decide +kernel)) (bs2_in _ _))) rfl rfl rfl (by decide +kernel) ⟨(Nat.le_of_ble_eq_true rfl), (Nat.le_of_ble_eq_true rfl)⟩) ⟨fun a U g mk q => by obtain ⟨q0, q1, qK, qE⟩ := q; exact ⟨q0, q1, va_K.moved (u := U) (U := U.calling g mk a) (Vm.Alike.refl U.vm) qK, EVC.blind g mk a qE⟩, gH_rc hK hT hr_o0 shc_152 rfl, fun U hU hW => ⟨rfl, hU, va_K.moved hW.alike hK, hE.call hS hFc hU hW⟩⟩ rfl rfl hl.1 rfl (lv_room (Nat.le_of_ble_eq_true rfl)) dX4_readAll_30 ⟨(Nat.le_of_ble_eq_true rfl), (Nat.le_of_ble_eq_true rfl)⟩) hS (fun q _ h => hFc q h) hFc (fun r133 u t H locs ht hvm hw134 hB _ _ hS => ?_)
          obtain ⟨u135, u136, u137⟩ := u
          obtain ⟨hT, hF1, m138, m139, m140⟩ := hB
          rw [ht] at hT hF1 m138 m139 m140
          have m141 := m118.kept (hF1.arr hr_th skc_153 (by decide))
          have m143 := (hF1.fld hr_o0 skc_152 (k := 0) (by decide) (by decide)).trans m120
          have m144 := (hF1.fld hr_o0 skc_152 (k := 9) (by decide) (by decide)).trans m121
          have m145 := (el_kept (hF1.arr hr_th skc_153 (by decide))).trans m122
          have hF := hF.more hF1 (by decide)
          try dsimp only at hw134
          obtain ⟨h148, h149, h150, hf151, hf152, hf153, hf154, hf155⟩ := hw134
          refine lv_istore_n (lv' := [(2, .int r133), (3, .int (nI i24)), (0, .ref o0), (1, .int 3)]) hx hb dX4_readAll_33 rfl hl (by decide) rfl (fun ls hl => ?_)
          refine lv_aload_n hx hb dX4_readAll_34 rfl (lv_at hl 2 rfl) ?_
          refine lv_bipush (v := 14) hx hb dX4_readAll_35 (by decide) ?_
          have hFc := gA_free hG hA hS
          refine va_callv (va_runV (As := [.int 14]) (rest := []) ⟨hx, hb, hml, hown, hts⟩ (c_addStep l dC dI kA adK adV G H nC nS o0 14 u136 sp9 u137 hT hr_o0 m139 m144 hr_sp9 (rg_t (a := 14) (by decide) (by first | decide | omega) (by first | decide | omega)) (by have q8 := ti_all u136; omega) m140 (by omega) (by omega)) (cwV 1 hts (goodIn_app (goodIn_r _ [12, 13, 14, 15] rfl (by decide +kernel)) (goodIn_ca (goodIn_r _ [9, 10, 11] rfl (by decide +kernel)) (bs2_in _ _))) rfl rfl rfl (by decide +kernel) ⟨(Nat.le_of_ble_eq_true rfl), (Nat.le_of_ble_eq_true rfl)⟩) ⟨fun a U g mk q => by obtain ⟨q0, q1, qK, qE⟩ := q; exact ⟨q0, q1, va_K.moved (u := U) (U := U.calling g mk a) (Vm.Alike.refl U.vm) qK, EVC.blind g mk a qE⟩, gH_rc hK hT hr_o0 shc_152 rfl, fun U hU hW => ⟨rfl, hU, va_K.moved hW.alike hK, hE.call hS hFc hU hW⟩⟩ rfl rfl hl.1 rfl (lv_room (Nat.le_of_ble_eq_true rfl)) dX4_readAll_37 ⟨(Nat.le_of_ble_eq_true rfl), (Nat.le_of_ble_eq_true rfl)⟩) hS (fun q _ h => hFc q h) hFc (fun u t H locs ht hvm hw157 hB _ _ hS => ?_)
          obtain ⟨u158, rfl⟩ : ∃ z, z = u := ⟨_, rfl⟩
          obtain ⟨hT, hF1, m159, m160⟩ := hB
          rw [ht] at hT hF1 m159 m160
          have m161 := m141.kept (hF1.arr hr_th skc_153 (by decide))
          have m162 := (hF1.fld hr_o0 skc_152 (k := 0) (by decide) (by decide)).trans m143
          have m163 := (hF1.fld hr_o0 skc_152 (k := 9) (by decide) (by decide)).trans m144
          have m164 := (el_kept (hF1.arr hr_th skc_153 (by decide))).trans m145
          have m165 := (hF1.fld hr_o0 skc_152 (k := 13) (by decide) (by decide)).trans m138
          have hF := hF.more hF1 (by decide)
          try dsimp only at hw157
          obtain ⟨h168, hf169⟩ := hw157
          refine lv_iinc (v := nI (i24 + 1)) (lv' := [(3, .int (nI (i24 + 1))), (2, .int r133), (0, .ref o0), (1, .int 3)]) hx hb dX4_readAll_40 hl (k := 1) rfl (nI_add i24 1) (by decide) rfl (fun ls hl => ?_)
          refine lv_goto (tgt := 8) hx hb dX4_readAll_43 (by decide) ?_
          exact ih105 (i24 + 1) (by omega) (by omega) r133 (cu u137 u136.toNatClampNeg 14) u135 u158 ⟨(by have q8 := ti_all r133; omega), (by have q8 := ti_all u135; omega), (by have q8 := ti_all u158; omega), (by have := hx_tv; have := (show u135.toInt = u135.toInt from rfl); omega), ⟨(by have l9 := (hj40.1.resolve_right (fun h8 => by have := h8.1; omega)).2; have a9 := hf128.resolve_right (fun h8 => by have := h8.2.1; omega); have h9 := hf153; rw [a9.2.2] at h9; rcases (show r133.toInt = 1 ∨ r133.toInt = 0 by omega) with h8 | h8 <;> rw [h8] at h9; (exact Or.inl ⟨h8, lp_s l9 (a9.1.trans (by decide)) h9⟩); exact Or.inr ⟨h8, lp_f l9 (a9.1.trans (by decide)) h9⟩), by omega⟩, (fun h8 => by have := tn_of (show s0.toInt = s0.toInt from rfl) (by omega); have := tn_of (show z36.toInt = z36.toInt from rfl) (by omega); have := tn_of (show u136.toInt = u136.toInt from rfl) (by omega); have := tn_of (show u158.toInt = u158.toInt from rfl) (by omega); have l9 := hj41 (by omega); have a9 := hf128.resolve_right (fun h8 => by have := h8.2.1; omega); have h9 := hf155 h8; rw [a9.2.2] at h9; rw [zC_3 (sx := z36.toNatClampNeg) (s2 := u136.toNatClampNeg) (c := 14) (by omega) (by omega) hf154 (by omega) rfl (by decide)]; exact zlI_s l9 (a9.1.trans (by decide)) h9), ((hj42.tr hf154 (by have := tn_of (show s0.toInt = s0.toInt from rfl) (by omega); have := tn_of (show z36.toInt = z36.toInt from rfl) (by omega); omega)).st (by have := tn_of (show s0.toInt = s0.toInt from rfl) (by omega); have := tn_of (show u136.toInt = u136.toInt from rfl) (by omega); omega)), (by have := (show u158.toInt = u158.toInt from rfl); have := (show u135.toInt = u135.toInt from rfl); omega)⟩ _ _ hT hF hS m161 m160 m162 m163 m164 m165 m159 ls (lv_sub hl [0, 1, 2, 3] rfl)
  exact key105 (400 - 0) 0 (by omega) (Nat.le_refl _) r1 u5 u3 u4 ⟨(by have q8 := ti_all r1; omega), (by have q8 := ti_all u3; omega), (by have q8 := ti_all u4; omega), (by have := hx_tv; have := (show u3.toInt = u3.toInt from rfl); omega), ⟨(by have h9 := hf21; rcases (show r1.toInt = 1 ∨ r1.toInt = 0 by omega) with h8 | h8 <;> rw [h8] at h9; (exact Or.inl ⟨h8, lp_1 h9⟩); exact Or.inr ⟨h8, lp_0 h9⟩), by omega⟩, (fun h8 => zlI_0 (hf23 h8)), (zKp.rf.tr hf22 (by have := tn_of (show s0.toInt = s0.toInt from rfl) (by omega); omega)), (by have := (show u4.toInt = u4.toInt from rfl); have := (show u3.toInt = u3.toInt from rfl); omega)⟩ _ _ hT hF hS m13 m8 m9 m12 m15 m6 m7 ls (lv_sub hl [0, 1, 2, 3] rfl)
def w_c_readAny3 : List Cond := .code yX4_readAny cX4_readAny 4 (some .boolean) :: (HAppend.hAppend (α := List Cond) (β := List Cond) (γ := List Cond) [.code yX4_readAll cX4_readAll 4 (some .boolean), .code yX4_readAtom cX4_readAtom 4 (some .boolean), .fieldLink RX4 11 "SeaLand$Law" "things" "[I", .fieldLink RX4 56 "SeaLand$Law" "at" "I", .code yX4_readAny cX4_readAny 4 (some .boolean), .code yX4_readComparison cX4_readComparison 3 (some .boolean), .code yX4_readSum cX4_readSum 3 (some .boolean), .code yX4_readPart cX4_readPart 2 (some .boolean), .code yX4_addStep cX4_addStep 2 none, .fieldLink RX4 63 "SeaLand$Law" "stepped" "I", .fieldLink RX4 39 "SeaLand$Law" "steps" "[I", .methodLink RX4 179 yX4_addStep, .instanceMethod yX4_addStep, .selects RX4 yX4_addStep yX4_addStep, .initialized RX4, .methodLink RX4 192 yX4_readPart, .instanceMethod yX4_readPart, .selects RX4 yX4_readPart yX4_readPart, .code yX4_take cX4_take 2 (some .boolean), .methodLink RX4 70 yX4_take, .instanceMethod yX4_take, .selects RX4 yX4_take yX4_take, .methodLink RX4 189 yX4_readSum, .instanceMethod yX4_readSum, .selects RX4 yX4_readSum yX4_readSum, .methodLink RX4 186 yX4_readComparison, .instanceMethod yX4_readComparison, .selects RX4 yX4_readComparison yX4_readComparison, .methodLink RX4 183 yX4_readAtom, .instanceMethod yX4_readAtom, .selects RX4 yX4_readAtom yX4_readAtom, .methodLink RX4 176 yX4_readAll, .instanceMethod yX4_readAll, .selects RX4 yX4_readAll yX4_readAll, .methodLink RX4 173 yX4_readAny, .instanceMethod yX4_readAny, .selects RX4 yX4_readAny yX4_readAny] bs2)
set_option maxHeartbeats 4000000 in
set_option maxRecDepth 100000 in
theorem c_readAny3 (l : Launch) (dC : Nat → ClassId) (dI : Nat → Nat → Nat) (kA : Nat → ClassId) (adK adV : Nat → Nat) (G : gT) (H0 : Heap) (nC nS : Int) (o0 : Nat) (th : Nat) (a0 : Int32) (s0 : Int32) (sp9 : Nat) (vT : Nat → Int32) (vS : Nat → Int32) (tv ix_tv : Int32) (tn : Int32) (K : Nat → Int) (X pS : Nat → Nat) (hT : gH (dC, dI) kA (SHc nC nS) G H0) (hr_o0 : G o0 = some 152) (hm_th : el H0 o0 (dI 7 0) = some (.ref th)) (hr_th : G th = some 153) (hm_a0 : el H0 o0 (dI 7 13) = some (.int a0)) (hm_s0 : el H0 o0 (dI 7 12) = some (.int s0)) (hm_sp9 : el H0 o0 (dI 7 9) = some (.ref sp9)) (hr_sp9 : G sp9 = some 162) (hq0 : 0 ≤ tn.toInt ∧ tn.toInt ≤ 400) (hq1 : 0 ≤ a0.toInt ∧ a0.toInt ≤ 400) (hat : a0.toInt ≤ tn.toInt) (hKK : ∀ m : Nat, m ≤ tn.toNatClampNeg → (vT m).toInt = K (pS m)) (hXX : ∀ m : Nat, m < tn.toNatClampNeg → pS (m + 1) = X (pS m)) (hq5 : 0 ≤ s0.toInt ∧ s0.toInt ≤ 400) (hsa : s0.toInt ≤ a0.toInt) (hc_vT : ct H0 th 401 vT) (hc_vS : ct H0 sp9 400 vS) (hx_tv : ix_tv.toInt = tn.toInt) (hm_tv : el H0 th ix_tv.toNatClampNeg = some (.int tv)) (hv_tv : 21 ≤ tv.toInt ∧ tv.toInt ≤ 21) (hgC : 0 ≤ nC ∧ nC ≤ 40) (hgS : 0 ≤ nS ∧ nS ≤ 60) : Met l yX4_readAny w_c_readAny3 ({ frames := 15, cells := 0, slots := 0, locals := 339 }) (va_Pc [.ref o0, .int 3] (fun U => U.heap = H0 ∧ va_K (dC, dI) vwCl (tyl kA) U ∧ EVC adK adV (gA G H0.size) U U.heap)) (va_Qi (fun (r : Int32) (u : Int32 × Int32 × (Nat → Int32)) => match u with | (a1, s1, vS1) => (0 ≤ a1.toInt ∧ a1.toInt ≤ 400) ∧ (0 ≤ s1.toInt ∧ s1.toInt ≤ 400) ∧ (0 ≤ r.toInt ∧ r.toInt ≤ 1) ∧ (a0.toInt ≤ a1.toInt ∧ a1.toInt ≤ tn.toInt) ∧ (s0.toInt ≤ s1.toInt ∧ s1.toInt - s0.toInt ≤ a1.toInt - a0.toInt) ∧ (coR K X (aR K X 3) (pS a0.toNatClampNeg) r.toInt (pS a1.toNatClampNeg)) ∧ (zKp vS vS1 s0.toNatClampNeg) ∧ (r.toInt = 1 → zlZ K X (zlZ K X (zaZ K X 3) 14) 15 (pS a0.toNatClampNeg) (zC (tz vS1) s0.toNatClampNeg s1.toNatClampNeg) (pS a1.toNatClampNeg))) (fun (u : Int32 × Int32 × (Nat → Int32)) (t : State) => match u with | (a1, s1, vS1) => gH (dC, dI) kA (SHc nC nS) G t.heap ∧ gF (dC, dI) SKc G ([(152, 12), (152, 13), (162, 0)] : List (Nat × Nat)) H0 t.heap ∧ el t.heap o0 (dI 7 13) = some (.int a1) ∧ el t.heap o0 (dI 7 12) = some (.int s1) ∧ ct t.heap sp9 400 vS1) (gA G H0.size)) 0 0 (gA G H0.size) := by
  refine Met.ofW (cc := cX4_readAny) (maxL := 4) (ret := (some .boolean)) (by decide) rfl ?_
  intro p e s m args below meth c s₁ B hml hv
  obtain ⟨rfl, hH0, hK, hE⟩ := hv
  have hx := B.exec
  have hb := B.bytes
  have hr := B.returns
  have hts := atoms_spec (ws := w_c_readAny3) B.pre
  have hown : s.vm.findClass RX4 = some m.cls := findClass_of_methodNamed B.named
  have hlocks := B.notSynchronized
  subst hH0
  generalize hAe : gA G s.heap.size = A at hE ⊢
  have hA : ∀ q : Nat, s.heap.size ≤ q → A q := fun q h => by rw [← hAe]; exact Or.inr h
  have hG := gA_of hAe
  have hS : va_S A s.heap s.heap [] := va_S.rf
  have hF : gF (dC, dI) SKc G ([(152, 12), (152, 13), (162, 0)] : List (Nat × Nat)) s.heap s.heap := gF.rf
  have hl := lv_entry ([.ref o0, .int 3]) (n := 4) (Nat.le_of_ble_eq_true rfl)
  rw [lg_entry_eq]
  generalize (lg_sl ([.ref o0, .int 3]) ++ List.replicate (4 - (lg_sl ([.ref o0, .int 3])).length) Slot.unset).toArray = ls at hl ⊢
  have hl : lv_has ls 4 [(0, .ref o0), (1, .int 3)] := hl
  refine lv_aload_n hx hb dX4_readAny_0 rfl (lv_at hl 0 rfl) ?_
  refine lv_iload_n hx hb dX4_readAny_1 rfl (lv_at hl 1 rfl) ?_
  have hFc := gA_free hG hA hS
  refine va_calli (va_runV (As := [.int 3]) (rest := []) ⟨hx, hb, hml, hown, hts⟩ (c_readAll3 l dC dI kA adK adV G s.heap nC nS o0 th a0 s0 sp9 vT vS tv ix_tv ix_tv K X pS hT hr_o0 hm_th hr_th hm_a0 hm_s0 hm_sp9 hr_sp9 (by have q8 := ti_all ix_tv; omega) (by have q8 := ti_all a0; omega) (by have := (show a0.toInt = a0.toInt from rfl); have := (show ix_tv.toInt = ix_tv.toInt from rfl); omega) (fun m hm => hKK m (Nat.le_trans hm (Nat.le_of_eq (tn_same hx_tv rfl rfl)))) (fun m hm => hXX m (Nat.lt_of_lt_of_eq hm (tn_same hx_tv rfl rfl))) (by have q8 := ti_all s0; omega) (by have := (show s0.toInt = s0.toInt from rfl); have := (show a0.toInt = a0.toInt from rfl); omega) hc_vT hc_vS (by have q9 := (show ix_tv.toInt = ix_tv.toInt from rfl); have := (show ix_tv.toInt = ix_tv.toInt from rfl); omega) hm_tv (by have q8 := ti_all tv; omega) (by omega) (by omega)) (cwV 1 hts (goodIn_app (goodIn_r _ [32, 33, 34, 15] rfl (by decide +kernel)) (goodIn_ca (goodIn_r _ [1, 2, 3, 4, 5, 1, 6, 7, 8, 9, 10, 11, 12, 13, 14, 15, 16, 17, 18, 19, 20, 21, 22, 23, 24, 25, 26, 27, 28, 29, 30, 31, 32, 33, 34, 35, 36, 37] rfl (by decide +kernel)) (bs2_in _ _))) rfl rfl rfl (by decide +kernel) ⟨(Nat.le_of_ble_eq_true rfl), (Nat.le_of_ble_eq_true rfl)⟩) ⟨fun a U g mk q => by obtain ⟨q0, q1, qK, qE⟩ := q; exact ⟨q0, q1, va_K.moved (u := U) (U := U.calling g mk a) (Vm.Alike.refl U.vm) qK, EVC.blind g mk a qE⟩, gH_rc hK hT hr_o0 shc_152 rfl, fun U hU hW => ⟨rfl, hU, va_K.moved hW.alike hK, hE.call hS hFc hU hW⟩⟩ rfl rfl hl.1 rfl (lv_room (Nat.le_of_ble_eq_true rfl)) dX4_readAny_2 ⟨(Nat.le_of_ble_eq_true rfl), (Nat.le_of_ble_eq_true rfl)⟩) hS (fun q _ h => hFc q h) hFc (fun r1 u t H locs ht hvm hw2 hB _ _ hS => ?_)
  obtain ⟨u3, u4, u5⟩ := u
  obtain ⟨hT, hF1, m6, m7, m8⟩ := hB
  rw [ht] at hT hF1 m6 m7 m8
  have m9 := (hF1.fld hr_o0 skc_152 (k := 0) (by decide) (by decide)).trans hm_th
  have m12 := (hF1.fld hr_o0 skc_152 (k := 9) (by decide) (by decide)).trans hm_sp9
  have m13 := hc_vT.kept (hF1.arr hr_th skc_153 (by decide))
  have m15 := (el_kept (hF1.arr hr_th skc_153 (by decide))).trans hm_tv
  have hF := hF.more hF1 (by decide)
  try dsimp only at hw2
  obtain ⟨h16, h17, h18, hf19, hf20, hf21, hf22, hf23⟩ := hw2
  refine lv_istore_n (lv' := [(2, .int r1), (0, .ref o0), (1, .int 3)]) hx hb dX4_readAny_5 rfl hl (by decide) rfl (fun ls hl => ?_)
  refine lv_iconst (v := 0) hx hb dX4_readAny_6 (by decide) ?_
  refine lv_istore_n (lv' := [(3, .int 0), (2, .int r1), (0, .ref o0), (1, .int 3)]) hx hb dX4_readAny_7 rfl hl (by decide) rfl (fun ls hl => ?_)
  have key105 : ∀ (n105 i24 : Nat), i24 + n105 = 400 → 0 ≤ i24 → ∀ (z25 : Int32), ∀ (V28 : Nat → Int32), ∀ (z33 : Int32), ∀ (z36 : Int32), ((0 ≤ z25.toInt ∧ z25.toInt ≤ 1) ∧ (0 ≤ z33.toInt ∧ z33.toInt ≤ 400) ∧ (0 ≤ z36.toInt ∧ z36.toInt ≤ 400) ∧ (a0.toInt ≤ z33.toInt ∧ z33.toInt ≤ tn.toInt) ∧ (((z25.toInt = 1 ∧ ∀ (r : Int) (f : Nat), lpQ K X (lpR K X (aR K X 3) 14) 15 (pS z33.toNatClampNeg) r f → coR K X (aR K X 3) (pS a0.toNatClampNeg) r f) ∨ (z25.toInt = 0 ∧ coR K X (aR K X 3) (pS a0.toNatClampNeg) 0 (pS z33.toNatClampNeg))) ∧ ((i24 : Nat) : Int) ≤ z33.toInt) ∧ (z25.toInt = 1 → zlI K X (zlZ K X (zaZ K X 3) 14) 15 (pS a0.toNatClampNeg) (zC (tz V28) s0.toNatClampNeg z36.toNatClampNeg) (pS z33.toNatClampNeg)) ∧ (zKp vS V28 s0.toNatClampNeg) ∧ (s0.toInt ≤ z36.toInt ∧ z36.toInt - s0.toInt ≤ z33.toInt - a0.toInt)) → ∀ (H : Heap) (locs : List Loc), gH (dC, dI) kA (SHc nC nS) G H → gF (dC, dI) SKc G ([(152, 12), (152, 13), (162, 0)] : List (Nat × Nat)) s.heap H → va_S A s.heap H locs → ct H th 401 vT → ct H sp9 400 V28 → el H o0 (dI 7 0) = some (.ref th) → el H o0 (dI 7 9) = some (.ref sp9) → el H th ix_tv.toNatClampNeg = some (.int tv) → el H o0 (dI 7 13) = some (.int z33) → el H o0 (dI 7 12) = some (.int z36) → ∀ ls : Array Slot, lv_has ls 4 [(3, .int (nI i24)), (2, .int z25), (0, .ref o0), (1, .int 3)] → W p l e (headSpec w_c_readAny3 ({ frames := 15, cells := 0, slots := 0, locals := 339 })).room s m #[.ref o0, .int 3] below meth c H locs 0 0 (MQ below (va_Qi (fun (r : Int32) (u : Int32 × Int32 × (Nat → Int32)) => match u with | (a1, s1, vS1) => (0 ≤ a1.toInt ∧ a1.toInt ≤ 400) ∧ (0 ≤ s1.toInt ∧ s1.toInt ≤ 400) ∧ (0 ≤ r.toInt ∧ r.toInt ≤ 1) ∧ (a0.toInt ≤ a1.toInt ∧ a1.toInt ≤ tn.toInt) ∧ (s0.toInt ≤ s1.toInt ∧ s1.toInt - s0.toInt ≤ a1.toInt - a0.toInt) ∧ (coR K X (aR K X 3) (pS a0.toNatClampNeg) r.toInt (pS a1.toNatClampNeg)) ∧ (zKp vS vS1 s0.toNatClampNeg) ∧ (r.toInt = 1 → zlZ K X (zlZ K X (zaZ K X 3) 14) 15 (pS a0.toNatClampNeg) (zC (tz vS1) s0.toNatClampNeg s1.toNatClampNeg) (pS a1.toNatClampNeg))) (fun (u : Int32 × Int32 × (Nat → Int32)) (t : State) => match u with | (a1, s1, vS1) => gH (dC, dI) kA (SHc nC nS) G t.heap ∧ gF (dC, dI) SKc G ([(152, 12), (152, 13), (162, 0)] : List (Nat × Nat)) s.heap t.heap ∧ el t.heap o0 (dI 7 13) = some (.int a1) ∧ el t.heap o0 (dI 7 12) = some (.int s1) ∧ ct t.heap sp9 400 vS1) A) #[.ref o0, .int 3] s 0 0 A) (F0 m 8 ls []) := by
    intro n105
    induction n105 with
    | zero =>
      intro i24 hn105 hlo106 z25 V28 z33 z36 ⟨h26, h34, h37, hj39, hj40, hj41, hj42, hj43⟩ H locs hT hF hS m27 m29 m30 m31 m32 m35 m38 ls hl
      obtain rfl : 400 = i24 := by omega
      refine lv_iload_n hx hb dX4_readAny_8 rfl (lv_at hl 0 rfl) ?_
      refine lv_sipush (v := 400) hx hb dX4_readAny_9 (by decide) ?_
      refine lv_icmp_ge (tgt := 46) hx hb dX4_readAny_12 (by decide) (fun c107 => ?_) (fun c107 => (by exfalso; have q9 : ((400 : Nat) : Int) < 400 := ti_nle c107 (by decide) (nI_toInt (by omega)); omega))
      have t108 : 400 ≤ ((400 : Nat) : Int) := ti_le c107 (by decide) (nI_toInt (by omega))
      refine lv_iload_n hx hb dX4_readAny_46 rfl (lv_at hl 1 rfl) ?_
      exact W.zret (v := z25) hx hb hr (nar_b (by have q8 := ti_all z25; omega)) (fun t ht hW => ⟨⟨z25, (z33, z36, V28), rfl, (by exact ⟨(by have q8 := ti_all z33; omega), (by have q8 := ti_all z36; omega), (by have q8 := ti_all z25; omega), (by omega), (by omega), (by rcases hj40.1 with ⟨h8, l9⟩ | ⟨h8, l9⟩; (rw [h8]; exact lp_e l9 (fun h7 => by have := tn_of (show z33.toInt = z33.toInt from rfl) (by omega); have := tn_of (show tn.toInt = tn.toInt from rfl) (by omega); have k9 := hKK tn.toNatClampNeg (Nat.le_refl _); have e9 := hc_vT.at hm_tv (by have q9 := tn_of hx_tv (by omega); omega); have k8 : (vT tn.toNatClampNeg).toInt = 21 := (by have q8 := congrArg Int32.toInt e9; rw [show ix_tv.toNatClampNeg = tn.toNatClampNeg from tn_same hx_tv rfl rfl] at q8; omega); rw [show z33.toNatClampNeg = tn.toNatClampNeg from by omega] at h7; omega)); rw [h8]; exact l9), hj42, (fun h8 => ⟨hj41 h8, fun h7 => by have := tn_of (show z33.toInt = z33.toInt from rfl) (by omega); have := tn_of (show tn.toInt = tn.toInt from rfl) (by omega); have k9 := hKK tn.toNatClampNeg (Nat.le_refl _); have e9 := hc_vT.at hm_tv (by have q9 := tn_of hx_tv (by omega); omega); have k8 : (vT tn.toNatClampNeg).toInt = 21 := (by have q8 := congrArg Int32.toInt e9; rw [show ix_tv.toNatClampNeg = tn.toNatClampNeg from tn_same hx_tv rfl rfl] at q8; omega); rw [show z33.toNatClampNeg = tn.toNatClampNeg from by omega] at h7; omega⟩)⟩), by (try dsimp only); rw [ht]; exact ⟨hT, hF, m35, m38, m29⟩⟩, hS.F ht⟩) hS.2.2 dX4_readAny_47
    | succ n105 ih105 =>
      intro i24 hn105 hlo106 z25 V28 z33 z36 ⟨h26, h34, h37, hj39, hj40, hj41, hj42, hj43⟩ H locs hT hF hS m27 m29 m30 m31 m32 m35 m38 ls hl
      have hlt108 : i24 < 400 := by omega
      refine lv_iload_n hx hb dX4_readAny_8 rfl (lv_at hl 0 rfl) ?_
      refine lv_sipush (v := 400) hx hb dX4_readAny_9 (by decide) ?_
      refine lv_icmp_ge (tgt := 46) hx hb dX4_readAny_12 (by decide) (fun c109 => (by exfalso; have q9 : 400 ≤ ((i24 : Nat) : Int) := ti_le c109 (by decide) (nI_toInt (by omega)); omega)) (fun c109 => ?_)
      have t110 : ((i24 : Nat) : Int) < 400 := ti_nle c109 (by decide) (nI_toInt (by omega))
      refine lv_iload_n hx hb dX4_readAny_15 rfl (lv_at hl 1 rfl) ?_
      refine lv_if_eq (tgt := 46) hx hb dX4_readAny_16 (by decide) (fun c111 => ?_) (fun c111 => ?_)
      · have t112 : z25.toInt = 0 := ti_eq c111 rfl (by decide)
        refine lv_iload_n hx hb dX4_readAny_46 rfl (lv_at hl 1 rfl) ?_
        exact W.zret (v := z25) hx hb hr (nar_b (by have q8 := ti_all z25; omega)) (fun t ht hW => ⟨⟨z25, (z33, z36, V28), rfl, (by exact ⟨(by have q8 := ti_all z33; omega), (by have q8 := ti_all z36; omega), (by have q8 := ti_all z25; omega), (by omega), (by omega), (by rcases hj40.1 with ⟨h8, l9⟩ | ⟨h8, l9⟩; (rw [h8]; exact lp_e l9 (fun h7 => by have := tn_of (show z33.toInt = z33.toInt from rfl) (by omega); have := tn_of (show tn.toInt = tn.toInt from rfl) (by omega); have k9 := hKK tn.toNatClampNeg (Nat.le_refl _); have e9 := hc_vT.at hm_tv (by have q9 := tn_of hx_tv (by omega); omega); have k8 : (vT tn.toNatClampNeg).toInt = 21 := (by have q8 := congrArg Int32.toInt e9; rw [show ix_tv.toNatClampNeg = tn.toNatClampNeg from tn_same hx_tv rfl rfl] at q8; omega); rw [show z33.toNatClampNeg = tn.toNatClampNeg from by omega] at h7; omega)); rw [h8]; exact l9), hj42, (fun h8 => ⟨hj41 h8, fun h7 => by have := tn_of (show z33.toInt = z33.toInt from rfl) (by omega); have := tn_of (show tn.toInt = tn.toInt from rfl) (by omega); have k9 := hKK tn.toNatClampNeg (Nat.le_refl _); have e9 := hc_vT.at hm_tv (by have q9 := tn_of hx_tv (by omega); omega); have k8 : (vT tn.toNatClampNeg).toInt = 21 := (by have q8 := congrArg Int32.toInt e9; rw [show ix_tv.toNatClampNeg = tn.toNatClampNeg from tn_same hx_tv rfl rfl] at q8; omega); rw [show z33.toNatClampNeg = tn.toNatClampNeg from by omega] at h7; omega⟩)⟩), by (try dsimp only); rw [ht]; exact ⟨hT, hF, m35, m38, m29⟩⟩, hS.F ht⟩) hS.2.2 dX4_readAny_47
      · have t113 : z25.toInt ≠ 0 := ti_ne c111 rfl (by decide)
        refine lv_aload_n hx hb dX4_readAny_19 rfl (lv_at hl 2 rfl) ?_
        refine lv_bipush (v := 15) hx hb dX4_readAny_20 (by decide) ?_
        have hFc := gA_free hG hA hS
        refine va_calli (va_runV (As := [.int 15]) (rest := []) ⟨hx, hb, hml, hown, hts⟩ (c_take l dC dI kA adK adV G H nC nS o0 15 th z33 vT tv ix_tv ix_tv K X pS hT hr_o0 m30 hr_th m35 (by have q8 := ti_all ix_tv; omega) (by have q8 := ti_all z33; omega) (by have := (show z33.toInt = z33.toInt from rfl); have := (show ix_tv.toInt = ix_tv.toInt from rfl); omega) (by have := (show (15 : Int32).toInt = 15 from (by decide)); omega) (fun m hm => hKK m (Nat.le_trans hm (Nat.le_of_eq (tn_same hx_tv rfl rfl)))) (fun m hm => hXX m (Nat.lt_of_lt_of_eq hm (tn_same hx_tv rfl rfl))) m27 (by have q9 := (show ix_tv.toInt = ix_tv.toInt from rfl); have := (show ix_tv.toInt = ix_tv.toInt from rfl); omega) m32 (by have q8 := ti_all tv; omega) (by omega) (by omega)) (cwV 1 hts (goodIn_app (goodIn_r _ [20, 21, 22, 15] rfl (by decide +kernel)) (goodIn_ca (goodIn_r _ [19, 3, 4] rfl (by decide +kernel)) (bs2_in _ _))) rfl rfl rfl (by decide +kernel) ⟨(Nat.le_of_ble_eq_true rfl), (Nat.le_of_ble_eq_true rfl)⟩) ⟨fun a U g mk q => by obtain ⟨q0, q1, qK, qE⟩ := q; exact ⟨q0, q1, va_K.moved (u := U) (U := U.calling g mk a) (Vm.Alike.refl U.vm) qK, EVC.blind g mk a qE⟩, gH_rc hK hT hr_o0 shc_152 rfl, fun U hU hW => ⟨rfl, hU, va_K.moved hW.alike hK, hE.call hS hFc hU hW⟩⟩ rfl rfl hl.1 rfl (lv_room (Nat.le_of_ble_eq_true rfl)) dX4_readAny_22 ⟨(Nat.le_of_ble_eq_true rfl), (Nat.le_of_ble_eq_true rfl)⟩) hS (fun q _ h => hFc q h) hFc (fun r114 u t H locs ht hvm hw115 hB _ _ hS => ?_)
        obtain ⟨u116, rfl⟩ : ∃ z, z = u := ⟨_, rfl⟩
        obtain ⟨hT, hF1, m117⟩ := hB
        rw [ht] at hT hF1 m117
        have m118 := m27.kept (hF1.arr hr_th skc_153 (by decide))
        have m119 := m29.kept (hF1.arr hr_sp9 skc_162 (by decide))
        have m120 := (hF1.fld hr_o0 skc_152 (k := 0) (by decide) (by decide)).trans m30
        have m121 := (hF1.fld hr_o0 skc_152 (k := 9) (by decide) (by decide)).trans m31
        have m122 := (el_kept (hF1.arr hr_th skc_153 (by decide))).trans m32
        have m124 := (hF1.fld hr_o0 skc_152 (k := 12) (by decide) (by decide)).trans m38
        have hF := hF.more hF1 (by decide)
        try dsimp only at hw115
        obtain ⟨h125, h126, hf127, hf128, hf129⟩ := hw115
        refine lv_if_eq (tgt := 46) hx hb dX4_readAny_25 (by decide) (fun c130 => ?_) (fun c130 => ?_)
        · have t131 : r114.toInt = 0 := ti_eq c130 rfl (by decide)
          refine lv_iload_n hx hb dX4_readAny_46 rfl (lv_at hl 1 rfl) ?_
          exact W.zret (v := z25) hx hb hr (nar_b (by have q8 := ti_all z25; omega)) (fun t ht hW => ⟨⟨z25, (u116, z36, V28), rfl, (by exact ⟨(by have q8 := ti_all u116; omega), (by have q8 := ti_all z36; omega), (by have q8 := ti_all z25; omega), (by omega), (by omega), (by have l9 := (hj40.1.resolve_right (fun h8 => by have := h8.1; omega)).2; have a9 := hf128.resolve_left (fun h8 => by have := h8.2.1; omega); rw [show z25.toInt = 1 from by omega, a9.2.2]; exact lp_e l9 (fun h7 => a9.1 (h7.trans (by decide)))), hj42, (fun h8 => ⟨by (try dsimp only); have a9 := hf128.resolve_left (fun h8 => by have := h8.2.1; omega); rw [a9.2.2]; exact hj41 h8, by (try dsimp only); have a9 := hf128.resolve_left (fun h8 => by have := h8.2.1; omega); rw [a9.2.2]; exact fun h7 => a9.1 (h7.trans (by decide))⟩)⟩), by (try dsimp only); rw [ht]; exact ⟨hT, hF, m117, m124, m119⟩⟩, hS.F ht⟩) hS.2.2 dX4_readAny_47
        · have t132 : r114.toInt ≠ 0 := ti_ne c130 rfl (by decide)
          refine lv_aload_n hx hb dX4_readAny_28 rfl (lv_at hl 2 rfl) ?_
          refine lv_iload_n hx hb dX4_readAny_29 rfl (lv_at hl 3 rfl) ?_
          have hFc := gA_free hG hA hS
          refine va_calli (va_runV (As := [.int 3]) (rest := []) ⟨hx, hb, hml, hown, hts⟩ (c_readAll3 l dC dI kA adK adV G H nC nS o0 th u116 z36 sp9 vT V28 tv ix_tv ix_tv K X pS hT hr_o0 m120 hr_th m117 m124 m121 hr_sp9 (by have q8 := ti_all ix_tv; omega) (by have q8 := ti_all u116; omega) (by have := (show u116.toInt = u116.toInt from rfl); have := (show ix_tv.toInt = ix_tv.toInt from rfl); omega) (fun m hm => hKK m (Nat.le_trans hm (Nat.le_of_eq (tn_same hx_tv rfl rfl)))) (fun m hm => hXX m (Nat.lt_of_lt_of_eq hm (tn_same hx_tv rfl rfl))) (by have q8 := ti_all z36; omega) (by have := (show z36.toInt = z36.toInt from rfl); have := (show u116.toInt = u116.toInt from rfl); omega) m118 m119 (by have q9 := (show ix_tv.toInt = ix_tv.toInt from rfl); have := (show ix_tv.toInt = ix_tv.toInt from rfl); omega) m122 (by have q8 := ti_all tv; omega) (by omega) (by omega)) (cwV 1 hts (goodIn_app (goodIn_r _ [32, 33, 34, 15] rfl (by decide +kernel)) (goodIn_ca (goodIn_r _ [1, 2, 3, 4, 5, 1, 6, 7, 8, 9, 10, 11, 12, 13, 14, 15, 16, 17, 18, 19, 20, 21, 22, 23, 24, 25, 26, 27, 28, 29, 30, 31, 32, 33, 34, 35, 36, 37] rfl (by decide +kernel)) (bs2_in _ _))) rfl rfl rfl (by decide +kernel) ⟨(Nat.le_of_ble_eq_true rfl), (Nat.le_of_ble_eq_true rfl)⟩) ⟨fun a U g mk q => by obtain ⟨q0, q1, qK, qE⟩ := q; exact ⟨q0, q1, va_K.moved (u := U) (U := U.calling g mk a) (Vm.Alike.refl U.vm) qK, EVC.blind g mk a qE⟩, gH_rc hK hT hr_o0 shc_152 rfl, fun U hU hW => ⟨rfl, hU, va_K.moved hW.alike hK, hE.call hS hFc hU hW⟩⟩ rfl rfl hl.1 rfl (lv_room (Nat.le_of_ble_eq_true rfl)) dX4_readAny_30 ⟨(Nat.le_of_ble_eq_true rfl), (Nat.le_of_ble_eq_true rfl)⟩) hS (fun q _ h => hFc q h) hFc (fun r133 u t H locs ht hvm hw134 hB _ _ hS => ?_)
          obtain ⟨u135, u136, u137⟩ := u
          obtain ⟨hT, hF1, m138, m139, m140⟩ := hB
          rw [ht] at hT hF1 m138 m139 m140
          have m141 := m118.kept (hF1.arr hr_th skc_153 (by decide))
          have m143 := (hF1.fld hr_o0 skc_152 (k := 0) (by decide) (by decide)).trans m120
          have m144 := (hF1.fld hr_o0 skc_152 (k := 9) (by decide) (by decide)).trans m121
          have m145 := (el_kept (hF1.arr hr_th skc_153 (by decide))).trans m122
          have hF := hF.more hF1 (by decide)
          try dsimp only at hw134
          obtain ⟨h148, h149, h150, hf151, hf152, hf153, hf154, hf155⟩ := hw134
          refine lv_istore_n (lv' := [(2, .int r133), (3, .int (nI i24)), (0, .ref o0), (1, .int 3)]) hx hb dX4_readAny_33 rfl hl (by decide) rfl (fun ls hl => ?_)
          refine lv_aload_n hx hb dX4_readAny_34 rfl (lv_at hl 2 rfl) ?_
          refine lv_bipush (v := 15) hx hb dX4_readAny_35 (by decide) ?_
          have hFc := gA_free hG hA hS
          refine va_callv (va_runV (As := [.int 15]) (rest := []) ⟨hx, hb, hml, hown, hts⟩ (c_addStep l dC dI kA adK adV G H nC nS o0 15 u136 sp9 u137 hT hr_o0 m139 m144 hr_sp9 (rg_t (a := 15) (by decide) (by first | decide | omega) (by first | decide | omega)) (by have q8 := ti_all u136; omega) m140 (by omega) (by omega)) (cwV 1 hts (goodIn_app (goodIn_r _ [12, 13, 14, 15] rfl (by decide +kernel)) (goodIn_ca (goodIn_r _ [9, 10, 11] rfl (by decide +kernel)) (bs2_in _ _))) rfl rfl rfl (by decide +kernel) ⟨(Nat.le_of_ble_eq_true rfl), (Nat.le_of_ble_eq_true rfl)⟩) ⟨fun a U g mk q => by obtain ⟨q0, q1, qK, qE⟩ := q; exact ⟨q0, q1, va_K.moved (u := U) (U := U.calling g mk a) (Vm.Alike.refl U.vm) qK, EVC.blind g mk a qE⟩, gH_rc hK hT hr_o0 shc_152 rfl, fun U hU hW => ⟨rfl, hU, va_K.moved hW.alike hK, hE.call hS hFc hU hW⟩⟩ rfl rfl hl.1 rfl (lv_room (Nat.le_of_ble_eq_true rfl)) dX4_readAny_37 ⟨(Nat.le_of_ble_eq_true rfl), (Nat.le_of_ble_eq_true rfl)⟩) hS (fun q _ h => hFc q h) hFc (fun u t H locs ht hvm hw157 hB _ _ hS => ?_)
          obtain ⟨u158, rfl⟩ : ∃ z, z = u := ⟨_, rfl⟩
          obtain ⟨hT, hF1, m159, m160⟩ := hB
          rw [ht] at hT hF1 m159 m160
          have m161 := m141.kept (hF1.arr hr_th skc_153 (by decide))
          have m162 := (hF1.fld hr_o0 skc_152 (k := 0) (by decide) (by decide)).trans m143
          have m163 := (hF1.fld hr_o0 skc_152 (k := 9) (by decide) (by decide)).trans m144
          have m164 := (el_kept (hF1.arr hr_th skc_153 (by decide))).trans m145
          have m165 := (hF1.fld hr_o0 skc_152 (k := 13) (by decide) (by decide)).trans m138
          have hF := hF.more hF1 (by decide)
          try dsimp only at hw157
          obtain ⟨h168, hf169⟩ := hw157
          refine lv_iinc (v := nI (i24 + 1)) (lv' := [(3, .int (nI (i24 + 1))), (2, .int r133), (0, .ref o0), (1, .int 3)]) hx hb dX4_readAny_40 hl (k := 1) rfl (nI_add i24 1) (by decide) rfl (fun ls hl => ?_)
          refine lv_goto (tgt := 8) hx hb dX4_readAny_43 (by decide) ?_
          exact ih105 (i24 + 1) (by omega) (by omega) r133 (cu u137 u136.toNatClampNeg 15) u135 u158 ⟨(by have q8 := ti_all r133; omega), (by have q8 := ti_all u135; omega), (by have q8 := ti_all u158; omega), (by have := hx_tv; have := (show u135.toInt = u135.toInt from rfl); omega), ⟨(by have l9 := (hj40.1.resolve_right (fun h8 => by have := h8.1; omega)).2; have a9 := hf128.resolve_right (fun h8 => by have := h8.2.1; omega); have h9 := hf153; rw [a9.2.2] at h9; rcases (show r133.toInt = 1 ∨ r133.toInt = 0 by omega) with h8 | h8 <;> rw [h8] at h9; (exact Or.inl ⟨h8, lp_s l9 (a9.1.trans (by decide)) h9⟩); exact Or.inr ⟨h8, lp_f l9 (a9.1.trans (by decide)) h9⟩), by omega⟩, (fun h8 => by have := tn_of (show s0.toInt = s0.toInt from rfl) (by omega); have := tn_of (show z36.toInt = z36.toInt from rfl) (by omega); have := tn_of (show u136.toInt = u136.toInt from rfl) (by omega); have := tn_of (show u158.toInt = u158.toInt from rfl) (by omega); have l9 := hj41 (by omega); have a9 := hf128.resolve_right (fun h8 => by have := h8.2.1; omega); have h9 := hf155 h8; rw [a9.2.2] at h9; rw [zC_3 (sx := z36.toNatClampNeg) (s2 := u136.toNatClampNeg) (c := 15) (by omega) (by omega) hf154 (by omega) rfl (by decide)]; exact zlI_s l9 (a9.1.trans (by decide)) h9), ((hj42.tr hf154 (by have := tn_of (show s0.toInt = s0.toInt from rfl) (by omega); have := tn_of (show z36.toInt = z36.toInt from rfl) (by omega); omega)).st (by have := tn_of (show s0.toInt = s0.toInt from rfl) (by omega); have := tn_of (show u136.toInt = u136.toInt from rfl) (by omega); omega)), (by have := (show u158.toInt = u158.toInt from rfl); have := (show u135.toInt = u135.toInt from rfl); omega)⟩ _ _ hT hF hS m161 m160 m162 m163 m164 m165 m159 ls (lv_sub hl [0, 1, 2, 3] rfl)
  exact key105 (400 - 0) 0 (by omega) (Nat.le_refl _) r1 u5 u3 u4 ⟨(by have q8 := ti_all r1; omega), (by have q8 := ti_all u3; omega), (by have q8 := ti_all u4; omega), (by have := hx_tv; have := (show u3.toInt = u3.toInt from rfl); omega), ⟨(by have h9 := hf21; rcases (show r1.toInt = 1 ∨ r1.toInt = 0 by omega) with h8 | h8 <;> rw [h8] at h9; (exact Or.inl ⟨h8, lp_1 h9⟩); exact Or.inr ⟨h8, lp_0 h9⟩), by omega⟩, (fun h8 => zlI_0 (hf23 h8)), (zKp.rf.tr hf22 (by have := tn_of (show s0.toInt = s0.toInt from rfl) (by omega); omega)), (by have := (show u4.toInt = u4.toInt from rfl); have := (show u3.toInt = u3.toInt from rfl); omega)⟩ _ _ hT hF hS m13 m8 m9 m12 m15 m6 m7 ls (lv_sub hl [0, 1, 2, 3] rfl)
def w_c_readAtom2 : List Cond := .code yX4_readAtom cX4_readAtom 4 (some .boolean) :: (HAppend.hAppend (α := List Cond) (β := List Cond) (γ := List Cond) [.fieldLink RX4 11 "SeaLand$Law" "things" "[I", .fieldLink RX4 56 "SeaLand$Law" "at" "I", .code yX4_readAny cX4_readAny 4 (some .boolean), .code yX4_readAll cX4_readAll 4 (some .boolean), .code yX4_readAtom cX4_readAtom 4 (some .boolean), .code yX4_readComparison cX4_readComparison 3 (some .boolean), .code yX4_readSum cX4_readSum 3 (some .boolean), .code yX4_readPart cX4_readPart 2 (some .boolean), .code yX4_addStep cX4_addStep 2 none, .fieldLink RX4 63 "SeaLand$Law" "stepped" "I", .fieldLink RX4 39 "SeaLand$Law" "steps" "[I", .methodLink RX4 179 yX4_addStep, .instanceMethod yX4_addStep, .selects RX4 yX4_addStep yX4_addStep, .initialized RX4, .methodLink RX4 192 yX4_readPart, .instanceMethod yX4_readPart, .selects RX4 yX4_readPart yX4_readPart, .code yX4_take cX4_take 2 (some .boolean), .methodLink RX4 70 yX4_take, .instanceMethod yX4_take, .selects RX4 yX4_take yX4_take, .methodLink RX4 189 yX4_readSum, .instanceMethod yX4_readSum, .selects RX4 yX4_readSum yX4_readSum, .methodLink RX4 186 yX4_readComparison, .instanceMethod yX4_readComparison, .selects RX4 yX4_readComparison yX4_readComparison, .methodLink RX4 183 yX4_readAtom, .instanceMethod yX4_readAtom, .selects RX4 yX4_readAtom yX4_readAtom, .methodLink RX4 176 yX4_readAll, .instanceMethod yX4_readAll, .selects RX4 yX4_readAll yX4_readAll, .methodLink RX4 173 yX4_readAny, .instanceMethod yX4_readAny, .selects RX4 yX4_readAny yX4_readAny] bs2)
set_option maxHeartbeats 4000000 in
set_option maxRecDepth 100000 in
theorem c_readAtom2 (l : Launch) (dC : Nat → ClassId) (dI : Nat → Nat → Nat) (kA : Nat → ClassId) (adK adV : Nat → Nat) (G : gT) (H0 : Heap) (nC nS : Int) (o0 : Nat) (th : Nat) (a0 : Int32) (s0 : Int32) (sp9 : Nat) (vT : Nat → Int32) (vS : Nat → Int32) (tv ix_tv : Int32) (tn : Int32) (K : Nat → Int) (X pS : Nat → Nat) (hT : gH (dC, dI) kA (SHc nC nS) G H0) (hr_o0 : G o0 = some 152) (hm_th : el H0 o0 (dI 7 0) = some (.ref th)) (hr_th : G th = some 153) (hm_a0 : el H0 o0 (dI 7 13) = some (.int a0)) (hm_s0 : el H0 o0 (dI 7 12) = some (.int s0)) (hm_sp9 : el H0 o0 (dI 7 9) = some (.ref sp9)) (hr_sp9 : G sp9 = some 162) (hq0 : 0 ≤ tn.toInt ∧ tn.toInt ≤ 400) (hq1 : 0 ≤ a0.toInt ∧ a0.toInt ≤ 400) (hat : a0.toInt ≤ tn.toInt) (hKK : ∀ m : Nat, m ≤ tn.toNatClampNeg → (vT m).toInt = K (pS m)) (hXX : ∀ m : Nat, m < tn.toNatClampNeg → pS (m + 1) = X (pS m)) (hq5 : 0 ≤ s0.toInt ∧ s0.toInt ≤ 400) (hsa : s0.toInt ≤ a0.toInt) (hc_vT : ct H0 th 401 vT) (hc_vS : ct H0 sp9 400 vS) (hx_tv : ix_tv.toInt = tn.toInt) (hm_tv : el H0 th ix_tv.toNatClampNeg = some (.int tv)) (hv_tv : 21 ≤ tv.toInt ∧ tv.toInt ≤ 21) (hgC : 0 ≤ nC ∧ nC ≤ 40) (hgS : 0 ≤ nS ∧ nS ≤ 60) : Met l yX4_readAtom w_c_readAtom2 ({ frames := 16, cells := 0, slots := 0, locals := 362 }) (va_Pc [.ref o0, .int 2] (fun U => U.heap = H0 ∧ va_K (dC, dI) vwCl (tyl kA) U ∧ EVC adK adV (gA G H0.size) U U.heap)) (va_Qi (fun (r : Int32) (u : Int32 × Int32 × (Nat → Int32)) => match u with | (a1, s1, vS1) => (0 ≤ a1.toInt ∧ a1.toInt ≤ 400) ∧ (0 ≤ s1.toInt ∧ s1.toInt ≤ 400) ∧ (0 ≤ r.toInt ∧ r.toInt ≤ 1) ∧ (a0.toInt ≤ a1.toInt ∧ a1.toInt ≤ tn.toInt) ∧ (s0.toInt ≤ s1.toInt ∧ s1.toInt - s0.toInt ≤ a1.toInt - a0.toInt) ∧ (aR K X 4 (pS a0.toNatClampNeg) r.toInt (pS a1.toNatClampNeg)) ∧ (zKp vS vS1 s0.toNatClampNeg) ∧ (r.toInt = 1 → zaZ K X 4 (pS a0.toNatClampNeg) (zC (tz vS1) s0.toNatClampNeg s1.toNatClampNeg) (pS a1.toNatClampNeg))) (fun (u : Int32 × Int32 × (Nat → Int32)) (t : State) => match u with | (a1, s1, vS1) => gH (dC, dI) kA (SHc nC nS) G t.heap ∧ gF (dC, dI) SKc G ([(152, 12), (152, 13), (162, 0)] : List (Nat × Nat)) H0 t.heap ∧ el t.heap o0 (dI 7 13) = some (.int a1) ∧ el t.heap o0 (dI 7 12) = some (.int s1) ∧ ct t.heap sp9 400 vS1) (gA G H0.size)) 0 0 (gA G H0.size) := by
  refine Met.ofW (cc := cX4_readAtom) (maxL := 4) (ret := (some .boolean)) (by decide) rfl ?_
  intro p e s m args below meth c s₁ B hml hv
  obtain ⟨rfl, hH0, hK, hE⟩ := hv
  have hx := B.exec
  have hb := B.bytes
  have hr := B.returns
  have hts := atoms_spec (ws := w_c_readAtom2) B.pre
  have hown : s.vm.findClass RX4 = some m.cls := findClass_of_methodNamed B.named
  have hlocks := B.notSynchronized
  subst hH0
  generalize hAe : gA G s.heap.size = A at hE ⊢
  have hA : ∀ q : Nat, s.heap.size ≤ q → A q := fun q h => by rw [← hAe]; exact Or.inr h
  have hG := gA_of hAe
  have hS : va_S A s.heap s.heap [] := va_S.rf
  have hF : gF (dC, dI) SKc G ([(152, 12), (152, 13), (162, 0)] : List (Nat × Nat)) s.heap s.heap := gF.rf
  have hl := lv_entry ([.ref o0, .int 2]) (n := 4) (Nat.le_of_ble_eq_true rfl)
  rw [lg_entry_eq]
  generalize (lg_sl ([.ref o0, .int 2]) ++ List.replicate (4 - (lg_sl ([.ref o0, .int 2])).length) Slot.unset).toArray = ls at hl ⊢
  have hl : lv_has ls 4 [(0, .ref o0), (1, .int 2)] := hl
  refine lv_aload_n hx hb dX4_readAtom_0 rfl (lv_at hl 0 rfl) ?_
  refine tw_getM (v := .ref th) hx hb hts bF2_X4 hown hK hT hr_o0 shc_152 rfl 0 (by decide) (ht_at2 hts 0 rfl) (fun _ h9 => h9) hm_th dX4_readAtom_1 ?_
  refine lv_aload_n hx hb dX4_readAtom_4 rfl (lv_at hl 0 rfl) ?_
  refine tw_getM (v := .int a0) hx hb hts bF2_X4 hown hK hT hr_o0 shc_152 rfl 13 (by decide) (ht_at2 hts 1 rfl) (fun _ h9 => h9) hm_a0 dX4_readAtom_5 ?_
  refine tw_iald (i := a0) hx hb hK hT hr_th shc_153 rfl (vin_t (a := a0.toInt) rfl (by omega) (by omega)) dX4_readAtom_8 (fun v9 m1 h9 => ?_)
  obtain ⟨x2, rfl, gx2, kx2⟩ := h9
  have cx2 := hc_vT.at m1 (by have q9 := tn_of (show a0.toInt = a0.toInt from rfl) (by omega); omega)
  have t3 : a0.toInt = ix_tv.toInt → x2.toInt = tv.toInt := fun h8 => congrArg Int32.toInt (el_same m1 hm_tv h8)
  have t4 : x2.toInt = K (pS a0.toNatClampNeg) := (congrArg Int32.toInt cx2).trans (hKK _ (by have := tn_of (show a0.toInt = a0.toInt from rfl) (by omega); have := tn_of (show tn.toInt = tn.toInt from rfl) (by omega); omega))
  refine lv_bipush (v := 13) hx hb dX4_readAtom_9 (by decide) ?_
  have t5 : -2147483648 ≤ x2.toInt ∧ x2.toInt ≤ 2147483647 := ti_all x2
  refine lv_icmp_ne (tgt := 18) hx hb dX4_readAtom_11 (by decide) (fun c6 => ?_) (fun c6 => ?_)
  · have t7 : x2.toInt ≠ 13 := ti_ne c6 rfl (by decide)
    refine lv_iconst (v := 0) hx hb dX4_readAtom_18 (by decide) ?_
    refine lv_istore_n (lv' := [(2, .int 0), (0, .ref o0), (1, .int 2)]) hx hb dX4_readAtom_19 rfl hl (by decide) rfl (fun ls hl => ?_)
    refine lv_iload_n hx hb dX4_readAtom_20 rfl (lv_at hl 0 rfl) ?_
    refine lv_if_ne (tgt := 43) hx hb dX4_readAtom_21 (by decide) (fun c8 => absurd c8 (by decide)) (fun c8 => ?_)
    refine lv_aload_n hx hb dX4_readAtom_24 rfl (lv_at hl 1 rfl) ?_
    refine tw_getM (v := .ref th) hx hb hts bF2_X4 hown hK hT hr_o0 shc_152 rfl 0 (by decide) (ht_at2 hts 0 rfl) (fun _ h9 => h9) hm_th dX4_readAtom_25 ?_
    refine lv_aload_n hx hb dX4_readAtom_28 rfl (lv_at hl 1 rfl) ?_
    refine tw_getM (v := .int a0) hx hb hts bF2_X4 hown hK hT hr_o0 shc_152 rfl 13 (by decide) (ht_at2 hts 1 rfl) (fun _ h9 => h9) hm_a0 dX4_readAtom_29 ?_
    refine tw_iald (i := a0) hx hb hK hT hr_th shc_153 rfl (vin_t (a := a0.toInt) rfl (by omega) (by omega)) dX4_readAtom_32 (fun v9 m9 h9 => ?_)
    obtain ⟨x10, rfl, gx10, kx10⟩ := h9
    have cx10 := hc_vT.at m9 (by have q9 := tn_of (show a0.toInt = a0.toInt from rfl) (by omega); omega)
    have t11 : a0.toInt = ix_tv.toInt → x10.toInt = tv.toInt := fun h8 => congrArg Int32.toInt (el_same m9 hm_tv h8)
    obtain rfl : x2 = x10 := (el_same m9 m1 rfl).symm
    refine lv_bipush (v := 16) hx hb dX4_readAtom_33 (by decide) ?_
    refine lv_icmp_eq (tgt := 43) hx hb dX4_readAtom_35 (by decide) (fun c12 => ?_) (fun c12 => ?_)
    · have t13 : x2.toInt = 16 := ti_eq c12 rfl (by decide)
      refine lv_iload_n hx hb dX4_readAtom_43 rfl (lv_at hl 2 rfl) ?_
      refine lv_bipush (v := 6) hx hb dX4_readAtom_44 (by decide) ?_
      refine lv_icmp_lt (tgt := 51) hx hb dX4_readAtom_46 (by decide) (fun c14 => ?_) (fun c14 => absurd c14 (by decide))
      refine lv_aload_n hx hb dX4_readAtom_51 rfl (lv_at hl 1 rfl) ?_
      refine lv_dup hx hb dX4_readAtom_52 rfl ?_
      refine tw_getM (v := .int a0) hx hb hts bF2_X4 hown hK hT hr_o0 shc_152 rfl 13 (by decide) (ht_at2 hts 1 rfl) (fun _ h9 => h9) hm_a0 dX4_readAtom_53 ?_
      refine lv_iconst (v := 1) hx hb dX4_readAtom_56 (by decide) ?_
      refine lv_iadd hx hb dX4_readAtom_57 ?_
      refine lv_topi (fun x15 ex15 => ?_)
      have t16 : x15.toInt = a0.toInt + 1 := ti_add ex15 rfl (by decide) (by omega) (by omega)
      refine tw_put (v := .int x15) (ty := .int) hx hb hts bF2_X4 tyX4 tyX4_ok nmX4 hown hK hT hG hS hr_o0 shc_152 rfl 13 (by decide) (ht_at2 hts 1 rfl) (fun _ h9 => h9) rfl (by decide +kernel) rfl rfl (gl_at rfl (gi_of (show x15.toInt = x15.toInt from rfl) (by omega) (by omega))) dX4_readAtom_58 (fun H locs hT oq m17 oj hS => ?_)
      have hF := hF.put hr_o0 skc_152 oq oj (by decide)
      have m18 := (oj 0 (by decide) (by decide)).trans hm_th
      have m19 := (oj 12 (by decide) (by decide)).trans hm_s0
      have m20 := (oj 9 (by decide) (by decide)).trans hm_sp9
      have m21 := hc_vT.kept (oq _ (gne hr_th hr_o0 (by decide)))
      have m22 := hc_vS.kept (oq _ (gne hr_sp9 hr_o0 (by decide)))
      have m23 := (el_kept (oq _ (gne hr_th hr_o0 (by decide)))).trans hm_tv
      refine lv_iload_n hx hb dX4_readAtom_61 rfl (lv_at hl 0 rfl) ?_
      refine lv_if_eq (tgt := 81) hx hb dX4_readAtom_62 (by decide) (fun c25 => ?_) (fun c25 => absurd c25 (by decide))
      refine lv_aload_n hx hb dX4_readAtom_81 rfl (lv_at hl 1 rfl) ?_
      refine lv_iload_n hx hb dX4_readAtom_82 rfl (lv_at hl 2 rfl) ?_
      refine lv_iconst (v := 1) hx hb dX4_readAtom_83 (by decide) ?_
      refine lv_iadd hx hb dX4_readAtom_84 ?_
      refine lv_topi (fun x26 ex26 => ?_)
      obtain rfl : x26 = 3 := ex26.trans (by decide)
      have hFc := gA_free hG hA hS
      refine va_calli (va_runV (As := [.int 3]) (rest := []) ⟨hx, hb, hml, hown, hts⟩ (c_readAny3 l dC dI kA adK adV G H nC nS o0 th x15 s0 sp9 vT vS tv ix_tv ix_tv K X pS hT hr_o0 m18 hr_th m17 m19 m20 hr_sp9 (by have q8 := ti_all ix_tv; omega) (by have q8 := ti_all x15; omega) (by have := (show x15.toInt = x15.toInt from rfl); have := (show ix_tv.toInt = ix_tv.toInt from rfl); omega) (fun m hm => hKK m (Nat.le_trans hm (Nat.le_of_eq (tn_same hx_tv rfl rfl)))) (fun m hm => hXX m (Nat.lt_of_lt_of_eq hm (tn_same hx_tv rfl rfl))) (by have q8 := ti_all s0; omega) (by have := (show s0.toInt = s0.toInt from rfl); have := (show x15.toInt = x15.toInt from rfl); omega) m21 m22 (by have q9 := (show ix_tv.toInt = ix_tv.toInt from rfl); have := (show ix_tv.toInt = ix_tv.toInt from rfl); omega) m23 (by have q8 := ti_all tv; omega) (by omega) (by omega)) (cwV 1 hts (goodIn_app (goodIn_r _ [35, 36, 37, 15] rfl (by decide +kernel)) (goodIn_ca (goodIn_r _ [3, 4, 5, 1, 2, 3, 6, 7, 8, 9, 10, 11, 12, 13, 14, 15, 16, 17, 18, 19, 20, 21, 22, 23, 24, 25, 26, 27, 28, 29, 30, 31, 32, 33, 34, 35, 36, 37] rfl (by decide +kernel)) (bs2_in _ _))) rfl rfl rfl (by decide +kernel) ⟨(Nat.le_of_ble_eq_true rfl), (Nat.le_of_ble_eq_true rfl)⟩) ⟨fun a U g mk q => by obtain ⟨q0, q1, qK, qE⟩ := q; exact ⟨q0, q1, va_K.moved (u := U) (U := U.calling g mk a) (Vm.Alike.refl U.vm) qK, EVC.blind g mk a qE⟩, gH_rc hK hT hr_o0 shc_152 rfl, fun U hU hW => ⟨rfl, hU, va_K.moved hW.alike hK, hE.call hS hFc hU hW⟩⟩ rfl rfl hl.1 rfl (lv_room (Nat.le_of_ble_eq_true rfl)) dX4_readAtom_85 ⟨(Nat.le_of_ble_eq_true rfl), (Nat.le_of_ble_eq_true rfl)⟩) hS (fun q _ h => hFc q h) hFc (fun r27 u t H locs ht hvm hw28 hB _ _ hS => ?_)
      obtain ⟨u29, u30, u31⟩ := u
      obtain ⟨hT, hF1, m32, m33, m34⟩ := hB
      rw [ht] at hT hF1 m32 m33 m34
      have m35 := (hF1.fld hr_o0 skc_152 (k := 0) (by decide) (by decide)).trans m18
      have m38 := m21.kept (hF1.arr hr_th skc_153 (by decide))
      have m40 := (el_kept (hF1.arr hr_th skc_153 (by decide))).trans m23
      have hF := hF.more hF1 (by decide)
      try dsimp only at hw28
      obtain ⟨h43, h44, h45, hf46, hf47, hf48, hf49, hf50⟩ := hw28
      refine lv_if_eq (tgt := 104) hx hb dX4_readAtom_88 (by decide) (fun c51 => ?_) (fun c51 => ?_)
      · have t52 : r27.toInt = 0 := ti_eq c51 rfl (by decide)
        refine lv_iconst (v := 0) hx hb dX4_readAtom_104 (by decide) ?_
        exact W.zret (v := 0) hx hb hr (by decide) (fun t ht hW => ⟨⟨0, (u29, u30, u31), rfl, (by exact ⟨(by have q8 := ti_all u29; omega), (by have q8 := ti_all u30; omega), (rg_t (a := 0) (by decide) (by first | decide | omega) (by first | decide | omega)), (by omega), (by omega), (by have h9 := hf48; rw [(show pS x15.toNatClampNeg = X (pS a0.toNatClampNeg) from by rw [show x15.toNatClampNeg = a0.toNatClampNeg + 1 from by have := tn_of (show a0.toInt = a0.toInt from rfl) (by omega); have := tn_of (show x15.toInt = x15.toInt from rfl) (by omega); omega]; exact hXX _ (by have := tn_of (show a0.toInt = a0.toInt from rfl) (by omega); have := tn_of (show tn.toInt = tn.toInt from rfl) (by omega); omega))] at h9; rw [show r27.toInt = 0 from by omega] at h9; exact Or.inr (Or.inl ⟨by omega, Or.inl ⟨h9, by decide⟩⟩)), (zKp.rf.tr hf49 (by have := tn_of (show s0.toInt = s0.toInt from rfl) (by omega); omega)), (fun h8 => absurd h8 (by decide))⟩), by (try dsimp only); rw [ht]; exact ⟨hT, hF, m32, m33, m34⟩⟩, hS.F ht⟩) hS.2.2 dX4_readAtom_105
      · have t53 : r27.toInt ≠ 0 := ti_ne c51 rfl (by decide)
        refine lv_aload_n hx hb dX4_readAtom_91 rfl (lv_at hl 1 rfl) ?_
        refine lv_bipush (v := 17) hx hb dX4_readAtom_92 (by decide) ?_
        have hFc := gA_free hG hA hS
        refine va_calli (va_runV (As := [.int 17]) (rest := []) ⟨hx, hb, hml, hown, hts⟩ (c_take l dC dI kA adK adV G H nC nS o0 17 th u29 vT tv ix_tv ix_tv K X pS hT hr_o0 m35 hr_th m32 (by have q8 := ti_all ix_tv; omega) (by have q8 := ti_all u29; omega) (by have := (show u29.toInt = u29.toInt from rfl); have := (show ix_tv.toInt = ix_tv.toInt from rfl); omega) (by have := (show (17 : Int32).toInt = 17 from (by decide)); omega) (fun m hm => hKK m (Nat.le_trans hm (Nat.le_of_eq (tn_same hx_tv rfl rfl)))) (fun m hm => hXX m (Nat.lt_of_lt_of_eq hm (tn_same hx_tv rfl rfl))) m38 (by have q9 := (show ix_tv.toInt = ix_tv.toInt from rfl); have := (show ix_tv.toInt = ix_tv.toInt from rfl); omega) m40 (by have q8 := ti_all tv; omega) (by omega) (by omega)) (cwV 1 hts (goodIn_app (goodIn_r _ [20, 21, 22, 15] rfl (by decide +kernel)) (goodIn_ca (goodIn_r _ [19, 1, 2] rfl (by decide +kernel)) (bs2_in _ _))) rfl rfl rfl (by decide +kernel) ⟨(Nat.le_of_ble_eq_true rfl), (Nat.le_of_ble_eq_true rfl)⟩) ⟨fun a U g mk q => by obtain ⟨q0, q1, qK, qE⟩ := q; exact ⟨q0, q1, va_K.moved (u := U) (U := U.calling g mk a) (Vm.Alike.refl U.vm) qK, EVC.blind g mk a qE⟩, gH_rc hK hT hr_o0 shc_152 rfl, fun U hU hW => ⟨rfl, hU, va_K.moved hW.alike hK, hE.call hS hFc hU hW⟩⟩ rfl rfl hl.1 rfl (lv_room (Nat.le_of_ble_eq_true rfl)) dX4_readAtom_94 ⟨(Nat.le_of_ble_eq_true rfl), (Nat.le_of_ble_eq_true rfl)⟩) hS (fun q _ h => hFc q h) hFc (fun r54 u t H locs ht hvm hw55 hB _ _ hS => ?_)
        obtain ⟨u56, rfl⟩ : ∃ z, z = u := ⟨_, rfl⟩
        obtain ⟨hT, hF1, m57⟩ := hB
        rw [ht] at hT hF1 m57
        have m64 := (hF1.fld hr_o0 skc_152 (k := 12) (by decide) (by decide)).trans m33
        have m65 := m34.kept (hF1.arr hr_sp9 skc_162 (by decide))
        have hF := hF.more hF1 (by decide)
        try dsimp only at hw55
        obtain ⟨h66, h67, hf68, hf69, hf70⟩ := hw55
        refine lv_if_eq (tgt := 104) hx hb dX4_readAtom_97 (by decide) (fun c71 => ?_) (fun c71 => ?_)
        · have t72 : r54.toInt = 0 := ti_eq c71 rfl (by decide)
          refine lv_iconst (v := 0) hx hb dX4_readAtom_104 (by decide) ?_
          exact W.zret (v := 0) hx hb hr (by decide) (fun t ht hW => ⟨⟨0, (u56, u30, u31), rfl, (by exact ⟨(by have q8 := ti_all u56; omega), (by have q8 := ti_all u30; omega), (rg_t (a := 0) (by decide) (by first | decide | omega) (by first | decide | omega)), (by omega), (by omega), (by have h9 := hf48; rw [(show pS x15.toNatClampNeg = X (pS a0.toNatClampNeg) from by rw [show x15.toNatClampNeg = a0.toNatClampNeg + 1 from by have := tn_of (show a0.toInt = a0.toInt from rfl) (by omega); have := tn_of (show x15.toInt = x15.toInt from rfl) (by omega); omega]; exact hXX _ (by have := tn_of (show a0.toInt = a0.toInt from rfl) (by omega); have := tn_of (show tn.toInt = tn.toInt from rfl) (by omega); omega))] at h9; rw [show r27.toInt = 1 from by omega] at h9; have t9 := hf69; exact Or.inr (Or.inl ⟨by omega, Or.inr ⟨_, h9, (by have q0 : (0 : Int32).toInt = 0 := (by decide); have q1 : (1 : Int32).toInt = 1 := (by decide); rcases t9 with ⟨x1, x2, x3⟩ | ⟨x1, x2, x3⟩; (exact Or.inl ⟨x1.trans (by decide), by omega, x3⟩); exact Or.inr ⟨fun h7 => x1 (h7.trans (by decide)), by omega, x3⟩)⟩⟩)), (zKp.rf.tr hf49 (by have := tn_of (show s0.toInt = s0.toInt from rfl) (by omega); omega)), (fun h8 => absurd h8 (by decide))⟩), by (try dsimp only); rw [ht]; exact ⟨hT, hF, m57, m64, m65⟩⟩, hS.F ht⟩) hS.2.2 dX4_readAtom_105
        · have t73 : r54.toInt ≠ 0 := ti_ne c71 rfl (by decide)
          refine lv_iconst (v := 1) hx hb dX4_readAtom_100 (by decide) ?_
          refine lv_goto (tgt := 105) hx hb dX4_readAtom_101 (by decide) ?_
          exact W.zret (v := 1) hx hb hr (by decide) (fun t ht hW => ⟨⟨1, (u56, u30, u31), rfl, (by exact ⟨(by have q8 := ti_all u56; omega), (by have q8 := ti_all u30; omega), (rg_t (a := 1) (by decide) (by first | decide | omega) (by first | decide | omega)), (by omega), (by omega), (by have h9 := hf48; rw [(show pS x15.toNatClampNeg = X (pS a0.toNatClampNeg) from by rw [show x15.toNatClampNeg = a0.toNatClampNeg + 1 from by have := tn_of (show a0.toInt = a0.toInt from rfl) (by omega); have := tn_of (show x15.toInt = x15.toInt from rfl) (by omega); omega]; exact hXX _ (by have := tn_of (show a0.toInt = a0.toInt from rfl) (by omega); have := tn_of (show tn.toInt = tn.toInt from rfl) (by omega); omega))] at h9; rw [show r27.toInt = 1 from by omega] at h9; have t9 := hf69; exact Or.inr (Or.inl ⟨by omega, Or.inr ⟨_, h9, (by have q0 : (0 : Int32).toInt = 0 := (by decide); have q1 : (1 : Int32).toInt = 1 := (by decide); rcases t9 with ⟨x1, x2, x3⟩ | ⟨x1, x2, x3⟩; (exact Or.inl ⟨x1.trans (by decide), by omega, x3⟩); exact Or.inr ⟨fun h7 => x1 (h7.trans (by decide)), by omega, x3⟩)⟩⟩)), (zKp.rf.tr hf49 (by have := tn_of (show s0.toInt = s0.toInt from rfl) (by omega); omega)), (fun h8 => by have h9 := hf50 (by omega); rw [(show pS x15.toNatClampNeg = X (pS a0.toNatClampNeg) from by rw [show x15.toNatClampNeg = a0.toNatClampNeg + 1 from by have := tn_of (show a0.toInt = a0.toInt from rfl) (by omega); have := tn_of (show x15.toInt = x15.toInt from rfl) (by omega); omega]; exact hXX _ (by have := tn_of (show a0.toInt = a0.toInt from rfl) (by omega); have := tn_of (show tn.toInt = tn.toInt from rfl) (by omega); omega))] at h9; have t9 := hf69.resolve_right (fun h7 => by have := h7.2.1; omega); exact Or.inr (Or.inl ⟨by omega, _, h9, t9.1.trans (by decide), t9.2.2⟩))⟩), by (try dsimp only); rw [ht]; exact ⟨hT, hF, m57, m64, m65⟩⟩, hS.F ht⟩) hS.2.2 dX4_readAtom_105
    · have t74 : x2.toInt ≠ 16 := ti_ne c12 rfl (by decide)
      refine lv_aload_n hx hb dX4_readAtom_38 rfl (lv_at hl 1 rfl) ?_
      have hFc := gA_free hG hA hS
      refine va_calli (va_runV (As := []) (rest := []) ⟨hx, hb, hml, hown, hts⟩ (c_readComparison l dC dI kA adK adV G s.heap nC nS o0 th a0 s0 sp9 vT vS tv ix_tv ix_tv K X pS hT hr_o0 hm_th hr_th hm_a0 hm_s0 hm_sp9 hr_sp9 (by have q8 := ti_all ix_tv; omega) (by have q8 := ti_all a0; omega) (by have := (show a0.toInt = a0.toInt from rfl); have := (show ix_tv.toInt = ix_tv.toInt from rfl); omega) (fun m hm => hKK m (Nat.le_trans hm (Nat.le_of_eq (tn_same hx_tv rfl rfl)))) (fun m hm => hXX m (Nat.lt_of_lt_of_eq hm (tn_same hx_tv rfl rfl))) (by have q8 := ti_all s0; omega) (by have := (show s0.toInt = s0.toInt from rfl); have := (show a0.toInt = a0.toInt from rfl); omega) hc_vT hc_vS (by have q9 := (show ix_tv.toInt = ix_tv.toInt from rfl); have := (show ix_tv.toInt = ix_tv.toInt from rfl); omega) hm_tv (by have q8 := ti_all tv; omega) (by omega) (by omega)) (cwV 0 hts (goodIn_app (goodIn_r _ [26, 27, 28, 15] rfl (by decide +kernel)) (goodIn_ca (goodIn_r _ [6, 7, 8, 1, 2, 9, 10, 11, 12, 13, 14, 15, 16, 17, 18, 19, 20, 21, 22, 23, 24, 25] rfl (by decide +kernel)) (bs2_in _ _))) rfl rfl rfl (by decide +kernel) ⟨(Nat.le_of_ble_eq_true rfl), (Nat.le_of_ble_eq_true rfl)⟩) ⟨fun a U g mk q => by obtain ⟨q0, q1, qK, qE⟩ := q; exact ⟨q0, q1, va_K.moved (u := U) (U := U.calling g mk a) (Vm.Alike.refl U.vm) qK, EVC.blind g mk a qE⟩, gH_rc hK hT hr_o0 shc_152 rfl, fun U hU hW => ⟨rfl, hU, va_K.moved hW.alike hK, hE.call hS hFc hU hW⟩⟩ rfl rfl hl.1 rfl (lv_room (Nat.le_of_ble_eq_true rfl)) dX4_readAtom_39 ⟨(Nat.le_of_ble_eq_true rfl), (Nat.le_of_ble_eq_true rfl)⟩) hS (fun q _ h => hFc q h) hFc (fun r75 u t H locs ht hvm hw76 hB _ _ hS => ?_)
      obtain ⟨u77, u78, u79⟩ := u
      obtain ⟨hT, hF1, m80, m81, m82⟩ := hB
      rw [ht] at hT hF1 m80 m81 m82
      have hF := hF.more hF1 (by decide)
      try dsimp only at hw76
      obtain ⟨h91, h92, h93, hf94, hf95, hf96, hf97, hf98⟩ := hw76
      exact W.zret (v := r75) hx hb hr (nar_b (by have q8 := ti_all r75; omega)) (fun t ht hW => ⟨⟨r75, (u77, u78, u79), rfl, (by exact ⟨(by have q8 := ti_all u77; omega), (by have q8 := ti_all u78; omega), (by have q8 := ti_all r75; omega), (by omega), (by omega), (Or.inr (Or.inr ⟨by omega, hf96⟩)), (zKp.rf.tr hf97 (by have := tn_of (show s0.toInt = s0.toInt from rfl) (by omega); omega)), (fun h8 => Or.inr (Or.inr ⟨by omega, hf98 h8⟩))⟩), by (try dsimp only); rw [ht]; exact ⟨hT, hF, m80, m81, m82⟩⟩, hS.F ht⟩) hS.2.2 dX4_readAtom_42
  · have t99 : x2.toInt = 13 := ti_eq c6 rfl (by decide)
    refine lv_iconst (v := 1) hx hb dX4_readAtom_14 (by decide) ?_
    refine lv_goto (tgt := 19) hx hb dX4_readAtom_15 (by decide) ?_
    refine lv_istore_n (lv' := [(2, .int 1), (0, .ref o0), (1, .int 2)]) hx hb dX4_readAtom_19 rfl hl (by decide) rfl (fun ls hl => ?_)
    refine lv_iload_n hx hb dX4_readAtom_20 rfl (lv_at hl 0 rfl) ?_
    refine lv_if_ne (tgt := 43) hx hb dX4_readAtom_21 (by decide) (fun c100 => ?_) (fun c100 => absurd c100 (by decide))
    refine lv_iload_n hx hb dX4_readAtom_43 rfl (lv_at hl 2 rfl) ?_
    refine lv_bipush (v := 6) hx hb dX4_readAtom_44 (by decide) ?_
    refine lv_icmp_lt (tgt := 51) hx hb dX4_readAtom_46 (by decide) (fun c101 => ?_) (fun c101 => absurd c101 (by decide))
    refine lv_aload_n hx hb dX4_readAtom_51 rfl (lv_at hl 1 rfl) ?_
    refine lv_dup hx hb dX4_readAtom_52 rfl ?_
    refine tw_getM (v := .int a0) hx hb hts bF2_X4 hown hK hT hr_o0 shc_152 rfl 13 (by decide) (ht_at2 hts 1 rfl) (fun _ h9 => h9) hm_a0 dX4_readAtom_53 ?_
    refine lv_iconst (v := 1) hx hb dX4_readAtom_56 (by decide) ?_
    refine lv_iadd hx hb dX4_readAtom_57 ?_
    refine lv_topi (fun x102 ex102 => ?_)
    have t103 : x102.toInt = a0.toInt + 1 := ti_add ex102 rfl (by decide) (by omega) (by omega)
    refine tw_put (v := .int x102) (ty := .int) hx hb hts bF2_X4 tyX4 tyX4_ok nmX4 hown hK hT hG hS hr_o0 shc_152 rfl 13 (by decide) (ht_at2 hts 1 rfl) (fun _ h9 => h9) rfl (by decide +kernel) rfl rfl (gl_at rfl (gi_of (show x102.toInt = x102.toInt from rfl) (by omega) (by omega))) dX4_readAtom_58 (fun H locs hT oq m104 oj hS => ?_)
    have hF := hF.put hr_o0 skc_152 oq oj (by decide)
    have m105 := (oj 0 (by decide) (by decide)).trans hm_th
    have m106 := (oj 12 (by decide) (by decide)).trans hm_s0
    have m107 := (oj 9 (by decide) (by decide)).trans hm_sp9
    have m108 := hc_vT.kept (oq _ (gne hr_th hr_o0 (by decide)))
    have m109 := hc_vS.kept (oq _ (gne hr_sp9 hr_o0 (by decide)))
    have m110 := (el_kept (oq _ (gne hr_th hr_o0 (by decide)))).trans hm_tv
    refine lv_iload_n hx hb dX4_readAtom_61 rfl (lv_at hl 0 rfl) ?_
    refine lv_if_eq (tgt := 81) hx hb dX4_readAtom_62 (by decide) (fun c112 => absurd c112 (by decide)) (fun c112 => ?_)
    refine lv_aload_n hx hb dX4_readAtom_65 rfl (lv_at hl 1 rfl) ?_
    refine lv_iload_n hx hb dX4_readAtom_66 rfl (lv_at hl 2 rfl) ?_
    refine lv_iconst (v := 1) hx hb dX4_readAtom_67 (by decide) ?_
    refine lv_iadd hx hb dX4_readAtom_68 ?_
    refine lv_topi (fun x113 ex113 => ?_)
    obtain rfl : x113 = 3 := ex113.trans (by decide)
    have hFc := gA_free hG hA hS
    refine va_calli (va_runV (As := [.int 3]) (rest := []) ⟨hx, hb, hml, hown, hts⟩ (c_readAtom3 l dC dI kA adK adV G H nC nS o0 th x102 s0 sp9 vT vS tv ix_tv ix_tv K X pS hT hr_o0 m105 hr_th m104 m106 m107 hr_sp9 (by have q8 := ti_all ix_tv; omega) (by have q8 := ti_all x102; omega) (by have := (show x102.toInt = x102.toInt from rfl); have := (show ix_tv.toInt = ix_tv.toInt from rfl); omega) (fun m hm => hKK m (Nat.le_trans hm (Nat.le_of_eq (tn_same hx_tv rfl rfl)))) (fun m hm => hXX m (Nat.lt_of_lt_of_eq hm (tn_same hx_tv rfl rfl))) (by have q8 := ti_all s0; omega) (by have := (show s0.toInt = s0.toInt from rfl); have := (show x102.toInt = x102.toInt from rfl); omega) m108 m109 (by have q9 := (show ix_tv.toInt = ix_tv.toInt from rfl); have := (show ix_tv.toInt = ix_tv.toInt from rfl); omega) m110 (by have q8 := ti_all tv; omega) (by omega) (by omega)) (cwV 1 hts (goodIn_app (goodIn_r _ [29, 30, 31, 15] rfl (by decide +kernel)) (goodIn_ca (goodIn_r _ [5, 1, 2, 3, 4, 5, 6, 7, 8, 9, 10, 11, 12, 13, 14, 15, 16, 17, 18, 19, 20, 21, 22, 23, 24, 25, 26, 27, 28, 29, 30, 31, 32, 33, 34, 35, 36, 37] rfl (by decide +kernel)) (bs2_in _ _))) rfl rfl rfl (by decide +kernel) ⟨(Nat.le_of_ble_eq_true rfl), (Nat.le_of_ble_eq_true rfl)⟩) ⟨fun a U g mk q => by obtain ⟨q0, q1, qK, qE⟩ := q; exact ⟨q0, q1, va_K.moved (u := U) (U := U.calling g mk a) (Vm.Alike.refl U.vm) qK, EVC.blind g mk a qE⟩, gH_rc hK hT hr_o0 shc_152 rfl, fun U hU hW => ⟨rfl, hU, va_K.moved hW.alike hK, hE.call hS hFc hU hW⟩⟩ rfl rfl hl.1 rfl (lv_room (Nat.le_of_ble_eq_true rfl)) dX4_readAtom_69 ⟨(Nat.le_of_ble_eq_true rfl), (Nat.le_of_ble_eq_true rfl)⟩) hS (fun q _ h => hFc q h) hFc (fun r114 u t H locs ht hvm hw115 hB _ _ hS => ?_)
    obtain ⟨u116, u117, u118⟩ := u
    obtain ⟨hT, hF1, m119, m120, m121⟩ := hB
    rw [ht] at hT hF1 m119 m120 m121
    have m124 := (hF1.fld hr_o0 skc_152 (k := 9) (by decide) (by decide)).trans m107
    have hF := hF.more hF1 (by decide)
    try dsimp only at hw115
    obtain ⟨h130, h131, h132, hf133, hf134, hf135, hf136, hf137⟩ := hw115
    refine lv_istore_n (lv' := [(3, .int r114), (2, .int 1), (0, .ref o0), (1, .int 2)]) hx hb dX4_readAtom_72 rfl hl (by decide) rfl (fun ls hl => ?_)
    refine lv_aload_n hx hb dX4_readAtom_73 rfl (lv_at hl 2 rfl) ?_
    refine lv_bipush (v := 13) hx hb dX4_readAtom_74 (by decide) ?_
    have hFc := gA_free hG hA hS
    refine va_callv (va_runV (As := [.int 13]) (rest := []) ⟨hx, hb, hml, hown, hts⟩ (c_addStep l dC dI kA adK adV G H nC nS o0 13 u117 sp9 u118 hT hr_o0 m120 m124 hr_sp9 (rg_t (a := 13) (by decide) (by first | decide | omega) (by first | decide | omega)) (by have q8 := ti_all u117; omega) m121 (by omega) (by omega)) (cwV 1 hts (goodIn_app (goodIn_r _ [12, 13, 14, 15] rfl (by decide +kernel)) (goodIn_ca (goodIn_r _ [9, 10, 11] rfl (by decide +kernel)) (bs2_in _ _))) rfl rfl rfl (by decide +kernel) ⟨(Nat.le_of_ble_eq_true rfl), (Nat.le_of_ble_eq_true rfl)⟩) ⟨fun a U g mk q => by obtain ⟨q0, q1, qK, qE⟩ := q; exact ⟨q0, q1, va_K.moved (u := U) (U := U.calling g mk a) (Vm.Alike.refl U.vm) qK, EVC.blind g mk a qE⟩, gH_rc hK hT hr_o0 shc_152 rfl, fun U hU hW => ⟨rfl, hU, va_K.moved hW.alike hK, hE.call hS hFc hU hW⟩⟩ rfl rfl hl.1 rfl (lv_room (Nat.le_of_ble_eq_true rfl)) dX4_readAtom_76 ⟨(Nat.le_of_ble_eq_true rfl), (Nat.le_of_ble_eq_true rfl)⟩) hS (fun q _ h => hFc q h) hFc (fun u t H locs ht hvm hw139 hB _ _ hS => ?_)
    obtain ⟨u140, rfl⟩ : ∃ z, z = u := ⟨_, rfl⟩
    obtain ⟨hT, hF1, m141, m142⟩ := hB
    rw [ht] at hT hF1 m141 m142
    have m148 := (hF1.fld hr_o0 skc_152 (k := 13) (by decide) (by decide)).trans m119
    have hF := hF.more hF1 (by decide)
    try dsimp only at hw139
    obtain ⟨h151, hf152⟩ := hw139
    refine lv_iload_n hx hb dX4_readAtom_79 rfl (lv_at hl 0 rfl) ?_
    exact W.zret (v := r114) hx hb hr (nar_b (by have q8 := ti_all r114; omega)) (fun t ht hW => ⟨⟨r114, (u116, u140, (cu u118 u117.toNatClampNeg 13)), rfl, (by exact ⟨(by have q8 := ti_all u116; omega), (by have q8 := ti_all u140; omega), (by have q8 := ti_all r114; omega), (by omega), (by omega), (by have h9 := hf135; rw [(show pS x102.toNatClampNeg = X (pS a0.toNatClampNeg) from by rw [show x102.toNatClampNeg = a0.toNatClampNeg + 1 from by have := tn_of (show a0.toInt = a0.toInt from rfl) (by omega); have := tn_of (show x102.toInt = x102.toInt from rfl) (by omega); omega]; exact hXX _ (by have := tn_of (show a0.toInt = a0.toInt from rfl) (by omega); have := tn_of (show tn.toInt = tn.toInt from rfl) (by omega); omega))] at h9; exact Or.inl ⟨by omega, h9⟩), ((zKp.rf.tr hf136 (by have := tn_of (show s0.toInt = s0.toInt from rfl) (by omega); omega)).st (by have := tn_of (show s0.toInt = s0.toInt from rfl) (by omega); have := tn_of (show u117.toInt = u117.toInt from rfl) (by omega); omega)), (fun h8 => by have := tn_of (show s0.toInt = s0.toInt from rfl) (by omega); have := tn_of (show u117.toInt = u117.toInt from rfl) (by omega); have := tn_of (show u140.toInt = u140.toInt from rfl) (by omega); have h9 := hf137 h8; rw [(show pS x102.toNatClampNeg = X (pS a0.toNatClampNeg) from by rw [show x102.toNatClampNeg = a0.toNatClampNeg + 1 from by have := tn_of (show a0.toInt = a0.toInt from rfl) (by omega); have := tn_of (show x102.toInt = x102.toInt from rfl) (by omega); omega]; exact hXX _ (by have := tn_of (show a0.toInt = a0.toInt from rfl) (by omega); have := tn_of (show tn.toInt = tn.toInt from rfl) (by omega); omega))] at h9; exact Or.inl ⟨by omega, _, h9, zC_2 (s2 := u117.toNatClampNeg) (by omega) (by omega) rfl (by decide)⟩)⟩), by (try dsimp only); rw [ht]; exact ⟨hT, hF, m148, m141, m142⟩⟩, hS.F ht⟩) hS.2.2 dX4_readAtom_80
def w_c_readAll2 : List Cond := .code yX4_readAll cX4_readAll 4 (some .boolean) :: (HAppend.hAppend (α := List Cond) (β := List Cond) (γ := List Cond) [.code yX4_readAtom cX4_readAtom 4 (some .boolean), .fieldLink RX4 11 "SeaLand$Law" "things" "[I", .fieldLink RX4 56 "SeaLand$Law" "at" "I", .code yX4_readAny cX4_readAny 4 (some .boolean), .code yX4_readAll cX4_readAll 4 (some .boolean), .code yX4_readComparison cX4_readComparison 3 (some .boolean), .code yX4_readSum cX4_readSum 3 (some .boolean), .code yX4_readPart cX4_readPart 2 (some .boolean), .code yX4_addStep cX4_addStep 2 none, .fieldLink RX4 63 "SeaLand$Law" "stepped" "I", .fieldLink RX4 39 "SeaLand$Law" "steps" "[I", .methodLink RX4 179 yX4_addStep, .instanceMethod yX4_addStep, .selects RX4 yX4_addStep yX4_addStep, .initialized RX4, .methodLink RX4 192 yX4_readPart, .instanceMethod yX4_readPart, .selects RX4 yX4_readPart yX4_readPart, .code yX4_take cX4_take 2 (some .boolean), .methodLink RX4 70 yX4_take, .instanceMethod yX4_take, .selects RX4 yX4_take yX4_take, .methodLink RX4 189 yX4_readSum, .instanceMethod yX4_readSum, .selects RX4 yX4_readSum yX4_readSum, .methodLink RX4 186 yX4_readComparison, .instanceMethod yX4_readComparison, .selects RX4 yX4_readComparison yX4_readComparison, .methodLink RX4 183 yX4_readAtom, .instanceMethod yX4_readAtom, .selects RX4 yX4_readAtom yX4_readAtom, .methodLink RX4 176 yX4_readAll, .instanceMethod yX4_readAll, .selects RX4 yX4_readAll yX4_readAll, .methodLink RX4 173 yX4_readAny, .instanceMethod yX4_readAny, .selects RX4 yX4_readAny yX4_readAny] bs2)
set_option maxHeartbeats 4000000 in
set_option maxRecDepth 100000 in
theorem c_readAll2 (l : Launch) (dC : Nat → ClassId) (dI : Nat → Nat → Nat) (kA : Nat → ClassId) (adK adV : Nat → Nat) (G : gT) (H0 : Heap) (nC nS : Int) (o0 : Nat) (th : Nat) (a0 : Int32) (s0 : Int32) (sp9 : Nat) (vT : Nat → Int32) (vS : Nat → Int32) (tv ix_tv : Int32) (tn : Int32) (K : Nat → Int) (X pS : Nat → Nat) (hT : gH (dC, dI) kA (SHc nC nS) G H0) (hr_o0 : G o0 = some 152) (hm_th : el H0 o0 (dI 7 0) = some (.ref th)) (hr_th : G th = some 153) (hm_a0 : el H0 o0 (dI 7 13) = some (.int a0)) (hm_s0 : el H0 o0 (dI 7 12) = some (.int s0)) (hm_sp9 : el H0 o0 (dI 7 9) = some (.ref sp9)) (hr_sp9 : G sp9 = some 162) (hq0 : 0 ≤ tn.toInt ∧ tn.toInt ≤ 400) (hq1 : 0 ≤ a0.toInt ∧ a0.toInt ≤ 400) (hat : a0.toInt ≤ tn.toInt) (hKK : ∀ m : Nat, m ≤ tn.toNatClampNeg → (vT m).toInt = K (pS m)) (hXX : ∀ m : Nat, m < tn.toNatClampNeg → pS (m + 1) = X (pS m)) (hq5 : 0 ≤ s0.toInt ∧ s0.toInt ≤ 400) (hsa : s0.toInt ≤ a0.toInt) (hc_vT : ct H0 th 401 vT) (hc_vS : ct H0 sp9 400 vS) (hx_tv : ix_tv.toInt = tn.toInt) (hm_tv : el H0 th ix_tv.toNatClampNeg = some (.int tv)) (hv_tv : 21 ≤ tv.toInt ∧ tv.toInt ≤ 21) (hgC : 0 ≤ nC ∧ nC ≤ 40) (hgS : 0 ≤ nS ∧ nS ≤ 60) : Met l yX4_readAll w_c_readAll2 ({ frames := 17, cells := 0, slots := 0, locals := 385 }) (va_Pc [.ref o0, .int 2] (fun U => U.heap = H0 ∧ va_K (dC, dI) vwCl (tyl kA) U ∧ EVC adK adV (gA G H0.size) U U.heap)) (va_Qi (fun (r : Int32) (u : Int32 × Int32 × (Nat → Int32)) => match u with | (a1, s1, vS1) => (0 ≤ a1.toInt ∧ a1.toInt ≤ 400) ∧ (0 ≤ s1.toInt ∧ s1.toInt ≤ 400) ∧ (0 ≤ r.toInt ∧ r.toInt ≤ 1) ∧ (a0.toInt ≤ a1.toInt ∧ a1.toInt ≤ tn.toInt) ∧ (s0.toInt ≤ s1.toInt ∧ s1.toInt - s0.toInt ≤ a1.toInt - a0.toInt) ∧ (lpR K X (aR K X 4) 14 (pS a0.toNatClampNeg) r.toInt (pS a1.toNatClampNeg)) ∧ (zKp vS vS1 s0.toNatClampNeg) ∧ (r.toInt = 1 → zlZ K X (zaZ K X 4) 14 (pS a0.toNatClampNeg) (zC (tz vS1) s0.toNatClampNeg s1.toNatClampNeg) (pS a1.toNatClampNeg))) (fun (u : Int32 × Int32 × (Nat → Int32)) (t : State) => match u with | (a1, s1, vS1) => gH (dC, dI) kA (SHc nC nS) G t.heap ∧ gF (dC, dI) SKc G ([(152, 12), (152, 13), (162, 0)] : List (Nat × Nat)) H0 t.heap ∧ el t.heap o0 (dI 7 13) = some (.int a1) ∧ el t.heap o0 (dI 7 12) = some (.int s1) ∧ ct t.heap sp9 400 vS1) (gA G H0.size)) 0 0 (gA G H0.size) := by
  refine Met.ofW (cc := cX4_readAll) (maxL := 4) (ret := (some .boolean)) (by decide) rfl ?_
  intro p e s m args below meth c s₁ B hml hv
  obtain ⟨rfl, hH0, hK, hE⟩ := hv
  have hx := B.exec
  have hb := B.bytes
  have hr := B.returns
  have hts := atoms_spec (ws := w_c_readAll2) B.pre
  have hown : s.vm.findClass RX4 = some m.cls := findClass_of_methodNamed B.named
  have hlocks := B.notSynchronized
  subst hH0
  generalize hAe : gA G s.heap.size = A at hE ⊢
  have hA : ∀ q : Nat, s.heap.size ≤ q → A q := fun q h => by rw [← hAe]; exact Or.inr h
  have hG := gA_of hAe
  have hS : va_S A s.heap s.heap [] := va_S.rf
  have hF : gF (dC, dI) SKc G ([(152, 12), (152, 13), (162, 0)] : List (Nat × Nat)) s.heap s.heap := gF.rf
  have hl := lv_entry ([.ref o0, .int 2]) (n := 4) (Nat.le_of_ble_eq_true rfl)
  rw [lg_entry_eq]
  generalize (lg_sl ([.ref o0, .int 2]) ++ List.replicate (4 - (lg_sl ([.ref o0, .int 2])).length) Slot.unset).toArray = ls at hl ⊢
  have hl : lv_has ls 4 [(0, .ref o0), (1, .int 2)] := hl
  refine lv_aload_n hx hb dX4_readAll_0 rfl (lv_at hl 0 rfl) ?_
  refine lv_iload_n hx hb dX4_readAll_1 rfl (lv_at hl 1 rfl) ?_
  have hFc := gA_free hG hA hS
  refine va_calli (va_runV (As := [.int 2]) (rest := []) ⟨hx, hb, hml, hown, hts⟩ (c_readAtom2 l dC dI kA adK adV G s.heap nC nS o0 th a0 s0 sp9 vT vS tv ix_tv ix_tv K X pS hT hr_o0 hm_th hr_th hm_a0 hm_s0 hm_sp9 hr_sp9 (by have q8 := ti_all ix_tv; omega) (by have q8 := ti_all a0; omega) (by have := (show a0.toInt = a0.toInt from rfl); have := (show ix_tv.toInt = ix_tv.toInt from rfl); omega) (fun m hm => hKK m (Nat.le_trans hm (Nat.le_of_eq (tn_same hx_tv rfl rfl)))) (fun m hm => hXX m (Nat.lt_of_lt_of_eq hm (tn_same hx_tv rfl rfl))) (by have q8 := ti_all s0; omega) (by have := (show s0.toInt = s0.toInt from rfl); have := (show a0.toInt = a0.toInt from rfl); omega) hc_vT hc_vS (by have q9 := (show ix_tv.toInt = ix_tv.toInt from rfl); have := (show ix_tv.toInt = ix_tv.toInt from rfl); omega) hm_tv (by have q8 := ti_all tv; omega) (by omega) (by omega)) (cwV 1 hts (goodIn_app (goodIn_r _ [29, 30, 31, 15] rfl (by decide +kernel)) (goodIn_ca (goodIn_r _ [1, 2, 3, 4, 5, 1, 6, 7, 8, 9, 10, 11, 12, 13, 14, 15, 16, 17, 18, 19, 20, 21, 22, 23, 24, 25, 26, 27, 28, 29, 30, 31, 32, 33, 34, 35, 36, 37] rfl (by decide +kernel)) (bs2_in _ _))) rfl rfl rfl (by decide +kernel) ⟨(Nat.le_of_ble_eq_true rfl), (Nat.le_of_ble_eq_true rfl)⟩) ⟨fun a U g mk q => by obtain ⟨q0, q1, qK, qE⟩ := q; exact ⟨q0, q1, va_K.moved (u := U) (U := U.calling g mk a) (Vm.Alike.refl U.vm) qK, EVC.blind g mk a qE⟩, gH_rc hK hT hr_o0 shc_152 rfl, fun U hU hW => ⟨rfl, hU, va_K.moved hW.alike hK, hE.call hS hFc hU hW⟩⟩ rfl rfl hl.1 rfl (lv_room (Nat.le_of_ble_eq_true rfl)) dX4_readAll_2 ⟨(Nat.le_of_ble_eq_true rfl), (Nat.le_of_ble_eq_true rfl)⟩) hS (fun q _ h => hFc q h) hFc (fun r1 u t H locs ht hvm hw2 hB _ _ hS => ?_)
  obtain ⟨u3, u4, u5⟩ := u
  obtain ⟨hT, hF1, m6, m7, m8⟩ := hB
  rw [ht] at hT hF1 m6 m7 m8
  have m9 := (hF1.fld hr_o0 skc_152 (k := 0) (by decide) (by decide)).trans hm_th
  have m12 := (hF1.fld hr_o0 skc_152 (k := 9) (by decide) (by decide)).trans hm_sp9
  have m13 := hc_vT.kept (hF1.arr hr_th skc_153 (by decide))
  have m15 := (el_kept (hF1.arr hr_th skc_153 (by decide))).trans hm_tv
  have hF := hF.more hF1 (by decide)
  try dsimp only at hw2
  obtain ⟨h16, h17, h18, hf19, hf20, hf21, hf22, hf23⟩ := hw2
  refine lv_istore_n (lv' := [(2, .int r1), (0, .ref o0), (1, .int 2)]) hx hb dX4_readAll_5 rfl hl (by decide) rfl (fun ls hl => ?_)
  refine lv_iconst (v := 0) hx hb dX4_readAll_6 (by decide) ?_
  refine lv_istore_n (lv' := [(3, .int 0), (2, .int r1), (0, .ref o0), (1, .int 2)]) hx hb dX4_readAll_7 rfl hl (by decide) rfl (fun ls hl => ?_)
  have key105 : ∀ (n105 i24 : Nat), i24 + n105 = 400 → 0 ≤ i24 → ∀ (z25 : Int32), ∀ (V28 : Nat → Int32), ∀ (z33 : Int32), ∀ (z36 : Int32), ((0 ≤ z25.toInt ∧ z25.toInt ≤ 1) ∧ (0 ≤ z33.toInt ∧ z33.toInt ≤ 400) ∧ (0 ≤ z36.toInt ∧ z36.toInt ≤ 400) ∧ (a0.toInt ≤ z33.toInt ∧ z33.toInt ≤ tn.toInt) ∧ (((z25.toInt = 1 ∧ ∀ (r : Int) (f : Nat), lpQ K X (aR K X 4) 14 (pS z33.toNatClampNeg) r f → lpR K X (aR K X 4) 14 (pS a0.toNatClampNeg) r f) ∨ (z25.toInt = 0 ∧ lpR K X (aR K X 4) 14 (pS a0.toNatClampNeg) 0 (pS z33.toNatClampNeg))) ∧ ((i24 : Nat) : Int) ≤ z33.toInt) ∧ (z25.toInt = 1 → zlI K X (zaZ K X 4) 14 (pS a0.toNatClampNeg) (zC (tz V28) s0.toNatClampNeg z36.toNatClampNeg) (pS z33.toNatClampNeg)) ∧ (zKp vS V28 s0.toNatClampNeg) ∧ (s0.toInt ≤ z36.toInt ∧ z36.toInt - s0.toInt ≤ z33.toInt - a0.toInt)) → ∀ (H : Heap) (locs : List Loc), gH (dC, dI) kA (SHc nC nS) G H → gF (dC, dI) SKc G ([(152, 12), (152, 13), (162, 0)] : List (Nat × Nat)) s.heap H → va_S A s.heap H locs → ct H th 401 vT → ct H sp9 400 V28 → el H o0 (dI 7 0) = some (.ref th) → el H o0 (dI 7 9) = some (.ref sp9) → el H th ix_tv.toNatClampNeg = some (.int tv) → el H o0 (dI 7 13) = some (.int z33) → el H o0 (dI 7 12) = some (.int z36) → ∀ ls : Array Slot, lv_has ls 4 [(3, .int (nI i24)), (2, .int z25), (0, .ref o0), (1, .int 2)] → W p l e (headSpec w_c_readAll2 ({ frames := 17, cells := 0, slots := 0, locals := 385 })).room s m #[.ref o0, .int 2] below meth c H locs 0 0 (MQ below (va_Qi (fun (r : Int32) (u : Int32 × Int32 × (Nat → Int32)) => match u with | (a1, s1, vS1) => (0 ≤ a1.toInt ∧ a1.toInt ≤ 400) ∧ (0 ≤ s1.toInt ∧ s1.toInt ≤ 400) ∧ (0 ≤ r.toInt ∧ r.toInt ≤ 1) ∧ (a0.toInt ≤ a1.toInt ∧ a1.toInt ≤ tn.toInt) ∧ (s0.toInt ≤ s1.toInt ∧ s1.toInt - s0.toInt ≤ a1.toInt - a0.toInt) ∧ (lpR K X (aR K X 4) 14 (pS a0.toNatClampNeg) r.toInt (pS a1.toNatClampNeg)) ∧ (zKp vS vS1 s0.toNatClampNeg) ∧ (r.toInt = 1 → zlZ K X (zaZ K X 4) 14 (pS a0.toNatClampNeg) (zC (tz vS1) s0.toNatClampNeg s1.toNatClampNeg) (pS a1.toNatClampNeg))) (fun (u : Int32 × Int32 × (Nat → Int32)) (t : State) => match u with | (a1, s1, vS1) => gH (dC, dI) kA (SHc nC nS) G t.heap ∧ gF (dC, dI) SKc G ([(152, 12), (152, 13), (162, 0)] : List (Nat × Nat)) s.heap t.heap ∧ el t.heap o0 (dI 7 13) = some (.int a1) ∧ el t.heap o0 (dI 7 12) = some (.int s1) ∧ ct t.heap sp9 400 vS1) A) #[.ref o0, .int 2] s 0 0 A) (F0 m 8 ls []) := by
    intro n105
    induction n105 with
    | zero =>
      intro i24 hn105 hlo106 z25 V28 z33 z36 ⟨h26, h34, h37, hj39, hj40, hj41, hj42, hj43⟩ H locs hT hF hS m27 m29 m30 m31 m32 m35 m38 ls hl
      obtain rfl : 400 = i24 := by omega
      refine lv_iload_n hx hb dX4_readAll_8 rfl (lv_at hl 0 rfl) ?_
      refine lv_sipush (v := 400) hx hb dX4_readAll_9 (by decide) ?_
      refine lv_icmp_ge (tgt := 46) hx hb dX4_readAll_12 (by decide) (fun c107 => ?_) (fun c107 => (by exfalso; have q9 : ((400 : Nat) : Int) < 400 := ti_nle c107 (by decide) (nI_toInt (by omega)); omega))
      have t108 : 400 ≤ ((400 : Nat) : Int) := ti_le c107 (by decide) (nI_toInt (by omega))
      refine lv_iload_n hx hb dX4_readAll_46 rfl (lv_at hl 1 rfl) ?_
      exact W.zret (v := z25) hx hb hr (nar_b (by have q8 := ti_all z25; omega)) (fun t ht hW => ⟨⟨z25, (z33, z36, V28), rfl, (by exact ⟨(by have q8 := ti_all z33; omega), (by have q8 := ti_all z36; omega), (by have q8 := ti_all z25; omega), (by omega), (by omega), (by rcases hj40.1 with ⟨h8, l9⟩ | ⟨h8, l9⟩; (rw [h8]; exact lp_e l9 (fun h7 => by have := tn_of (show z33.toInt = z33.toInt from rfl) (by omega); have := tn_of (show tn.toInt = tn.toInt from rfl) (by omega); have k9 := hKK tn.toNatClampNeg (Nat.le_refl _); have e9 := hc_vT.at hm_tv (by have q9 := tn_of hx_tv (by omega); omega); have k8 : (vT tn.toNatClampNeg).toInt = 21 := (by have q8 := congrArg Int32.toInt e9; rw [show ix_tv.toNatClampNeg = tn.toNatClampNeg from tn_same hx_tv rfl rfl] at q8; omega); rw [show z33.toNatClampNeg = tn.toNatClampNeg from by omega] at h7; omega)); rw [h8]; exact l9), hj42, (fun h8 => ⟨hj41 h8, fun h7 => by have := tn_of (show z33.toInt = z33.toInt from rfl) (by omega); have := tn_of (show tn.toInt = tn.toInt from rfl) (by omega); have k9 := hKK tn.toNatClampNeg (Nat.le_refl _); have e9 := hc_vT.at hm_tv (by have q9 := tn_of hx_tv (by omega); omega); have k8 : (vT tn.toNatClampNeg).toInt = 21 := (by have q8 := congrArg Int32.toInt e9; rw [show ix_tv.toNatClampNeg = tn.toNatClampNeg from tn_same hx_tv rfl rfl] at q8; omega); rw [show z33.toNatClampNeg = tn.toNatClampNeg from by omega] at h7; omega⟩)⟩), by (try dsimp only); rw [ht]; exact ⟨hT, hF, m35, m38, m29⟩⟩, hS.F ht⟩) hS.2.2 dX4_readAll_47
    | succ n105 ih105 =>
      intro i24 hn105 hlo106 z25 V28 z33 z36 ⟨h26, h34, h37, hj39, hj40, hj41, hj42, hj43⟩ H locs hT hF hS m27 m29 m30 m31 m32 m35 m38 ls hl
      have hlt108 : i24 < 400 := by omega
      refine lv_iload_n hx hb dX4_readAll_8 rfl (lv_at hl 0 rfl) ?_
      refine lv_sipush (v := 400) hx hb dX4_readAll_9 (by decide) ?_
      refine lv_icmp_ge (tgt := 46) hx hb dX4_readAll_12 (by decide) (fun c109 => (by exfalso; have q9 : 400 ≤ ((i24 : Nat) : Int) := ti_le c109 (by decide) (nI_toInt (by omega)); omega)) (fun c109 => ?_)
      have t110 : ((i24 : Nat) : Int) < 400 := ti_nle c109 (by decide) (nI_toInt (by omega))
      refine lv_iload_n hx hb dX4_readAll_15 rfl (lv_at hl 1 rfl) ?_
      refine lv_if_eq (tgt := 46) hx hb dX4_readAll_16 (by decide) (fun c111 => ?_) (fun c111 => ?_)
      · have t112 : z25.toInt = 0 := ti_eq c111 rfl (by decide)
        refine lv_iload_n hx hb dX4_readAll_46 rfl (lv_at hl 1 rfl) ?_
        exact W.zret (v := z25) hx hb hr (nar_b (by have q8 := ti_all z25; omega)) (fun t ht hW => ⟨⟨z25, (z33, z36, V28), rfl, (by exact ⟨(by have q8 := ti_all z33; omega), (by have q8 := ti_all z36; omega), (by have q8 := ti_all z25; omega), (by omega), (by omega), (by rcases hj40.1 with ⟨h8, l9⟩ | ⟨h8, l9⟩; (rw [h8]; exact lp_e l9 (fun h7 => by have := tn_of (show z33.toInt = z33.toInt from rfl) (by omega); have := tn_of (show tn.toInt = tn.toInt from rfl) (by omega); have k9 := hKK tn.toNatClampNeg (Nat.le_refl _); have e9 := hc_vT.at hm_tv (by have q9 := tn_of hx_tv (by omega); omega); have k8 : (vT tn.toNatClampNeg).toInt = 21 := (by have q8 := congrArg Int32.toInt e9; rw [show ix_tv.toNatClampNeg = tn.toNatClampNeg from tn_same hx_tv rfl rfl] at q8; omega); rw [show z33.toNatClampNeg = tn.toNatClampNeg from by omega] at h7; omega)); rw [h8]; exact l9), hj42, (fun h8 => ⟨hj41 h8, fun h7 => by have := tn_of (show z33.toInt = z33.toInt from rfl) (by omega); have := tn_of (show tn.toInt = tn.toInt from rfl) (by omega); have k9 := hKK tn.toNatClampNeg (Nat.le_refl _); have e9 := hc_vT.at hm_tv (by have q9 := tn_of hx_tv (by omega); omega); have k8 : (vT tn.toNatClampNeg).toInt = 21 := (by have q8 := congrArg Int32.toInt e9; rw [show ix_tv.toNatClampNeg = tn.toNatClampNeg from tn_same hx_tv rfl rfl] at q8; omega); rw [show z33.toNatClampNeg = tn.toNatClampNeg from by omega] at h7; omega⟩)⟩), by (try dsimp only); rw [ht]; exact ⟨hT, hF, m35, m38, m29⟩⟩, hS.F ht⟩) hS.2.2 dX4_readAll_47
      · have t113 : z25.toInt ≠ 0 := ti_ne c111 rfl (by decide)
        refine lv_aload_n hx hb dX4_readAll_19 rfl (lv_at hl 2 rfl) ?_
        refine lv_bipush (v := 14) hx hb dX4_readAll_20 (by decide) ?_
        have hFc := gA_free hG hA hS
        refine va_calli (va_runV (As := [.int 14]) (rest := []) ⟨hx, hb, hml, hown, hts⟩ (c_take l dC dI kA adK adV G H nC nS o0 14 th z33 vT tv ix_tv ix_tv K X pS hT hr_o0 m30 hr_th m35 (by have q8 := ti_all ix_tv; omega) (by have q8 := ti_all z33; omega) (by have := (show z33.toInt = z33.toInt from rfl); have := (show ix_tv.toInt = ix_tv.toInt from rfl); omega) (by have := (show (14 : Int32).toInt = 14 from (by decide)); omega) (fun m hm => hKK m (Nat.le_trans hm (Nat.le_of_eq (tn_same hx_tv rfl rfl)))) (fun m hm => hXX m (Nat.lt_of_lt_of_eq hm (tn_same hx_tv rfl rfl))) m27 (by have q9 := (show ix_tv.toInt = ix_tv.toInt from rfl); have := (show ix_tv.toInt = ix_tv.toInt from rfl); omega) m32 (by have q8 := ti_all tv; omega) (by omega) (by omega)) (cwV 1 hts (goodIn_app (goodIn_r _ [20, 21, 22, 15] rfl (by decide +kernel)) (goodIn_ca (goodIn_r _ [19, 2, 3] rfl (by decide +kernel)) (bs2_in _ _))) rfl rfl rfl (by decide +kernel) ⟨(Nat.le_of_ble_eq_true rfl), (Nat.le_of_ble_eq_true rfl)⟩) ⟨fun a U g mk q => by obtain ⟨q0, q1, qK, qE⟩ := q; exact ⟨q0, q1, va_K.moved (u := U) (U := U.calling g mk a) (Vm.Alike.refl U.vm) qK, EVC.blind g mk a qE⟩, gH_rc hK hT hr_o0 shc_152 rfl, fun U hU hW => ⟨rfl, hU, va_K.moved hW.alike hK, hE.call hS hFc hU hW⟩⟩ rfl rfl hl.1 rfl (lv_room (Nat.le_of_ble_eq_true rfl)) dX4_readAll_22 ⟨(Nat.le_of_ble_eq_true rfl), (Nat.le_of_ble_eq_true rfl)⟩) hS (fun q _ h => hFc q h) hFc (fun r114 u t H locs ht hvm hw115 hB _ _ hS => ?_)
        obtain ⟨u116, rfl⟩ : ∃ z, z = u := ⟨_, rfl⟩
        obtain ⟨hT, hF1, m117⟩ := hB
        rw [ht] at hT hF1 m117
        have m118 := m27.kept (hF1.arr hr_th skc_153 (by decide))
        have m119 := m29.kept (hF1.arr hr_sp9 skc_162 (by decide))
        have m120 := (hF1.fld hr_o0 skc_152 (k := 0) (by decide) (by decide)).trans m30
        have m121 := (hF1.fld hr_o0 skc_152 (k := 9) (by decide) (by decide)).trans m31
        have m122 := (el_kept (hF1.arr hr_th skc_153 (by decide))).trans m32
        have m124 := (hF1.fld hr_o0 skc_152 (k := 12) (by decide) (by decide)).trans m38
        have hF := hF.more hF1 (by decide)
        try dsimp only at hw115
        obtain ⟨h125, h126, hf127, hf128, hf129⟩ := hw115
        refine lv_if_eq (tgt := 46) hx hb dX4_readAll_25 (by decide) (fun c130 => ?_) (fun c130 => ?_)
        · have t131 : r114.toInt = 0 := ti_eq c130 rfl (by decide)
          refine lv_iload_n hx hb dX4_readAll_46 rfl (lv_at hl 1 rfl) ?_
          exact W.zret (v := z25) hx hb hr (nar_b (by have q8 := ti_all z25; omega)) (fun t ht hW => ⟨⟨z25, (u116, z36, V28), rfl, (by exact ⟨(by have q8 := ti_all u116; omega), (by have q8 := ti_all z36; omega), (by have q8 := ti_all z25; omega), (by omega), (by omega), (by have l9 := (hj40.1.resolve_right (fun h8 => by have := h8.1; omega)).2; have a9 := hf128.resolve_left (fun h8 => by have := h8.2.1; omega); rw [show z25.toInt = 1 from by omega, a9.2.2]; exact lp_e l9 (fun h7 => a9.1 (h7.trans (by decide)))), hj42, (fun h8 => ⟨by (try dsimp only); have a9 := hf128.resolve_left (fun h8 => by have := h8.2.1; omega); rw [a9.2.2]; exact hj41 h8, by (try dsimp only); have a9 := hf128.resolve_left (fun h8 => by have := h8.2.1; omega); rw [a9.2.2]; exact fun h7 => a9.1 (h7.trans (by decide))⟩)⟩), by (try dsimp only); rw [ht]; exact ⟨hT, hF, m117, m124, m119⟩⟩, hS.F ht⟩) hS.2.2 dX4_readAll_47
        · have t132 : r114.toInt ≠ 0 := ti_ne c130 rfl (by decide)
          refine lv_aload_n hx hb dX4_readAll_28 rfl (lv_at hl 2 rfl) ?_
          refine lv_iload_n hx hb dX4_readAll_29 rfl (lv_at hl 3 rfl) ?_
          have hFc := gA_free hG hA hS
          refine va_calli (va_runV (As := [.int 2]) (rest := []) ⟨hx, hb, hml, hown, hts⟩ (c_readAtom2 l dC dI kA adK adV G H nC nS o0 th u116 z36 sp9 vT V28 tv ix_tv ix_tv K X pS hT hr_o0 m120 hr_th m117 m124 m121 hr_sp9 (by have q8 := ti_all ix_tv; omega) (by have q8 := ti_all u116; omega) (by have := (show u116.toInt = u116.toInt from rfl); have := (show ix_tv.toInt = ix_tv.toInt from rfl); omega) (fun m hm => hKK m (Nat.le_trans hm (Nat.le_of_eq (tn_same hx_tv rfl rfl)))) (fun m hm => hXX m (Nat.lt_of_lt_of_eq hm (tn_same hx_tv rfl rfl))) (by have q8 := ti_all z36; omega) (by have := (show z36.toInt = z36.toInt from rfl); have := (show u116.toInt = u116.toInt from rfl); omega) m118 m119 (by have q9 := (show ix_tv.toInt = ix_tv.toInt from rfl); have := (show ix_tv.toInt = ix_tv.toInt from rfl); omega) m122 (by have q8 := ti_all tv; omega) (by omega) (by omega)) (cwV 1 hts (goodIn_app (goodIn_r _ [29, 30, 31, 15] rfl (by decide +kernel)) (goodIn_ca (goodIn_r _ [1, 2, 3, 4, 5, 1, 6, 7, 8, 9, 10, 11, 12, 13, 14, 15, 16, 17, 18, 19, 20, 21, 22, 23, 24, 25, 26, 27, 28, 29, 30, 31, 32, 33, 34, 35, 36, 37] rfl (by decide +kernel)) (bs2_in _ _))) rfl rfl rfl (by decide +kernel) ⟨(Nat.le_of_ble_eq_true rfl), (Nat.le_of_ble_eq_true rfl)⟩) ⟨fun a U g mk q => by obtain ⟨q0, q1, qK, qE⟩ := q; exact ⟨q0, q1, va_K.moved (u := U) (U := U.calling g mk a) (Vm.Alike.refl U.vm) qK, EVC.blind g mk a qE⟩, gH_rc hK hT hr_o0 shc_152 rfl, fun U hU hW => ⟨rfl, hU, va_K.moved hW.alike hK, hE.call hS hFc hU hW⟩⟩ rfl rfl hl.1 rfl (lv_room (Nat.le_of_ble_eq_true rfl)) dX4_readAll_30 ⟨(Nat.le_of_ble_eq_true rfl), (Nat.le_of_ble_eq_true rfl)⟩) hS (fun q _ h => hFc q h) hFc (fun r133 u t H locs ht hvm hw134 hB _ _ hS => ?_)
          obtain ⟨u135, u136, u137⟩ := u
          obtain ⟨hT, hF1, m138, m139, m140⟩ := hB
          rw [ht] at hT hF1 m138 m139 m140
          have m141 := m118.kept (hF1.arr hr_th skc_153 (by decide))
          have m143 := (hF1.fld hr_o0 skc_152 (k := 0) (by decide) (by decide)).trans m120
          have m144 := (hF1.fld hr_o0 skc_152 (k := 9) (by decide) (by decide)).trans m121
          have m145 := (el_kept (hF1.arr hr_th skc_153 (by decide))).trans m122
          have hF := hF.more hF1 (by decide)
          try dsimp only at hw134
          obtain ⟨h148, h149, h150, hf151, hf152, hf153, hf154, hf155⟩ := hw134
          refine lv_istore_n (lv' := [(2, .int r133), (3, .int (nI i24)), (0, .ref o0), (1, .int 2)]) hx hb dX4_readAll_33 rfl hl (by decide) rfl (fun ls hl => ?_)
          refine lv_aload_n hx hb dX4_readAll_34 rfl (lv_at hl 2 rfl) ?_
          refine lv_bipush (v := 14) hx hb dX4_readAll_35 (by decide) ?_
          have hFc := gA_free hG hA hS
          refine va_callv (va_runV (As := [.int 14]) (rest := []) ⟨hx, hb, hml, hown, hts⟩ (c_addStep l dC dI kA adK adV G H nC nS o0 14 u136 sp9 u137 hT hr_o0 m139 m144 hr_sp9 (rg_t (a := 14) (by decide) (by first | decide | omega) (by first | decide | omega)) (by have q8 := ti_all u136; omega) m140 (by omega) (by omega)) (cwV 1 hts (goodIn_app (goodIn_r _ [12, 13, 14, 15] rfl (by decide +kernel)) (goodIn_ca (goodIn_r _ [9, 10, 11] rfl (by decide +kernel)) (bs2_in _ _))) rfl rfl rfl (by decide +kernel) ⟨(Nat.le_of_ble_eq_true rfl), (Nat.le_of_ble_eq_true rfl)⟩) ⟨fun a U g mk q => by obtain ⟨q0, q1, qK, qE⟩ := q; exact ⟨q0, q1, va_K.moved (u := U) (U := U.calling g mk a) (Vm.Alike.refl U.vm) qK, EVC.blind g mk a qE⟩, gH_rc hK hT hr_o0 shc_152 rfl, fun U hU hW => ⟨rfl, hU, va_K.moved hW.alike hK, hE.call hS hFc hU hW⟩⟩ rfl rfl hl.1 rfl (lv_room (Nat.le_of_ble_eq_true rfl)) dX4_readAll_37 ⟨(Nat.le_of_ble_eq_true rfl), (Nat.le_of_ble_eq_true rfl)⟩) hS (fun q _ h => hFc q h) hFc (fun u t H locs ht hvm hw157 hB _ _ hS => ?_)
          obtain ⟨u158, rfl⟩ : ∃ z, z = u := ⟨_, rfl⟩
          obtain ⟨hT, hF1, m159, m160⟩ := hB
          rw [ht] at hT hF1 m159 m160
          have m161 := m141.kept (hF1.arr hr_th skc_153 (by decide))
          have m162 := (hF1.fld hr_o0 skc_152 (k := 0) (by decide) (by decide)).trans m143
          have m163 := (hF1.fld hr_o0 skc_152 (k := 9) (by decide) (by decide)).trans m144
          have m164 := (el_kept (hF1.arr hr_th skc_153 (by decide))).trans m145
          have m165 := (hF1.fld hr_o0 skc_152 (k := 13) (by decide) (by decide)).trans m138
          have hF := hF.more hF1 (by decide)
          try dsimp only at hw157
          obtain ⟨h168, hf169⟩ := hw157
          refine lv_iinc (v := nI (i24 + 1)) (lv' := [(3, .int (nI (i24 + 1))), (2, .int r133), (0, .ref o0), (1, .int 2)]) hx hb dX4_readAll_40 hl (k := 1) rfl (nI_add i24 1) (by decide) rfl (fun ls hl => ?_)
          refine lv_goto (tgt := 8) hx hb dX4_readAll_43 (by decide) ?_
          exact ih105 (i24 + 1) (by omega) (by omega) r133 (cu u137 u136.toNatClampNeg 14) u135 u158 ⟨(by have q8 := ti_all r133; omega), (by have q8 := ti_all u135; omega), (by have q8 := ti_all u158; omega), (by have := hx_tv; have := (show u135.toInt = u135.toInt from rfl); omega), ⟨(by have l9 := (hj40.1.resolve_right (fun h8 => by have := h8.1; omega)).2; have a9 := hf128.resolve_right (fun h8 => by have := h8.2.1; omega); have h9 := hf153; rw [a9.2.2] at h9; rcases (show r133.toInt = 1 ∨ r133.toInt = 0 by omega) with h8 | h8 <;> rw [h8] at h9; (exact Or.inl ⟨h8, lp_s l9 (a9.1.trans (by decide)) h9⟩); exact Or.inr ⟨h8, lp_f l9 (a9.1.trans (by decide)) h9⟩), by omega⟩, (fun h8 => by have := tn_of (show s0.toInt = s0.toInt from rfl) (by omega); have := tn_of (show z36.toInt = z36.toInt from rfl) (by omega); have := tn_of (show u136.toInt = u136.toInt from rfl) (by omega); have := tn_of (show u158.toInt = u158.toInt from rfl) (by omega); have l9 := hj41 (by omega); have a9 := hf128.resolve_right (fun h8 => by have := h8.2.1; omega); have h9 := hf155 h8; rw [a9.2.2] at h9; rw [zC_3 (sx := z36.toNatClampNeg) (s2 := u136.toNatClampNeg) (c := 14) (by omega) (by omega) hf154 (by omega) rfl (by decide)]; exact zlI_s l9 (a9.1.trans (by decide)) h9), ((hj42.tr hf154 (by have := tn_of (show s0.toInt = s0.toInt from rfl) (by omega); have := tn_of (show z36.toInt = z36.toInt from rfl) (by omega); omega)).st (by have := tn_of (show s0.toInt = s0.toInt from rfl) (by omega); have := tn_of (show u136.toInt = u136.toInt from rfl) (by omega); omega)), (by have := (show u158.toInt = u158.toInt from rfl); have := (show u135.toInt = u135.toInt from rfl); omega)⟩ _ _ hT hF hS m161 m160 m162 m163 m164 m165 m159 ls (lv_sub hl [0, 1, 2, 3] rfl)
  exact key105 (400 - 0) 0 (by omega) (Nat.le_refl _) r1 u5 u3 u4 ⟨(by have q8 := ti_all r1; omega), (by have q8 := ti_all u3; omega), (by have q8 := ti_all u4; omega), (by have := hx_tv; have := (show u3.toInt = u3.toInt from rfl); omega), ⟨(by have h9 := hf21; rcases (show r1.toInt = 1 ∨ r1.toInt = 0 by omega) with h8 | h8 <;> rw [h8] at h9; (exact Or.inl ⟨h8, lp_1 h9⟩); exact Or.inr ⟨h8, lp_0 h9⟩), by omega⟩, (fun h8 => zlI_0 (hf23 h8)), (zKp.rf.tr hf22 (by have := tn_of (show s0.toInt = s0.toInt from rfl) (by omega); omega)), (by have := (show u4.toInt = u4.toInt from rfl); have := (show u3.toInt = u3.toInt from rfl); omega)⟩ _ _ hT hF hS m13 m8 m9 m12 m15 m6 m7 ls (lv_sub hl [0, 1, 2, 3] rfl)
def w_c_readAny2 : List Cond := .code yX4_readAny cX4_readAny 4 (some .boolean) :: (HAppend.hAppend (α := List Cond) (β := List Cond) (γ := List Cond) [.code yX4_readAll cX4_readAll 4 (some .boolean), .code yX4_readAtom cX4_readAtom 4 (some .boolean), .fieldLink RX4 11 "SeaLand$Law" "things" "[I", .fieldLink RX4 56 "SeaLand$Law" "at" "I", .code yX4_readAny cX4_readAny 4 (some .boolean), .code yX4_readComparison cX4_readComparison 3 (some .boolean), .code yX4_readSum cX4_readSum 3 (some .boolean), .code yX4_readPart cX4_readPart 2 (some .boolean), .code yX4_addStep cX4_addStep 2 none, .fieldLink RX4 63 "SeaLand$Law" "stepped" "I", .fieldLink RX4 39 "SeaLand$Law" "steps" "[I", .methodLink RX4 179 yX4_addStep, .instanceMethod yX4_addStep, .selects RX4 yX4_addStep yX4_addStep, .initialized RX4, .methodLink RX4 192 yX4_readPart, .instanceMethod yX4_readPart, .selects RX4 yX4_readPart yX4_readPart, .code yX4_take cX4_take 2 (some .boolean), .methodLink RX4 70 yX4_take, .instanceMethod yX4_take, .selects RX4 yX4_take yX4_take, .methodLink RX4 189 yX4_readSum, .instanceMethod yX4_readSum, .selects RX4 yX4_readSum yX4_readSum, .methodLink RX4 186 yX4_readComparison, .instanceMethod yX4_readComparison, .selects RX4 yX4_readComparison yX4_readComparison, .methodLink RX4 183 yX4_readAtom, .instanceMethod yX4_readAtom, .selects RX4 yX4_readAtom yX4_readAtom, .methodLink RX4 176 yX4_readAll, .instanceMethod yX4_readAll, .selects RX4 yX4_readAll yX4_readAll, .methodLink RX4 173 yX4_readAny, .instanceMethod yX4_readAny, .selects RX4 yX4_readAny yX4_readAny] bs2)
set_option maxHeartbeats 4000000 in
set_option maxRecDepth 100000 in
theorem c_readAny2 (l : Launch) (dC : Nat → ClassId) (dI : Nat → Nat → Nat) (kA : Nat → ClassId) (adK adV : Nat → Nat) (G : gT) (H0 : Heap) (nC nS : Int) (o0 : Nat) (th : Nat) (a0 : Int32) (s0 : Int32) (sp9 : Nat) (vT : Nat → Int32) (vS : Nat → Int32) (tv ix_tv : Int32) (tn : Int32) (K : Nat → Int) (X pS : Nat → Nat) (hT : gH (dC, dI) kA (SHc nC nS) G H0) (hr_o0 : G o0 = some 152) (hm_th : el H0 o0 (dI 7 0) = some (.ref th)) (hr_th : G th = some 153) (hm_a0 : el H0 o0 (dI 7 13) = some (.int a0)) (hm_s0 : el H0 o0 (dI 7 12) = some (.int s0)) (hm_sp9 : el H0 o0 (dI 7 9) = some (.ref sp9)) (hr_sp9 : G sp9 = some 162) (hq0 : 0 ≤ tn.toInt ∧ tn.toInt ≤ 400) (hq1 : 0 ≤ a0.toInt ∧ a0.toInt ≤ 400) (hat : a0.toInt ≤ tn.toInt) (hKK : ∀ m : Nat, m ≤ tn.toNatClampNeg → (vT m).toInt = K (pS m)) (hXX : ∀ m : Nat, m < tn.toNatClampNeg → pS (m + 1) = X (pS m)) (hq5 : 0 ≤ s0.toInt ∧ s0.toInt ≤ 400) (hsa : s0.toInt ≤ a0.toInt) (hc_vT : ct H0 th 401 vT) (hc_vS : ct H0 sp9 400 vS) (hx_tv : ix_tv.toInt = tn.toInt) (hm_tv : el H0 th ix_tv.toNatClampNeg = some (.int tv)) (hv_tv : 21 ≤ tv.toInt ∧ tv.toInt ≤ 21) (hgC : 0 ≤ nC ∧ nC ≤ 40) (hgS : 0 ≤ nS ∧ nS ≤ 60) : Met l yX4_readAny w_c_readAny2 ({ frames := 18, cells := 0, slots := 0, locals := 408 }) (va_Pc [.ref o0, .int 2] (fun U => U.heap = H0 ∧ va_K (dC, dI) vwCl (tyl kA) U ∧ EVC adK adV (gA G H0.size) U U.heap)) (va_Qi (fun (r : Int32) (u : Int32 × Int32 × (Nat → Int32)) => match u with | (a1, s1, vS1) => (0 ≤ a1.toInt ∧ a1.toInt ≤ 400) ∧ (0 ≤ s1.toInt ∧ s1.toInt ≤ 400) ∧ (0 ≤ r.toInt ∧ r.toInt ≤ 1) ∧ (a0.toInt ≤ a1.toInt ∧ a1.toInt ≤ tn.toInt) ∧ (s0.toInt ≤ s1.toInt ∧ s1.toInt - s0.toInt ≤ a1.toInt - a0.toInt) ∧ (coR K X (aR K X 4) (pS a0.toNatClampNeg) r.toInt (pS a1.toNatClampNeg)) ∧ (zKp vS vS1 s0.toNatClampNeg) ∧ (r.toInt = 1 → zlZ K X (zlZ K X (zaZ K X 4) 14) 15 (pS a0.toNatClampNeg) (zC (tz vS1) s0.toNatClampNeg s1.toNatClampNeg) (pS a1.toNatClampNeg))) (fun (u : Int32 × Int32 × (Nat → Int32)) (t : State) => match u with | (a1, s1, vS1) => gH (dC, dI) kA (SHc nC nS) G t.heap ∧ gF (dC, dI) SKc G ([(152, 12), (152, 13), (162, 0)] : List (Nat × Nat)) H0 t.heap ∧ el t.heap o0 (dI 7 13) = some (.int a1) ∧ el t.heap o0 (dI 7 12) = some (.int s1) ∧ ct t.heap sp9 400 vS1) (gA G H0.size)) 0 0 (gA G H0.size) := by
  refine Met.ofW (cc := cX4_readAny) (maxL := 4) (ret := (some .boolean)) (by decide) rfl ?_
  intro p e s m args below meth c s₁ B hml hv
  obtain ⟨rfl, hH0, hK, hE⟩ := hv
  have hx := B.exec
  have hb := B.bytes
  have hr := B.returns
  have hts := atoms_spec (ws := w_c_readAny2) B.pre
  have hown : s.vm.findClass RX4 = some m.cls := findClass_of_methodNamed B.named
  have hlocks := B.notSynchronized
  subst hH0
  generalize hAe : gA G s.heap.size = A at hE ⊢
  have hA : ∀ q : Nat, s.heap.size ≤ q → A q := fun q h => by rw [← hAe]; exact Or.inr h
  have hG := gA_of hAe
  have hS : va_S A s.heap s.heap [] := va_S.rf
  have hF : gF (dC, dI) SKc G ([(152, 12), (152, 13), (162, 0)] : List (Nat × Nat)) s.heap s.heap := gF.rf
  have hl := lv_entry ([.ref o0, .int 2]) (n := 4) (Nat.le_of_ble_eq_true rfl)
  rw [lg_entry_eq]
  generalize (lg_sl ([.ref o0, .int 2]) ++ List.replicate (4 - (lg_sl ([.ref o0, .int 2])).length) Slot.unset).toArray = ls at hl ⊢
  have hl : lv_has ls 4 [(0, .ref o0), (1, .int 2)] := hl
  refine lv_aload_n hx hb dX4_readAny_0 rfl (lv_at hl 0 rfl) ?_
  refine lv_iload_n hx hb dX4_readAny_1 rfl (lv_at hl 1 rfl) ?_
  have hFc := gA_free hG hA hS
  refine va_calli (va_runV (As := [.int 2]) (rest := []) ⟨hx, hb, hml, hown, hts⟩ (c_readAll2 l dC dI kA adK adV G s.heap nC nS o0 th a0 s0 sp9 vT vS tv ix_tv ix_tv K X pS hT hr_o0 hm_th hr_th hm_a0 hm_s0 hm_sp9 hr_sp9 (by have q8 := ti_all ix_tv; omega) (by have q8 := ti_all a0; omega) (by have := (show a0.toInt = a0.toInt from rfl); have := (show ix_tv.toInt = ix_tv.toInt from rfl); omega) (fun m hm => hKK m (Nat.le_trans hm (Nat.le_of_eq (tn_same hx_tv rfl rfl)))) (fun m hm => hXX m (Nat.lt_of_lt_of_eq hm (tn_same hx_tv rfl rfl))) (by have q8 := ti_all s0; omega) (by have := (show s0.toInt = s0.toInt from rfl); have := (show a0.toInt = a0.toInt from rfl); omega) hc_vT hc_vS (by have q9 := (show ix_tv.toInt = ix_tv.toInt from rfl); have := (show ix_tv.toInt = ix_tv.toInt from rfl); omega) hm_tv (by have q8 := ti_all tv; omega) (by omega) (by omega)) (cwV 1 hts (goodIn_app (goodIn_r _ [32, 33, 34, 15] rfl (by decide +kernel)) (goodIn_ca (goodIn_r _ [1, 2, 3, 4, 5, 1, 6, 7, 8, 9, 10, 11, 12, 13, 14, 15, 16, 17, 18, 19, 20, 21, 22, 23, 24, 25, 26, 27, 28, 29, 30, 31, 32, 33, 34, 35, 36, 37] rfl (by decide +kernel)) (bs2_in _ _))) rfl rfl rfl (by decide +kernel) ⟨(Nat.le_of_ble_eq_true rfl), (Nat.le_of_ble_eq_true rfl)⟩) ⟨fun a U g mk q => by obtain ⟨q0, q1, qK, qE⟩ := q; exact ⟨q0, q1, va_K.moved (u := U) (U := U.calling g mk a) (Vm.Alike.refl U.vm) qK, EVC.blind g mk a qE⟩, gH_rc hK hT hr_o0 shc_152 rfl, fun U hU hW => ⟨rfl, hU, va_K.moved hW.alike hK, hE.call hS hFc hU hW⟩⟩ rfl rfl hl.1 rfl (lv_room (Nat.le_of_ble_eq_true rfl)) dX4_readAny_2 ⟨(Nat.le_of_ble_eq_true rfl), (Nat.le_of_ble_eq_true rfl)⟩) hS (fun q _ h => hFc q h) hFc (fun r1 u t H locs ht hvm hw2 hB _ _ hS => ?_)
  obtain ⟨u3, u4, u5⟩ := u
  obtain ⟨hT, hF1, m6, m7, m8⟩ := hB
  rw [ht] at hT hF1 m6 m7 m8
  have m9 := (hF1.fld hr_o0 skc_152 (k := 0) (by decide) (by decide)).trans hm_th
  have m12 := (hF1.fld hr_o0 skc_152 (k := 9) (by decide) (by decide)).trans hm_sp9
  have m13 := hc_vT.kept (hF1.arr hr_th skc_153 (by decide))
  have m15 := (el_kept (hF1.arr hr_th skc_153 (by decide))).trans hm_tv
  have hF := hF.more hF1 (by decide)
  try dsimp only at hw2
  obtain ⟨h16, h17, h18, hf19, hf20, hf21, hf22, hf23⟩ := hw2
  refine lv_istore_n (lv' := [(2, .int r1), (0, .ref o0), (1, .int 2)]) hx hb dX4_readAny_5 rfl hl (by decide) rfl (fun ls hl => ?_)
  refine lv_iconst (v := 0) hx hb dX4_readAny_6 (by decide) ?_
  refine lv_istore_n (lv' := [(3, .int 0), (2, .int r1), (0, .ref o0), (1, .int 2)]) hx hb dX4_readAny_7 rfl hl (by decide) rfl (fun ls hl => ?_)
  have key105 : ∀ (n105 i24 : Nat), i24 + n105 = 400 → 0 ≤ i24 → ∀ (z25 : Int32), ∀ (V28 : Nat → Int32), ∀ (z33 : Int32), ∀ (z36 : Int32), ((0 ≤ z25.toInt ∧ z25.toInt ≤ 1) ∧ (0 ≤ z33.toInt ∧ z33.toInt ≤ 400) ∧ (0 ≤ z36.toInt ∧ z36.toInt ≤ 400) ∧ (a0.toInt ≤ z33.toInt ∧ z33.toInt ≤ tn.toInt) ∧ (((z25.toInt = 1 ∧ ∀ (r : Int) (f : Nat), lpQ K X (lpR K X (aR K X 4) 14) 15 (pS z33.toNatClampNeg) r f → coR K X (aR K X 4) (pS a0.toNatClampNeg) r f) ∨ (z25.toInt = 0 ∧ coR K X (aR K X 4) (pS a0.toNatClampNeg) 0 (pS z33.toNatClampNeg))) ∧ ((i24 : Nat) : Int) ≤ z33.toInt) ∧ (z25.toInt = 1 → zlI K X (zlZ K X (zaZ K X 4) 14) 15 (pS a0.toNatClampNeg) (zC (tz V28) s0.toNatClampNeg z36.toNatClampNeg) (pS z33.toNatClampNeg)) ∧ (zKp vS V28 s0.toNatClampNeg) ∧ (s0.toInt ≤ z36.toInt ∧ z36.toInt - s0.toInt ≤ z33.toInt - a0.toInt)) → ∀ (H : Heap) (locs : List Loc), gH (dC, dI) kA (SHc nC nS) G H → gF (dC, dI) SKc G ([(152, 12), (152, 13), (162, 0)] : List (Nat × Nat)) s.heap H → va_S A s.heap H locs → ct H th 401 vT → ct H sp9 400 V28 → el H o0 (dI 7 0) = some (.ref th) → el H o0 (dI 7 9) = some (.ref sp9) → el H th ix_tv.toNatClampNeg = some (.int tv) → el H o0 (dI 7 13) = some (.int z33) → el H o0 (dI 7 12) = some (.int z36) → ∀ ls : Array Slot, lv_has ls 4 [(3, .int (nI i24)), (2, .int z25), (0, .ref o0), (1, .int 2)] → W p l e (headSpec w_c_readAny2 ({ frames := 18, cells := 0, slots := 0, locals := 408 })).room s m #[.ref o0, .int 2] below meth c H locs 0 0 (MQ below (va_Qi (fun (r : Int32) (u : Int32 × Int32 × (Nat → Int32)) => match u with | (a1, s1, vS1) => (0 ≤ a1.toInt ∧ a1.toInt ≤ 400) ∧ (0 ≤ s1.toInt ∧ s1.toInt ≤ 400) ∧ (0 ≤ r.toInt ∧ r.toInt ≤ 1) ∧ (a0.toInt ≤ a1.toInt ∧ a1.toInt ≤ tn.toInt) ∧ (s0.toInt ≤ s1.toInt ∧ s1.toInt - s0.toInt ≤ a1.toInt - a0.toInt) ∧ (coR K X (aR K X 4) (pS a0.toNatClampNeg) r.toInt (pS a1.toNatClampNeg)) ∧ (zKp vS vS1 s0.toNatClampNeg) ∧ (r.toInt = 1 → zlZ K X (zlZ K X (zaZ K X 4) 14) 15 (pS a0.toNatClampNeg) (zC (tz vS1) s0.toNatClampNeg s1.toNatClampNeg) (pS a1.toNatClampNeg))) (fun (u : Int32 × Int32 × (Nat → Int32)) (t : State) => match u with | (a1, s1, vS1) => gH (dC, dI) kA (SHc nC nS) G t.heap ∧ gF (dC, dI) SKc G ([(152, 12), (152, 13), (162, 0)] : List (Nat × Nat)) s.heap t.heap ∧ el t.heap o0 (dI 7 13) = some (.int a1) ∧ el t.heap o0 (dI 7 12) = some (.int s1) ∧ ct t.heap sp9 400 vS1) A) #[.ref o0, .int 2] s 0 0 A) (F0 m 8 ls []) := by
    intro n105
    induction n105 with
    | zero =>
      intro i24 hn105 hlo106 z25 V28 z33 z36 ⟨h26, h34, h37, hj39, hj40, hj41, hj42, hj43⟩ H locs hT hF hS m27 m29 m30 m31 m32 m35 m38 ls hl
      obtain rfl : 400 = i24 := by omega
      refine lv_iload_n hx hb dX4_readAny_8 rfl (lv_at hl 0 rfl) ?_
      refine lv_sipush (v := 400) hx hb dX4_readAny_9 (by decide) ?_
      refine lv_icmp_ge (tgt := 46) hx hb dX4_readAny_12 (by decide) (fun c107 => ?_) (fun c107 => (by exfalso; have q9 : ((400 : Nat) : Int) < 400 := ti_nle c107 (by decide) (nI_toInt (by omega)); omega))
      have t108 : 400 ≤ ((400 : Nat) : Int) := ti_le c107 (by decide) (nI_toInt (by omega))
      refine lv_iload_n hx hb dX4_readAny_46 rfl (lv_at hl 1 rfl) ?_
      exact W.zret (v := z25) hx hb hr (nar_b (by have q8 := ti_all z25; omega)) (fun t ht hW => ⟨⟨z25, (z33, z36, V28), rfl, (by exact ⟨(by have q8 := ti_all z33; omega), (by have q8 := ti_all z36; omega), (by have q8 := ti_all z25; omega), (by omega), (by omega), (by rcases hj40.1 with ⟨h8, l9⟩ | ⟨h8, l9⟩; (rw [h8]; exact lp_e l9 (fun h7 => by have := tn_of (show z33.toInt = z33.toInt from rfl) (by omega); have := tn_of (show tn.toInt = tn.toInt from rfl) (by omega); have k9 := hKK tn.toNatClampNeg (Nat.le_refl _); have e9 := hc_vT.at hm_tv (by have q9 := tn_of hx_tv (by omega); omega); have k8 : (vT tn.toNatClampNeg).toInt = 21 := (by have q8 := congrArg Int32.toInt e9; rw [show ix_tv.toNatClampNeg = tn.toNatClampNeg from tn_same hx_tv rfl rfl] at q8; omega); rw [show z33.toNatClampNeg = tn.toNatClampNeg from by omega] at h7; omega)); rw [h8]; exact l9), hj42, (fun h8 => ⟨hj41 h8, fun h7 => by have := tn_of (show z33.toInt = z33.toInt from rfl) (by omega); have := tn_of (show tn.toInt = tn.toInt from rfl) (by omega); have k9 := hKK tn.toNatClampNeg (Nat.le_refl _); have e9 := hc_vT.at hm_tv (by have q9 := tn_of hx_tv (by omega); omega); have k8 : (vT tn.toNatClampNeg).toInt = 21 := (by have q8 := congrArg Int32.toInt e9; rw [show ix_tv.toNatClampNeg = tn.toNatClampNeg from tn_same hx_tv rfl rfl] at q8; omega); rw [show z33.toNatClampNeg = tn.toNatClampNeg from by omega] at h7; omega⟩)⟩), by (try dsimp only); rw [ht]; exact ⟨hT, hF, m35, m38, m29⟩⟩, hS.F ht⟩) hS.2.2 dX4_readAny_47
    | succ n105 ih105 =>
      intro i24 hn105 hlo106 z25 V28 z33 z36 ⟨h26, h34, h37, hj39, hj40, hj41, hj42, hj43⟩ H locs hT hF hS m27 m29 m30 m31 m32 m35 m38 ls hl
      have hlt108 : i24 < 400 := by omega
      refine lv_iload_n hx hb dX4_readAny_8 rfl (lv_at hl 0 rfl) ?_
      refine lv_sipush (v := 400) hx hb dX4_readAny_9 (by decide) ?_
      refine lv_icmp_ge (tgt := 46) hx hb dX4_readAny_12 (by decide) (fun c109 => (by exfalso; have q9 : 400 ≤ ((i24 : Nat) : Int) := ti_le c109 (by decide) (nI_toInt (by omega)); omega)) (fun c109 => ?_)
      have t110 : ((i24 : Nat) : Int) < 400 := ti_nle c109 (by decide) (nI_toInt (by omega))
      refine lv_iload_n hx hb dX4_readAny_15 rfl (lv_at hl 1 rfl) ?_
      refine lv_if_eq (tgt := 46) hx hb dX4_readAny_16 (by decide) (fun c111 => ?_) (fun c111 => ?_)
      · have t112 : z25.toInt = 0 := ti_eq c111 rfl (by decide)
        refine lv_iload_n hx hb dX4_readAny_46 rfl (lv_at hl 1 rfl) ?_
        exact W.zret (v := z25) hx hb hr (nar_b (by have q8 := ti_all z25; omega)) (fun t ht hW => ⟨⟨z25, (z33, z36, V28), rfl, (by exact ⟨(by have q8 := ti_all z33; omega), (by have q8 := ti_all z36; omega), (by have q8 := ti_all z25; omega), (by omega), (by omega), (by rcases hj40.1 with ⟨h8, l9⟩ | ⟨h8, l9⟩; (rw [h8]; exact lp_e l9 (fun h7 => by have := tn_of (show z33.toInt = z33.toInt from rfl) (by omega); have := tn_of (show tn.toInt = tn.toInt from rfl) (by omega); have k9 := hKK tn.toNatClampNeg (Nat.le_refl _); have e9 := hc_vT.at hm_tv (by have q9 := tn_of hx_tv (by omega); omega); have k8 : (vT tn.toNatClampNeg).toInt = 21 := (by have q8 := congrArg Int32.toInt e9; rw [show ix_tv.toNatClampNeg = tn.toNatClampNeg from tn_same hx_tv rfl rfl] at q8; omega); rw [show z33.toNatClampNeg = tn.toNatClampNeg from by omega] at h7; omega)); rw [h8]; exact l9), hj42, (fun h8 => ⟨hj41 h8, fun h7 => by have := tn_of (show z33.toInt = z33.toInt from rfl) (by omega); have := tn_of (show tn.toInt = tn.toInt from rfl) (by omega); have k9 := hKK tn.toNatClampNeg (Nat.le_refl _); have e9 := hc_vT.at hm_tv (by have q9 := tn_of hx_tv (by omega); omega); have k8 : (vT tn.toNatClampNeg).toInt = 21 := (by have q8 := congrArg Int32.toInt e9; rw [show ix_tv.toNatClampNeg = tn.toNatClampNeg from tn_same hx_tv rfl rfl] at q8; omega); rw [show z33.toNatClampNeg = tn.toNatClampNeg from by omega] at h7; omega⟩)⟩), by (try dsimp only); rw [ht]; exact ⟨hT, hF, m35, m38, m29⟩⟩, hS.F ht⟩) hS.2.2 dX4_readAny_47
      · have t113 : z25.toInt ≠ 0 := ti_ne c111 rfl (by decide)
        refine lv_aload_n hx hb dX4_readAny_19 rfl (lv_at hl 2 rfl) ?_
        refine lv_bipush (v := 15) hx hb dX4_readAny_20 (by decide) ?_
        have hFc := gA_free hG hA hS
        refine va_calli (va_runV (As := [.int 15]) (rest := []) ⟨hx, hb, hml, hown, hts⟩ (c_take l dC dI kA adK adV G H nC nS o0 15 th z33 vT tv ix_tv ix_tv K X pS hT hr_o0 m30 hr_th m35 (by have q8 := ti_all ix_tv; omega) (by have q8 := ti_all z33; omega) (by have := (show z33.toInt = z33.toInt from rfl); have := (show ix_tv.toInt = ix_tv.toInt from rfl); omega) (by have := (show (15 : Int32).toInt = 15 from (by decide)); omega) (fun m hm => hKK m (Nat.le_trans hm (Nat.le_of_eq (tn_same hx_tv rfl rfl)))) (fun m hm => hXX m (Nat.lt_of_lt_of_eq hm (tn_same hx_tv rfl rfl))) m27 (by have q9 := (show ix_tv.toInt = ix_tv.toInt from rfl); have := (show ix_tv.toInt = ix_tv.toInt from rfl); omega) m32 (by have q8 := ti_all tv; omega) (by omega) (by omega)) (cwV 1 hts (goodIn_app (goodIn_r _ [20, 21, 22, 15] rfl (by decide +kernel)) (goodIn_ca (goodIn_r _ [19, 3, 4] rfl (by decide +kernel)) (bs2_in _ _))) rfl rfl rfl (by decide +kernel) ⟨(Nat.le_of_ble_eq_true rfl), (Nat.le_of_ble_eq_true rfl)⟩) ⟨fun a U g mk q => by obtain ⟨q0, q1, qK, qE⟩ := q; exact ⟨q0, q1, va_K.moved (u := U) (U := U.calling g mk a) (Vm.Alike.refl U.vm) qK, EVC.blind g mk a qE⟩, gH_rc hK hT hr_o0 shc_152 rfl, fun U hU hW => ⟨rfl, hU, va_K.moved hW.alike hK, hE.call hS hFc hU hW⟩⟩ rfl rfl hl.1 rfl (lv_room (Nat.le_of_ble_eq_true rfl)) dX4_readAny_22 ⟨(Nat.le_of_ble_eq_true rfl), (Nat.le_of_ble_eq_true rfl)⟩) hS (fun q _ h => hFc q h) hFc (fun r114 u t H locs ht hvm hw115 hB _ _ hS => ?_)
        obtain ⟨u116, rfl⟩ : ∃ z, z = u := ⟨_, rfl⟩
        obtain ⟨hT, hF1, m117⟩ := hB
        rw [ht] at hT hF1 m117
        have m118 := m27.kept (hF1.arr hr_th skc_153 (by decide))
        have m119 := m29.kept (hF1.arr hr_sp9 skc_162 (by decide))
        have m120 := (hF1.fld hr_o0 skc_152 (k := 0) (by decide) (by decide)).trans m30
        have m121 := (hF1.fld hr_o0 skc_152 (k := 9) (by decide) (by decide)).trans m31
        have m122 := (el_kept (hF1.arr hr_th skc_153 (by decide))).trans m32
        have m124 := (hF1.fld hr_o0 skc_152 (k := 12) (by decide) (by decide)).trans m38
        have hF := hF.more hF1 (by decide)
        try dsimp only at hw115
        obtain ⟨h125, h126, hf127, hf128, hf129⟩ := hw115
        refine lv_if_eq (tgt := 46) hx hb dX4_readAny_25 (by decide) (fun c130 => ?_) (fun c130 => ?_)
        · have t131 : r114.toInt = 0 := ti_eq c130 rfl (by decide)
          refine lv_iload_n hx hb dX4_readAny_46 rfl (lv_at hl 1 rfl) ?_
          exact W.zret (v := z25) hx hb hr (nar_b (by have q8 := ti_all z25; omega)) (fun t ht hW => ⟨⟨z25, (u116, z36, V28), rfl, (by exact ⟨(by have q8 := ti_all u116; omega), (by have q8 := ti_all z36; omega), (by have q8 := ti_all z25; omega), (by omega), (by omega), (by have l9 := (hj40.1.resolve_right (fun h8 => by have := h8.1; omega)).2; have a9 := hf128.resolve_left (fun h8 => by have := h8.2.1; omega); rw [show z25.toInt = 1 from by omega, a9.2.2]; exact lp_e l9 (fun h7 => a9.1 (h7.trans (by decide)))), hj42, (fun h8 => ⟨by (try dsimp only); have a9 := hf128.resolve_left (fun h8 => by have := h8.2.1; omega); rw [a9.2.2]; exact hj41 h8, by (try dsimp only); have a9 := hf128.resolve_left (fun h8 => by have := h8.2.1; omega); rw [a9.2.2]; exact fun h7 => a9.1 (h7.trans (by decide))⟩)⟩), by (try dsimp only); rw [ht]; exact ⟨hT, hF, m117, m124, m119⟩⟩, hS.F ht⟩) hS.2.2 dX4_readAny_47
        · have t132 : r114.toInt ≠ 0 := ti_ne c130 rfl (by decide)
          refine lv_aload_n hx hb dX4_readAny_28 rfl (lv_at hl 2 rfl) ?_
          refine lv_iload_n hx hb dX4_readAny_29 rfl (lv_at hl 3 rfl) ?_
          have hFc := gA_free hG hA hS
          refine va_calli (va_runV (As := [.int 2]) (rest := []) ⟨hx, hb, hml, hown, hts⟩ (c_readAll2 l dC dI kA adK adV G H nC nS o0 th u116 z36 sp9 vT V28 tv ix_tv ix_tv K X pS hT hr_o0 m120 hr_th m117 m124 m121 hr_sp9 (by have q8 := ti_all ix_tv; omega) (by have q8 := ti_all u116; omega) (by have := (show u116.toInt = u116.toInt from rfl); have := (show ix_tv.toInt = ix_tv.toInt from rfl); omega) (fun m hm => hKK m (Nat.le_trans hm (Nat.le_of_eq (tn_same hx_tv rfl rfl)))) (fun m hm => hXX m (Nat.lt_of_lt_of_eq hm (tn_same hx_tv rfl rfl))) (by have q8 := ti_all z36; omega) (by have := (show z36.toInt = z36.toInt from rfl); have := (show u116.toInt = u116.toInt from rfl); omega) m118 m119 (by have q9 := (show ix_tv.toInt = ix_tv.toInt from rfl); have := (show ix_tv.toInt = ix_tv.toInt from rfl); omega) m122 (by have q8 := ti_all tv; omega) (by omega) (by omega)) (cwV 1 hts (goodIn_app (goodIn_r _ [32, 33, 34, 15] rfl (by decide +kernel)) (goodIn_ca (goodIn_r _ [1, 2, 3, 4, 5, 1, 6, 7, 8, 9, 10, 11, 12, 13, 14, 15, 16, 17, 18, 19, 20, 21, 22, 23, 24, 25, 26, 27, 28, 29, 30, 31, 32, 33, 34, 35, 36, 37] rfl (by decide +kernel)) (bs2_in _ _))) rfl rfl rfl (by decide +kernel) ⟨(Nat.le_of_ble_eq_true rfl), (Nat.le_of_ble_eq_true rfl)⟩) ⟨fun a U g mk q => by obtain ⟨q0, q1, qK, qE⟩ := q; exact ⟨q0, q1, va_K.moved (u := U) (U := U.calling g mk a) (Vm.Alike.refl U.vm) qK, EVC.blind g mk a qE⟩, gH_rc hK hT hr_o0 shc_152 rfl, fun U hU hW => ⟨rfl, hU, va_K.moved hW.alike hK, hE.call hS hFc hU hW⟩⟩ rfl rfl hl.1 rfl (lv_room (Nat.le_of_ble_eq_true rfl)) dX4_readAny_30 ⟨(Nat.le_of_ble_eq_true rfl), (Nat.le_of_ble_eq_true rfl)⟩) hS (fun q _ h => hFc q h) hFc (fun r133 u t H locs ht hvm hw134 hB _ _ hS => ?_)
          obtain ⟨u135, u136, u137⟩ := u
          obtain ⟨hT, hF1, m138, m139, m140⟩ := hB
          rw [ht] at hT hF1 m138 m139 m140
          have m141 := m118.kept (hF1.arr hr_th skc_153 (by decide))
          have m143 := (hF1.fld hr_o0 skc_152 (k := 0) (by decide) (by decide)).trans m120
          have m144 := (hF1.fld hr_o0 skc_152 (k := 9) (by decide) (by decide)).trans m121
          have m145 := (el_kept (hF1.arr hr_th skc_153 (by decide))).trans m122
          have hF := hF.more hF1 (by decide)
          try dsimp only at hw134
          obtain ⟨h148, h149, h150, hf151, hf152, hf153, hf154, hf155⟩ := hw134
          refine lv_istore_n (lv' := [(2, .int r133), (3, .int (nI i24)), (0, .ref o0), (1, .int 2)]) hx hb dX4_readAny_33 rfl hl (by decide) rfl (fun ls hl => ?_)
          refine lv_aload_n hx hb dX4_readAny_34 rfl (lv_at hl 2 rfl) ?_
          refine lv_bipush (v := 15) hx hb dX4_readAny_35 (by decide) ?_
          have hFc := gA_free hG hA hS
          refine va_callv (va_runV (As := [.int 15]) (rest := []) ⟨hx, hb, hml, hown, hts⟩ (c_addStep l dC dI kA adK adV G H nC nS o0 15 u136 sp9 u137 hT hr_o0 m139 m144 hr_sp9 (rg_t (a := 15) (by decide) (by first | decide | omega) (by first | decide | omega)) (by have q8 := ti_all u136; omega) m140 (by omega) (by omega)) (cwV 1 hts (goodIn_app (goodIn_r _ [12, 13, 14, 15] rfl (by decide +kernel)) (goodIn_ca (goodIn_r _ [9, 10, 11] rfl (by decide +kernel)) (bs2_in _ _))) rfl rfl rfl (by decide +kernel) ⟨(Nat.le_of_ble_eq_true rfl), (Nat.le_of_ble_eq_true rfl)⟩) ⟨fun a U g mk q => by obtain ⟨q0, q1, qK, qE⟩ := q; exact ⟨q0, q1, va_K.moved (u := U) (U := U.calling g mk a) (Vm.Alike.refl U.vm) qK, EVC.blind g mk a qE⟩, gH_rc hK hT hr_o0 shc_152 rfl, fun U hU hW => ⟨rfl, hU, va_K.moved hW.alike hK, hE.call hS hFc hU hW⟩⟩ rfl rfl hl.1 rfl (lv_room (Nat.le_of_ble_eq_true rfl)) dX4_readAny_37 ⟨(Nat.le_of_ble_eq_true rfl), (Nat.le_of_ble_eq_true rfl)⟩) hS (fun q _ h => hFc q h) hFc (fun u t H locs ht hvm hw157 hB _ _ hS => ?_)
          obtain ⟨u158, rfl⟩ : ∃ z, z = u := ⟨_, rfl⟩
          obtain ⟨hT, hF1, m159, m160⟩ := hB
          rw [ht] at hT hF1 m159 m160
          have m161 := m141.kept (hF1.arr hr_th skc_153 (by decide))
          have m162 := (hF1.fld hr_o0 skc_152 (k := 0) (by decide) (by decide)).trans m143
          have m163 := (hF1.fld hr_o0 skc_152 (k := 9) (by decide) (by decide)).trans m144
          have m164 := (el_kept (hF1.arr hr_th skc_153 (by decide))).trans m145
          have m165 := (hF1.fld hr_o0 skc_152 (k := 13) (by decide) (by decide)).trans m138
          have hF := hF.more hF1 (by decide)
          try dsimp only at hw157
          obtain ⟨h168, hf169⟩ := hw157
          refine lv_iinc (v := nI (i24 + 1)) (lv' := [(3, .int (nI (i24 + 1))), (2, .int r133), (0, .ref o0), (1, .int 2)]) hx hb dX4_readAny_40 hl (k := 1) rfl (nI_add i24 1) (by decide) rfl (fun ls hl => ?_)
          refine lv_goto (tgt := 8) hx hb dX4_readAny_43 (by decide) ?_
          exact ih105 (i24 + 1) (by omega) (by omega) r133 (cu u137 u136.toNatClampNeg 15) u135 u158 ⟨(by have q8 := ti_all r133; omega), (by have q8 := ti_all u135; omega), (by have q8 := ti_all u158; omega), (by have := hx_tv; have := (show u135.toInt = u135.toInt from rfl); omega), ⟨(by have l9 := (hj40.1.resolve_right (fun h8 => by have := h8.1; omega)).2; have a9 := hf128.resolve_right (fun h8 => by have := h8.2.1; omega); have h9 := hf153; rw [a9.2.2] at h9; rcases (show r133.toInt = 1 ∨ r133.toInt = 0 by omega) with h8 | h8 <;> rw [h8] at h9; (exact Or.inl ⟨h8, lp_s l9 (a9.1.trans (by decide)) h9⟩); exact Or.inr ⟨h8, lp_f l9 (a9.1.trans (by decide)) h9⟩), by omega⟩, (fun h8 => by have := tn_of (show s0.toInt = s0.toInt from rfl) (by omega); have := tn_of (show z36.toInt = z36.toInt from rfl) (by omega); have := tn_of (show u136.toInt = u136.toInt from rfl) (by omega); have := tn_of (show u158.toInt = u158.toInt from rfl) (by omega); have l9 := hj41 (by omega); have a9 := hf128.resolve_right (fun h8 => by have := h8.2.1; omega); have h9 := hf155 h8; rw [a9.2.2] at h9; rw [zC_3 (sx := z36.toNatClampNeg) (s2 := u136.toNatClampNeg) (c := 15) (by omega) (by omega) hf154 (by omega) rfl (by decide)]; exact zlI_s l9 (a9.1.trans (by decide)) h9), ((hj42.tr hf154 (by have := tn_of (show s0.toInt = s0.toInt from rfl) (by omega); have := tn_of (show z36.toInt = z36.toInt from rfl) (by omega); omega)).st (by have := tn_of (show s0.toInt = s0.toInt from rfl) (by omega); have := tn_of (show u136.toInt = u136.toInt from rfl) (by omega); omega)), (by have := (show u158.toInt = u158.toInt from rfl); have := (show u135.toInt = u135.toInt from rfl); omega)⟩ _ _ hT hF hS m161 m160 m162 m163 m164 m165 m159 ls (lv_sub hl [0, 1, 2, 3] rfl)
  exact key105 (400 - 0) 0 (by omega) (Nat.le_refl _) r1 u5 u3 u4 ⟨(by have q8 := ti_all r1; omega), (by have q8 := ti_all u3; omega), (by have q8 := ti_all u4; omega), (by have := hx_tv; have := (show u3.toInt = u3.toInt from rfl); omega), ⟨(by have h9 := hf21; rcases (show r1.toInt = 1 ∨ r1.toInt = 0 by omega) with h8 | h8 <;> rw [h8] at h9; (exact Or.inl ⟨h8, lp_1 h9⟩); exact Or.inr ⟨h8, lp_0 h9⟩), by omega⟩, (fun h8 => zlI_0 (hf23 h8)), (zKp.rf.tr hf22 (by have := tn_of (show s0.toInt = s0.toInt from rfl) (by omega); omega)), (by have := (show u4.toInt = u4.toInt from rfl); have := (show u3.toInt = u3.toInt from rfl); omega)⟩ _ _ hT hF hS m13 m8 m9 m12 m15 m6 m7 ls (lv_sub hl [0, 1, 2, 3] rfl)
def w_c_readAtom1 : List Cond := .code yX4_readAtom cX4_readAtom 4 (some .boolean) :: (HAppend.hAppend (α := List Cond) (β := List Cond) (γ := List Cond) [.fieldLink RX4 11 "SeaLand$Law" "things" "[I", .fieldLink RX4 56 "SeaLand$Law" "at" "I", .code yX4_readAny cX4_readAny 4 (some .boolean), .code yX4_readAll cX4_readAll 4 (some .boolean), .code yX4_readAtom cX4_readAtom 4 (some .boolean), .code yX4_readComparison cX4_readComparison 3 (some .boolean), .code yX4_readSum cX4_readSum 3 (some .boolean), .code yX4_readPart cX4_readPart 2 (some .boolean), .code yX4_addStep cX4_addStep 2 none, .fieldLink RX4 63 "SeaLand$Law" "stepped" "I", .fieldLink RX4 39 "SeaLand$Law" "steps" "[I", .methodLink RX4 179 yX4_addStep, .instanceMethod yX4_addStep, .selects RX4 yX4_addStep yX4_addStep, .initialized RX4, .methodLink RX4 192 yX4_readPart, .instanceMethod yX4_readPart, .selects RX4 yX4_readPart yX4_readPart, .code yX4_take cX4_take 2 (some .boolean), .methodLink RX4 70 yX4_take, .instanceMethod yX4_take, .selects RX4 yX4_take yX4_take, .methodLink RX4 189 yX4_readSum, .instanceMethod yX4_readSum, .selects RX4 yX4_readSum yX4_readSum, .methodLink RX4 186 yX4_readComparison, .instanceMethod yX4_readComparison, .selects RX4 yX4_readComparison yX4_readComparison, .methodLink RX4 183 yX4_readAtom, .instanceMethod yX4_readAtom, .selects RX4 yX4_readAtom yX4_readAtom, .methodLink RX4 176 yX4_readAll, .instanceMethod yX4_readAll, .selects RX4 yX4_readAll yX4_readAll, .methodLink RX4 173 yX4_readAny, .instanceMethod yX4_readAny, .selects RX4 yX4_readAny yX4_readAny] bs2)
set_option maxHeartbeats 4000000 in
set_option maxRecDepth 100000 in
theorem c_readAtom1 (l : Launch) (dC : Nat → ClassId) (dI : Nat → Nat → Nat) (kA : Nat → ClassId) (adK adV : Nat → Nat) (G : gT) (H0 : Heap) (nC nS : Int) (o0 : Nat) (th : Nat) (a0 : Int32) (s0 : Int32) (sp9 : Nat) (vT : Nat → Int32) (vS : Nat → Int32) (tv ix_tv : Int32) (tn : Int32) (K : Nat → Int) (X pS : Nat → Nat) (hT : gH (dC, dI) kA (SHc nC nS) G H0) (hr_o0 : G o0 = some 152) (hm_th : el H0 o0 (dI 7 0) = some (.ref th)) (hr_th : G th = some 153) (hm_a0 : el H0 o0 (dI 7 13) = some (.int a0)) (hm_s0 : el H0 o0 (dI 7 12) = some (.int s0)) (hm_sp9 : el H0 o0 (dI 7 9) = some (.ref sp9)) (hr_sp9 : G sp9 = some 162) (hq0 : 0 ≤ tn.toInt ∧ tn.toInt ≤ 400) (hq1 : 0 ≤ a0.toInt ∧ a0.toInt ≤ 400) (hat : a0.toInt ≤ tn.toInt) (hKK : ∀ m : Nat, m ≤ tn.toNatClampNeg → (vT m).toInt = K (pS m)) (hXX : ∀ m : Nat, m < tn.toNatClampNeg → pS (m + 1) = X (pS m)) (hq5 : 0 ≤ s0.toInt ∧ s0.toInt ≤ 400) (hsa : s0.toInt ≤ a0.toInt) (hc_vT : ct H0 th 401 vT) (hc_vS : ct H0 sp9 400 vS) (hx_tv : ix_tv.toInt = tn.toInt) (hm_tv : el H0 th ix_tv.toNatClampNeg = some (.int tv)) (hv_tv : 21 ≤ tv.toInt ∧ tv.toInt ≤ 21) (hgC : 0 ≤ nC ∧ nC ≤ 40) (hgS : 0 ≤ nS ∧ nS ≤ 60) : Met l yX4_readAtom w_c_readAtom1 ({ frames := 19, cells := 0, slots := 0, locals := 431 }) (va_Pc [.ref o0, .int 1] (fun U => U.heap = H0 ∧ va_K (dC, dI) vwCl (tyl kA) U ∧ EVC adK adV (gA G H0.size) U U.heap)) (va_Qi (fun (r : Int32) (u : Int32 × Int32 × (Nat → Int32)) => match u with | (a1, s1, vS1) => (0 ≤ a1.toInt ∧ a1.toInt ≤ 400) ∧ (0 ≤ s1.toInt ∧ s1.toInt ≤ 400) ∧ (0 ≤ r.toInt ∧ r.toInt ≤ 1) ∧ (a0.toInt ≤ a1.toInt ∧ a1.toInt ≤ tn.toInt) ∧ (s0.toInt ≤ s1.toInt ∧ s1.toInt - s0.toInt ≤ a1.toInt - a0.toInt) ∧ (aR K X 5 (pS a0.toNatClampNeg) r.toInt (pS a1.toNatClampNeg)) ∧ (zKp vS vS1 s0.toNatClampNeg) ∧ (r.toInt = 1 → zaZ K X 5 (pS a0.toNatClampNeg) (zC (tz vS1) s0.toNatClampNeg s1.toNatClampNeg) (pS a1.toNatClampNeg))) (fun (u : Int32 × Int32 × (Nat → Int32)) (t : State) => match u with | (a1, s1, vS1) => gH (dC, dI) kA (SHc nC nS) G t.heap ∧ gF (dC, dI) SKc G ([(152, 12), (152, 13), (162, 0)] : List (Nat × Nat)) H0 t.heap ∧ el t.heap o0 (dI 7 13) = some (.int a1) ∧ el t.heap o0 (dI 7 12) = some (.int s1) ∧ ct t.heap sp9 400 vS1) (gA G H0.size)) 0 0 (gA G H0.size) := by
  refine Met.ofW (cc := cX4_readAtom) (maxL := 4) (ret := (some .boolean)) (by decide) rfl ?_
  intro p e s m args below meth c s₁ B hml hv
  obtain ⟨rfl, hH0, hK, hE⟩ := hv
  have hx := B.exec
  have hb := B.bytes
  have hr := B.returns
  have hts := atoms_spec (ws := w_c_readAtom1) B.pre
  have hown : s.vm.findClass RX4 = some m.cls := findClass_of_methodNamed B.named
  have hlocks := B.notSynchronized
  subst hH0
  generalize hAe : gA G s.heap.size = A at hE ⊢
  have hA : ∀ q : Nat, s.heap.size ≤ q → A q := fun q h => by rw [← hAe]; exact Or.inr h
  have hG := gA_of hAe
  have hS : va_S A s.heap s.heap [] := va_S.rf
  have hF : gF (dC, dI) SKc G ([(152, 12), (152, 13), (162, 0)] : List (Nat × Nat)) s.heap s.heap := gF.rf
  have hl := lv_entry ([.ref o0, .int 1]) (n := 4) (Nat.le_of_ble_eq_true rfl)
  rw [lg_entry_eq]
  generalize (lg_sl ([.ref o0, .int 1]) ++ List.replicate (4 - (lg_sl ([.ref o0, .int 1])).length) Slot.unset).toArray = ls at hl ⊢
  have hl : lv_has ls 4 [(0, .ref o0), (1, .int 1)] := hl
  refine lv_aload_n hx hb dX4_readAtom_0 rfl (lv_at hl 0 rfl) ?_
  refine tw_getM (v := .ref th) hx hb hts bF2_X4 hown hK hT hr_o0 shc_152 rfl 0 (by decide) (ht_at2 hts 0 rfl) (fun _ h9 => h9) hm_th dX4_readAtom_1 ?_
  refine lv_aload_n hx hb dX4_readAtom_4 rfl (lv_at hl 0 rfl) ?_
  refine tw_getM (v := .int a0) hx hb hts bF2_X4 hown hK hT hr_o0 shc_152 rfl 13 (by decide) (ht_at2 hts 1 rfl) (fun _ h9 => h9) hm_a0 dX4_readAtom_5 ?_
  refine tw_iald (i := a0) hx hb hK hT hr_th shc_153 rfl (vin_t (a := a0.toInt) rfl (by omega) (by omega)) dX4_readAtom_8 (fun v9 m1 h9 => ?_)
  obtain ⟨x2, rfl, gx2, kx2⟩ := h9
  have cx2 := hc_vT.at m1 (by have q9 := tn_of (show a0.toInt = a0.toInt from rfl) (by omega); omega)
  have t3 : a0.toInt = ix_tv.toInt → x2.toInt = tv.toInt := fun h8 => congrArg Int32.toInt (el_same m1 hm_tv h8)
  have t4 : x2.toInt = K (pS a0.toNatClampNeg) := (congrArg Int32.toInt cx2).trans (hKK _ (by have := tn_of (show a0.toInt = a0.toInt from rfl) (by omega); have := tn_of (show tn.toInt = tn.toInt from rfl) (by omega); omega))
  refine lv_bipush (v := 13) hx hb dX4_readAtom_9 (by decide) ?_
  have t5 : -2147483648 ≤ x2.toInt ∧ x2.toInt ≤ 2147483647 := ti_all x2
  refine lv_icmp_ne (tgt := 18) hx hb dX4_readAtom_11 (by decide) (fun c6 => ?_) (fun c6 => ?_)
  · have t7 : x2.toInt ≠ 13 := ti_ne c6 rfl (by decide)
    refine lv_iconst (v := 0) hx hb dX4_readAtom_18 (by decide) ?_
    refine lv_istore_n (lv' := [(2, .int 0), (0, .ref o0), (1, .int 1)]) hx hb dX4_readAtom_19 rfl hl (by decide) rfl (fun ls hl => ?_)
    refine lv_iload_n hx hb dX4_readAtom_20 rfl (lv_at hl 0 rfl) ?_
    refine lv_if_ne (tgt := 43) hx hb dX4_readAtom_21 (by decide) (fun c8 => absurd c8 (by decide)) (fun c8 => ?_)
    refine lv_aload_n hx hb dX4_readAtom_24 rfl (lv_at hl 1 rfl) ?_
    refine tw_getM (v := .ref th) hx hb hts bF2_X4 hown hK hT hr_o0 shc_152 rfl 0 (by decide) (ht_at2 hts 0 rfl) (fun _ h9 => h9) hm_th dX4_readAtom_25 ?_
    refine lv_aload_n hx hb dX4_readAtom_28 rfl (lv_at hl 1 rfl) ?_
    refine tw_getM (v := .int a0) hx hb hts bF2_X4 hown hK hT hr_o0 shc_152 rfl 13 (by decide) (ht_at2 hts 1 rfl) (fun _ h9 => h9) hm_a0 dX4_readAtom_29 ?_
    refine tw_iald (i := a0) hx hb hK hT hr_th shc_153 rfl (vin_t (a := a0.toInt) rfl (by omega) (by omega)) dX4_readAtom_32 (fun v9 m9 h9 => ?_)
    obtain ⟨x10, rfl, gx10, kx10⟩ := h9
    have cx10 := hc_vT.at m9 (by have q9 := tn_of (show a0.toInt = a0.toInt from rfl) (by omega); omega)
    have t11 : a0.toInt = ix_tv.toInt → x10.toInt = tv.toInt := fun h8 => congrArg Int32.toInt (el_same m9 hm_tv h8)
    obtain rfl : x2 = x10 := (el_same m9 m1 rfl).symm
    refine lv_bipush (v := 16) hx hb dX4_readAtom_33 (by decide) ?_
    refine lv_icmp_eq (tgt := 43) hx hb dX4_readAtom_35 (by decide) (fun c12 => ?_) (fun c12 => ?_)
    · have t13 : x2.toInt = 16 := ti_eq c12 rfl (by decide)
      refine lv_iload_n hx hb dX4_readAtom_43 rfl (lv_at hl 2 rfl) ?_
      refine lv_bipush (v := 6) hx hb dX4_readAtom_44 (by decide) ?_
      refine lv_icmp_lt (tgt := 51) hx hb dX4_readAtom_46 (by decide) (fun c14 => ?_) (fun c14 => absurd c14 (by decide))
      refine lv_aload_n hx hb dX4_readAtom_51 rfl (lv_at hl 1 rfl) ?_
      refine lv_dup hx hb dX4_readAtom_52 rfl ?_
      refine tw_getM (v := .int a0) hx hb hts bF2_X4 hown hK hT hr_o0 shc_152 rfl 13 (by decide) (ht_at2 hts 1 rfl) (fun _ h9 => h9) hm_a0 dX4_readAtom_53 ?_
      refine lv_iconst (v := 1) hx hb dX4_readAtom_56 (by decide) ?_
      refine lv_iadd hx hb dX4_readAtom_57 ?_
      refine lv_topi (fun x15 ex15 => ?_)
      have t16 : x15.toInt = a0.toInt + 1 := ti_add ex15 rfl (by decide) (by omega) (by omega)
      refine tw_put (v := .int x15) (ty := .int) hx hb hts bF2_X4 tyX4 tyX4_ok nmX4 hown hK hT hG hS hr_o0 shc_152 rfl 13 (by decide) (ht_at2 hts 1 rfl) (fun _ h9 => h9) rfl (by decide +kernel) rfl rfl (gl_at rfl (gi_of (show x15.toInt = x15.toInt from rfl) (by omega) (by omega))) dX4_readAtom_58 (fun H locs hT oq m17 oj hS => ?_)
      have hF := hF.put hr_o0 skc_152 oq oj (by decide)
      have m18 := (oj 0 (by decide) (by decide)).trans hm_th
      have m19 := (oj 12 (by decide) (by decide)).trans hm_s0
      have m20 := (oj 9 (by decide) (by decide)).trans hm_sp9
      have m21 := hc_vT.kept (oq _ (gne hr_th hr_o0 (by decide)))
      have m22 := hc_vS.kept (oq _ (gne hr_sp9 hr_o0 (by decide)))
      have m23 := (el_kept (oq _ (gne hr_th hr_o0 (by decide)))).trans hm_tv
      refine lv_iload_n hx hb dX4_readAtom_61 rfl (lv_at hl 0 rfl) ?_
      refine lv_if_eq (tgt := 81) hx hb dX4_readAtom_62 (by decide) (fun c25 => ?_) (fun c25 => absurd c25 (by decide))
      refine lv_aload_n hx hb dX4_readAtom_81 rfl (lv_at hl 1 rfl) ?_
      refine lv_iload_n hx hb dX4_readAtom_82 rfl (lv_at hl 2 rfl) ?_
      refine lv_iconst (v := 1) hx hb dX4_readAtom_83 (by decide) ?_
      refine lv_iadd hx hb dX4_readAtom_84 ?_
      refine lv_topi (fun x26 ex26 => ?_)
      obtain rfl : x26 = 2 := ex26.trans (by decide)
      have hFc := gA_free hG hA hS
      refine va_calli (va_runV (As := [.int 2]) (rest := []) ⟨hx, hb, hml, hown, hts⟩ (c_readAny2 l dC dI kA adK adV G H nC nS o0 th x15 s0 sp9 vT vS tv ix_tv ix_tv K X pS hT hr_o0 m18 hr_th m17 m19 m20 hr_sp9 (by have q8 := ti_all ix_tv; omega) (by have q8 := ti_all x15; omega) (by have := (show x15.toInt = x15.toInt from rfl); have := (show ix_tv.toInt = ix_tv.toInt from rfl); omega) (fun m hm => hKK m (Nat.le_trans hm (Nat.le_of_eq (tn_same hx_tv rfl rfl)))) (fun m hm => hXX m (Nat.lt_of_lt_of_eq hm (tn_same hx_tv rfl rfl))) (by have q8 := ti_all s0; omega) (by have := (show s0.toInt = s0.toInt from rfl); have := (show x15.toInt = x15.toInt from rfl); omega) m21 m22 (by have q9 := (show ix_tv.toInt = ix_tv.toInt from rfl); have := (show ix_tv.toInt = ix_tv.toInt from rfl); omega) m23 (by have q8 := ti_all tv; omega) (by omega) (by omega)) (cwV 1 hts (goodIn_app (goodIn_r _ [35, 36, 37, 15] rfl (by decide +kernel)) (goodIn_ca (goodIn_r _ [3, 4, 5, 1, 2, 3, 6, 7, 8, 9, 10, 11, 12, 13, 14, 15, 16, 17, 18, 19, 20, 21, 22, 23, 24, 25, 26, 27, 28, 29, 30, 31, 32, 33, 34, 35, 36, 37] rfl (by decide +kernel)) (bs2_in _ _))) rfl rfl rfl (by decide +kernel) ⟨(Nat.le_of_ble_eq_true rfl), (Nat.le_of_ble_eq_true rfl)⟩) ⟨fun a U g mk q => by obtain ⟨q0, q1, qK, qE⟩ := q; exact ⟨q0, q1, va_K.moved (u := U) (U := U.calling g mk a) (Vm.Alike.refl U.vm) qK, EVC.blind g mk a qE⟩, gH_rc hK hT hr_o0 shc_152 rfl, fun U hU hW => ⟨rfl, hU, va_K.moved hW.alike hK, hE.call hS hFc hU hW⟩⟩ rfl rfl hl.1 rfl (lv_room (Nat.le_of_ble_eq_true rfl)) dX4_readAtom_85 ⟨(Nat.le_of_ble_eq_true rfl), (Nat.le_of_ble_eq_true rfl)⟩) hS (fun q _ h => hFc q h) hFc (fun r27 u t H locs ht hvm hw28 hB _ _ hS => ?_)
      obtain ⟨u29, u30, u31⟩ := u
      obtain ⟨hT, hF1, m32, m33, m34⟩ := hB
      rw [ht] at hT hF1 m32 m33 m34
      have m35 := (hF1.fld hr_o0 skc_152 (k := 0) (by decide) (by decide)).trans m18
      have m38 := m21.kept (hF1.arr hr_th skc_153 (by decide))
      have m40 := (el_kept (hF1.arr hr_th skc_153 (by decide))).trans m23
      have hF := hF.more hF1 (by decide)
      try dsimp only at hw28
      obtain ⟨h43, h44, h45, hf46, hf47, hf48, hf49, hf50⟩ := hw28
      refine lv_if_eq (tgt := 104) hx hb dX4_readAtom_88 (by decide) (fun c51 => ?_) (fun c51 => ?_)
      · have t52 : r27.toInt = 0 := ti_eq c51 rfl (by decide)
        refine lv_iconst (v := 0) hx hb dX4_readAtom_104 (by decide) ?_
        exact W.zret (v := 0) hx hb hr (by decide) (fun t ht hW => ⟨⟨0, (u29, u30, u31), rfl, (by exact ⟨(by have q8 := ti_all u29; omega), (by have q8 := ti_all u30; omega), (rg_t (a := 0) (by decide) (by first | decide | omega) (by first | decide | omega)), (by omega), (by omega), (by have h9 := hf48; rw [(show pS x15.toNatClampNeg = X (pS a0.toNatClampNeg) from by rw [show x15.toNatClampNeg = a0.toNatClampNeg + 1 from by have := tn_of (show a0.toInt = a0.toInt from rfl) (by omega); have := tn_of (show x15.toInt = x15.toInt from rfl) (by omega); omega]; exact hXX _ (by have := tn_of (show a0.toInt = a0.toInt from rfl) (by omega); have := tn_of (show tn.toInt = tn.toInt from rfl) (by omega); omega))] at h9; rw [show r27.toInt = 0 from by omega] at h9; exact Or.inr (Or.inl ⟨by omega, Or.inl ⟨h9, by decide⟩⟩)), (zKp.rf.tr hf49 (by have := tn_of (show s0.toInt = s0.toInt from rfl) (by omega); omega)), (fun h8 => absurd h8 (by decide))⟩), by (try dsimp only); rw [ht]; exact ⟨hT, hF, m32, m33, m34⟩⟩, hS.F ht⟩) hS.2.2 dX4_readAtom_105
      · have t53 : r27.toInt ≠ 0 := ti_ne c51 rfl (by decide)
        refine lv_aload_n hx hb dX4_readAtom_91 rfl (lv_at hl 1 rfl) ?_
        refine lv_bipush (v := 17) hx hb dX4_readAtom_92 (by decide) ?_
        have hFc := gA_free hG hA hS
        refine va_calli (va_runV (As := [.int 17]) (rest := []) ⟨hx, hb, hml, hown, hts⟩ (c_take l dC dI kA adK adV G H nC nS o0 17 th u29 vT tv ix_tv ix_tv K X pS hT hr_o0 m35 hr_th m32 (by have q8 := ti_all ix_tv; omega) (by have q8 := ti_all u29; omega) (by have := (show u29.toInt = u29.toInt from rfl); have := (show ix_tv.toInt = ix_tv.toInt from rfl); omega) (by have := (show (17 : Int32).toInt = 17 from (by decide)); omega) (fun m hm => hKK m (Nat.le_trans hm (Nat.le_of_eq (tn_same hx_tv rfl rfl)))) (fun m hm => hXX m (Nat.lt_of_lt_of_eq hm (tn_same hx_tv rfl rfl))) m38 (by have q9 := (show ix_tv.toInt = ix_tv.toInt from rfl); have := (show ix_tv.toInt = ix_tv.toInt from rfl); omega) m40 (by have q8 := ti_all tv; omega) (by omega) (by omega)) (cwV 1 hts (goodIn_app (goodIn_r _ [20, 21, 22, 15] rfl (by decide +kernel)) (goodIn_ca (goodIn_r _ [19, 1, 2] rfl (by decide +kernel)) (bs2_in _ _))) rfl rfl rfl (by decide +kernel) ⟨(Nat.le_of_ble_eq_true rfl), (Nat.le_of_ble_eq_true rfl)⟩) ⟨fun a U g mk q => by obtain ⟨q0, q1, qK, qE⟩ := q; exact ⟨q0, q1, va_K.moved (u := U) (U := U.calling g mk a) (Vm.Alike.refl U.vm) qK, EVC.blind g mk a qE⟩, gH_rc hK hT hr_o0 shc_152 rfl, fun U hU hW => ⟨rfl, hU, va_K.moved hW.alike hK, hE.call hS hFc hU hW⟩⟩ rfl rfl hl.1 rfl (lv_room (Nat.le_of_ble_eq_true rfl)) dX4_readAtom_94 ⟨(Nat.le_of_ble_eq_true rfl), (Nat.le_of_ble_eq_true rfl)⟩) hS (fun q _ h => hFc q h) hFc (fun r54 u t H locs ht hvm hw55 hB _ _ hS => ?_)
        obtain ⟨u56, rfl⟩ : ∃ z, z = u := ⟨_, rfl⟩
        obtain ⟨hT, hF1, m57⟩ := hB
        rw [ht] at hT hF1 m57
        have m64 := (hF1.fld hr_o0 skc_152 (k := 12) (by decide) (by decide)).trans m33
        have m65 := m34.kept (hF1.arr hr_sp9 skc_162 (by decide))
        have hF := hF.more hF1 (by decide)
        try dsimp only at hw55
        obtain ⟨h66, h67, hf68, hf69, hf70⟩ := hw55
        refine lv_if_eq (tgt := 104) hx hb dX4_readAtom_97 (by decide) (fun c71 => ?_) (fun c71 => ?_)
        · have t72 : r54.toInt = 0 := ti_eq c71 rfl (by decide)
          refine lv_iconst (v := 0) hx hb dX4_readAtom_104 (by decide) ?_
          exact W.zret (v := 0) hx hb hr (by decide) (fun t ht hW => ⟨⟨0, (u56, u30, u31), rfl, (by exact ⟨(by have q8 := ti_all u56; omega), (by have q8 := ti_all u30; omega), (rg_t (a := 0) (by decide) (by first | decide | omega) (by first | decide | omega)), (by omega), (by omega), (by have h9 := hf48; rw [(show pS x15.toNatClampNeg = X (pS a0.toNatClampNeg) from by rw [show x15.toNatClampNeg = a0.toNatClampNeg + 1 from by have := tn_of (show a0.toInt = a0.toInt from rfl) (by omega); have := tn_of (show x15.toInt = x15.toInt from rfl) (by omega); omega]; exact hXX _ (by have := tn_of (show a0.toInt = a0.toInt from rfl) (by omega); have := tn_of (show tn.toInt = tn.toInt from rfl) (by omega); omega))] at h9; rw [show r27.toInt = 1 from by omega] at h9; have t9 := hf69; exact Or.inr (Or.inl ⟨by omega, Or.inr ⟨_, h9, (by have q0 : (0 : Int32).toInt = 0 := (by decide); have q1 : (1 : Int32).toInt = 1 := (by decide); rcases t9 with ⟨x1, x2, x3⟩ | ⟨x1, x2, x3⟩; (exact Or.inl ⟨x1.trans (by decide), by omega, x3⟩); exact Or.inr ⟨fun h7 => x1 (h7.trans (by decide)), by omega, x3⟩)⟩⟩)), (zKp.rf.tr hf49 (by have := tn_of (show s0.toInt = s0.toInt from rfl) (by omega); omega)), (fun h8 => absurd h8 (by decide))⟩), by (try dsimp only); rw [ht]; exact ⟨hT, hF, m57, m64, m65⟩⟩, hS.F ht⟩) hS.2.2 dX4_readAtom_105
        · have t73 : r54.toInt ≠ 0 := ti_ne c71 rfl (by decide)
          refine lv_iconst (v := 1) hx hb dX4_readAtom_100 (by decide) ?_
          refine lv_goto (tgt := 105) hx hb dX4_readAtom_101 (by decide) ?_
          exact W.zret (v := 1) hx hb hr (by decide) (fun t ht hW => ⟨⟨1, (u56, u30, u31), rfl, (by exact ⟨(by have q8 := ti_all u56; omega), (by have q8 := ti_all u30; omega), (rg_t (a := 1) (by decide) (by first | decide | omega) (by first | decide | omega)), (by omega), (by omega), (by have h9 := hf48; rw [(show pS x15.toNatClampNeg = X (pS a0.toNatClampNeg) from by rw [show x15.toNatClampNeg = a0.toNatClampNeg + 1 from by have := tn_of (show a0.toInt = a0.toInt from rfl) (by omega); have := tn_of (show x15.toInt = x15.toInt from rfl) (by omega); omega]; exact hXX _ (by have := tn_of (show a0.toInt = a0.toInt from rfl) (by omega); have := tn_of (show tn.toInt = tn.toInt from rfl) (by omega); omega))] at h9; rw [show r27.toInt = 1 from by omega] at h9; have t9 := hf69; exact Or.inr (Or.inl ⟨by omega, Or.inr ⟨_, h9, (by have q0 : (0 : Int32).toInt = 0 := (by decide); have q1 : (1 : Int32).toInt = 1 := (by decide); rcases t9 with ⟨x1, x2, x3⟩ | ⟨x1, x2, x3⟩; (exact Or.inl ⟨x1.trans (by decide), by omega, x3⟩); exact Or.inr ⟨fun h7 => x1 (h7.trans (by decide)), by omega, x3⟩)⟩⟩)), (zKp.rf.tr hf49 (by have := tn_of (show s0.toInt = s0.toInt from rfl) (by omega); omega)), (fun h8 => by have h9 := hf50 (by omega); rw [(show pS x15.toNatClampNeg = X (pS a0.toNatClampNeg) from by rw [show x15.toNatClampNeg = a0.toNatClampNeg + 1 from by have := tn_of (show a0.toInt = a0.toInt from rfl) (by omega); have := tn_of (show x15.toInt = x15.toInt from rfl) (by omega); omega]; exact hXX _ (by have := tn_of (show a0.toInt = a0.toInt from rfl) (by omega); have := tn_of (show tn.toInt = tn.toInt from rfl) (by omega); omega))] at h9; have t9 := hf69.resolve_right (fun h7 => by have := h7.2.1; omega); exact Or.inr (Or.inl ⟨by omega, _, h9, t9.1.trans (by decide), t9.2.2⟩))⟩), by (try dsimp only); rw [ht]; exact ⟨hT, hF, m57, m64, m65⟩⟩, hS.F ht⟩) hS.2.2 dX4_readAtom_105
    · have t74 : x2.toInt ≠ 16 := ti_ne c12 rfl (by decide)
      refine lv_aload_n hx hb dX4_readAtom_38 rfl (lv_at hl 1 rfl) ?_
      have hFc := gA_free hG hA hS
      refine va_calli (va_runV (As := []) (rest := []) ⟨hx, hb, hml, hown, hts⟩ (c_readComparison l dC dI kA adK adV G s.heap nC nS o0 th a0 s0 sp9 vT vS tv ix_tv ix_tv K X pS hT hr_o0 hm_th hr_th hm_a0 hm_s0 hm_sp9 hr_sp9 (by have q8 := ti_all ix_tv; omega) (by have q8 := ti_all a0; omega) (by have := (show a0.toInt = a0.toInt from rfl); have := (show ix_tv.toInt = ix_tv.toInt from rfl); omega) (fun m hm => hKK m (Nat.le_trans hm (Nat.le_of_eq (tn_same hx_tv rfl rfl)))) (fun m hm => hXX m (Nat.lt_of_lt_of_eq hm (tn_same hx_tv rfl rfl))) (by have q8 := ti_all s0; omega) (by have := (show s0.toInt = s0.toInt from rfl); have := (show a0.toInt = a0.toInt from rfl); omega) hc_vT hc_vS (by have q9 := (show ix_tv.toInt = ix_tv.toInt from rfl); have := (show ix_tv.toInt = ix_tv.toInt from rfl); omega) hm_tv (by have q8 := ti_all tv; omega) (by omega) (by omega)) (cwV 0 hts (goodIn_app (goodIn_r _ [26, 27, 28, 15] rfl (by decide +kernel)) (goodIn_ca (goodIn_r _ [6, 7, 8, 1, 2, 9, 10, 11, 12, 13, 14, 15, 16, 17, 18, 19, 20, 21, 22, 23, 24, 25] rfl (by decide +kernel)) (bs2_in _ _))) rfl rfl rfl (by decide +kernel) ⟨(Nat.le_of_ble_eq_true rfl), (Nat.le_of_ble_eq_true rfl)⟩) ⟨fun a U g mk q => by obtain ⟨q0, q1, qK, qE⟩ := q; exact ⟨q0, q1, va_K.moved (u := U) (U := U.calling g mk a) (Vm.Alike.refl U.vm) qK, EVC.blind g mk a qE⟩, gH_rc hK hT hr_o0 shc_152 rfl, fun U hU hW => ⟨rfl, hU, va_K.moved hW.alike hK, hE.call hS hFc hU hW⟩⟩ rfl rfl hl.1 rfl (lv_room (Nat.le_of_ble_eq_true rfl)) dX4_readAtom_39 ⟨(Nat.le_of_ble_eq_true rfl), (Nat.le_of_ble_eq_true rfl)⟩) hS (fun q _ h => hFc q h) hFc (fun r75 u t H locs ht hvm hw76 hB _ _ hS => ?_)
      obtain ⟨u77, u78, u79⟩ := u
      obtain ⟨hT, hF1, m80, m81, m82⟩ := hB
      rw [ht] at hT hF1 m80 m81 m82
      have hF := hF.more hF1 (by decide)
      try dsimp only at hw76
      obtain ⟨h91, h92, h93, hf94, hf95, hf96, hf97, hf98⟩ := hw76
      exact W.zret (v := r75) hx hb hr (nar_b (by have q8 := ti_all r75; omega)) (fun t ht hW => ⟨⟨r75, (u77, u78, u79), rfl, (by exact ⟨(by have q8 := ti_all u77; omega), (by have q8 := ti_all u78; omega), (by have q8 := ti_all r75; omega), (by omega), (by omega), (Or.inr (Or.inr ⟨by omega, hf96⟩)), (zKp.rf.tr hf97 (by have := tn_of (show s0.toInt = s0.toInt from rfl) (by omega); omega)), (fun h8 => Or.inr (Or.inr ⟨by omega, hf98 h8⟩))⟩), by (try dsimp only); rw [ht]; exact ⟨hT, hF, m80, m81, m82⟩⟩, hS.F ht⟩) hS.2.2 dX4_readAtom_42
  · have t99 : x2.toInt = 13 := ti_eq c6 rfl (by decide)
    refine lv_iconst (v := 1) hx hb dX4_readAtom_14 (by decide) ?_
    refine lv_goto (tgt := 19) hx hb dX4_readAtom_15 (by decide) ?_
    refine lv_istore_n (lv' := [(2, .int 1), (0, .ref o0), (1, .int 1)]) hx hb dX4_readAtom_19 rfl hl (by decide) rfl (fun ls hl => ?_)
    refine lv_iload_n hx hb dX4_readAtom_20 rfl (lv_at hl 0 rfl) ?_
    refine lv_if_ne (tgt := 43) hx hb dX4_readAtom_21 (by decide) (fun c100 => ?_) (fun c100 => absurd c100 (by decide))
    refine lv_iload_n hx hb dX4_readAtom_43 rfl (lv_at hl 2 rfl) ?_
    refine lv_bipush (v := 6) hx hb dX4_readAtom_44 (by decide) ?_
    refine lv_icmp_lt (tgt := 51) hx hb dX4_readAtom_46 (by decide) (fun c101 => ?_) (fun c101 => absurd c101 (by decide))
    refine lv_aload_n hx hb dX4_readAtom_51 rfl (lv_at hl 1 rfl) ?_
    refine lv_dup hx hb dX4_readAtom_52 rfl ?_
    refine tw_getM (v := .int a0) hx hb hts bF2_X4 hown hK hT hr_o0 shc_152 rfl 13 (by decide) (ht_at2 hts 1 rfl) (fun _ h9 => h9) hm_a0 dX4_readAtom_53 ?_
    refine lv_iconst (v := 1) hx hb dX4_readAtom_56 (by decide) ?_
    refine lv_iadd hx hb dX4_readAtom_57 ?_
    refine lv_topi (fun x102 ex102 => ?_)
    have t103 : x102.toInt = a0.toInt + 1 := ti_add ex102 rfl (by decide) (by omega) (by omega)
    refine tw_put (v := .int x102) (ty := .int) hx hb hts bF2_X4 tyX4 tyX4_ok nmX4 hown hK hT hG hS hr_o0 shc_152 rfl 13 (by decide) (ht_at2 hts 1 rfl) (fun _ h9 => h9) rfl (by decide +kernel) rfl rfl (gl_at rfl (gi_of (show x102.toInt = x102.toInt from rfl) (by omega) (by omega))) dX4_readAtom_58 (fun H locs hT oq m104 oj hS => ?_)
    have hF := hF.put hr_o0 skc_152 oq oj (by decide)
    have m105 := (oj 0 (by decide) (by decide)).trans hm_th
    have m106 := (oj 12 (by decide) (by decide)).trans hm_s0
    have m107 := (oj 9 (by decide) (by decide)).trans hm_sp9
    have m108 := hc_vT.kept (oq _ (gne hr_th hr_o0 (by decide)))
    have m109 := hc_vS.kept (oq _ (gne hr_sp9 hr_o0 (by decide)))
    have m110 := (el_kept (oq _ (gne hr_th hr_o0 (by decide)))).trans hm_tv
    refine lv_iload_n hx hb dX4_readAtom_61 rfl (lv_at hl 0 rfl) ?_
    refine lv_if_eq (tgt := 81) hx hb dX4_readAtom_62 (by decide) (fun c112 => absurd c112 (by decide)) (fun c112 => ?_)
    refine lv_aload_n hx hb dX4_readAtom_65 rfl (lv_at hl 1 rfl) ?_
    refine lv_iload_n hx hb dX4_readAtom_66 rfl (lv_at hl 2 rfl) ?_
    refine lv_iconst (v := 1) hx hb dX4_readAtom_67 (by decide) ?_
    refine lv_iadd hx hb dX4_readAtom_68 ?_
    refine lv_topi (fun x113 ex113 => ?_)
    obtain rfl : x113 = 2 := ex113.trans (by decide)
    have hFc := gA_free hG hA hS
    refine va_calli (va_runV (As := [.int 2]) (rest := []) ⟨hx, hb, hml, hown, hts⟩ (c_readAtom2 l dC dI kA adK adV G H nC nS o0 th x102 s0 sp9 vT vS tv ix_tv ix_tv K X pS hT hr_o0 m105 hr_th m104 m106 m107 hr_sp9 (by have q8 := ti_all ix_tv; omega) (by have q8 := ti_all x102; omega) (by have := (show x102.toInt = x102.toInt from rfl); have := (show ix_tv.toInt = ix_tv.toInt from rfl); omega) (fun m hm => hKK m (Nat.le_trans hm (Nat.le_of_eq (tn_same hx_tv rfl rfl)))) (fun m hm => hXX m (Nat.lt_of_lt_of_eq hm (tn_same hx_tv rfl rfl))) (by have q8 := ti_all s0; omega) (by have := (show s0.toInt = s0.toInt from rfl); have := (show x102.toInt = x102.toInt from rfl); omega) m108 m109 (by have q9 := (show ix_tv.toInt = ix_tv.toInt from rfl); have := (show ix_tv.toInt = ix_tv.toInt from rfl); omega) m110 (by have q8 := ti_all tv; omega) (by omega) (by omega)) (cwV 1 hts (goodIn_app (goodIn_r _ [29, 30, 31, 15] rfl (by decide +kernel)) (goodIn_ca (goodIn_r _ [5, 1, 2, 3, 4, 5, 6, 7, 8, 9, 10, 11, 12, 13, 14, 15, 16, 17, 18, 19, 20, 21, 22, 23, 24, 25, 26, 27, 28, 29, 30, 31, 32, 33, 34, 35, 36, 37] rfl (by decide +kernel)) (bs2_in _ _))) rfl rfl rfl (by decide +kernel) ⟨(Nat.le_of_ble_eq_true rfl), (Nat.le_of_ble_eq_true rfl)⟩) ⟨fun a U g mk q => by obtain ⟨q0, q1, qK, qE⟩ := q; exact ⟨q0, q1, va_K.moved (u := U) (U := U.calling g mk a) (Vm.Alike.refl U.vm) qK, EVC.blind g mk a qE⟩, gH_rc hK hT hr_o0 shc_152 rfl, fun U hU hW => ⟨rfl, hU, va_K.moved hW.alike hK, hE.call hS hFc hU hW⟩⟩ rfl rfl hl.1 rfl (lv_room (Nat.le_of_ble_eq_true rfl)) dX4_readAtom_69 ⟨(Nat.le_of_ble_eq_true rfl), (Nat.le_of_ble_eq_true rfl)⟩) hS (fun q _ h => hFc q h) hFc (fun r114 u t H locs ht hvm hw115 hB _ _ hS => ?_)
    obtain ⟨u116, u117, u118⟩ := u
    obtain ⟨hT, hF1, m119, m120, m121⟩ := hB
    rw [ht] at hT hF1 m119 m120 m121
    have m124 := (hF1.fld hr_o0 skc_152 (k := 9) (by decide) (by decide)).trans m107
    have hF := hF.more hF1 (by decide)
    try dsimp only at hw115
    obtain ⟨h130, h131, h132, hf133, hf134, hf135, hf136, hf137⟩ := hw115
    refine lv_istore_n (lv' := [(3, .int r114), (2, .int 1), (0, .ref o0), (1, .int 1)]) hx hb dX4_readAtom_72 rfl hl (by decide) rfl (fun ls hl => ?_)
    refine lv_aload_n hx hb dX4_readAtom_73 rfl (lv_at hl 2 rfl) ?_
    refine lv_bipush (v := 13) hx hb dX4_readAtom_74 (by decide) ?_
    have hFc := gA_free hG hA hS
    refine va_callv (va_runV (As := [.int 13]) (rest := []) ⟨hx, hb, hml, hown, hts⟩ (c_addStep l dC dI kA adK adV G H nC nS o0 13 u117 sp9 u118 hT hr_o0 m120 m124 hr_sp9 (rg_t (a := 13) (by decide) (by first | decide | omega) (by first | decide | omega)) (by have q8 := ti_all u117; omega) m121 (by omega) (by omega)) (cwV 1 hts (goodIn_app (goodIn_r _ [12, 13, 14, 15] rfl (by decide +kernel)) (goodIn_ca (goodIn_r _ [9, 10, 11] rfl (by decide +kernel)) (bs2_in _ _))) rfl rfl rfl (by decide +kernel) ⟨(Nat.le_of_ble_eq_true rfl), (Nat.le_of_ble_eq_true rfl)⟩) ⟨fun a U g mk q => by obtain ⟨q0, q1, qK, qE⟩ := q; exact ⟨q0, q1, va_K.moved (u := U) (U := U.calling g mk a) (Vm.Alike.refl U.vm) qK, EVC.blind g mk a qE⟩, gH_rc hK hT hr_o0 shc_152 rfl, fun U hU hW => ⟨rfl, hU, va_K.moved hW.alike hK, hE.call hS hFc hU hW⟩⟩ rfl rfl hl.1 rfl (lv_room (Nat.le_of_ble_eq_true rfl)) dX4_readAtom_76 ⟨(Nat.le_of_ble_eq_true rfl), (Nat.le_of_ble_eq_true rfl)⟩) hS (fun q _ h => hFc q h) hFc (fun u t H locs ht hvm hw139 hB _ _ hS => ?_)
    obtain ⟨u140, rfl⟩ : ∃ z, z = u := ⟨_, rfl⟩
    obtain ⟨hT, hF1, m141, m142⟩ := hB
    rw [ht] at hT hF1 m141 m142
    have m148 := (hF1.fld hr_o0 skc_152 (k := 13) (by decide) (by decide)).trans m119
    have hF := hF.more hF1 (by decide)
    try dsimp only at hw139
    obtain ⟨h151, hf152⟩ := hw139
    refine lv_iload_n hx hb dX4_readAtom_79 rfl (lv_at hl 0 rfl) ?_
    exact W.zret (v := r114) hx hb hr (nar_b (by have q8 := ti_all r114; omega)) (fun t ht hW => ⟨⟨r114, (u116, u140, (cu u118 u117.toNatClampNeg 13)), rfl, (by exact ⟨(by have q8 := ti_all u116; omega), (by have q8 := ti_all u140; omega), (by have q8 := ti_all r114; omega), (by omega), (by omega), (by have h9 := hf135; rw [(show pS x102.toNatClampNeg = X (pS a0.toNatClampNeg) from by rw [show x102.toNatClampNeg = a0.toNatClampNeg + 1 from by have := tn_of (show a0.toInt = a0.toInt from rfl) (by omega); have := tn_of (show x102.toInt = x102.toInt from rfl) (by omega); omega]; exact hXX _ (by have := tn_of (show a0.toInt = a0.toInt from rfl) (by omega); have := tn_of (show tn.toInt = tn.toInt from rfl) (by omega); omega))] at h9; exact Or.inl ⟨by omega, h9⟩), ((zKp.rf.tr hf136 (by have := tn_of (show s0.toInt = s0.toInt from rfl) (by omega); omega)).st (by have := tn_of (show s0.toInt = s0.toInt from rfl) (by omega); have := tn_of (show u117.toInt = u117.toInt from rfl) (by omega); omega)), (fun h8 => by have := tn_of (show s0.toInt = s0.toInt from rfl) (by omega); have := tn_of (show u117.toInt = u117.toInt from rfl) (by omega); have := tn_of (show u140.toInt = u140.toInt from rfl) (by omega); have h9 := hf137 h8; rw [(show pS x102.toNatClampNeg = X (pS a0.toNatClampNeg) from by rw [show x102.toNatClampNeg = a0.toNatClampNeg + 1 from by have := tn_of (show a0.toInt = a0.toInt from rfl) (by omega); have := tn_of (show x102.toInt = x102.toInt from rfl) (by omega); omega]; exact hXX _ (by have := tn_of (show a0.toInt = a0.toInt from rfl) (by omega); have := tn_of (show tn.toInt = tn.toInt from rfl) (by omega); omega))] at h9; exact Or.inl ⟨by omega, _, h9, zC_2 (s2 := u117.toNatClampNeg) (by omega) (by omega) rfl (by decide)⟩)⟩), by (try dsimp only); rw [ht]; exact ⟨hT, hF, m148, m141, m142⟩⟩, hS.F ht⟩) hS.2.2 dX4_readAtom_80
def w_c_readAll1 : List Cond := .code yX4_readAll cX4_readAll 4 (some .boolean) :: (HAppend.hAppend (α := List Cond) (β := List Cond) (γ := List Cond) [.code yX4_readAtom cX4_readAtom 4 (some .boolean), .fieldLink RX4 11 "SeaLand$Law" "things" "[I", .fieldLink RX4 56 "SeaLand$Law" "at" "I", .code yX4_readAny cX4_readAny 4 (some .boolean), .code yX4_readAll cX4_readAll 4 (some .boolean), .code yX4_readComparison cX4_readComparison 3 (some .boolean), .code yX4_readSum cX4_readSum 3 (some .boolean), .code yX4_readPart cX4_readPart 2 (some .boolean), .code yX4_addStep cX4_addStep 2 none, .fieldLink RX4 63 "SeaLand$Law" "stepped" "I", .fieldLink RX4 39 "SeaLand$Law" "steps" "[I", .methodLink RX4 179 yX4_addStep, .instanceMethod yX4_addStep, .selects RX4 yX4_addStep yX4_addStep, .initialized RX4, .methodLink RX4 192 yX4_readPart, .instanceMethod yX4_readPart, .selects RX4 yX4_readPart yX4_readPart, .code yX4_take cX4_take 2 (some .boolean), .methodLink RX4 70 yX4_take, .instanceMethod yX4_take, .selects RX4 yX4_take yX4_take, .methodLink RX4 189 yX4_readSum, .instanceMethod yX4_readSum, .selects RX4 yX4_readSum yX4_readSum, .methodLink RX4 186 yX4_readComparison, .instanceMethod yX4_readComparison, .selects RX4 yX4_readComparison yX4_readComparison, .methodLink RX4 183 yX4_readAtom, .instanceMethod yX4_readAtom, .selects RX4 yX4_readAtom yX4_readAtom, .methodLink RX4 176 yX4_readAll, .instanceMethod yX4_readAll, .selects RX4 yX4_readAll yX4_readAll, .methodLink RX4 173 yX4_readAny, .instanceMethod yX4_readAny, .selects RX4 yX4_readAny yX4_readAny] bs2)
set_option maxHeartbeats 4000000 in
set_option maxRecDepth 100000 in
theorem c_readAll1 (l : Launch) (dC : Nat → ClassId) (dI : Nat → Nat → Nat) (kA : Nat → ClassId) (adK adV : Nat → Nat) (G : gT) (H0 : Heap) (nC nS : Int) (o0 : Nat) (th : Nat) (a0 : Int32) (s0 : Int32) (sp9 : Nat) (vT : Nat → Int32) (vS : Nat → Int32) (tv ix_tv : Int32) (tn : Int32) (K : Nat → Int) (X pS : Nat → Nat) (hT : gH (dC, dI) kA (SHc nC nS) G H0) (hr_o0 : G o0 = some 152) (hm_th : el H0 o0 (dI 7 0) = some (.ref th)) (hr_th : G th = some 153) (hm_a0 : el H0 o0 (dI 7 13) = some (.int a0)) (hm_s0 : el H0 o0 (dI 7 12) = some (.int s0)) (hm_sp9 : el H0 o0 (dI 7 9) = some (.ref sp9)) (hr_sp9 : G sp9 = some 162) (hq0 : 0 ≤ tn.toInt ∧ tn.toInt ≤ 400) (hq1 : 0 ≤ a0.toInt ∧ a0.toInt ≤ 400) (hat : a0.toInt ≤ tn.toInt) (hKK : ∀ m : Nat, m ≤ tn.toNatClampNeg → (vT m).toInt = K (pS m)) (hXX : ∀ m : Nat, m < tn.toNatClampNeg → pS (m + 1) = X (pS m)) (hq5 : 0 ≤ s0.toInt ∧ s0.toInt ≤ 400) (hsa : s0.toInt ≤ a0.toInt) (hc_vT : ct H0 th 401 vT) (hc_vS : ct H0 sp9 400 vS) (hx_tv : ix_tv.toInt = tn.toInt) (hm_tv : el H0 th ix_tv.toNatClampNeg = some (.int tv)) (hv_tv : 21 ≤ tv.toInt ∧ tv.toInt ≤ 21) (hgC : 0 ≤ nC ∧ nC ≤ 40) (hgS : 0 ≤ nS ∧ nS ≤ 60) : Met l yX4_readAll w_c_readAll1 ({ frames := 20, cells := 0, slots := 0, locals := 454 }) (va_Pc [.ref o0, .int 1] (fun U => U.heap = H0 ∧ va_K (dC, dI) vwCl (tyl kA) U ∧ EVC adK adV (gA G H0.size) U U.heap)) (va_Qi (fun (r : Int32) (u : Int32 × Int32 × (Nat → Int32)) => match u with | (a1, s1, vS1) => (0 ≤ a1.toInt ∧ a1.toInt ≤ 400) ∧ (0 ≤ s1.toInt ∧ s1.toInt ≤ 400) ∧ (0 ≤ r.toInt ∧ r.toInt ≤ 1) ∧ (a0.toInt ≤ a1.toInt ∧ a1.toInt ≤ tn.toInt) ∧ (s0.toInt ≤ s1.toInt ∧ s1.toInt - s0.toInt ≤ a1.toInt - a0.toInt) ∧ (lpR K X (aR K X 5) 14 (pS a0.toNatClampNeg) r.toInt (pS a1.toNatClampNeg)) ∧ (zKp vS vS1 s0.toNatClampNeg) ∧ (r.toInt = 1 → zlZ K X (zaZ K X 5) 14 (pS a0.toNatClampNeg) (zC (tz vS1) s0.toNatClampNeg s1.toNatClampNeg) (pS a1.toNatClampNeg))) (fun (u : Int32 × Int32 × (Nat → Int32)) (t : State) => match u with | (a1, s1, vS1) => gH (dC, dI) kA (SHc nC nS) G t.heap ∧ gF (dC, dI) SKc G ([(152, 12), (152, 13), (162, 0)] : List (Nat × Nat)) H0 t.heap ∧ el t.heap o0 (dI 7 13) = some (.int a1) ∧ el t.heap o0 (dI 7 12) = some (.int s1) ∧ ct t.heap sp9 400 vS1) (gA G H0.size)) 0 0 (gA G H0.size) := by
  refine Met.ofW (cc := cX4_readAll) (maxL := 4) (ret := (some .boolean)) (by decide) rfl ?_
  intro p e s m args below meth c s₁ B hml hv
  obtain ⟨rfl, hH0, hK, hE⟩ := hv
  have hx := B.exec
  have hb := B.bytes
  have hr := B.returns
  have hts := atoms_spec (ws := w_c_readAll1) B.pre
  have hown : s.vm.findClass RX4 = some m.cls := findClass_of_methodNamed B.named
  have hlocks := B.notSynchronized
  subst hH0
  generalize hAe : gA G s.heap.size = A at hE ⊢
  have hA : ∀ q : Nat, s.heap.size ≤ q → A q := fun q h => by rw [← hAe]; exact Or.inr h
  have hG := gA_of hAe
  have hS : va_S A s.heap s.heap [] := va_S.rf
  have hF : gF (dC, dI) SKc G ([(152, 12), (152, 13), (162, 0)] : List (Nat × Nat)) s.heap s.heap := gF.rf
  have hl := lv_entry ([.ref o0, .int 1]) (n := 4) (Nat.le_of_ble_eq_true rfl)
  rw [lg_entry_eq]
  generalize (lg_sl ([.ref o0, .int 1]) ++ List.replicate (4 - (lg_sl ([.ref o0, .int 1])).length) Slot.unset).toArray = ls at hl ⊢
  have hl : lv_has ls 4 [(0, .ref o0), (1, .int 1)] := hl
  refine lv_aload_n hx hb dX4_readAll_0 rfl (lv_at hl 0 rfl) ?_
  refine lv_iload_n hx hb dX4_readAll_1 rfl (lv_at hl 1 rfl) ?_
  have hFc := gA_free hG hA hS
  refine va_calli (va_runV (As := [.int 1]) (rest := []) ⟨hx, hb, hml, hown, hts⟩ (c_readAtom1 l dC dI kA adK adV G s.heap nC nS o0 th a0 s0 sp9 vT vS tv ix_tv ix_tv K X pS hT hr_o0 hm_th hr_th hm_a0 hm_s0 hm_sp9 hr_sp9 (by have q8 := ti_all ix_tv; omega) (by have q8 := ti_all a0; omega) (by have := (show a0.toInt = a0.toInt from rfl); have := (show ix_tv.toInt = ix_tv.toInt from rfl); omega) (fun m hm => hKK m (Nat.le_trans hm (Nat.le_of_eq (tn_same hx_tv rfl rfl)))) (fun m hm => hXX m (Nat.lt_of_lt_of_eq hm (tn_same hx_tv rfl rfl))) (by have q8 := ti_all s0; omega) (by have := (show s0.toInt = s0.toInt from rfl); have := (show a0.toInt = a0.toInt from rfl); omega) hc_vT hc_vS (by have q9 := (show ix_tv.toInt = ix_tv.toInt from rfl); have := (show ix_tv.toInt = ix_tv.toInt from rfl); omega) hm_tv (by have q8 := ti_all tv; omega) (by omega) (by omega)) (cwV 1 hts (goodIn_app (goodIn_r _ [29, 30, 31, 15] rfl (by decide +kernel)) (goodIn_ca (goodIn_r _ [1, 2, 3, 4, 5, 1, 6, 7, 8, 9, 10, 11, 12, 13, 14, 15, 16, 17, 18, 19, 20, 21, 22, 23, 24, 25, 26, 27, 28, 29, 30, 31, 32, 33, 34, 35, 36, 37] rfl (by decide +kernel)) (bs2_in _ _))) rfl rfl rfl (by decide +kernel) ⟨(Nat.le_of_ble_eq_true rfl), (Nat.le_of_ble_eq_true rfl)⟩) ⟨fun a U g mk q => by obtain ⟨q0, q1, qK, qE⟩ := q; exact ⟨q0, q1, va_K.moved (u := U) (U := U.calling g mk a) (Vm.Alike.refl U.vm) qK, EVC.blind g mk a qE⟩, gH_rc hK hT hr_o0 shc_152 rfl, fun U hU hW => ⟨rfl, hU, va_K.moved hW.alike hK, hE.call hS hFc hU hW⟩⟩ rfl rfl hl.1 rfl (lv_room (Nat.le_of_ble_eq_true rfl)) dX4_readAll_2 ⟨(Nat.le_of_ble_eq_true rfl), (Nat.le_of_ble_eq_true rfl)⟩) hS (fun q _ h => hFc q h) hFc (fun r1 u t H locs ht hvm hw2 hB _ _ hS => ?_)
  obtain ⟨u3, u4, u5⟩ := u
  obtain ⟨hT, hF1, m6, m7, m8⟩ := hB
  rw [ht] at hT hF1 m6 m7 m8
  have m9 := (hF1.fld hr_o0 skc_152 (k := 0) (by decide) (by decide)).trans hm_th
  have m12 := (hF1.fld hr_o0 skc_152 (k := 9) (by decide) (by decide)).trans hm_sp9
  have m13 := hc_vT.kept (hF1.arr hr_th skc_153 (by decide))
  have m15 := (el_kept (hF1.arr hr_th skc_153 (by decide))).trans hm_tv
  have hF := hF.more hF1 (by decide)
  try dsimp only at hw2
  obtain ⟨h16, h17, h18, hf19, hf20, hf21, hf22, hf23⟩ := hw2
  refine lv_istore_n (lv' := [(2, .int r1), (0, .ref o0), (1, .int 1)]) hx hb dX4_readAll_5 rfl hl (by decide) rfl (fun ls hl => ?_)
  refine lv_iconst (v := 0) hx hb dX4_readAll_6 (by decide) ?_
  refine lv_istore_n (lv' := [(3, .int 0), (2, .int r1), (0, .ref o0), (1, .int 1)]) hx hb dX4_readAll_7 rfl hl (by decide) rfl (fun ls hl => ?_)
  have key105 : ∀ (n105 i24 : Nat), i24 + n105 = 400 → 0 ≤ i24 → ∀ (z25 : Int32), ∀ (V28 : Nat → Int32), ∀ (z33 : Int32), ∀ (z36 : Int32), ((0 ≤ z25.toInt ∧ z25.toInt ≤ 1) ∧ (0 ≤ z33.toInt ∧ z33.toInt ≤ 400) ∧ (0 ≤ z36.toInt ∧ z36.toInt ≤ 400) ∧ (a0.toInt ≤ z33.toInt ∧ z33.toInt ≤ tn.toInt) ∧ (((z25.toInt = 1 ∧ ∀ (r : Int) (f : Nat), lpQ K X (aR K X 5) 14 (pS z33.toNatClampNeg) r f → lpR K X (aR K X 5) 14 (pS a0.toNatClampNeg) r f) ∨ (z25.toInt = 0 ∧ lpR K X (aR K X 5) 14 (pS a0.toNatClampNeg) 0 (pS z33.toNatClampNeg))) ∧ ((i24 : Nat) : Int) ≤ z33.toInt) ∧ (z25.toInt = 1 → zlI K X (zaZ K X 5) 14 (pS a0.toNatClampNeg) (zC (tz V28) s0.toNatClampNeg z36.toNatClampNeg) (pS z33.toNatClampNeg)) ∧ (zKp vS V28 s0.toNatClampNeg) ∧ (s0.toInt ≤ z36.toInt ∧ z36.toInt - s0.toInt ≤ z33.toInt - a0.toInt)) → ∀ (H : Heap) (locs : List Loc), gH (dC, dI) kA (SHc nC nS) G H → gF (dC, dI) SKc G ([(152, 12), (152, 13), (162, 0)] : List (Nat × Nat)) s.heap H → va_S A s.heap H locs → ct H th 401 vT → ct H sp9 400 V28 → el H o0 (dI 7 0) = some (.ref th) → el H o0 (dI 7 9) = some (.ref sp9) → el H th ix_tv.toNatClampNeg = some (.int tv) → el H o0 (dI 7 13) = some (.int z33) → el H o0 (dI 7 12) = some (.int z36) → ∀ ls : Array Slot, lv_has ls 4 [(3, .int (nI i24)), (2, .int z25), (0, .ref o0), (1, .int 1)] → W p l e (headSpec w_c_readAll1 ({ frames := 20, cells := 0, slots := 0, locals := 454 })).room s m #[.ref o0, .int 1] below meth c H locs 0 0 (MQ below (va_Qi (fun (r : Int32) (u : Int32 × Int32 × (Nat → Int32)) => match u with | (a1, s1, vS1) => (0 ≤ a1.toInt ∧ a1.toInt ≤ 400) ∧ (0 ≤ s1.toInt ∧ s1.toInt ≤ 400) ∧ (0 ≤ r.toInt ∧ r.toInt ≤ 1) ∧ (a0.toInt ≤ a1.toInt ∧ a1.toInt ≤ tn.toInt) ∧ (s0.toInt ≤ s1.toInt ∧ s1.toInt - s0.toInt ≤ a1.toInt - a0.toInt) ∧ (lpR K X (aR K X 5) 14 (pS a0.toNatClampNeg) r.toInt (pS a1.toNatClampNeg)) ∧ (zKp vS vS1 s0.toNatClampNeg) ∧ (r.toInt = 1 → zlZ K X (zaZ K X 5) 14 (pS a0.toNatClampNeg) (zC (tz vS1) s0.toNatClampNeg s1.toNatClampNeg) (pS a1.toNatClampNeg))) (fun (u : Int32 × Int32 × (Nat → Int32)) (t : State) => match u with | (a1, s1, vS1) => gH (dC, dI) kA (SHc nC nS) G t.heap ∧ gF (dC, dI) SKc G ([(152, 12), (152, 13), (162, 0)] : List (Nat × Nat)) s.heap t.heap ∧ el t.heap o0 (dI 7 13) = some (.int a1) ∧ el t.heap o0 (dI 7 12) = some (.int s1) ∧ ct t.heap sp9 400 vS1) A) #[.ref o0, .int 1] s 0 0 A) (F0 m 8 ls []) := by
    intro n105
    induction n105 with
    | zero =>
      intro i24 hn105 hlo106 z25 V28 z33 z36 ⟨h26, h34, h37, hj39, hj40, hj41, hj42, hj43⟩ H locs hT hF hS m27 m29 m30 m31 m32 m35 m38 ls hl
      obtain rfl : 400 = i24 := by omega
      refine lv_iload_n hx hb dX4_readAll_8 rfl (lv_at hl 0 rfl) ?_
      refine lv_sipush (v := 400) hx hb dX4_readAll_9 (by decide) ?_
      refine lv_icmp_ge (tgt := 46) hx hb dX4_readAll_12 (by decide) (fun c107 => ?_) (fun c107 => (by exfalso; have q9 : ((400 : Nat) : Int) < 400 := ti_nle c107 (by decide) (nI_toInt (by omega)); omega))
      have t108 : 400 ≤ ((400 : Nat) : Int) := ti_le c107 (by decide) (nI_toInt (by omega))
      refine lv_iload_n hx hb dX4_readAll_46 rfl (lv_at hl 1 rfl) ?_
      exact W.zret (v := z25) hx hb hr (nar_b (by have q8 := ti_all z25; omega)) (fun t ht hW => ⟨⟨z25, (z33, z36, V28), rfl, (by exact ⟨(by have q8 := ti_all z33; omega), (by have q8 := ti_all z36; omega), (by have q8 := ti_all z25; omega), (by omega), (by omega), (by rcases hj40.1 with ⟨h8, l9⟩ | ⟨h8, l9⟩; (rw [h8]; exact lp_e l9 (fun h7 => by have := tn_of (show z33.toInt = z33.toInt from rfl) (by omega); have := tn_of (show tn.toInt = tn.toInt from rfl) (by omega); have k9 := hKK tn.toNatClampNeg (Nat.le_refl _); have e9 := hc_vT.at hm_tv (by have q9 := tn_of hx_tv (by omega); omega); have k8 : (vT tn.toNatClampNeg).toInt = 21 := (by have q8 := congrArg Int32.toInt e9; rw [show ix_tv.toNatClampNeg = tn.toNatClampNeg from tn_same hx_tv rfl rfl] at q8; omega); rw [show z33.toNatClampNeg = tn.toNatClampNeg from by omega] at h7; omega)); rw [h8]; exact l9), hj42, (fun h8 => ⟨hj41 h8, fun h7 => by have := tn_of (show z33.toInt = z33.toInt from rfl) (by omega); have := tn_of (show tn.toInt = tn.toInt from rfl) (by omega); have k9 := hKK tn.toNatClampNeg (Nat.le_refl _); have e9 := hc_vT.at hm_tv (by have q9 := tn_of hx_tv (by omega); omega); have k8 : (vT tn.toNatClampNeg).toInt = 21 := (by have q8 := congrArg Int32.toInt e9; rw [show ix_tv.toNatClampNeg = tn.toNatClampNeg from tn_same hx_tv rfl rfl] at q8; omega); rw [show z33.toNatClampNeg = tn.toNatClampNeg from by omega] at h7; omega⟩)⟩), by (try dsimp only); rw [ht]; exact ⟨hT, hF, m35, m38, m29⟩⟩, hS.F ht⟩) hS.2.2 dX4_readAll_47
    | succ n105 ih105 =>
      intro i24 hn105 hlo106 z25 V28 z33 z36 ⟨h26, h34, h37, hj39, hj40, hj41, hj42, hj43⟩ H locs hT hF hS m27 m29 m30 m31 m32 m35 m38 ls hl
      have hlt108 : i24 < 400 := by omega
      refine lv_iload_n hx hb dX4_readAll_8 rfl (lv_at hl 0 rfl) ?_
      refine lv_sipush (v := 400) hx hb dX4_readAll_9 (by decide) ?_
      refine lv_icmp_ge (tgt := 46) hx hb dX4_readAll_12 (by decide) (fun c109 => (by exfalso; have q9 : 400 ≤ ((i24 : Nat) : Int) := ti_le c109 (by decide) (nI_toInt (by omega)); omega)) (fun c109 => ?_)
      have t110 : ((i24 : Nat) : Int) < 400 := ti_nle c109 (by decide) (nI_toInt (by omega))
      refine lv_iload_n hx hb dX4_readAll_15 rfl (lv_at hl 1 rfl) ?_
      refine lv_if_eq (tgt := 46) hx hb dX4_readAll_16 (by decide) (fun c111 => ?_) (fun c111 => ?_)
      · have t112 : z25.toInt = 0 := ti_eq c111 rfl (by decide)
        refine lv_iload_n hx hb dX4_readAll_46 rfl (lv_at hl 1 rfl) ?_
        exact W.zret (v := z25) hx hb hr (nar_b (by have q8 := ti_all z25; omega)) (fun t ht hW => ⟨⟨z25, (z33, z36, V28), rfl, (by exact ⟨(by have q8 := ti_all z33; omega), (by have q8 := ti_all z36; omega), (by have q8 := ti_all z25; omega), (by omega), (by omega), (by rcases hj40.1 with ⟨h8, l9⟩ | ⟨h8, l9⟩; (rw [h8]; exact lp_e l9 (fun h7 => by have := tn_of (show z33.toInt = z33.toInt from rfl) (by omega); have := tn_of (show tn.toInt = tn.toInt from rfl) (by omega); have k9 := hKK tn.toNatClampNeg (Nat.le_refl _); have e9 := hc_vT.at hm_tv (by have q9 := tn_of hx_tv (by omega); omega); have k8 : (vT tn.toNatClampNeg).toInt = 21 := (by have q8 := congrArg Int32.toInt e9; rw [show ix_tv.toNatClampNeg = tn.toNatClampNeg from tn_same hx_tv rfl rfl] at q8; omega); rw [show z33.toNatClampNeg = tn.toNatClampNeg from by omega] at h7; omega)); rw [h8]; exact l9), hj42, (fun h8 => ⟨hj41 h8, fun h7 => by have := tn_of (show z33.toInt = z33.toInt from rfl) (by omega); have := tn_of (show tn.toInt = tn.toInt from rfl) (by omega); have k9 := hKK tn.toNatClampNeg (Nat.le_refl _); have e9 := hc_vT.at hm_tv (by have q9 := tn_of hx_tv (by omega); omega); have k8 : (vT tn.toNatClampNeg).toInt = 21 := (by have q8 := congrArg Int32.toInt e9; rw [show ix_tv.toNatClampNeg = tn.toNatClampNeg from tn_same hx_tv rfl rfl] at q8; omega); rw [show z33.toNatClampNeg = tn.toNatClampNeg from by omega] at h7; omega⟩)⟩), by (try dsimp only); rw [ht]; exact ⟨hT, hF, m35, m38, m29⟩⟩, hS.F ht⟩) hS.2.2 dX4_readAll_47
      · have t113 : z25.toInt ≠ 0 := ti_ne c111 rfl (by decide)
        refine lv_aload_n hx hb dX4_readAll_19 rfl (lv_at hl 2 rfl) ?_
        refine lv_bipush (v := 14) hx hb dX4_readAll_20 (by decide) ?_
        have hFc := gA_free hG hA hS
        refine va_calli (va_runV (As := [.int 14]) (rest := []) ⟨hx, hb, hml, hown, hts⟩ (c_take l dC dI kA adK adV G H nC nS o0 14 th z33 vT tv ix_tv ix_tv K X pS hT hr_o0 m30 hr_th m35 (by have q8 := ti_all ix_tv; omega) (by have q8 := ti_all z33; omega) (by have := (show z33.toInt = z33.toInt from rfl); have := (show ix_tv.toInt = ix_tv.toInt from rfl); omega) (by have := (show (14 : Int32).toInt = 14 from (by decide)); omega) (fun m hm => hKK m (Nat.le_trans hm (Nat.le_of_eq (tn_same hx_tv rfl rfl)))) (fun m hm => hXX m (Nat.lt_of_lt_of_eq hm (tn_same hx_tv rfl rfl))) m27 (by have q9 := (show ix_tv.toInt = ix_tv.toInt from rfl); have := (show ix_tv.toInt = ix_tv.toInt from rfl); omega) m32 (by have q8 := ti_all tv; omega) (by omega) (by omega)) (cwV 1 hts (goodIn_app (goodIn_r _ [20, 21, 22, 15] rfl (by decide +kernel)) (goodIn_ca (goodIn_r _ [19, 2, 3] rfl (by decide +kernel)) (bs2_in _ _))) rfl rfl rfl (by decide +kernel) ⟨(Nat.le_of_ble_eq_true rfl), (Nat.le_of_ble_eq_true rfl)⟩) ⟨fun a U g mk q => by obtain ⟨q0, q1, qK, qE⟩ := q; exact ⟨q0, q1, va_K.moved (u := U) (U := U.calling g mk a) (Vm.Alike.refl U.vm) qK, EVC.blind g mk a qE⟩, gH_rc hK hT hr_o0 shc_152 rfl, fun U hU hW => ⟨rfl, hU, va_K.moved hW.alike hK, hE.call hS hFc hU hW⟩⟩ rfl rfl hl.1 rfl (lv_room (Nat.le_of_ble_eq_true rfl)) dX4_readAll_22 ⟨(Nat.le_of_ble_eq_true rfl), (Nat.le_of_ble_eq_true rfl)⟩) hS (fun q _ h => hFc q h) hFc (fun r114 u t H locs ht hvm hw115 hB _ _ hS => ?_)
        obtain ⟨u116, rfl⟩ : ∃ z, z = u := ⟨_, rfl⟩
        obtain ⟨hT, hF1, m117⟩ := hB
        rw [ht] at hT hF1 m117
        have m118 := m27.kept (hF1.arr hr_th skc_153 (by decide))
        have m119 := m29.kept (hF1.arr hr_sp9 skc_162 (by decide))
        have m120 := (hF1.fld hr_o0 skc_152 (k := 0) (by decide) (by decide)).trans m30
        have m121 := (hF1.fld hr_o0 skc_152 (k := 9) (by decide) (by decide)).trans m31
        have m122 := (el_kept (hF1.arr hr_th skc_153 (by decide))).trans m32
        have m124 := (hF1.fld hr_o0 skc_152 (k := 12) (by decide) (by decide)).trans m38
        have hF := hF.more hF1 (by decide)
        try dsimp only at hw115
        obtain ⟨h125, h126, hf127, hf128, hf129⟩ := hw115
        refine lv_if_eq (tgt := 46) hx hb dX4_readAll_25 (by decide) (fun c130 => ?_) (fun c130 => ?_)
        · have t131 : r114.toInt = 0 := ti_eq c130 rfl (by decide)
          refine lv_iload_n hx hb dX4_readAll_46 rfl (lv_at hl 1 rfl) ?_
          exact W.zret (v := z25) hx hb hr (nar_b (by have q8 := ti_all z25; omega)) (fun t ht hW => ⟨⟨z25, (u116, z36, V28), rfl, (by exact ⟨(by have q8 := ti_all u116; omega), (by have q8 := ti_all z36; omega), (by have q8 := ti_all z25; omega), (by omega), (by omega), (by have l9 := (hj40.1.resolve_right (fun h8 => by have := h8.1; omega)).2; have a9 := hf128.resolve_left (fun h8 => by have := h8.2.1; omega); rw [show z25.toInt = 1 from by omega, a9.2.2]; exact lp_e l9 (fun h7 => a9.1 (h7.trans (by decide)))), hj42, (fun h8 => ⟨by (try dsimp only); have a9 := hf128.resolve_left (fun h8 => by have := h8.2.1; omega); rw [a9.2.2]; exact hj41 h8, by (try dsimp only); have a9 := hf128.resolve_left (fun h8 => by have := h8.2.1; omega); rw [a9.2.2]; exact fun h7 => a9.1 (h7.trans (by decide))⟩)⟩), by (try dsimp only); rw [ht]; exact ⟨hT, hF, m117, m124, m119⟩⟩, hS.F ht⟩) hS.2.2 dX4_readAll_47
        · have t132 : r114.toInt ≠ 0 := ti_ne c130 rfl (by decide)
          refine lv_aload_n hx hb dX4_readAll_28 rfl (lv_at hl 2 rfl) ?_
          refine lv_iload_n hx hb dX4_readAll_29 rfl (lv_at hl 3 rfl) ?_
          have hFc := gA_free hG hA hS
          refine va_calli (va_runV (As := [.int 1]) (rest := []) ⟨hx, hb, hml, hown, hts⟩ (c_readAtom1 l dC dI kA adK adV G H nC nS o0 th u116 z36 sp9 vT V28 tv ix_tv ix_tv K X pS hT hr_o0 m120 hr_th m117 m124 m121 hr_sp9 (by have q8 := ti_all ix_tv; omega) (by have q8 := ti_all u116; omega) (by have := (show u116.toInt = u116.toInt from rfl); have := (show ix_tv.toInt = ix_tv.toInt from rfl); omega) (fun m hm => hKK m (Nat.le_trans hm (Nat.le_of_eq (tn_same hx_tv rfl rfl)))) (fun m hm => hXX m (Nat.lt_of_lt_of_eq hm (tn_same hx_tv rfl rfl))) (by have q8 := ti_all z36; omega) (by have := (show z36.toInt = z36.toInt from rfl); have := (show u116.toInt = u116.toInt from rfl); omega) m118 m119 (by have q9 := (show ix_tv.toInt = ix_tv.toInt from rfl); have := (show ix_tv.toInt = ix_tv.toInt from rfl); omega) m122 (by have q8 := ti_all tv; omega) (by omega) (by omega)) (cwV 1 hts (goodIn_app (goodIn_r _ [29, 30, 31, 15] rfl (by decide +kernel)) (goodIn_ca (goodIn_r _ [1, 2, 3, 4, 5, 1, 6, 7, 8, 9, 10, 11, 12, 13, 14, 15, 16, 17, 18, 19, 20, 21, 22, 23, 24, 25, 26, 27, 28, 29, 30, 31, 32, 33, 34, 35, 36, 37] rfl (by decide +kernel)) (bs2_in _ _))) rfl rfl rfl (by decide +kernel) ⟨(Nat.le_of_ble_eq_true rfl), (Nat.le_of_ble_eq_true rfl)⟩) ⟨fun a U g mk q => by obtain ⟨q0, q1, qK, qE⟩ := q; exact ⟨q0, q1, va_K.moved (u := U) (U := U.calling g mk a) (Vm.Alike.refl U.vm) qK, EVC.blind g mk a qE⟩, gH_rc hK hT hr_o0 shc_152 rfl, fun U hU hW => ⟨rfl, hU, va_K.moved hW.alike hK, hE.call hS hFc hU hW⟩⟩ rfl rfl hl.1 rfl (lv_room (Nat.le_of_ble_eq_true rfl)) dX4_readAll_30 ⟨(Nat.le_of_ble_eq_true rfl), (Nat.le_of_ble_eq_true rfl)⟩) hS (fun q _ h => hFc q h) hFc (fun r133 u t H locs ht hvm hw134 hB _ _ hS => ?_)
          obtain ⟨u135, u136, u137⟩ := u
          obtain ⟨hT, hF1, m138, m139, m140⟩ := hB
          rw [ht] at hT hF1 m138 m139 m140
          have m141 := m118.kept (hF1.arr hr_th skc_153 (by decide))
          have m143 := (hF1.fld hr_o0 skc_152 (k := 0) (by decide) (by decide)).trans m120
          have m144 := (hF1.fld hr_o0 skc_152 (k := 9) (by decide) (by decide)).trans m121
          have m145 := (el_kept (hF1.arr hr_th skc_153 (by decide))).trans m122
          have hF := hF.more hF1 (by decide)
          try dsimp only at hw134
          obtain ⟨h148, h149, h150, hf151, hf152, hf153, hf154, hf155⟩ := hw134
          refine lv_istore_n (lv' := [(2, .int r133), (3, .int (nI i24)), (0, .ref o0), (1, .int 1)]) hx hb dX4_readAll_33 rfl hl (by decide) rfl (fun ls hl => ?_)
          refine lv_aload_n hx hb dX4_readAll_34 rfl (lv_at hl 2 rfl) ?_
          refine lv_bipush (v := 14) hx hb dX4_readAll_35 (by decide) ?_
          have hFc := gA_free hG hA hS
          refine va_callv (va_runV (As := [.int 14]) (rest := []) ⟨hx, hb, hml, hown, hts⟩ (c_addStep l dC dI kA adK adV G H nC nS o0 14 u136 sp9 u137 hT hr_o0 m139 m144 hr_sp9 (rg_t (a := 14) (by decide) (by first | decide | omega) (by first | decide | omega)) (by have q8 := ti_all u136; omega) m140 (by omega) (by omega)) (cwV 1 hts (goodIn_app (goodIn_r _ [12, 13, 14, 15] rfl (by decide +kernel)) (goodIn_ca (goodIn_r _ [9, 10, 11] rfl (by decide +kernel)) (bs2_in _ _))) rfl rfl rfl (by decide +kernel) ⟨(Nat.le_of_ble_eq_true rfl), (Nat.le_of_ble_eq_true rfl)⟩) ⟨fun a U g mk q => by obtain ⟨q0, q1, qK, qE⟩ := q; exact ⟨q0, q1, va_K.moved (u := U) (U := U.calling g mk a) (Vm.Alike.refl U.vm) qK, EVC.blind g mk a qE⟩, gH_rc hK hT hr_o0 shc_152 rfl, fun U hU hW => ⟨rfl, hU, va_K.moved hW.alike hK, hE.call hS hFc hU hW⟩⟩ rfl rfl hl.1 rfl (lv_room (Nat.le_of_ble_eq_true rfl)) dX4_readAll_37 ⟨(Nat.le_of_ble_eq_true rfl), (Nat.le_of_ble_eq_true rfl)⟩) hS (fun q _ h => hFc q h) hFc (fun u t H locs ht hvm hw157 hB _ _ hS => ?_)
          obtain ⟨u158, rfl⟩ : ∃ z, z = u := ⟨_, rfl⟩
          obtain ⟨hT, hF1, m159, m160⟩ := hB
          rw [ht] at hT hF1 m159 m160
          have m161 := m141.kept (hF1.arr hr_th skc_153 (by decide))
          have m162 := (hF1.fld hr_o0 skc_152 (k := 0) (by decide) (by decide)).trans m143
          have m163 := (hF1.fld hr_o0 skc_152 (k := 9) (by decide) (by decide)).trans m144
          have m164 := (el_kept (hF1.arr hr_th skc_153 (by decide))).trans m145
          have m165 := (hF1.fld hr_o0 skc_152 (k := 13) (by decide) (by decide)).trans m138
          have hF := hF.more hF1 (by decide)
          try dsimp only at hw157
          obtain ⟨h168, hf169⟩ := hw157
          refine lv_iinc (v := nI (i24 + 1)) (lv' := [(3, .int (nI (i24 + 1))), (2, .int r133), (0, .ref o0), (1, .int 1)]) hx hb dX4_readAll_40 hl (k := 1) rfl (nI_add i24 1) (by decide) rfl (fun ls hl => ?_)
          refine lv_goto (tgt := 8) hx hb dX4_readAll_43 (by decide) ?_
          exact ih105 (i24 + 1) (by omega) (by omega) r133 (cu u137 u136.toNatClampNeg 14) u135 u158 ⟨(by have q8 := ti_all r133; omega), (by have q8 := ti_all u135; omega), (by have q8 := ti_all u158; omega), (by have := hx_tv; have := (show u135.toInt = u135.toInt from rfl); omega), ⟨(by have l9 := (hj40.1.resolve_right (fun h8 => by have := h8.1; omega)).2; have a9 := hf128.resolve_right (fun h8 => by have := h8.2.1; omega); have h9 := hf153; rw [a9.2.2] at h9; rcases (show r133.toInt = 1 ∨ r133.toInt = 0 by omega) with h8 | h8 <;> rw [h8] at h9; (exact Or.inl ⟨h8, lp_s l9 (a9.1.trans (by decide)) h9⟩); exact Or.inr ⟨h8, lp_f l9 (a9.1.trans (by decide)) h9⟩), by omega⟩, (fun h8 => by have := tn_of (show s0.toInt = s0.toInt from rfl) (by omega); have := tn_of (show z36.toInt = z36.toInt from rfl) (by omega); have := tn_of (show u136.toInt = u136.toInt from rfl) (by omega); have := tn_of (show u158.toInt = u158.toInt from rfl) (by omega); have l9 := hj41 (by omega); have a9 := hf128.resolve_right (fun h8 => by have := h8.2.1; omega); have h9 := hf155 h8; rw [a9.2.2] at h9; rw [zC_3 (sx := z36.toNatClampNeg) (s2 := u136.toNatClampNeg) (c := 14) (by omega) (by omega) hf154 (by omega) rfl (by decide)]; exact zlI_s l9 (a9.1.trans (by decide)) h9), ((hj42.tr hf154 (by have := tn_of (show s0.toInt = s0.toInt from rfl) (by omega); have := tn_of (show z36.toInt = z36.toInt from rfl) (by omega); omega)).st (by have := tn_of (show s0.toInt = s0.toInt from rfl) (by omega); have := tn_of (show u136.toInt = u136.toInt from rfl) (by omega); omega)), (by have := (show u158.toInt = u158.toInt from rfl); have := (show u135.toInt = u135.toInt from rfl); omega)⟩ _ _ hT hF hS m161 m160 m162 m163 m164 m165 m159 ls (lv_sub hl [0, 1, 2, 3] rfl)
  exact key105 (400 - 0) 0 (by omega) (Nat.le_refl _) r1 u5 u3 u4 ⟨(by have q8 := ti_all r1; omega), (by have q8 := ti_all u3; omega), (by have q8 := ti_all u4; omega), (by have := hx_tv; have := (show u3.toInt = u3.toInt from rfl); omega), ⟨(by have h9 := hf21; rcases (show r1.toInt = 1 ∨ r1.toInt = 0 by omega) with h8 | h8 <;> rw [h8] at h9; (exact Or.inl ⟨h8, lp_1 h9⟩); exact Or.inr ⟨h8, lp_0 h9⟩), by omega⟩, (fun h8 => zlI_0 (hf23 h8)), (zKp.rf.tr hf22 (by have := tn_of (show s0.toInt = s0.toInt from rfl) (by omega); omega)), (by have := (show u4.toInt = u4.toInt from rfl); have := (show u3.toInt = u3.toInt from rfl); omega)⟩ _ _ hT hF hS m13 m8 m9 m12 m15 m6 m7 ls (lv_sub hl [0, 1, 2, 3] rfl)
def w_c_readAny1 : List Cond := .code yX4_readAny cX4_readAny 4 (some .boolean) :: (HAppend.hAppend (α := List Cond) (β := List Cond) (γ := List Cond) [.code yX4_readAll cX4_readAll 4 (some .boolean), .code yX4_readAtom cX4_readAtom 4 (some .boolean), .fieldLink RX4 11 "SeaLand$Law" "things" "[I", .fieldLink RX4 56 "SeaLand$Law" "at" "I", .code yX4_readAny cX4_readAny 4 (some .boolean), .code yX4_readComparison cX4_readComparison 3 (some .boolean), .code yX4_readSum cX4_readSum 3 (some .boolean), .code yX4_readPart cX4_readPart 2 (some .boolean), .code yX4_addStep cX4_addStep 2 none, .fieldLink RX4 63 "SeaLand$Law" "stepped" "I", .fieldLink RX4 39 "SeaLand$Law" "steps" "[I", .methodLink RX4 179 yX4_addStep, .instanceMethod yX4_addStep, .selects RX4 yX4_addStep yX4_addStep, .initialized RX4, .methodLink RX4 192 yX4_readPart, .instanceMethod yX4_readPart, .selects RX4 yX4_readPart yX4_readPart, .code yX4_take cX4_take 2 (some .boolean), .methodLink RX4 70 yX4_take, .instanceMethod yX4_take, .selects RX4 yX4_take yX4_take, .methodLink RX4 189 yX4_readSum, .instanceMethod yX4_readSum, .selects RX4 yX4_readSum yX4_readSum, .methodLink RX4 186 yX4_readComparison, .instanceMethod yX4_readComparison, .selects RX4 yX4_readComparison yX4_readComparison, .methodLink RX4 183 yX4_readAtom, .instanceMethod yX4_readAtom, .selects RX4 yX4_readAtom yX4_readAtom, .methodLink RX4 176 yX4_readAll, .instanceMethod yX4_readAll, .selects RX4 yX4_readAll yX4_readAll, .methodLink RX4 173 yX4_readAny, .instanceMethod yX4_readAny, .selects RX4 yX4_readAny yX4_readAny] bs2)
set_option maxHeartbeats 4000000 in
set_option maxRecDepth 100000 in
theorem c_readAny1 (l : Launch) (dC : Nat → ClassId) (dI : Nat → Nat → Nat) (kA : Nat → ClassId) (adK adV : Nat → Nat) (G : gT) (H0 : Heap) (nC nS : Int) (o0 : Nat) (th : Nat) (a0 : Int32) (s0 : Int32) (sp9 : Nat) (vT : Nat → Int32) (vS : Nat → Int32) (tv ix_tv : Int32) (tn : Int32) (K : Nat → Int) (X pS : Nat → Nat) (hT : gH (dC, dI) kA (SHc nC nS) G H0) (hr_o0 : G o0 = some 152) (hm_th : el H0 o0 (dI 7 0) = some (.ref th)) (hr_th : G th = some 153) (hm_a0 : el H0 o0 (dI 7 13) = some (.int a0)) (hm_s0 : el H0 o0 (dI 7 12) = some (.int s0)) (hm_sp9 : el H0 o0 (dI 7 9) = some (.ref sp9)) (hr_sp9 : G sp9 = some 162) (hq0 : 0 ≤ tn.toInt ∧ tn.toInt ≤ 400) (hq1 : 0 ≤ a0.toInt ∧ a0.toInt ≤ 400) (hat : a0.toInt ≤ tn.toInt) (hKK : ∀ m : Nat, m ≤ tn.toNatClampNeg → (vT m).toInt = K (pS m)) (hXX : ∀ m : Nat, m < tn.toNatClampNeg → pS (m + 1) = X (pS m)) (hq5 : 0 ≤ s0.toInt ∧ s0.toInt ≤ 400) (hsa : s0.toInt ≤ a0.toInt) (hc_vT : ct H0 th 401 vT) (hc_vS : ct H0 sp9 400 vS) (hx_tv : ix_tv.toInt = tn.toInt) (hm_tv : el H0 th ix_tv.toNatClampNeg = some (.int tv)) (hv_tv : 21 ≤ tv.toInt ∧ tv.toInt ≤ 21) (hgC : 0 ≤ nC ∧ nC ≤ 40) (hgS : 0 ≤ nS ∧ nS ≤ 60) : Met l yX4_readAny w_c_readAny1 ({ frames := 21, cells := 0, slots := 0, locals := 477 }) (va_Pc [.ref o0, .int 1] (fun U => U.heap = H0 ∧ va_K (dC, dI) vwCl (tyl kA) U ∧ EVC adK adV (gA G H0.size) U U.heap)) (va_Qi (fun (r : Int32) (u : Int32 × Int32 × (Nat → Int32)) => match u with | (a1, s1, vS1) => (0 ≤ a1.toInt ∧ a1.toInt ≤ 400) ∧ (0 ≤ s1.toInt ∧ s1.toInt ≤ 400) ∧ (0 ≤ r.toInt ∧ r.toInt ≤ 1) ∧ (a0.toInt ≤ a1.toInt ∧ a1.toInt ≤ tn.toInt) ∧ (s0.toInt ≤ s1.toInt ∧ s1.toInt - s0.toInt ≤ a1.toInt - a0.toInt) ∧ (coR K X (aR K X 5) (pS a0.toNatClampNeg) r.toInt (pS a1.toNatClampNeg)) ∧ (zKp vS vS1 s0.toNatClampNeg) ∧ (r.toInt = 1 → zlZ K X (zlZ K X (zaZ K X 5) 14) 15 (pS a0.toNatClampNeg) (zC (tz vS1) s0.toNatClampNeg s1.toNatClampNeg) (pS a1.toNatClampNeg))) (fun (u : Int32 × Int32 × (Nat → Int32)) (t : State) => match u with | (a1, s1, vS1) => gH (dC, dI) kA (SHc nC nS) G t.heap ∧ gF (dC, dI) SKc G ([(152, 12), (152, 13), (162, 0)] : List (Nat × Nat)) H0 t.heap ∧ el t.heap o0 (dI 7 13) = some (.int a1) ∧ el t.heap o0 (dI 7 12) = some (.int s1) ∧ ct t.heap sp9 400 vS1) (gA G H0.size)) 0 0 (gA G H0.size) := by
  refine Met.ofW (cc := cX4_readAny) (maxL := 4) (ret := (some .boolean)) (by decide) rfl ?_
  intro p e s m args below meth c s₁ B hml hv
  obtain ⟨rfl, hH0, hK, hE⟩ := hv
  have hx := B.exec
  have hb := B.bytes
  have hr := B.returns
  have hts := atoms_spec (ws := w_c_readAny1) B.pre
  have hown : s.vm.findClass RX4 = some m.cls := findClass_of_methodNamed B.named
  have hlocks := B.notSynchronized
  subst hH0
  generalize hAe : gA G s.heap.size = A at hE ⊢
  have hA : ∀ q : Nat, s.heap.size ≤ q → A q := fun q h => by rw [← hAe]; exact Or.inr h
  have hG := gA_of hAe
  have hS : va_S A s.heap s.heap [] := va_S.rf
  have hF : gF (dC, dI) SKc G ([(152, 12), (152, 13), (162, 0)] : List (Nat × Nat)) s.heap s.heap := gF.rf
  have hl := lv_entry ([.ref o0, .int 1]) (n := 4) (Nat.le_of_ble_eq_true rfl)
  rw [lg_entry_eq]
  generalize (lg_sl ([.ref o0, .int 1]) ++ List.replicate (4 - (lg_sl ([.ref o0, .int 1])).length) Slot.unset).toArray = ls at hl ⊢
  have hl : lv_has ls 4 [(0, .ref o0), (1, .int 1)] := hl
  refine lv_aload_n hx hb dX4_readAny_0 rfl (lv_at hl 0 rfl) ?_
  refine lv_iload_n hx hb dX4_readAny_1 rfl (lv_at hl 1 rfl) ?_
  have hFc := gA_free hG hA hS
  refine va_calli (va_runV (As := [.int 1]) (rest := []) ⟨hx, hb, hml, hown, hts⟩ (c_readAll1 l dC dI kA adK adV G s.heap nC nS o0 th a0 s0 sp9 vT vS tv ix_tv ix_tv K X pS hT hr_o0 hm_th hr_th hm_a0 hm_s0 hm_sp9 hr_sp9 (by have q8 := ti_all ix_tv; omega) (by have q8 := ti_all a0; omega) (by have := (show a0.toInt = a0.toInt from rfl); have := (show ix_tv.toInt = ix_tv.toInt from rfl); omega) (fun m hm => hKK m (Nat.le_trans hm (Nat.le_of_eq (tn_same hx_tv rfl rfl)))) (fun m hm => hXX m (Nat.lt_of_lt_of_eq hm (tn_same hx_tv rfl rfl))) (by have q8 := ti_all s0; omega) (by have := (show s0.toInt = s0.toInt from rfl); have := (show a0.toInt = a0.toInt from rfl); omega) hc_vT hc_vS (by have q9 := (show ix_tv.toInt = ix_tv.toInt from rfl); have := (show ix_tv.toInt = ix_tv.toInt from rfl); omega) hm_tv (by have q8 := ti_all tv; omega) (by omega) (by omega)) (cwV 1 hts (goodIn_app (goodIn_r _ [32, 33, 34, 15] rfl (by decide +kernel)) (goodIn_ca (goodIn_r _ [1, 2, 3, 4, 5, 1, 6, 7, 8, 9, 10, 11, 12, 13, 14, 15, 16, 17, 18, 19, 20, 21, 22, 23, 24, 25, 26, 27, 28, 29, 30, 31, 32, 33, 34, 35, 36, 37] rfl (by decide +kernel)) (bs2_in _ _))) rfl rfl rfl (by decide +kernel) ⟨(Nat.le_of_ble_eq_true rfl), (Nat.le_of_ble_eq_true rfl)⟩) ⟨fun a U g mk q => by obtain ⟨q0, q1, qK, qE⟩ := q; exact ⟨q0, q1, va_K.moved (u := U) (U := U.calling g mk a) (Vm.Alike.refl U.vm) qK, EVC.blind g mk a qE⟩, gH_rc hK hT hr_o0 shc_152 rfl, fun U hU hW => ⟨rfl, hU, va_K.moved hW.alike hK, hE.call hS hFc hU hW⟩⟩ rfl rfl hl.1 rfl (lv_room (Nat.le_of_ble_eq_true rfl)) dX4_readAny_2 ⟨(Nat.le_of_ble_eq_true rfl), (Nat.le_of_ble_eq_true rfl)⟩) hS (fun q _ h => hFc q h) hFc (fun r1 u t H locs ht hvm hw2 hB _ _ hS => ?_)
  obtain ⟨u3, u4, u5⟩ := u
  obtain ⟨hT, hF1, m6, m7, m8⟩ := hB
  rw [ht] at hT hF1 m6 m7 m8
  have m9 := (hF1.fld hr_o0 skc_152 (k := 0) (by decide) (by decide)).trans hm_th
  have m12 := (hF1.fld hr_o0 skc_152 (k := 9) (by decide) (by decide)).trans hm_sp9
  have m13 := hc_vT.kept (hF1.arr hr_th skc_153 (by decide))
  have m15 := (el_kept (hF1.arr hr_th skc_153 (by decide))).trans hm_tv
  have hF := hF.more hF1 (by decide)
  try dsimp only at hw2
  obtain ⟨h16, h17, h18, hf19, hf20, hf21, hf22, hf23⟩ := hw2
  refine lv_istore_n (lv' := [(2, .int r1), (0, .ref o0), (1, .int 1)]) hx hb dX4_readAny_5 rfl hl (by decide) rfl (fun ls hl => ?_)
  refine lv_iconst (v := 0) hx hb dX4_readAny_6 (by decide) ?_
  refine lv_istore_n (lv' := [(3, .int 0), (2, .int r1), (0, .ref o0), (1, .int 1)]) hx hb dX4_readAny_7 rfl hl (by decide) rfl (fun ls hl => ?_)
  have key105 : ∀ (n105 i24 : Nat), i24 + n105 = 400 → 0 ≤ i24 → ∀ (z25 : Int32), ∀ (V28 : Nat → Int32), ∀ (z33 : Int32), ∀ (z36 : Int32), ((0 ≤ z25.toInt ∧ z25.toInt ≤ 1) ∧ (0 ≤ z33.toInt ∧ z33.toInt ≤ 400) ∧ (0 ≤ z36.toInt ∧ z36.toInt ≤ 400) ∧ (a0.toInt ≤ z33.toInt ∧ z33.toInt ≤ tn.toInt) ∧ (((z25.toInt = 1 ∧ ∀ (r : Int) (f : Nat), lpQ K X (lpR K X (aR K X 5) 14) 15 (pS z33.toNatClampNeg) r f → coR K X (aR K X 5) (pS a0.toNatClampNeg) r f) ∨ (z25.toInt = 0 ∧ coR K X (aR K X 5) (pS a0.toNatClampNeg) 0 (pS z33.toNatClampNeg))) ∧ ((i24 : Nat) : Int) ≤ z33.toInt) ∧ (z25.toInt = 1 → zlI K X (zlZ K X (zaZ K X 5) 14) 15 (pS a0.toNatClampNeg) (zC (tz V28) s0.toNatClampNeg z36.toNatClampNeg) (pS z33.toNatClampNeg)) ∧ (zKp vS V28 s0.toNatClampNeg) ∧ (s0.toInt ≤ z36.toInt ∧ z36.toInt - s0.toInt ≤ z33.toInt - a0.toInt)) → ∀ (H : Heap) (locs : List Loc), gH (dC, dI) kA (SHc nC nS) G H → gF (dC, dI) SKc G ([(152, 12), (152, 13), (162, 0)] : List (Nat × Nat)) s.heap H → va_S A s.heap H locs → ct H th 401 vT → ct H sp9 400 V28 → el H o0 (dI 7 0) = some (.ref th) → el H o0 (dI 7 9) = some (.ref sp9) → el H th ix_tv.toNatClampNeg = some (.int tv) → el H o0 (dI 7 13) = some (.int z33) → el H o0 (dI 7 12) = some (.int z36) → ∀ ls : Array Slot, lv_has ls 4 [(3, .int (nI i24)), (2, .int z25), (0, .ref o0), (1, .int 1)] → W p l e (headSpec w_c_readAny1 ({ frames := 21, cells := 0, slots := 0, locals := 477 })).room s m #[.ref o0, .int 1] below meth c H locs 0 0 (MQ below (va_Qi (fun (r : Int32) (u : Int32 × Int32 × (Nat → Int32)) => match u with | (a1, s1, vS1) => (0 ≤ a1.toInt ∧ a1.toInt ≤ 400) ∧ (0 ≤ s1.toInt ∧ s1.toInt ≤ 400) ∧ (0 ≤ r.toInt ∧ r.toInt ≤ 1) ∧ (a0.toInt ≤ a1.toInt ∧ a1.toInt ≤ tn.toInt) ∧ (s0.toInt ≤ s1.toInt ∧ s1.toInt - s0.toInt ≤ a1.toInt - a0.toInt) ∧ (coR K X (aR K X 5) (pS a0.toNatClampNeg) r.toInt (pS a1.toNatClampNeg)) ∧ (zKp vS vS1 s0.toNatClampNeg) ∧ (r.toInt = 1 → zlZ K X (zlZ K X (zaZ K X 5) 14) 15 (pS a0.toNatClampNeg) (zC (tz vS1) s0.toNatClampNeg s1.toNatClampNeg) (pS a1.toNatClampNeg))) (fun (u : Int32 × Int32 × (Nat → Int32)) (t : State) => match u with | (a1, s1, vS1) => gH (dC, dI) kA (SHc nC nS) G t.heap ∧ gF (dC, dI) SKc G ([(152, 12), (152, 13), (162, 0)] : List (Nat × Nat)) s.heap t.heap ∧ el t.heap o0 (dI 7 13) = some (.int a1) ∧ el t.heap o0 (dI 7 12) = some (.int s1) ∧ ct t.heap sp9 400 vS1) A) #[.ref o0, .int 1] s 0 0 A) (F0 m 8 ls []) := by
    intro n105
    induction n105 with
    | zero =>
      intro i24 hn105 hlo106 z25 V28 z33 z36 ⟨h26, h34, h37, hj39, hj40, hj41, hj42, hj43⟩ H locs hT hF hS m27 m29 m30 m31 m32 m35 m38 ls hl
      obtain rfl : 400 = i24 := by omega
      refine lv_iload_n hx hb dX4_readAny_8 rfl (lv_at hl 0 rfl) ?_
      refine lv_sipush (v := 400) hx hb dX4_readAny_9 (by decide) ?_
      refine lv_icmp_ge (tgt := 46) hx hb dX4_readAny_12 (by decide) (fun c107 => ?_) (fun c107 => (by exfalso; have q9 : ((400 : Nat) : Int) < 400 := ti_nle c107 (by decide) (nI_toInt (by omega)); omega))
      have t108 : 400 ≤ ((400 : Nat) : Int) := ti_le c107 (by decide) (nI_toInt (by omega))
      refine lv_iload_n hx hb dX4_readAny_46 rfl (lv_at hl 1 rfl) ?_
      exact W.zret (v := z25) hx hb hr (nar_b (by have q8 := ti_all z25; omega)) (fun t ht hW => ⟨⟨z25, (z33, z36, V28), rfl, (by exact ⟨(by have q8 := ti_all z33; omega), (by have q8 := ti_all z36; omega), (by have q8 := ti_all z25; omega), (by omega), (by omega), (by rcases hj40.1 with ⟨h8, l9⟩ | ⟨h8, l9⟩; (rw [h8]; exact lp_e l9 (fun h7 => by have := tn_of (show z33.toInt = z33.toInt from rfl) (by omega); have := tn_of (show tn.toInt = tn.toInt from rfl) (by omega); have k9 := hKK tn.toNatClampNeg (Nat.le_refl _); have e9 := hc_vT.at hm_tv (by have q9 := tn_of hx_tv (by omega); omega); have k8 : (vT tn.toNatClampNeg).toInt = 21 := (by have q8 := congrArg Int32.toInt e9; rw [show ix_tv.toNatClampNeg = tn.toNatClampNeg from tn_same hx_tv rfl rfl] at q8; omega); rw [show z33.toNatClampNeg = tn.toNatClampNeg from by omega] at h7; omega)); rw [h8]; exact l9), hj42, (fun h8 => ⟨hj41 h8, fun h7 => by have := tn_of (show z33.toInt = z33.toInt from rfl) (by omega); have := tn_of (show tn.toInt = tn.toInt from rfl) (by omega); have k9 := hKK tn.toNatClampNeg (Nat.le_refl _); have e9 := hc_vT.at hm_tv (by have q9 := tn_of hx_tv (by omega); omega); have k8 : (vT tn.toNatClampNeg).toInt = 21 := (by have q8 := congrArg Int32.toInt e9; rw [show ix_tv.toNatClampNeg = tn.toNatClampNeg from tn_same hx_tv rfl rfl] at q8; omega); rw [show z33.toNatClampNeg = tn.toNatClampNeg from by omega] at h7; omega⟩)⟩), by (try dsimp only); rw [ht]; exact ⟨hT, hF, m35, m38, m29⟩⟩, hS.F ht⟩) hS.2.2 dX4_readAny_47
    | succ n105 ih105 =>
      intro i24 hn105 hlo106 z25 V28 z33 z36 ⟨h26, h34, h37, hj39, hj40, hj41, hj42, hj43⟩ H locs hT hF hS m27 m29 m30 m31 m32 m35 m38 ls hl
      have hlt108 : i24 < 400 := by omega
      refine lv_iload_n hx hb dX4_readAny_8 rfl (lv_at hl 0 rfl) ?_
      refine lv_sipush (v := 400) hx hb dX4_readAny_9 (by decide) ?_
      refine lv_icmp_ge (tgt := 46) hx hb dX4_readAny_12 (by decide) (fun c109 => (by exfalso; have q9 : 400 ≤ ((i24 : Nat) : Int) := ti_le c109 (by decide) (nI_toInt (by omega)); omega)) (fun c109 => ?_)
      have t110 : ((i24 : Nat) : Int) < 400 := ti_nle c109 (by decide) (nI_toInt (by omega))
      refine lv_iload_n hx hb dX4_readAny_15 rfl (lv_at hl 1 rfl) ?_
      refine lv_if_eq (tgt := 46) hx hb dX4_readAny_16 (by decide) (fun c111 => ?_) (fun c111 => ?_)
      · have t112 : z25.toInt = 0 := ti_eq c111 rfl (by decide)
        refine lv_iload_n hx hb dX4_readAny_46 rfl (lv_at hl 1 rfl) ?_
        exact W.zret (v := z25) hx hb hr (nar_b (by have q8 := ti_all z25; omega)) (fun t ht hW => ⟨⟨z25, (z33, z36, V28), rfl, (by exact ⟨(by have q8 := ti_all z33; omega), (by have q8 := ti_all z36; omega), (by have q8 := ti_all z25; omega), (by omega), (by omega), (by rcases hj40.1 with ⟨h8, l9⟩ | ⟨h8, l9⟩; (rw [h8]; exact lp_e l9 (fun h7 => by have := tn_of (show z33.toInt = z33.toInt from rfl) (by omega); have := tn_of (show tn.toInt = tn.toInt from rfl) (by omega); have k9 := hKK tn.toNatClampNeg (Nat.le_refl _); have e9 := hc_vT.at hm_tv (by have q9 := tn_of hx_tv (by omega); omega); have k8 : (vT tn.toNatClampNeg).toInt = 21 := (by have q8 := congrArg Int32.toInt e9; rw [show ix_tv.toNatClampNeg = tn.toNatClampNeg from tn_same hx_tv rfl rfl] at q8; omega); rw [show z33.toNatClampNeg = tn.toNatClampNeg from by omega] at h7; omega)); rw [h8]; exact l9), hj42, (fun h8 => ⟨hj41 h8, fun h7 => by have := tn_of (show z33.toInt = z33.toInt from rfl) (by omega); have := tn_of (show tn.toInt = tn.toInt from rfl) (by omega); have k9 := hKK tn.toNatClampNeg (Nat.le_refl _); have e9 := hc_vT.at hm_tv (by have q9 := tn_of hx_tv (by omega); omega); have k8 : (vT tn.toNatClampNeg).toInt = 21 := (by have q8 := congrArg Int32.toInt e9; rw [show ix_tv.toNatClampNeg = tn.toNatClampNeg from tn_same hx_tv rfl rfl] at q8; omega); rw [show z33.toNatClampNeg = tn.toNatClampNeg from by omega] at h7; omega⟩)⟩), by (try dsimp only); rw [ht]; exact ⟨hT, hF, m35, m38, m29⟩⟩, hS.F ht⟩) hS.2.2 dX4_readAny_47
      · have t113 : z25.toInt ≠ 0 := ti_ne c111 rfl (by decide)
        refine lv_aload_n hx hb dX4_readAny_19 rfl (lv_at hl 2 rfl) ?_
        refine lv_bipush (v := 15) hx hb dX4_readAny_20 (by decide) ?_
        have hFc := gA_free hG hA hS
        refine va_calli (va_runV (As := [.int 15]) (rest := []) ⟨hx, hb, hml, hown, hts⟩ (c_take l dC dI kA adK adV G H nC nS o0 15 th z33 vT tv ix_tv ix_tv K X pS hT hr_o0 m30 hr_th m35 (by have q8 := ti_all ix_tv; omega) (by have q8 := ti_all z33; omega) (by have := (show z33.toInt = z33.toInt from rfl); have := (show ix_tv.toInt = ix_tv.toInt from rfl); omega) (by have := (show (15 : Int32).toInt = 15 from (by decide)); omega) (fun m hm => hKK m (Nat.le_trans hm (Nat.le_of_eq (tn_same hx_tv rfl rfl)))) (fun m hm => hXX m (Nat.lt_of_lt_of_eq hm (tn_same hx_tv rfl rfl))) m27 (by have q9 := (show ix_tv.toInt = ix_tv.toInt from rfl); have := (show ix_tv.toInt = ix_tv.toInt from rfl); omega) m32 (by have q8 := ti_all tv; omega) (by omega) (by omega)) (cwV 1 hts (goodIn_app (goodIn_r _ [20, 21, 22, 15] rfl (by decide +kernel)) (goodIn_ca (goodIn_r _ [19, 3, 4] rfl (by decide +kernel)) (bs2_in _ _))) rfl rfl rfl (by decide +kernel) ⟨(Nat.le_of_ble_eq_true rfl), (Nat.le_of_ble_eq_true rfl)⟩) ⟨fun a U g mk q => by obtain ⟨q0, q1, qK, qE⟩ := q; exact ⟨q0, q1, va_K.moved (u := U) (U := U.calling g mk a) (Vm.Alike.refl U.vm) qK, EVC.blind g mk a qE⟩, gH_rc hK hT hr_o0 shc_152 rfl, fun U hU hW => ⟨rfl, hU, va_K.moved hW.alike hK, hE.call hS hFc hU hW⟩⟩ rfl rfl hl.1 rfl (lv_room (Nat.le_of_ble_eq_true rfl)) dX4_readAny_22 ⟨(Nat.le_of_ble_eq_true rfl), (Nat.le_of_ble_eq_true rfl)⟩) hS (fun q _ h => hFc q h) hFc (fun r114 u t H locs ht hvm hw115 hB _ _ hS => ?_)
        obtain ⟨u116, rfl⟩ : ∃ z, z = u := ⟨_, rfl⟩
        obtain ⟨hT, hF1, m117⟩ := hB
        rw [ht] at hT hF1 m117
        have m118 := m27.kept (hF1.arr hr_th skc_153 (by decide))
        have m119 := m29.kept (hF1.arr hr_sp9 skc_162 (by decide))
        have m120 := (hF1.fld hr_o0 skc_152 (k := 0) (by decide) (by decide)).trans m30
        have m121 := (hF1.fld hr_o0 skc_152 (k := 9) (by decide) (by decide)).trans m31
        have m122 := (el_kept (hF1.arr hr_th skc_153 (by decide))).trans m32
        have m124 := (hF1.fld hr_o0 skc_152 (k := 12) (by decide) (by decide)).trans m38
        have hF := hF.more hF1 (by decide)
        try dsimp only at hw115
        obtain ⟨h125, h126, hf127, hf128, hf129⟩ := hw115
        refine lv_if_eq (tgt := 46) hx hb dX4_readAny_25 (by decide) (fun c130 => ?_) (fun c130 => ?_)
        · have t131 : r114.toInt = 0 := ti_eq c130 rfl (by decide)
          refine lv_iload_n hx hb dX4_readAny_46 rfl (lv_at hl 1 rfl) ?_
          exact W.zret (v := z25) hx hb hr (nar_b (by have q8 := ti_all z25; omega)) (fun t ht hW => ⟨⟨z25, (u116, z36, V28), rfl, (by exact ⟨(by have q8 := ti_all u116; omega), (by have q8 := ti_all z36; omega), (by have q8 := ti_all z25; omega), (by omega), (by omega), (by have l9 := (hj40.1.resolve_right (fun h8 => by have := h8.1; omega)).2; have a9 := hf128.resolve_left (fun h8 => by have := h8.2.1; omega); rw [show z25.toInt = 1 from by omega, a9.2.2]; exact lp_e l9 (fun h7 => a9.1 (h7.trans (by decide)))), hj42, (fun h8 => ⟨by (try dsimp only); have a9 := hf128.resolve_left (fun h8 => by have := h8.2.1; omega); rw [a9.2.2]; exact hj41 h8, by (try dsimp only); have a9 := hf128.resolve_left (fun h8 => by have := h8.2.1; omega); rw [a9.2.2]; exact fun h7 => a9.1 (h7.trans (by decide))⟩)⟩), by (try dsimp only); rw [ht]; exact ⟨hT, hF, m117, m124, m119⟩⟩, hS.F ht⟩) hS.2.2 dX4_readAny_47
        · have t132 : r114.toInt ≠ 0 := ti_ne c130 rfl (by decide)
          refine lv_aload_n hx hb dX4_readAny_28 rfl (lv_at hl 2 rfl) ?_
          refine lv_iload_n hx hb dX4_readAny_29 rfl (lv_at hl 3 rfl) ?_
          have hFc := gA_free hG hA hS
          refine va_calli (va_runV (As := [.int 1]) (rest := []) ⟨hx, hb, hml, hown, hts⟩ (c_readAll1 l dC dI kA adK adV G H nC nS o0 th u116 z36 sp9 vT V28 tv ix_tv ix_tv K X pS hT hr_o0 m120 hr_th m117 m124 m121 hr_sp9 (by have q8 := ti_all ix_tv; omega) (by have q8 := ti_all u116; omega) (by have := (show u116.toInt = u116.toInt from rfl); have := (show ix_tv.toInt = ix_tv.toInt from rfl); omega) (fun m hm => hKK m (Nat.le_trans hm (Nat.le_of_eq (tn_same hx_tv rfl rfl)))) (fun m hm => hXX m (Nat.lt_of_lt_of_eq hm (tn_same hx_tv rfl rfl))) (by have q8 := ti_all z36; omega) (by have := (show z36.toInt = z36.toInt from rfl); have := (show u116.toInt = u116.toInt from rfl); omega) m118 m119 (by have q9 := (show ix_tv.toInt = ix_tv.toInt from rfl); have := (show ix_tv.toInt = ix_tv.toInt from rfl); omega) m122 (by have q8 := ti_all tv; omega) (by omega) (by omega)) (cwV 1 hts (goodIn_app (goodIn_r _ [32, 33, 34, 15] rfl (by decide +kernel)) (goodIn_ca (goodIn_r _ [1, 2, 3, 4, 5, 1, 6, 7, 8, 9, 10, 11, 12, 13, 14, 15, 16, 17, 18, 19, 20, 21, 22, 23, 24, 25, 26, 27, 28, 29, 30, 31, 32, 33, 34, 35, 36, 37] rfl (by decide +kernel)) (bs2_in _ _))) rfl rfl rfl (by decide +kernel) ⟨(Nat.le_of_ble_eq_true rfl), (Nat.le_of_ble_eq_true rfl)⟩) ⟨fun a U g mk q => by obtain ⟨q0, q1, qK, qE⟩ := q; exact ⟨q0, q1, va_K.moved (u := U) (U := U.calling g mk a) (Vm.Alike.refl U.vm) qK, EVC.blind g mk a qE⟩, gH_rc hK hT hr_o0 shc_152 rfl, fun U hU hW => ⟨rfl, hU, va_K.moved hW.alike hK, hE.call hS hFc hU hW⟩⟩ rfl rfl hl.1 rfl (lv_room (Nat.le_of_ble_eq_true rfl)) dX4_readAny_30 ⟨(Nat.le_of_ble_eq_true rfl), (Nat.le_of_ble_eq_true rfl)⟩) hS (fun q _ h => hFc q h) hFc (fun r133 u t H locs ht hvm hw134 hB _ _ hS => ?_)
          obtain ⟨u135, u136, u137⟩ := u
          obtain ⟨hT, hF1, m138, m139, m140⟩ := hB
          rw [ht] at hT hF1 m138 m139 m140
          have m141 := m118.kept (hF1.arr hr_th skc_153 (by decide))
          have m143 := (hF1.fld hr_o0 skc_152 (k := 0) (by decide) (by decide)).trans m120
          have m144 := (hF1.fld hr_o0 skc_152 (k := 9) (by decide) (by decide)).trans m121
          have m145 := (el_kept (hF1.arr hr_th skc_153 (by decide))).trans m122
          have hF := hF.more hF1 (by decide)
          try dsimp only at hw134
          obtain ⟨h148, h149, h150, hf151, hf152, hf153, hf154, hf155⟩ := hw134
          refine lv_istore_n (lv' := [(2, .int r133), (3, .int (nI i24)), (0, .ref o0), (1, .int 1)]) hx hb dX4_readAny_33 rfl hl (by decide) rfl (fun ls hl => ?_)
          refine lv_aload_n hx hb dX4_readAny_34 rfl (lv_at hl 2 rfl) ?_
          refine lv_bipush (v := 15) hx hb dX4_readAny_35 (by decide) ?_
          have hFc := gA_free hG hA hS
          refine va_callv (va_runV (As := [.int 15]) (rest := []) ⟨hx, hb, hml, hown, hts⟩ (c_addStep l dC dI kA adK adV G H nC nS o0 15 u136 sp9 u137 hT hr_o0 m139 m144 hr_sp9 (rg_t (a := 15) (by decide) (by first | decide | omega) (by first | decide | omega)) (by have q8 := ti_all u136; omega) m140 (by omega) (by omega)) (cwV 1 hts (goodIn_app (goodIn_r _ [12, 13, 14, 15] rfl (by decide +kernel)) (goodIn_ca (goodIn_r _ [9, 10, 11] rfl (by decide +kernel)) (bs2_in _ _))) rfl rfl rfl (by decide +kernel) ⟨(Nat.le_of_ble_eq_true rfl), (Nat.le_of_ble_eq_true rfl)⟩) ⟨fun a U g mk q => by obtain ⟨q0, q1, qK, qE⟩ := q; exact ⟨q0, q1, va_K.moved (u := U) (U := U.calling g mk a) (Vm.Alike.refl U.vm) qK, EVC.blind g mk a qE⟩, gH_rc hK hT hr_o0 shc_152 rfl, fun U hU hW => ⟨rfl, hU, va_K.moved hW.alike hK, hE.call hS hFc hU hW⟩⟩ rfl rfl hl.1 rfl (lv_room (Nat.le_of_ble_eq_true rfl)) dX4_readAny_37 ⟨(Nat.le_of_ble_eq_true rfl), (Nat.le_of_ble_eq_true rfl)⟩) hS (fun q _ h => hFc q h) hFc (fun u t H locs ht hvm hw157 hB _ _ hS => ?_)
          obtain ⟨u158, rfl⟩ : ∃ z, z = u := ⟨_, rfl⟩
          obtain ⟨hT, hF1, m159, m160⟩ := hB
          rw [ht] at hT hF1 m159 m160
          have m161 := m141.kept (hF1.arr hr_th skc_153 (by decide))
          have m162 := (hF1.fld hr_o0 skc_152 (k := 0) (by decide) (by decide)).trans m143
          have m163 := (hF1.fld hr_o0 skc_152 (k := 9) (by decide) (by decide)).trans m144
          have m164 := (el_kept (hF1.arr hr_th skc_153 (by decide))).trans m145
          have m165 := (hF1.fld hr_o0 skc_152 (k := 13) (by decide) (by decide)).trans m138
          have hF := hF.more hF1 (by decide)
          try dsimp only at hw157
          obtain ⟨h168, hf169⟩ := hw157
          refine lv_iinc (v := nI (i24 + 1)) (lv' := [(3, .int (nI (i24 + 1))), (2, .int r133), (0, .ref o0), (1, .int 1)]) hx hb dX4_readAny_40 hl (k := 1) rfl (nI_add i24 1) (by decide) rfl (fun ls hl => ?_)
          refine lv_goto (tgt := 8) hx hb dX4_readAny_43 (by decide) ?_
          exact ih105 (i24 + 1) (by omega) (by omega) r133 (cu u137 u136.toNatClampNeg 15) u135 u158 ⟨(by have q8 := ti_all r133; omega), (by have q8 := ti_all u135; omega), (by have q8 := ti_all u158; omega), (by have := hx_tv; have := (show u135.toInt = u135.toInt from rfl); omega), ⟨(by have l9 := (hj40.1.resolve_right (fun h8 => by have := h8.1; omega)).2; have a9 := hf128.resolve_right (fun h8 => by have := h8.2.1; omega); have h9 := hf153; rw [a9.2.2] at h9; rcases (show r133.toInt = 1 ∨ r133.toInt = 0 by omega) with h8 | h8 <;> rw [h8] at h9; (exact Or.inl ⟨h8, lp_s l9 (a9.1.trans (by decide)) h9⟩); exact Or.inr ⟨h8, lp_f l9 (a9.1.trans (by decide)) h9⟩), by omega⟩, (fun h8 => by have := tn_of (show s0.toInt = s0.toInt from rfl) (by omega); have := tn_of (show z36.toInt = z36.toInt from rfl) (by omega); have := tn_of (show u136.toInt = u136.toInt from rfl) (by omega); have := tn_of (show u158.toInt = u158.toInt from rfl) (by omega); have l9 := hj41 (by omega); have a9 := hf128.resolve_right (fun h8 => by have := h8.2.1; omega); have h9 := hf155 h8; rw [a9.2.2] at h9; rw [zC_3 (sx := z36.toNatClampNeg) (s2 := u136.toNatClampNeg) (c := 15) (by omega) (by omega) hf154 (by omega) rfl (by decide)]; exact zlI_s l9 (a9.1.trans (by decide)) h9), ((hj42.tr hf154 (by have := tn_of (show s0.toInt = s0.toInt from rfl) (by omega); have := tn_of (show z36.toInt = z36.toInt from rfl) (by omega); omega)).st (by have := tn_of (show s0.toInt = s0.toInt from rfl) (by omega); have := tn_of (show u136.toInt = u136.toInt from rfl) (by omega); omega)), (by have := (show u158.toInt = u158.toInt from rfl); have := (show u135.toInt = u135.toInt from rfl); omega)⟩ _ _ hT hF hS m161 m160 m162 m163 m164 m165 m159 ls (lv_sub hl [0, 1, 2, 3] rfl)
  exact key105 (400 - 0) 0 (by omega) (Nat.le_refl _) r1 u5 u3 u4 ⟨(by have q8 := ti_all r1; omega), (by have q8 := ti_all u3; omega), (by have q8 := ti_all u4; omega), (by have := hx_tv; have := (show u3.toInt = u3.toInt from rfl); omega), ⟨(by have h9 := hf21; rcases (show r1.toInt = 1 ∨ r1.toInt = 0 by omega) with h8 | h8 <;> rw [h8] at h9; (exact Or.inl ⟨h8, lp_1 h9⟩); exact Or.inr ⟨h8, lp_0 h9⟩), by omega⟩, (fun h8 => zlI_0 (hf23 h8)), (zKp.rf.tr hf22 (by have := tn_of (show s0.toInt = s0.toInt from rfl) (by omega); omega)), (by have := (show u4.toInt = u4.toInt from rfl); have := (show u3.toInt = u3.toInt from rfl); omega)⟩ _ _ hT hF hS m13 m8 m9 m12 m15 m6 m7 ls (lv_sub hl [0, 1, 2, 3] rfl)
def w_c_readAtom0 : List Cond := .code yX4_readAtom cX4_readAtom 4 (some .boolean) :: (HAppend.hAppend (α := List Cond) (β := List Cond) (γ := List Cond) [.fieldLink RX4 11 "SeaLand$Law" "things" "[I", .fieldLink RX4 56 "SeaLand$Law" "at" "I", .code yX4_readAny cX4_readAny 4 (some .boolean), .code yX4_readAll cX4_readAll 4 (some .boolean), .code yX4_readAtom cX4_readAtom 4 (some .boolean), .code yX4_readComparison cX4_readComparison 3 (some .boolean), .code yX4_readSum cX4_readSum 3 (some .boolean), .code yX4_readPart cX4_readPart 2 (some .boolean), .code yX4_addStep cX4_addStep 2 none, .fieldLink RX4 63 "SeaLand$Law" "stepped" "I", .fieldLink RX4 39 "SeaLand$Law" "steps" "[I", .methodLink RX4 179 yX4_addStep, .instanceMethod yX4_addStep, .selects RX4 yX4_addStep yX4_addStep, .initialized RX4, .methodLink RX4 192 yX4_readPart, .instanceMethod yX4_readPart, .selects RX4 yX4_readPart yX4_readPart, .code yX4_take cX4_take 2 (some .boolean), .methodLink RX4 70 yX4_take, .instanceMethod yX4_take, .selects RX4 yX4_take yX4_take, .methodLink RX4 189 yX4_readSum, .instanceMethod yX4_readSum, .selects RX4 yX4_readSum yX4_readSum, .methodLink RX4 186 yX4_readComparison, .instanceMethod yX4_readComparison, .selects RX4 yX4_readComparison yX4_readComparison, .methodLink RX4 183 yX4_readAtom, .instanceMethod yX4_readAtom, .selects RX4 yX4_readAtom yX4_readAtom, .methodLink RX4 176 yX4_readAll, .instanceMethod yX4_readAll, .selects RX4 yX4_readAll yX4_readAll, .methodLink RX4 173 yX4_readAny, .instanceMethod yX4_readAny, .selects RX4 yX4_readAny yX4_readAny] bs2)
set_option maxHeartbeats 4000000 in
set_option maxRecDepth 100000 in
theorem c_readAtom0 (l : Launch) (dC : Nat → ClassId) (dI : Nat → Nat → Nat) (kA : Nat → ClassId) (adK adV : Nat → Nat) (G : gT) (H0 : Heap) (nC nS : Int) (o0 : Nat) (th : Nat) (a0 : Int32) (s0 : Int32) (sp9 : Nat) (vT : Nat → Int32) (vS : Nat → Int32) (tv ix_tv : Int32) (tn : Int32) (K : Nat → Int) (X pS : Nat → Nat) (hT : gH (dC, dI) kA (SHc nC nS) G H0) (hr_o0 : G o0 = some 152) (hm_th : el H0 o0 (dI 7 0) = some (.ref th)) (hr_th : G th = some 153) (hm_a0 : el H0 o0 (dI 7 13) = some (.int a0)) (hm_s0 : el H0 o0 (dI 7 12) = some (.int s0)) (hm_sp9 : el H0 o0 (dI 7 9) = some (.ref sp9)) (hr_sp9 : G sp9 = some 162) (hq0 : 0 ≤ tn.toInt ∧ tn.toInt ≤ 400) (hq1 : 0 ≤ a0.toInt ∧ a0.toInt ≤ 400) (hat : a0.toInt ≤ tn.toInt) (hKK : ∀ m : Nat, m ≤ tn.toNatClampNeg → (vT m).toInt = K (pS m)) (hXX : ∀ m : Nat, m < tn.toNatClampNeg → pS (m + 1) = X (pS m)) (hq5 : 0 ≤ s0.toInt ∧ s0.toInt ≤ 400) (hsa : s0.toInt ≤ a0.toInt) (hc_vT : ct H0 th 401 vT) (hc_vS : ct H0 sp9 400 vS) (hx_tv : ix_tv.toInt = tn.toInt) (hm_tv : el H0 th ix_tv.toNatClampNeg = some (.int tv)) (hv_tv : 21 ≤ tv.toInt ∧ tv.toInt ≤ 21) (hgC : 0 ≤ nC ∧ nC ≤ 40) (hgS : 0 ≤ nS ∧ nS ≤ 60) : Met l yX4_readAtom w_c_readAtom0 ({ frames := 22, cells := 0, slots := 0, locals := 500 }) (va_Pc [.ref o0, .int 0] (fun U => U.heap = H0 ∧ va_K (dC, dI) vwCl (tyl kA) U ∧ EVC adK adV (gA G H0.size) U U.heap)) (va_Qi (fun (r : Int32) (u : Int32 × Int32 × (Nat → Int32)) => match u with | (a1, s1, vS1) => (0 ≤ a1.toInt ∧ a1.toInt ≤ 400) ∧ (0 ≤ s1.toInt ∧ s1.toInt ≤ 400) ∧ (0 ≤ r.toInt ∧ r.toInt ≤ 1) ∧ (a0.toInt ≤ a1.toInt ∧ a1.toInt ≤ tn.toInt) ∧ (s0.toInt ≤ s1.toInt ∧ s1.toInt - s0.toInt ≤ a1.toInt - a0.toInt) ∧ (aR K X 6 (pS a0.toNatClampNeg) r.toInt (pS a1.toNatClampNeg)) ∧ (zKp vS vS1 s0.toNatClampNeg) ∧ (r.toInt = 1 → zaZ K X 6 (pS a0.toNatClampNeg) (zC (tz vS1) s0.toNatClampNeg s1.toNatClampNeg) (pS a1.toNatClampNeg))) (fun (u : Int32 × Int32 × (Nat → Int32)) (t : State) => match u with | (a1, s1, vS1) => gH (dC, dI) kA (SHc nC nS) G t.heap ∧ gF (dC, dI) SKc G ([(152, 12), (152, 13), (162, 0)] : List (Nat × Nat)) H0 t.heap ∧ el t.heap o0 (dI 7 13) = some (.int a1) ∧ el t.heap o0 (dI 7 12) = some (.int s1) ∧ ct t.heap sp9 400 vS1) (gA G H0.size)) 0 0 (gA G H0.size) := by
  refine Met.ofW (cc := cX4_readAtom) (maxL := 4) (ret := (some .boolean)) (by decide) rfl ?_
  intro p e s m args below meth c s₁ B hml hv
  obtain ⟨rfl, hH0, hK, hE⟩ := hv
  have hx := B.exec
  have hb := B.bytes
  have hr := B.returns
  have hts := atoms_spec (ws := w_c_readAtom0) B.pre
  have hown : s.vm.findClass RX4 = some m.cls := findClass_of_methodNamed B.named
  have hlocks := B.notSynchronized
  subst hH0
  generalize hAe : gA G s.heap.size = A at hE ⊢
  have hA : ∀ q : Nat, s.heap.size ≤ q → A q := fun q h => by rw [← hAe]; exact Or.inr h
  have hG := gA_of hAe
  have hS : va_S A s.heap s.heap [] := va_S.rf
  have hF : gF (dC, dI) SKc G ([(152, 12), (152, 13), (162, 0)] : List (Nat × Nat)) s.heap s.heap := gF.rf
  have hl := lv_entry ([.ref o0, .int 0]) (n := 4) (Nat.le_of_ble_eq_true rfl)
  rw [lg_entry_eq]
  generalize (lg_sl ([.ref o0, .int 0]) ++ List.replicate (4 - (lg_sl ([.ref o0, .int 0])).length) Slot.unset).toArray = ls at hl ⊢
  have hl : lv_has ls 4 [(0, .ref o0), (1, .int 0)] := hl
  refine lv_aload_n hx hb dX4_readAtom_0 rfl (lv_at hl 0 rfl) ?_
  refine tw_getM (v := .ref th) hx hb hts bF2_X4 hown hK hT hr_o0 shc_152 rfl 0 (by decide) (ht_at2 hts 0 rfl) (fun _ h9 => h9) hm_th dX4_readAtom_1 ?_
  refine lv_aload_n hx hb dX4_readAtom_4 rfl (lv_at hl 0 rfl) ?_
  refine tw_getM (v := .int a0) hx hb hts bF2_X4 hown hK hT hr_o0 shc_152 rfl 13 (by decide) (ht_at2 hts 1 rfl) (fun _ h9 => h9) hm_a0 dX4_readAtom_5 ?_
  refine tw_iald (i := a0) hx hb hK hT hr_th shc_153 rfl (vin_t (a := a0.toInt) rfl (by omega) (by omega)) dX4_readAtom_8 (fun v9 m1 h9 => ?_)
  obtain ⟨x2, rfl, gx2, kx2⟩ := h9
  have cx2 := hc_vT.at m1 (by have q9 := tn_of (show a0.toInt = a0.toInt from rfl) (by omega); omega)
  have t3 : a0.toInt = ix_tv.toInt → x2.toInt = tv.toInt := fun h8 => congrArg Int32.toInt (el_same m1 hm_tv h8)
  have t4 : x2.toInt = K (pS a0.toNatClampNeg) := (congrArg Int32.toInt cx2).trans (hKK _ (by have := tn_of (show a0.toInt = a0.toInt from rfl) (by omega); have := tn_of (show tn.toInt = tn.toInt from rfl) (by omega); omega))
  refine lv_bipush (v := 13) hx hb dX4_readAtom_9 (by decide) ?_
  have t5 : -2147483648 ≤ x2.toInt ∧ x2.toInt ≤ 2147483647 := ti_all x2
  refine lv_icmp_ne (tgt := 18) hx hb dX4_readAtom_11 (by decide) (fun c6 => ?_) (fun c6 => ?_)
  · have t7 : x2.toInt ≠ 13 := ti_ne c6 rfl (by decide)
    refine lv_iconst (v := 0) hx hb dX4_readAtom_18 (by decide) ?_
    refine lv_istore_n (lv' := [(2, .int 0), (0, .ref o0), (1, .int 0)]) hx hb dX4_readAtom_19 rfl hl (by decide) rfl (fun ls hl => ?_)
    refine lv_iload_n hx hb dX4_readAtom_20 rfl (lv_at hl 0 rfl) ?_
    refine lv_if_ne (tgt := 43) hx hb dX4_readAtom_21 (by decide) (fun c8 => absurd c8 (by decide)) (fun c8 => ?_)
    refine lv_aload_n hx hb dX4_readAtom_24 rfl (lv_at hl 1 rfl) ?_
    refine tw_getM (v := .ref th) hx hb hts bF2_X4 hown hK hT hr_o0 shc_152 rfl 0 (by decide) (ht_at2 hts 0 rfl) (fun _ h9 => h9) hm_th dX4_readAtom_25 ?_
    refine lv_aload_n hx hb dX4_readAtom_28 rfl (lv_at hl 1 rfl) ?_
    refine tw_getM (v := .int a0) hx hb hts bF2_X4 hown hK hT hr_o0 shc_152 rfl 13 (by decide) (ht_at2 hts 1 rfl) (fun _ h9 => h9) hm_a0 dX4_readAtom_29 ?_
    refine tw_iald (i := a0) hx hb hK hT hr_th shc_153 rfl (vin_t (a := a0.toInt) rfl (by omega) (by omega)) dX4_readAtom_32 (fun v9 m9 h9 => ?_)
    obtain ⟨x10, rfl, gx10, kx10⟩ := h9
    have cx10 := hc_vT.at m9 (by have q9 := tn_of (show a0.toInt = a0.toInt from rfl) (by omega); omega)
    have t11 : a0.toInt = ix_tv.toInt → x10.toInt = tv.toInt := fun h8 => congrArg Int32.toInt (el_same m9 hm_tv h8)
    obtain rfl : x2 = x10 := (el_same m9 m1 rfl).symm
    refine lv_bipush (v := 16) hx hb dX4_readAtom_33 (by decide) ?_
    refine lv_icmp_eq (tgt := 43) hx hb dX4_readAtom_35 (by decide) (fun c12 => ?_) (fun c12 => ?_)
    · have t13 : x2.toInt = 16 := ti_eq c12 rfl (by decide)
      refine lv_iload_n hx hb dX4_readAtom_43 rfl (lv_at hl 2 rfl) ?_
      refine lv_bipush (v := 6) hx hb dX4_readAtom_44 (by decide) ?_
      refine lv_icmp_lt (tgt := 51) hx hb dX4_readAtom_46 (by decide) (fun c14 => ?_) (fun c14 => absurd c14 (by decide))
      refine lv_aload_n hx hb dX4_readAtom_51 rfl (lv_at hl 1 rfl) ?_
      refine lv_dup hx hb dX4_readAtom_52 rfl ?_
      refine tw_getM (v := .int a0) hx hb hts bF2_X4 hown hK hT hr_o0 shc_152 rfl 13 (by decide) (ht_at2 hts 1 rfl) (fun _ h9 => h9) hm_a0 dX4_readAtom_53 ?_
      refine lv_iconst (v := 1) hx hb dX4_readAtom_56 (by decide) ?_
      refine lv_iadd hx hb dX4_readAtom_57 ?_
      refine lv_topi (fun x15 ex15 => ?_)
      have t16 : x15.toInt = a0.toInt + 1 := ti_add ex15 rfl (by decide) (by omega) (by omega)
      refine tw_put (v := .int x15) (ty := .int) hx hb hts bF2_X4 tyX4 tyX4_ok nmX4 hown hK hT hG hS hr_o0 shc_152 rfl 13 (by decide) (ht_at2 hts 1 rfl) (fun _ h9 => h9) rfl (by decide +kernel) rfl rfl (gl_at rfl (gi_of (show x15.toInt = x15.toInt from rfl) (by omega) (by omega))) dX4_readAtom_58 (fun H locs hT oq m17 oj hS => ?_)
      have hF := hF.put hr_o0 skc_152 oq oj (by decide)
      have m18 := (oj 0 (by decide) (by decide)).trans hm_th
      have m19 := (oj 12 (by decide) (by decide)).trans hm_s0
      have m20 := (oj 9 (by decide) (by decide)).trans hm_sp9
      have m21 := hc_vT.kept (oq _ (gne hr_th hr_o0 (by decide)))
      have m22 := hc_vS.kept (oq _ (gne hr_sp9 hr_o0 (by decide)))
      have m23 := (el_kept (oq _ (gne hr_th hr_o0 (by decide)))).trans hm_tv
      refine lv_iload_n hx hb dX4_readAtom_61 rfl (lv_at hl 0 rfl) ?_
      refine lv_if_eq (tgt := 81) hx hb dX4_readAtom_62 (by decide) (fun c25 => ?_) (fun c25 => absurd c25 (by decide))
      refine lv_aload_n hx hb dX4_readAtom_81 rfl (lv_at hl 1 rfl) ?_
      refine lv_iload_n hx hb dX4_readAtom_82 rfl (lv_at hl 2 rfl) ?_
      refine lv_iconst (v := 1) hx hb dX4_readAtom_83 (by decide) ?_
      refine lv_iadd hx hb dX4_readAtom_84 ?_
      refine lv_topi (fun x26 ex26 => ?_)
      obtain rfl : x26 = 1 := ex26.trans (by decide)
      have hFc := gA_free hG hA hS
      refine va_calli (va_runV (As := [.int 1]) (rest := []) ⟨hx, hb, hml, hown, hts⟩ (c_readAny1 l dC dI kA adK adV G H nC nS o0 th x15 s0 sp9 vT vS tv ix_tv ix_tv K X pS hT hr_o0 m18 hr_th m17 m19 m20 hr_sp9 (by have q8 := ti_all ix_tv; omega) (by have q8 := ti_all x15; omega) (by have := (show x15.toInt = x15.toInt from rfl); have := (show ix_tv.toInt = ix_tv.toInt from rfl); omega) (fun m hm => hKK m (Nat.le_trans hm (Nat.le_of_eq (tn_same hx_tv rfl rfl)))) (fun m hm => hXX m (Nat.lt_of_lt_of_eq hm (tn_same hx_tv rfl rfl))) (by have q8 := ti_all s0; omega) (by have := (show s0.toInt = s0.toInt from rfl); have := (show x15.toInt = x15.toInt from rfl); omega) m21 m22 (by have q9 := (show ix_tv.toInt = ix_tv.toInt from rfl); have := (show ix_tv.toInt = ix_tv.toInt from rfl); omega) m23 (by have q8 := ti_all tv; omega) (by omega) (by omega)) (cwV 1 hts (goodIn_app (goodIn_r _ [35, 36, 37, 15] rfl (by decide +kernel)) (goodIn_ca (goodIn_r _ [3, 4, 5, 1, 2, 3, 6, 7, 8, 9, 10, 11, 12, 13, 14, 15, 16, 17, 18, 19, 20, 21, 22, 23, 24, 25, 26, 27, 28, 29, 30, 31, 32, 33, 34, 35, 36, 37] rfl (by decide +kernel)) (bs2_in _ _))) rfl rfl rfl (by decide +kernel) ⟨(Nat.le_of_ble_eq_true rfl), (Nat.le_of_ble_eq_true rfl)⟩) ⟨fun a U g mk q => by obtain ⟨q0, q1, qK, qE⟩ := q; exact ⟨q0, q1, va_K.moved (u := U) (U := U.calling g mk a) (Vm.Alike.refl U.vm) qK, EVC.blind g mk a qE⟩, gH_rc hK hT hr_o0 shc_152 rfl, fun U hU hW => ⟨rfl, hU, va_K.moved hW.alike hK, hE.call hS hFc hU hW⟩⟩ rfl rfl hl.1 rfl (lv_room (Nat.le_of_ble_eq_true rfl)) dX4_readAtom_85 ⟨(Nat.le_of_ble_eq_true rfl), (Nat.le_of_ble_eq_true rfl)⟩) hS (fun q _ h => hFc q h) hFc (fun r27 u t H locs ht hvm hw28 hB _ _ hS => ?_)
      obtain ⟨u29, u30, u31⟩ := u
      obtain ⟨hT, hF1, m32, m33, m34⟩ := hB
      rw [ht] at hT hF1 m32 m33 m34
      have m35 := (hF1.fld hr_o0 skc_152 (k := 0) (by decide) (by decide)).trans m18
      have m38 := m21.kept (hF1.arr hr_th skc_153 (by decide))
      have m40 := (el_kept (hF1.arr hr_th skc_153 (by decide))).trans m23
      have hF := hF.more hF1 (by decide)
      try dsimp only at hw28
      obtain ⟨h43, h44, h45, hf46, hf47, hf48, hf49, hf50⟩ := hw28
      refine lv_if_eq (tgt := 104) hx hb dX4_readAtom_88 (by decide) (fun c51 => ?_) (fun c51 => ?_)
      · have t52 : r27.toInt = 0 := ti_eq c51 rfl (by decide)
        refine lv_iconst (v := 0) hx hb dX4_readAtom_104 (by decide) ?_
        exact W.zret (v := 0) hx hb hr (by decide) (fun t ht hW => ⟨⟨0, (u29, u30, u31), rfl, (by exact ⟨(by have q8 := ti_all u29; omega), (by have q8 := ti_all u30; omega), (rg_t (a := 0) (by decide) (by first | decide | omega) (by first | decide | omega)), (by omega), (by omega), (by have h9 := hf48; rw [(show pS x15.toNatClampNeg = X (pS a0.toNatClampNeg) from by rw [show x15.toNatClampNeg = a0.toNatClampNeg + 1 from by have := tn_of (show a0.toInt = a0.toInt from rfl) (by omega); have := tn_of (show x15.toInt = x15.toInt from rfl) (by omega); omega]; exact hXX _ (by have := tn_of (show a0.toInt = a0.toInt from rfl) (by omega); have := tn_of (show tn.toInt = tn.toInt from rfl) (by omega); omega))] at h9; rw [show r27.toInt = 0 from by omega] at h9; exact Or.inr (Or.inl ⟨by omega, Or.inl ⟨h9, by decide⟩⟩)), (zKp.rf.tr hf49 (by have := tn_of (show s0.toInt = s0.toInt from rfl) (by omega); omega)), (fun h8 => absurd h8 (by decide))⟩), by (try dsimp only); rw [ht]; exact ⟨hT, hF, m32, m33, m34⟩⟩, hS.F ht⟩) hS.2.2 dX4_readAtom_105
      · have t53 : r27.toInt ≠ 0 := ti_ne c51 rfl (by decide)
        refine lv_aload_n hx hb dX4_readAtom_91 rfl (lv_at hl 1 rfl) ?_
        refine lv_bipush (v := 17) hx hb dX4_readAtom_92 (by decide) ?_
        have hFc := gA_free hG hA hS
        refine va_calli (va_runV (As := [.int 17]) (rest := []) ⟨hx, hb, hml, hown, hts⟩ (c_take l dC dI kA adK adV G H nC nS o0 17 th u29 vT tv ix_tv ix_tv K X pS hT hr_o0 m35 hr_th m32 (by have q8 := ti_all ix_tv; omega) (by have q8 := ti_all u29; omega) (by have := (show u29.toInt = u29.toInt from rfl); have := (show ix_tv.toInt = ix_tv.toInt from rfl); omega) (by have := (show (17 : Int32).toInt = 17 from (by decide)); omega) (fun m hm => hKK m (Nat.le_trans hm (Nat.le_of_eq (tn_same hx_tv rfl rfl)))) (fun m hm => hXX m (Nat.lt_of_lt_of_eq hm (tn_same hx_tv rfl rfl))) m38 (by have q9 := (show ix_tv.toInt = ix_tv.toInt from rfl); have := (show ix_tv.toInt = ix_tv.toInt from rfl); omega) m40 (by have q8 := ti_all tv; omega) (by omega) (by omega)) (cwV 1 hts (goodIn_app (goodIn_r _ [20, 21, 22, 15] rfl (by decide +kernel)) (goodIn_ca (goodIn_r _ [19, 1, 2] rfl (by decide +kernel)) (bs2_in _ _))) rfl rfl rfl (by decide +kernel) ⟨(Nat.le_of_ble_eq_true rfl), (Nat.le_of_ble_eq_true rfl)⟩) ⟨fun a U g mk q => by obtain ⟨q0, q1, qK, qE⟩ := q; exact ⟨q0, q1, va_K.moved (u := U) (U := U.calling g mk a) (Vm.Alike.refl U.vm) qK, EVC.blind g mk a qE⟩, gH_rc hK hT hr_o0 shc_152 rfl, fun U hU hW => ⟨rfl, hU, va_K.moved hW.alike hK, hE.call hS hFc hU hW⟩⟩ rfl rfl hl.1 rfl (lv_room (Nat.le_of_ble_eq_true rfl)) dX4_readAtom_94 ⟨(Nat.le_of_ble_eq_true rfl), (Nat.le_of_ble_eq_true rfl)⟩) hS (fun q _ h => hFc q h) hFc (fun r54 u t H locs ht hvm hw55 hB _ _ hS => ?_)
        obtain ⟨u56, rfl⟩ : ∃ z, z = u := ⟨_, rfl⟩
        obtain ⟨hT, hF1, m57⟩ := hB
        rw [ht] at hT hF1 m57
        have m64 := (hF1.fld hr_o0 skc_152 (k := 12) (by decide) (by decide)).trans m33
        have m65 := m34.kept (hF1.arr hr_sp9 skc_162 (by decide))
        have hF := hF.more hF1 (by decide)
        try dsimp only at hw55
        obtain ⟨h66, h67, hf68, hf69, hf70⟩ := hw55
        refine lv_if_eq (tgt := 104) hx hb dX4_readAtom_97 (by decide) (fun c71 => ?_) (fun c71 => ?_)
        · have t72 : r54.toInt = 0 := ti_eq c71 rfl (by decide)
          refine lv_iconst (v := 0) hx hb dX4_readAtom_104 (by decide) ?_
          exact W.zret (v := 0) hx hb hr (by decide) (fun t ht hW => ⟨⟨0, (u56, u30, u31), rfl, (by exact ⟨(by have q8 := ti_all u56; omega), (by have q8 := ti_all u30; omega), (rg_t (a := 0) (by decide) (by first | decide | omega) (by first | decide | omega)), (by omega), (by omega), (by have h9 := hf48; rw [(show pS x15.toNatClampNeg = X (pS a0.toNatClampNeg) from by rw [show x15.toNatClampNeg = a0.toNatClampNeg + 1 from by have := tn_of (show a0.toInt = a0.toInt from rfl) (by omega); have := tn_of (show x15.toInt = x15.toInt from rfl) (by omega); omega]; exact hXX _ (by have := tn_of (show a0.toInt = a0.toInt from rfl) (by omega); have := tn_of (show tn.toInt = tn.toInt from rfl) (by omega); omega))] at h9; rw [show r27.toInt = 1 from by omega] at h9; have t9 := hf69; exact Or.inr (Or.inl ⟨by omega, Or.inr ⟨_, h9, (by have q0 : (0 : Int32).toInt = 0 := (by decide); have q1 : (1 : Int32).toInt = 1 := (by decide); rcases t9 with ⟨x1, x2, x3⟩ | ⟨x1, x2, x3⟩; (exact Or.inl ⟨x1.trans (by decide), by omega, x3⟩); exact Or.inr ⟨fun h7 => x1 (h7.trans (by decide)), by omega, x3⟩)⟩⟩)), (zKp.rf.tr hf49 (by have := tn_of (show s0.toInt = s0.toInt from rfl) (by omega); omega)), (fun h8 => absurd h8 (by decide))⟩), by (try dsimp only); rw [ht]; exact ⟨hT, hF, m57, m64, m65⟩⟩, hS.F ht⟩) hS.2.2 dX4_readAtom_105
        · have t73 : r54.toInt ≠ 0 := ti_ne c71 rfl (by decide)
          refine lv_iconst (v := 1) hx hb dX4_readAtom_100 (by decide) ?_
          refine lv_goto (tgt := 105) hx hb dX4_readAtom_101 (by decide) ?_
          exact W.zret (v := 1) hx hb hr (by decide) (fun t ht hW => ⟨⟨1, (u56, u30, u31), rfl, (by exact ⟨(by have q8 := ti_all u56; omega), (by have q8 := ti_all u30; omega), (rg_t (a := 1) (by decide) (by first | decide | omega) (by first | decide | omega)), (by omega), (by omega), (by have h9 := hf48; rw [(show pS x15.toNatClampNeg = X (pS a0.toNatClampNeg) from by rw [show x15.toNatClampNeg = a0.toNatClampNeg + 1 from by have := tn_of (show a0.toInt = a0.toInt from rfl) (by omega); have := tn_of (show x15.toInt = x15.toInt from rfl) (by omega); omega]; exact hXX _ (by have := tn_of (show a0.toInt = a0.toInt from rfl) (by omega); have := tn_of (show tn.toInt = tn.toInt from rfl) (by omega); omega))] at h9; rw [show r27.toInt = 1 from by omega] at h9; have t9 := hf69; exact Or.inr (Or.inl ⟨by omega, Or.inr ⟨_, h9, (by have q0 : (0 : Int32).toInt = 0 := (by decide); have q1 : (1 : Int32).toInt = 1 := (by decide); rcases t9 with ⟨x1, x2, x3⟩ | ⟨x1, x2, x3⟩; (exact Or.inl ⟨x1.trans (by decide), by omega, x3⟩); exact Or.inr ⟨fun h7 => x1 (h7.trans (by decide)), by omega, x3⟩)⟩⟩)), (zKp.rf.tr hf49 (by have := tn_of (show s0.toInt = s0.toInt from rfl) (by omega); omega)), (fun h8 => by have h9 := hf50 (by omega); rw [(show pS x15.toNatClampNeg = X (pS a0.toNatClampNeg) from by rw [show x15.toNatClampNeg = a0.toNatClampNeg + 1 from by have := tn_of (show a0.toInt = a0.toInt from rfl) (by omega); have := tn_of (show x15.toInt = x15.toInt from rfl) (by omega); omega]; exact hXX _ (by have := tn_of (show a0.toInt = a0.toInt from rfl) (by omega); have := tn_of (show tn.toInt = tn.toInt from rfl) (by omega); omega))] at h9; have t9 := hf69.resolve_right (fun h7 => by have := h7.2.1; omega); exact Or.inr (Or.inl ⟨by omega, _, h9, t9.1.trans (by decide), t9.2.2⟩))⟩), by (try dsimp only); rw [ht]; exact ⟨hT, hF, m57, m64, m65⟩⟩, hS.F ht⟩) hS.2.2 dX4_readAtom_105
    · have t74 : x2.toInt ≠ 16 := ti_ne c12 rfl (by decide)
      refine lv_aload_n hx hb dX4_readAtom_38 rfl (lv_at hl 1 rfl) ?_
      have hFc := gA_free hG hA hS
      refine va_calli (va_runV (As := []) (rest := []) ⟨hx, hb, hml, hown, hts⟩ (c_readComparison l dC dI kA adK adV G s.heap nC nS o0 th a0 s0 sp9 vT vS tv ix_tv ix_tv K X pS hT hr_o0 hm_th hr_th hm_a0 hm_s0 hm_sp9 hr_sp9 (by have q8 := ti_all ix_tv; omega) (by have q8 := ti_all a0; omega) (by have := (show a0.toInt = a0.toInt from rfl); have := (show ix_tv.toInt = ix_tv.toInt from rfl); omega) (fun m hm => hKK m (Nat.le_trans hm (Nat.le_of_eq (tn_same hx_tv rfl rfl)))) (fun m hm => hXX m (Nat.lt_of_lt_of_eq hm (tn_same hx_tv rfl rfl))) (by have q8 := ti_all s0; omega) (by have := (show s0.toInt = s0.toInt from rfl); have := (show a0.toInt = a0.toInt from rfl); omega) hc_vT hc_vS (by have q9 := (show ix_tv.toInt = ix_tv.toInt from rfl); have := (show ix_tv.toInt = ix_tv.toInt from rfl); omega) hm_tv (by have q8 := ti_all tv; omega) (by omega) (by omega)) (cwV 0 hts (goodIn_app (goodIn_r _ [26, 27, 28, 15] rfl (by decide +kernel)) (goodIn_ca (goodIn_r _ [6, 7, 8, 1, 2, 9, 10, 11, 12, 13, 14, 15, 16, 17, 18, 19, 20, 21, 22, 23, 24, 25] rfl (by decide +kernel)) (bs2_in _ _))) rfl rfl rfl (by decide +kernel) ⟨(Nat.le_of_ble_eq_true rfl), (Nat.le_of_ble_eq_true rfl)⟩) ⟨fun a U g mk q => by obtain ⟨q0, q1, qK, qE⟩ := q; exact ⟨q0, q1, va_K.moved (u := U) (U := U.calling g mk a) (Vm.Alike.refl U.vm) qK, EVC.blind g mk a qE⟩, gH_rc hK hT hr_o0 shc_152 rfl, fun U hU hW => ⟨rfl, hU, va_K.moved hW.alike hK, hE.call hS hFc hU hW⟩⟩ rfl rfl hl.1 rfl (lv_room (Nat.le_of_ble_eq_true rfl)) dX4_readAtom_39 ⟨(Nat.le_of_ble_eq_true rfl), (Nat.le_of_ble_eq_true rfl)⟩) hS (fun q _ h => hFc q h) hFc (fun r75 u t H locs ht hvm hw76 hB _ _ hS => ?_)
      obtain ⟨u77, u78, u79⟩ := u
      obtain ⟨hT, hF1, m80, m81, m82⟩ := hB
      rw [ht] at hT hF1 m80 m81 m82
      have hF := hF.more hF1 (by decide)
      try dsimp only at hw76
      obtain ⟨h91, h92, h93, hf94, hf95, hf96, hf97, hf98⟩ := hw76
      exact W.zret (v := r75) hx hb hr (nar_b (by have q8 := ti_all r75; omega)) (fun t ht hW => ⟨⟨r75, (u77, u78, u79), rfl, (by exact ⟨(by have q8 := ti_all u77; omega), (by have q8 := ti_all u78; omega), (by have q8 := ti_all r75; omega), (by omega), (by omega), (Or.inr (Or.inr ⟨by omega, hf96⟩)), (zKp.rf.tr hf97 (by have := tn_of (show s0.toInt = s0.toInt from rfl) (by omega); omega)), (fun h8 => Or.inr (Or.inr ⟨by omega, hf98 h8⟩))⟩), by (try dsimp only); rw [ht]; exact ⟨hT, hF, m80, m81, m82⟩⟩, hS.F ht⟩) hS.2.2 dX4_readAtom_42
  · have t99 : x2.toInt = 13 := ti_eq c6 rfl (by decide)
    refine lv_iconst (v := 1) hx hb dX4_readAtom_14 (by decide) ?_
    refine lv_goto (tgt := 19) hx hb dX4_readAtom_15 (by decide) ?_
    refine lv_istore_n (lv' := [(2, .int 1), (0, .ref o0), (1, .int 0)]) hx hb dX4_readAtom_19 rfl hl (by decide) rfl (fun ls hl => ?_)
    refine lv_iload_n hx hb dX4_readAtom_20 rfl (lv_at hl 0 rfl) ?_
    refine lv_if_ne (tgt := 43) hx hb dX4_readAtom_21 (by decide) (fun c100 => ?_) (fun c100 => absurd c100 (by decide))
    refine lv_iload_n hx hb dX4_readAtom_43 rfl (lv_at hl 2 rfl) ?_
    refine lv_bipush (v := 6) hx hb dX4_readAtom_44 (by decide) ?_
    refine lv_icmp_lt (tgt := 51) hx hb dX4_readAtom_46 (by decide) (fun c101 => ?_) (fun c101 => absurd c101 (by decide))
    refine lv_aload_n hx hb dX4_readAtom_51 rfl (lv_at hl 1 rfl) ?_
    refine lv_dup hx hb dX4_readAtom_52 rfl ?_
    refine tw_getM (v := .int a0) hx hb hts bF2_X4 hown hK hT hr_o0 shc_152 rfl 13 (by decide) (ht_at2 hts 1 rfl) (fun _ h9 => h9) hm_a0 dX4_readAtom_53 ?_
    refine lv_iconst (v := 1) hx hb dX4_readAtom_56 (by decide) ?_
    refine lv_iadd hx hb dX4_readAtom_57 ?_
    refine lv_topi (fun x102 ex102 => ?_)
    have t103 : x102.toInt = a0.toInt + 1 := ti_add ex102 rfl (by decide) (by omega) (by omega)
    refine tw_put (v := .int x102) (ty := .int) hx hb hts bF2_X4 tyX4 tyX4_ok nmX4 hown hK hT hG hS hr_o0 shc_152 rfl 13 (by decide) (ht_at2 hts 1 rfl) (fun _ h9 => h9) rfl (by decide +kernel) rfl rfl (gl_at rfl (gi_of (show x102.toInt = x102.toInt from rfl) (by omega) (by omega))) dX4_readAtom_58 (fun H locs hT oq m104 oj hS => ?_)
    have hF := hF.put hr_o0 skc_152 oq oj (by decide)
    have m105 := (oj 0 (by decide) (by decide)).trans hm_th
    have m106 := (oj 12 (by decide) (by decide)).trans hm_s0
    have m107 := (oj 9 (by decide) (by decide)).trans hm_sp9
    have m108 := hc_vT.kept (oq _ (gne hr_th hr_o0 (by decide)))
    have m109 := hc_vS.kept (oq _ (gne hr_sp9 hr_o0 (by decide)))
    have m110 := (el_kept (oq _ (gne hr_th hr_o0 (by decide)))).trans hm_tv
    refine lv_iload_n hx hb dX4_readAtom_61 rfl (lv_at hl 0 rfl) ?_
    refine lv_if_eq (tgt := 81) hx hb dX4_readAtom_62 (by decide) (fun c112 => absurd c112 (by decide)) (fun c112 => ?_)
    refine lv_aload_n hx hb dX4_readAtom_65 rfl (lv_at hl 1 rfl) ?_
    refine lv_iload_n hx hb dX4_readAtom_66 rfl (lv_at hl 2 rfl) ?_
    refine lv_iconst (v := 1) hx hb dX4_readAtom_67 (by decide) ?_
    refine lv_iadd hx hb dX4_readAtom_68 ?_
    refine lv_topi (fun x113 ex113 => ?_)
    obtain rfl : x113 = 1 := ex113.trans (by decide)
    have hFc := gA_free hG hA hS
    refine va_calli (va_runV (As := [.int 1]) (rest := []) ⟨hx, hb, hml, hown, hts⟩ (c_readAtom1 l dC dI kA adK adV G H nC nS o0 th x102 s0 sp9 vT vS tv ix_tv ix_tv K X pS hT hr_o0 m105 hr_th m104 m106 m107 hr_sp9 (by have q8 := ti_all ix_tv; omega) (by have q8 := ti_all x102; omega) (by have := (show x102.toInt = x102.toInt from rfl); have := (show ix_tv.toInt = ix_tv.toInt from rfl); omega) (fun m hm => hKK m (Nat.le_trans hm (Nat.le_of_eq (tn_same hx_tv rfl rfl)))) (fun m hm => hXX m (Nat.lt_of_lt_of_eq hm (tn_same hx_tv rfl rfl))) (by have q8 := ti_all s0; omega) (by have := (show s0.toInt = s0.toInt from rfl); have := (show x102.toInt = x102.toInt from rfl); omega) m108 m109 (by have q9 := (show ix_tv.toInt = ix_tv.toInt from rfl); have := (show ix_tv.toInt = ix_tv.toInt from rfl); omega) m110 (by have q8 := ti_all tv; omega) (by omega) (by omega)) (cwV 1 hts (goodIn_app (goodIn_r _ [29, 30, 31, 15] rfl (by decide +kernel)) (goodIn_ca (goodIn_r _ [5, 1, 2, 3, 4, 5, 6, 7, 8, 9, 10, 11, 12, 13, 14, 15, 16, 17, 18, 19, 20, 21, 22, 23, 24, 25, 26, 27, 28, 29, 30, 31, 32, 33, 34, 35, 36, 37] rfl (by decide +kernel)) (bs2_in _ _))) rfl rfl rfl (by decide +kernel) ⟨(Nat.le_of_ble_eq_true rfl), (Nat.le_of_ble_eq_true rfl)⟩) ⟨fun a U g mk q => by obtain ⟨q0, q1, qK, qE⟩ := q; exact ⟨q0, q1, va_K.moved (u := U) (U := U.calling g mk a) (Vm.Alike.refl U.vm) qK, EVC.blind g mk a qE⟩, gH_rc hK hT hr_o0 shc_152 rfl, fun U hU hW => ⟨rfl, hU, va_K.moved hW.alike hK, hE.call hS hFc hU hW⟩⟩ rfl rfl hl.1 rfl (lv_room (Nat.le_of_ble_eq_true rfl)) dX4_readAtom_69 ⟨(Nat.le_of_ble_eq_true rfl), (Nat.le_of_ble_eq_true rfl)⟩) hS (fun q _ h => hFc q h) hFc (fun r114 u t H locs ht hvm hw115 hB _ _ hS => ?_)
    obtain ⟨u116, u117, u118⟩ := u
    obtain ⟨hT, hF1, m119, m120, m121⟩ := hB
    rw [ht] at hT hF1 m119 m120 m121
    have m124 := (hF1.fld hr_o0 skc_152 (k := 9) (by decide) (by decide)).trans m107
    have hF := hF.more hF1 (by decide)
    try dsimp only at hw115
    obtain ⟨h130, h131, h132, hf133, hf134, hf135, hf136, hf137⟩ := hw115
    refine lv_istore_n (lv' := [(3, .int r114), (2, .int 1), (0, .ref o0), (1, .int 0)]) hx hb dX4_readAtom_72 rfl hl (by decide) rfl (fun ls hl => ?_)
    refine lv_aload_n hx hb dX4_readAtom_73 rfl (lv_at hl 2 rfl) ?_
    refine lv_bipush (v := 13) hx hb dX4_readAtom_74 (by decide) ?_
    have hFc := gA_free hG hA hS
    refine va_callv (va_runV (As := [.int 13]) (rest := []) ⟨hx, hb, hml, hown, hts⟩ (c_addStep l dC dI kA adK adV G H nC nS o0 13 u117 sp9 u118 hT hr_o0 m120 m124 hr_sp9 (rg_t (a := 13) (by decide) (by first | decide | omega) (by first | decide | omega)) (by have q8 := ti_all u117; omega) m121 (by omega) (by omega)) (cwV 1 hts (goodIn_app (goodIn_r _ [12, 13, 14, 15] rfl (by decide +kernel)) (goodIn_ca (goodIn_r _ [9, 10, 11] rfl (by decide +kernel)) (bs2_in _ _))) rfl rfl rfl (by decide +kernel) ⟨(Nat.le_of_ble_eq_true rfl), (Nat.le_of_ble_eq_true rfl)⟩) ⟨fun a U g mk q => by obtain ⟨q0, q1, qK, qE⟩ := q; exact ⟨q0, q1, va_K.moved (u := U) (U := U.calling g mk a) (Vm.Alike.refl U.vm) qK, EVC.blind g mk a qE⟩, gH_rc hK hT hr_o0 shc_152 rfl, fun U hU hW => ⟨rfl, hU, va_K.moved hW.alike hK, hE.call hS hFc hU hW⟩⟩ rfl rfl hl.1 rfl (lv_room (Nat.le_of_ble_eq_true rfl)) dX4_readAtom_76 ⟨(Nat.le_of_ble_eq_true rfl), (Nat.le_of_ble_eq_true rfl)⟩) hS (fun q _ h => hFc q h) hFc (fun u t H locs ht hvm hw139 hB _ _ hS => ?_)
    obtain ⟨u140, rfl⟩ : ∃ z, z = u := ⟨_, rfl⟩
    obtain ⟨hT, hF1, m141, m142⟩ := hB
    rw [ht] at hT hF1 m141 m142
    have m148 := (hF1.fld hr_o0 skc_152 (k := 13) (by decide) (by decide)).trans m119
    have hF := hF.more hF1 (by decide)
    try dsimp only at hw139
    obtain ⟨h151, hf152⟩ := hw139
    refine lv_iload_n hx hb dX4_readAtom_79 rfl (lv_at hl 0 rfl) ?_
    exact W.zret (v := r114) hx hb hr (nar_b (by have q8 := ti_all r114; omega)) (fun t ht hW => ⟨⟨r114, (u116, u140, (cu u118 u117.toNatClampNeg 13)), rfl, (by exact ⟨(by have q8 := ti_all u116; omega), (by have q8 := ti_all u140; omega), (by have q8 := ti_all r114; omega), (by omega), (by omega), (by have h9 := hf135; rw [(show pS x102.toNatClampNeg = X (pS a0.toNatClampNeg) from by rw [show x102.toNatClampNeg = a0.toNatClampNeg + 1 from by have := tn_of (show a0.toInt = a0.toInt from rfl) (by omega); have := tn_of (show x102.toInt = x102.toInt from rfl) (by omega); omega]; exact hXX _ (by have := tn_of (show a0.toInt = a0.toInt from rfl) (by omega); have := tn_of (show tn.toInt = tn.toInt from rfl) (by omega); omega))] at h9; exact Or.inl ⟨by omega, h9⟩), ((zKp.rf.tr hf136 (by have := tn_of (show s0.toInt = s0.toInt from rfl) (by omega); omega)).st (by have := tn_of (show s0.toInt = s0.toInt from rfl) (by omega); have := tn_of (show u117.toInt = u117.toInt from rfl) (by omega); omega)), (fun h8 => by have := tn_of (show s0.toInt = s0.toInt from rfl) (by omega); have := tn_of (show u117.toInt = u117.toInt from rfl) (by omega); have := tn_of (show u140.toInt = u140.toInt from rfl) (by omega); have h9 := hf137 h8; rw [(show pS x102.toNatClampNeg = X (pS a0.toNatClampNeg) from by rw [show x102.toNatClampNeg = a0.toNatClampNeg + 1 from by have := tn_of (show a0.toInt = a0.toInt from rfl) (by omega); have := tn_of (show x102.toInt = x102.toInt from rfl) (by omega); omega]; exact hXX _ (by have := tn_of (show a0.toInt = a0.toInt from rfl) (by omega); have := tn_of (show tn.toInt = tn.toInt from rfl) (by omega); omega))] at h9; exact Or.inl ⟨by omega, _, h9, zC_2 (s2 := u117.toNatClampNeg) (by omega) (by omega) rfl (by decide)⟩)⟩), by (try dsimp only); rw [ht]; exact ⟨hT, hF, m148, m141, m142⟩⟩, hS.F ht⟩) hS.2.2 dX4_readAtom_80
def w_c_readAll0 : List Cond := .code yX4_readAll cX4_readAll 4 (some .boolean) :: (HAppend.hAppend (α := List Cond) (β := List Cond) (γ := List Cond) [.code yX4_readAtom cX4_readAtom 4 (some .boolean), .fieldLink RX4 11 "SeaLand$Law" "things" "[I", .fieldLink RX4 56 "SeaLand$Law" "at" "I", .code yX4_readAny cX4_readAny 4 (some .boolean), .code yX4_readAll cX4_readAll 4 (some .boolean), .code yX4_readComparison cX4_readComparison 3 (some .boolean), .code yX4_readSum cX4_readSum 3 (some .boolean), .code yX4_readPart cX4_readPart 2 (some .boolean), .code yX4_addStep cX4_addStep 2 none, .fieldLink RX4 63 "SeaLand$Law" "stepped" "I", .fieldLink RX4 39 "SeaLand$Law" "steps" "[I", .methodLink RX4 179 yX4_addStep, .instanceMethod yX4_addStep, .selects RX4 yX4_addStep yX4_addStep, .initialized RX4, .methodLink RX4 192 yX4_readPart, .instanceMethod yX4_readPart, .selects RX4 yX4_readPart yX4_readPart, .code yX4_take cX4_take 2 (some .boolean), .methodLink RX4 70 yX4_take, .instanceMethod yX4_take, .selects RX4 yX4_take yX4_take, .methodLink RX4 189 yX4_readSum, .instanceMethod yX4_readSum, .selects RX4 yX4_readSum yX4_readSum, .methodLink RX4 186 yX4_readComparison, .instanceMethod yX4_readComparison, .selects RX4 yX4_readComparison yX4_readComparison, .methodLink RX4 183 yX4_readAtom, .instanceMethod yX4_readAtom, .selects RX4 yX4_readAtom yX4_readAtom, .methodLink RX4 176 yX4_readAll, .instanceMethod yX4_readAll, .selects RX4 yX4_readAll yX4_readAll, .methodLink RX4 173 yX4_readAny, .instanceMethod yX4_readAny, .selects RX4 yX4_readAny yX4_readAny] bs2)
set_option maxHeartbeats 4000000 in
set_option maxRecDepth 100000 in
theorem c_readAll0 (l : Launch) (dC : Nat → ClassId) (dI : Nat → Nat → Nat) (kA : Nat → ClassId) (adK adV : Nat → Nat) (G : gT) (H0 : Heap) (nC nS : Int) (o0 : Nat) (th : Nat) (a0 : Int32) (s0 : Int32) (sp9 : Nat) (vT : Nat → Int32) (vS : Nat → Int32) (tv ix_tv : Int32) (tn : Int32) (K : Nat → Int) (X pS : Nat → Nat) (hT : gH (dC, dI) kA (SHc nC nS) G H0) (hr_o0 : G o0 = some 152) (hm_th : el H0 o0 (dI 7 0) = some (.ref th)) (hr_th : G th = some 153) (hm_a0 : el H0 o0 (dI 7 13) = some (.int a0)) (hm_s0 : el H0 o0 (dI 7 12) = some (.int s0)) (hm_sp9 : el H0 o0 (dI 7 9) = some (.ref sp9)) (hr_sp9 : G sp9 = some 162) (hq0 : 0 ≤ tn.toInt ∧ tn.toInt ≤ 400) (hq1 : 0 ≤ a0.toInt ∧ a0.toInt ≤ 400) (hat : a0.toInt ≤ tn.toInt) (hKK : ∀ m : Nat, m ≤ tn.toNatClampNeg → (vT m).toInt = K (pS m)) (hXX : ∀ m : Nat, m < tn.toNatClampNeg → pS (m + 1) = X (pS m)) (hq5 : 0 ≤ s0.toInt ∧ s0.toInt ≤ 400) (hsa : s0.toInt ≤ a0.toInt) (hc_vT : ct H0 th 401 vT) (hc_vS : ct H0 sp9 400 vS) (hx_tv : ix_tv.toInt = tn.toInt) (hm_tv : el H0 th ix_tv.toNatClampNeg = some (.int tv)) (hv_tv : 21 ≤ tv.toInt ∧ tv.toInt ≤ 21) (hgC : 0 ≤ nC ∧ nC ≤ 40) (hgS : 0 ≤ nS ∧ nS ≤ 60) : Met l yX4_readAll w_c_readAll0 ({ frames := 23, cells := 0, slots := 0, locals := 523 }) (va_Pc [.ref o0, .int 0] (fun U => U.heap = H0 ∧ va_K (dC, dI) vwCl (tyl kA) U ∧ EVC adK adV (gA G H0.size) U U.heap)) (va_Qi (fun (r : Int32) (u : Int32 × Int32 × (Nat → Int32)) => match u with | (a1, s1, vS1) => (0 ≤ a1.toInt ∧ a1.toInt ≤ 400) ∧ (0 ≤ s1.toInt ∧ s1.toInt ≤ 400) ∧ (0 ≤ r.toInt ∧ r.toInt ≤ 1) ∧ (a0.toInt ≤ a1.toInt ∧ a1.toInt ≤ tn.toInt) ∧ (s0.toInt ≤ s1.toInt ∧ s1.toInt - s0.toInt ≤ a1.toInt - a0.toInt) ∧ (lpR K X (aR K X 6) 14 (pS a0.toNatClampNeg) r.toInt (pS a1.toNatClampNeg)) ∧ (zKp vS vS1 s0.toNatClampNeg) ∧ (r.toInt = 1 → zlZ K X (zaZ K X 6) 14 (pS a0.toNatClampNeg) (zC (tz vS1) s0.toNatClampNeg s1.toNatClampNeg) (pS a1.toNatClampNeg))) (fun (u : Int32 × Int32 × (Nat → Int32)) (t : State) => match u with | (a1, s1, vS1) => gH (dC, dI) kA (SHc nC nS) G t.heap ∧ gF (dC, dI) SKc G ([(152, 12), (152, 13), (162, 0)] : List (Nat × Nat)) H0 t.heap ∧ el t.heap o0 (dI 7 13) = some (.int a1) ∧ el t.heap o0 (dI 7 12) = some (.int s1) ∧ ct t.heap sp9 400 vS1) (gA G H0.size)) 0 0 (gA G H0.size) := by
  refine Met.ofW (cc := cX4_readAll) (maxL := 4) (ret := (some .boolean)) (by decide) rfl ?_
  intro p e s m args below meth c s₁ B hml hv
  obtain ⟨rfl, hH0, hK, hE⟩ := hv
  have hx := B.exec
  have hb := B.bytes
  have hr := B.returns
  have hts := atoms_spec (ws := w_c_readAll0) B.pre
  have hown : s.vm.findClass RX4 = some m.cls := findClass_of_methodNamed B.named
  have hlocks := B.notSynchronized
  subst hH0
  generalize hAe : gA G s.heap.size = A at hE ⊢
  have hA : ∀ q : Nat, s.heap.size ≤ q → A q := fun q h => by rw [← hAe]; exact Or.inr h
  have hG := gA_of hAe
  have hS : va_S A s.heap s.heap [] := va_S.rf
  have hF : gF (dC, dI) SKc G ([(152, 12), (152, 13), (162, 0)] : List (Nat × Nat)) s.heap s.heap := gF.rf
  have hl := lv_entry ([.ref o0, .int 0]) (n := 4) (Nat.le_of_ble_eq_true rfl)
  rw [lg_entry_eq]
  generalize (lg_sl ([.ref o0, .int 0]) ++ List.replicate (4 - (lg_sl ([.ref o0, .int 0])).length) Slot.unset).toArray = ls at hl ⊢
  have hl : lv_has ls 4 [(0, .ref o0), (1, .int 0)] := hl
  refine lv_aload_n hx hb dX4_readAll_0 rfl (lv_at hl 0 rfl) ?_
  refine lv_iload_n hx hb dX4_readAll_1 rfl (lv_at hl 1 rfl) ?_
  have hFc := gA_free hG hA hS
  refine va_calli (va_runV (As := [.int 0]) (rest := []) ⟨hx, hb, hml, hown, hts⟩ (c_readAtom0 l dC dI kA adK adV G s.heap nC nS o0 th a0 s0 sp9 vT vS tv ix_tv ix_tv K X pS hT hr_o0 hm_th hr_th hm_a0 hm_s0 hm_sp9 hr_sp9 (by have q8 := ti_all ix_tv; omega) (by have q8 := ti_all a0; omega) (by have := (show a0.toInt = a0.toInt from rfl); have := (show ix_tv.toInt = ix_tv.toInt from rfl); omega) (fun m hm => hKK m (Nat.le_trans hm (Nat.le_of_eq (tn_same hx_tv rfl rfl)))) (fun m hm => hXX m (Nat.lt_of_lt_of_eq hm (tn_same hx_tv rfl rfl))) (by have q8 := ti_all s0; omega) (by have := (show s0.toInt = s0.toInt from rfl); have := (show a0.toInt = a0.toInt from rfl); omega) hc_vT hc_vS (by have q9 := (show ix_tv.toInt = ix_tv.toInt from rfl); have := (show ix_tv.toInt = ix_tv.toInt from rfl); omega) hm_tv (by have q8 := ti_all tv; omega) (by omega) (by omega)) (cwV 1 hts (goodIn_app (goodIn_r _ [29, 30, 31, 15] rfl (by decide +kernel)) (goodIn_ca (goodIn_r _ [1, 2, 3, 4, 5, 1, 6, 7, 8, 9, 10, 11, 12, 13, 14, 15, 16, 17, 18, 19, 20, 21, 22, 23, 24, 25, 26, 27, 28, 29, 30, 31, 32, 33, 34, 35, 36, 37] rfl (by decide +kernel)) (bs2_in _ _))) rfl rfl rfl (by decide +kernel) ⟨(Nat.le_of_ble_eq_true rfl), (Nat.le_of_ble_eq_true rfl)⟩) ⟨fun a U g mk q => by obtain ⟨q0, q1, qK, qE⟩ := q; exact ⟨q0, q1, va_K.moved (u := U) (U := U.calling g mk a) (Vm.Alike.refl U.vm) qK, EVC.blind g mk a qE⟩, gH_rc hK hT hr_o0 shc_152 rfl, fun U hU hW => ⟨rfl, hU, va_K.moved hW.alike hK, hE.call hS hFc hU hW⟩⟩ rfl rfl hl.1 rfl (lv_room (Nat.le_of_ble_eq_true rfl)) dX4_readAll_2 ⟨(Nat.le_of_ble_eq_true rfl), (Nat.le_of_ble_eq_true rfl)⟩) hS (fun q _ h => hFc q h) hFc (fun r1 u t H locs ht hvm hw2 hB _ _ hS => ?_)
  obtain ⟨u3, u4, u5⟩ := u
  obtain ⟨hT, hF1, m6, m7, m8⟩ := hB
  rw [ht] at hT hF1 m6 m7 m8
  have m9 := (hF1.fld hr_o0 skc_152 (k := 0) (by decide) (by decide)).trans hm_th
  have m12 := (hF1.fld hr_o0 skc_152 (k := 9) (by decide) (by decide)).trans hm_sp9
  have m13 := hc_vT.kept (hF1.arr hr_th skc_153 (by decide))
  have m15 := (el_kept (hF1.arr hr_th skc_153 (by decide))).trans hm_tv
  have hF := hF.more hF1 (by decide)
  try dsimp only at hw2
  obtain ⟨h16, h17, h18, hf19, hf20, hf21, hf22, hf23⟩ := hw2
  refine lv_istore_n (lv' := [(2, .int r1), (0, .ref o0), (1, .int 0)]) hx hb dX4_readAll_5 rfl hl (by decide) rfl (fun ls hl => ?_)
  refine lv_iconst (v := 0) hx hb dX4_readAll_6 (by decide) ?_
  refine lv_istore_n (lv' := [(3, .int 0), (2, .int r1), (0, .ref o0), (1, .int 0)]) hx hb dX4_readAll_7 rfl hl (by decide) rfl (fun ls hl => ?_)
  have key105 : ∀ (n105 i24 : Nat), i24 + n105 = 400 → 0 ≤ i24 → ∀ (z25 : Int32), ∀ (V28 : Nat → Int32), ∀ (z33 : Int32), ∀ (z36 : Int32), ((0 ≤ z25.toInt ∧ z25.toInt ≤ 1) ∧ (0 ≤ z33.toInt ∧ z33.toInt ≤ 400) ∧ (0 ≤ z36.toInt ∧ z36.toInt ≤ 400) ∧ (a0.toInt ≤ z33.toInt ∧ z33.toInt ≤ tn.toInt) ∧ (((z25.toInt = 1 ∧ ∀ (r : Int) (f : Nat), lpQ K X (aR K X 6) 14 (pS z33.toNatClampNeg) r f → lpR K X (aR K X 6) 14 (pS a0.toNatClampNeg) r f) ∨ (z25.toInt = 0 ∧ lpR K X (aR K X 6) 14 (pS a0.toNatClampNeg) 0 (pS z33.toNatClampNeg))) ∧ ((i24 : Nat) : Int) ≤ z33.toInt) ∧ (z25.toInt = 1 → zlI K X (zaZ K X 6) 14 (pS a0.toNatClampNeg) (zC (tz V28) s0.toNatClampNeg z36.toNatClampNeg) (pS z33.toNatClampNeg)) ∧ (zKp vS V28 s0.toNatClampNeg) ∧ (s0.toInt ≤ z36.toInt ∧ z36.toInt - s0.toInt ≤ z33.toInt - a0.toInt)) → ∀ (H : Heap) (locs : List Loc), gH (dC, dI) kA (SHc nC nS) G H → gF (dC, dI) SKc G ([(152, 12), (152, 13), (162, 0)] : List (Nat × Nat)) s.heap H → va_S A s.heap H locs → ct H th 401 vT → ct H sp9 400 V28 → el H o0 (dI 7 0) = some (.ref th) → el H o0 (dI 7 9) = some (.ref sp9) → el H th ix_tv.toNatClampNeg = some (.int tv) → el H o0 (dI 7 13) = some (.int z33) → el H o0 (dI 7 12) = some (.int z36) → ∀ ls : Array Slot, lv_has ls 4 [(3, .int (nI i24)), (2, .int z25), (0, .ref o0), (1, .int 0)] → W p l e (headSpec w_c_readAll0 ({ frames := 23, cells := 0, slots := 0, locals := 523 })).room s m #[.ref o0, .int 0] below meth c H locs 0 0 (MQ below (va_Qi (fun (r : Int32) (u : Int32 × Int32 × (Nat → Int32)) => match u with | (a1, s1, vS1) => (0 ≤ a1.toInt ∧ a1.toInt ≤ 400) ∧ (0 ≤ s1.toInt ∧ s1.toInt ≤ 400) ∧ (0 ≤ r.toInt ∧ r.toInt ≤ 1) ∧ (a0.toInt ≤ a1.toInt ∧ a1.toInt ≤ tn.toInt) ∧ (s0.toInt ≤ s1.toInt ∧ s1.toInt - s0.toInt ≤ a1.toInt - a0.toInt) ∧ (lpR K X (aR K X 6) 14 (pS a0.toNatClampNeg) r.toInt (pS a1.toNatClampNeg)) ∧ (zKp vS vS1 s0.toNatClampNeg) ∧ (r.toInt = 1 → zlZ K X (zaZ K X 6) 14 (pS a0.toNatClampNeg) (zC (tz vS1) s0.toNatClampNeg s1.toNatClampNeg) (pS a1.toNatClampNeg))) (fun (u : Int32 × Int32 × (Nat → Int32)) (t : State) => match u with | (a1, s1, vS1) => gH (dC, dI) kA (SHc nC nS) G t.heap ∧ gF (dC, dI) SKc G ([(152, 12), (152, 13), (162, 0)] : List (Nat × Nat)) s.heap t.heap ∧ el t.heap o0 (dI 7 13) = some (.int a1) ∧ el t.heap o0 (dI 7 12) = some (.int s1) ∧ ct t.heap sp9 400 vS1) A) #[.ref o0, .int 0] s 0 0 A) (F0 m 8 ls []) := by
    intro n105
    induction n105 with
    | zero =>
      intro i24 hn105 hlo106 z25 V28 z33 z36 ⟨h26, h34, h37, hj39, hj40, hj41, hj42, hj43⟩ H locs hT hF hS m27 m29 m30 m31 m32 m35 m38 ls hl
      obtain rfl : 400 = i24 := by omega
      refine lv_iload_n hx hb dX4_readAll_8 rfl (lv_at hl 0 rfl) ?_
      refine lv_sipush (v := 400) hx hb dX4_readAll_9 (by decide) ?_
      refine lv_icmp_ge (tgt := 46) hx hb dX4_readAll_12 (by decide) (fun c107 => ?_) (fun c107 => (by exfalso; have q9 : ((400 : Nat) : Int) < 400 := ti_nle c107 (by decide) (nI_toInt (by omega)); omega))
      have t108 : 400 ≤ ((400 : Nat) : Int) := ti_le c107 (by decide) (nI_toInt (by omega))
      refine lv_iload_n hx hb dX4_readAll_46 rfl (lv_at hl 1 rfl) ?_
      exact W.zret (v := z25) hx hb hr (nar_b (by have q8 := ti_all z25; omega)) (fun t ht hW => ⟨⟨z25, (z33, z36, V28), rfl, (by exact ⟨(by have q8 := ti_all z33; omega), (by have q8 := ti_all z36; omega), (by have q8 := ti_all z25; omega), (by omega), (by omega), (by rcases hj40.1 with ⟨h8, l9⟩ | ⟨h8, l9⟩; (rw [h8]; exact lp_e l9 (fun h7 => by have := tn_of (show z33.toInt = z33.toInt from rfl) (by omega); have := tn_of (show tn.toInt = tn.toInt from rfl) (by omega); have k9 := hKK tn.toNatClampNeg (Nat.le_refl _); have e9 := hc_vT.at hm_tv (by have q9 := tn_of hx_tv (by omega); omega); have k8 : (vT tn.toNatClampNeg).toInt = 21 := (by have q8 := congrArg Int32.toInt e9; rw [show ix_tv.toNatClampNeg = tn.toNatClampNeg from tn_same hx_tv rfl rfl] at q8; omega); rw [show z33.toNatClampNeg = tn.toNatClampNeg from by omega] at h7; omega)); rw [h8]; exact l9), hj42, (fun h8 => ⟨hj41 h8, fun h7 => by have := tn_of (show z33.toInt = z33.toInt from rfl) (by omega); have := tn_of (show tn.toInt = tn.toInt from rfl) (by omega); have k9 := hKK tn.toNatClampNeg (Nat.le_refl _); have e9 := hc_vT.at hm_tv (by have q9 := tn_of hx_tv (by omega); omega); have k8 : (vT tn.toNatClampNeg).toInt = 21 := (by have q8 := congrArg Int32.toInt e9; rw [show ix_tv.toNatClampNeg = tn.toNatClampNeg from tn_same hx_tv rfl rfl] at q8; omega); rw [show z33.toNatClampNeg = tn.toNatClampNeg from by omega] at h7; omega⟩)⟩), by (try dsimp only); rw [ht]; exact ⟨hT, hF, m35, m38, m29⟩⟩, hS.F ht⟩) hS.2.2 dX4_readAll_47
    | succ n105 ih105 =>
      intro i24 hn105 hlo106 z25 V28 z33 z36 ⟨h26, h34, h37, hj39, hj40, hj41, hj42, hj43⟩ H locs hT hF hS m27 m29 m30 m31 m32 m35 m38 ls hl
      have hlt108 : i24 < 400 := by omega
      refine lv_iload_n hx hb dX4_readAll_8 rfl (lv_at hl 0 rfl) ?_
      refine lv_sipush (v := 400) hx hb dX4_readAll_9 (by decide) ?_
      refine lv_icmp_ge (tgt := 46) hx hb dX4_readAll_12 (by decide) (fun c109 => (by exfalso; have q9 : 400 ≤ ((i24 : Nat) : Int) := ti_le c109 (by decide) (nI_toInt (by omega)); omega)) (fun c109 => ?_)
      have t110 : ((i24 : Nat) : Int) < 400 := ti_nle c109 (by decide) (nI_toInt (by omega))
      refine lv_iload_n hx hb dX4_readAll_15 rfl (lv_at hl 1 rfl) ?_
      refine lv_if_eq (tgt := 46) hx hb dX4_readAll_16 (by decide) (fun c111 => ?_) (fun c111 => ?_)
      · have t112 : z25.toInt = 0 := ti_eq c111 rfl (by decide)
        refine lv_iload_n hx hb dX4_readAll_46 rfl (lv_at hl 1 rfl) ?_
        exact W.zret (v := z25) hx hb hr (nar_b (by have q8 := ti_all z25; omega)) (fun t ht hW => ⟨⟨z25, (z33, z36, V28), rfl, (by exact ⟨(by have q8 := ti_all z33; omega), (by have q8 := ti_all z36; omega), (by have q8 := ti_all z25; omega), (by omega), (by omega), (by rcases hj40.1 with ⟨h8, l9⟩ | ⟨h8, l9⟩; (rw [h8]; exact lp_e l9 (fun h7 => by have := tn_of (show z33.toInt = z33.toInt from rfl) (by omega); have := tn_of (show tn.toInt = tn.toInt from rfl) (by omega); have k9 := hKK tn.toNatClampNeg (Nat.le_refl _); have e9 := hc_vT.at hm_tv (by have q9 := tn_of hx_tv (by omega); omega); have k8 : (vT tn.toNatClampNeg).toInt = 21 := (by have q8 := congrArg Int32.toInt e9; rw [show ix_tv.toNatClampNeg = tn.toNatClampNeg from tn_same hx_tv rfl rfl] at q8; omega); rw [show z33.toNatClampNeg = tn.toNatClampNeg from by omega] at h7; omega)); rw [h8]; exact l9), hj42, (fun h8 => ⟨hj41 h8, fun h7 => by have := tn_of (show z33.toInt = z33.toInt from rfl) (by omega); have := tn_of (show tn.toInt = tn.toInt from rfl) (by omega); have k9 := hKK tn.toNatClampNeg (Nat.le_refl _); have e9 := hc_vT.at hm_tv (by have q9 := tn_of hx_tv (by omega); omega); have k8 : (vT tn.toNatClampNeg).toInt = 21 := (by have q8 := congrArg Int32.toInt e9; rw [show ix_tv.toNatClampNeg = tn.toNatClampNeg from tn_same hx_tv rfl rfl] at q8; omega); rw [show z33.toNatClampNeg = tn.toNatClampNeg from by omega] at h7; omega⟩)⟩), by (try dsimp only); rw [ht]; exact ⟨hT, hF, m35, m38, m29⟩⟩, hS.F ht⟩) hS.2.2 dX4_readAll_47
      · have t113 : z25.toInt ≠ 0 := ti_ne c111 rfl (by decide)
        refine lv_aload_n hx hb dX4_readAll_19 rfl (lv_at hl 2 rfl) ?_
        refine lv_bipush (v := 14) hx hb dX4_readAll_20 (by decide) ?_
        have hFc := gA_free hG hA hS
        refine va_calli (va_runV (As := [.int 14]) (rest := []) ⟨hx, hb, hml, hown, hts⟩ (c_take l dC dI kA adK adV G H nC nS o0 14 th z33 vT tv ix_tv ix_tv K X pS hT hr_o0 m30 hr_th m35 (by have q8 := ti_all ix_tv; omega) (by have q8 := ti_all z33; omega) (by have := (show z33.toInt = z33.toInt from rfl); have := (show ix_tv.toInt = ix_tv.toInt from rfl); omega) (by have := (show (14 : Int32).toInt = 14 from (by decide)); omega) (fun m hm => hKK m (Nat.le_trans hm (Nat.le_of_eq (tn_same hx_tv rfl rfl)))) (fun m hm => hXX m (Nat.lt_of_lt_of_eq hm (tn_same hx_tv rfl rfl))) m27 (by have q9 := (show ix_tv.toInt = ix_tv.toInt from rfl); have := (show ix_tv.toInt = ix_tv.toInt from rfl); omega) m32 (by have q8 := ti_all tv; omega) (by omega) (by omega)) (cwV 1 hts (goodIn_app (goodIn_r _ [20, 21, 22, 15] rfl (by decide +kernel)) (goodIn_ca (goodIn_r _ [19, 2, 3] rfl (by decide +kernel)) (bs2_in _ _))) rfl rfl rfl (by decide +kernel) ⟨(Nat.le_of_ble_eq_true rfl), (Nat.le_of_ble_eq_true rfl)⟩) ⟨fun a U g mk q => by obtain ⟨q0, q1, qK, qE⟩ := q; exact ⟨q0, q1, va_K.moved (u := U) (U := U.calling g mk a) (Vm.Alike.refl U.vm) qK, EVC.blind g mk a qE⟩, gH_rc hK hT hr_o0 shc_152 rfl, fun U hU hW => ⟨rfl, hU, va_K.moved hW.alike hK, hE.call hS hFc hU hW⟩⟩ rfl rfl hl.1 rfl (lv_room (Nat.le_of_ble_eq_true rfl)) dX4_readAll_22 ⟨(Nat.le_of_ble_eq_true rfl), (Nat.le_of_ble_eq_true rfl)⟩) hS (fun q _ h => hFc q h) hFc (fun r114 u t H locs ht hvm hw115 hB _ _ hS => ?_)
        obtain ⟨u116, rfl⟩ : ∃ z, z = u := ⟨_, rfl⟩
        obtain ⟨hT, hF1, m117⟩ := hB
        rw [ht] at hT hF1 m117
        have m118 := m27.kept (hF1.arr hr_th skc_153 (by decide))
        have m119 := m29.kept (hF1.arr hr_sp9 skc_162 (by decide))
        have m120 := (hF1.fld hr_o0 skc_152 (k := 0) (by decide) (by decide)).trans m30
        have m121 := (hF1.fld hr_o0 skc_152 (k := 9) (by decide) (by decide)).trans m31
        have m122 := (el_kept (hF1.arr hr_th skc_153 (by decide))).trans m32
        have m124 := (hF1.fld hr_o0 skc_152 (k := 12) (by decide) (by decide)).trans m38
        have hF := hF.more hF1 (by decide)
        try dsimp only at hw115
        obtain ⟨h125, h126, hf127, hf128, hf129⟩ := hw115
        refine lv_if_eq (tgt := 46) hx hb dX4_readAll_25 (by decide) (fun c130 => ?_) (fun c130 => ?_)
        · have t131 : r114.toInt = 0 := ti_eq c130 rfl (by decide)
          refine lv_iload_n hx hb dX4_readAll_46 rfl (lv_at hl 1 rfl) ?_
          exact W.zret (v := z25) hx hb hr (nar_b (by have q8 := ti_all z25; omega)) (fun t ht hW => ⟨⟨z25, (u116, z36, V28), rfl, (by exact ⟨(by have q8 := ti_all u116; omega), (by have q8 := ti_all z36; omega), (by have q8 := ti_all z25; omega), (by omega), (by omega), (by have l9 := (hj40.1.resolve_right (fun h8 => by have := h8.1; omega)).2; have a9 := hf128.resolve_left (fun h8 => by have := h8.2.1; omega); rw [show z25.toInt = 1 from by omega, a9.2.2]; exact lp_e l9 (fun h7 => a9.1 (h7.trans (by decide)))), hj42, (fun h8 => ⟨by (try dsimp only); have a9 := hf128.resolve_left (fun h8 => by have := h8.2.1; omega); rw [a9.2.2]; exact hj41 h8, by (try dsimp only); have a9 := hf128.resolve_left (fun h8 => by have := h8.2.1; omega); rw [a9.2.2]; exact fun h7 => a9.1 (h7.trans (by decide))⟩)⟩), by (try dsimp only); rw [ht]; exact ⟨hT, hF, m117, m124, m119⟩⟩, hS.F ht⟩) hS.2.2 dX4_readAll_47
        · have t132 : r114.toInt ≠ 0 := ti_ne c130 rfl (by decide)
          refine lv_aload_n hx hb dX4_readAll_28 rfl (lv_at hl 2 rfl) ?_
          refine lv_iload_n hx hb dX4_readAll_29 rfl (lv_at hl 3 rfl) ?_
          have hFc := gA_free hG hA hS
          refine va_calli (va_runV (As := [.int 0]) (rest := []) ⟨hx, hb, hml, hown, hts⟩ (c_readAtom0 l dC dI kA adK adV G H nC nS o0 th u116 z36 sp9 vT V28 tv ix_tv ix_tv K X pS hT hr_o0 m120 hr_th m117 m124 m121 hr_sp9 (by have q8 := ti_all ix_tv; omega) (by have q8 := ti_all u116; omega) (by have := (show u116.toInt = u116.toInt from rfl); have := (show ix_tv.toInt = ix_tv.toInt from rfl); omega) (fun m hm => hKK m (Nat.le_trans hm (Nat.le_of_eq (tn_same hx_tv rfl rfl)))) (fun m hm => hXX m (Nat.lt_of_lt_of_eq hm (tn_same hx_tv rfl rfl))) (by have q8 := ti_all z36; omega) (by have := (show z36.toInt = z36.toInt from rfl); have := (show u116.toInt = u116.toInt from rfl); omega) m118 m119 (by have q9 := (show ix_tv.toInt = ix_tv.toInt from rfl); have := (show ix_tv.toInt = ix_tv.toInt from rfl); omega) m122 (by have q8 := ti_all tv; omega) (by omega) (by omega)) (cwV 1 hts (goodIn_app (goodIn_r _ [29, 30, 31, 15] rfl (by decide +kernel)) (goodIn_ca (goodIn_r _ [1, 2, 3, 4, 5, 1, 6, 7, 8, 9, 10, 11, 12, 13, 14, 15, 16, 17, 18, 19, 20, 21, 22, 23, 24, 25, 26, 27, 28, 29, 30, 31, 32, 33, 34, 35, 36, 37] rfl (by decide +kernel)) (bs2_in _ _))) rfl rfl rfl (by decide +kernel) ⟨(Nat.le_of_ble_eq_true rfl), (Nat.le_of_ble_eq_true rfl)⟩) ⟨fun a U g mk q => by obtain ⟨q0, q1, qK, qE⟩ := q; exact ⟨q0, q1, va_K.moved (u := U) (U := U.calling g mk a) (Vm.Alike.refl U.vm) qK, EVC.blind g mk a qE⟩, gH_rc hK hT hr_o0 shc_152 rfl, fun U hU hW => ⟨rfl, hU, va_K.moved hW.alike hK, hE.call hS hFc hU hW⟩⟩ rfl rfl hl.1 rfl (lv_room (Nat.le_of_ble_eq_true rfl)) dX4_readAll_30 ⟨(Nat.le_of_ble_eq_true rfl), (Nat.le_of_ble_eq_true rfl)⟩) hS (fun q _ h => hFc q h) hFc (fun r133 u t H locs ht hvm hw134 hB _ _ hS => ?_)
          obtain ⟨u135, u136, u137⟩ := u
          obtain ⟨hT, hF1, m138, m139, m140⟩ := hB
          rw [ht] at hT hF1 m138 m139 m140
          have m141 := m118.kept (hF1.arr hr_th skc_153 (by decide))
          have m143 := (hF1.fld hr_o0 skc_152 (k := 0) (by decide) (by decide)).trans m120
          have m144 := (hF1.fld hr_o0 skc_152 (k := 9) (by decide) (by decide)).trans m121
          have m145 := (el_kept (hF1.arr hr_th skc_153 (by decide))).trans m122
          have hF := hF.more hF1 (by decide)
          try dsimp only at hw134
          obtain ⟨h148, h149, h150, hf151, hf152, hf153, hf154, hf155⟩ := hw134
          refine lv_istore_n (lv' := [(2, .int r133), (3, .int (nI i24)), (0, .ref o0), (1, .int 0)]) hx hb dX4_readAll_33 rfl hl (by decide) rfl (fun ls hl => ?_)
          refine lv_aload_n hx hb dX4_readAll_34 rfl (lv_at hl 2 rfl) ?_
          refine lv_bipush (v := 14) hx hb dX4_readAll_35 (by decide) ?_
          have hFc := gA_free hG hA hS
          refine va_callv (va_runV (As := [.int 14]) (rest := []) ⟨hx, hb, hml, hown, hts⟩ (c_addStep l dC dI kA adK adV G H nC nS o0 14 u136 sp9 u137 hT hr_o0 m139 m144 hr_sp9 (rg_t (a := 14) (by decide) (by first | decide | omega) (by first | decide | omega)) (by have q8 := ti_all u136; omega) m140 (by omega) (by omega)) (cwV 1 hts (goodIn_app (goodIn_r _ [12, 13, 14, 15] rfl (by decide +kernel)) (goodIn_ca (goodIn_r _ [9, 10, 11] rfl (by decide +kernel)) (bs2_in _ _))) rfl rfl rfl (by decide +kernel) ⟨(Nat.le_of_ble_eq_true rfl), (Nat.le_of_ble_eq_true rfl)⟩) ⟨fun a U g mk q => by obtain ⟨q0, q1, qK, qE⟩ := q; exact ⟨q0, q1, va_K.moved (u := U) (U := U.calling g mk a) (Vm.Alike.refl U.vm) qK, EVC.blind g mk a qE⟩, gH_rc hK hT hr_o0 shc_152 rfl, fun U hU hW => ⟨rfl, hU, va_K.moved hW.alike hK, hE.call hS hFc hU hW⟩⟩ rfl rfl hl.1 rfl (lv_room (Nat.le_of_ble_eq_true rfl)) dX4_readAll_37 ⟨(Nat.le_of_ble_eq_true rfl), (Nat.le_of_ble_eq_true rfl)⟩) hS (fun q _ h => hFc q h) hFc (fun u t H locs ht hvm hw157 hB _ _ hS => ?_)
          obtain ⟨u158, rfl⟩ : ∃ z, z = u := ⟨_, rfl⟩
          obtain ⟨hT, hF1, m159, m160⟩ := hB
          rw [ht] at hT hF1 m159 m160
          have m161 := m141.kept (hF1.arr hr_th skc_153 (by decide))
          have m162 := (hF1.fld hr_o0 skc_152 (k := 0) (by decide) (by decide)).trans m143
          have m163 := (hF1.fld hr_o0 skc_152 (k := 9) (by decide) (by decide)).trans m144
          have m164 := (el_kept (hF1.arr hr_th skc_153 (by decide))).trans m145
          have m165 := (hF1.fld hr_o0 skc_152 (k := 13) (by decide) (by decide)).trans m138
          have hF := hF.more hF1 (by decide)
          try dsimp only at hw157
          obtain ⟨h168, hf169⟩ := hw157
          refine lv_iinc (v := nI (i24 + 1)) (lv' := [(3, .int (nI (i24 + 1))), (2, .int r133), (0, .ref o0), (1, .int 0)]) hx hb dX4_readAll_40 hl (k := 1) rfl (nI_add i24 1) (by decide) rfl (fun ls hl => ?_)
          refine lv_goto (tgt := 8) hx hb dX4_readAll_43 (by decide) ?_
          exact ih105 (i24 + 1) (by omega) (by omega) r133 (cu u137 u136.toNatClampNeg 14) u135 u158 ⟨(by have q8 := ti_all r133; omega), (by have q8 := ti_all u135; omega), (by have q8 := ti_all u158; omega), (by have := hx_tv; have := (show u135.toInt = u135.toInt from rfl); omega), ⟨(by have l9 := (hj40.1.resolve_right (fun h8 => by have := h8.1; omega)).2; have a9 := hf128.resolve_right (fun h8 => by have := h8.2.1; omega); have h9 := hf153; rw [a9.2.2] at h9; rcases (show r133.toInt = 1 ∨ r133.toInt = 0 by omega) with h8 | h8 <;> rw [h8] at h9; (exact Or.inl ⟨h8, lp_s l9 (a9.1.trans (by decide)) h9⟩); exact Or.inr ⟨h8, lp_f l9 (a9.1.trans (by decide)) h9⟩), by omega⟩, (fun h8 => by have := tn_of (show s0.toInt = s0.toInt from rfl) (by omega); have := tn_of (show z36.toInt = z36.toInt from rfl) (by omega); have := tn_of (show u136.toInt = u136.toInt from rfl) (by omega); have := tn_of (show u158.toInt = u158.toInt from rfl) (by omega); have l9 := hj41 (by omega); have a9 := hf128.resolve_right (fun h8 => by have := h8.2.1; omega); have h9 := hf155 h8; rw [a9.2.2] at h9; rw [zC_3 (sx := z36.toNatClampNeg) (s2 := u136.toNatClampNeg) (c := 14) (by omega) (by omega) hf154 (by omega) rfl (by decide)]; exact zlI_s l9 (a9.1.trans (by decide)) h9), ((hj42.tr hf154 (by have := tn_of (show s0.toInt = s0.toInt from rfl) (by omega); have := tn_of (show z36.toInt = z36.toInt from rfl) (by omega); omega)).st (by have := tn_of (show s0.toInt = s0.toInt from rfl) (by omega); have := tn_of (show u136.toInt = u136.toInt from rfl) (by omega); omega)), (by have := (show u158.toInt = u158.toInt from rfl); have := (show u135.toInt = u135.toInt from rfl); omega)⟩ _ _ hT hF hS m161 m160 m162 m163 m164 m165 m159 ls (lv_sub hl [0, 1, 2, 3] rfl)
  exact key105 (400 - 0) 0 (by omega) (Nat.le_refl _) r1 u5 u3 u4 ⟨(by have q8 := ti_all r1; omega), (by have q8 := ti_all u3; omega), (by have q8 := ti_all u4; omega), (by have := hx_tv; have := (show u3.toInt = u3.toInt from rfl); omega), ⟨(by have h9 := hf21; rcases (show r1.toInt = 1 ∨ r1.toInt = 0 by omega) with h8 | h8 <;> rw [h8] at h9; (exact Or.inl ⟨h8, lp_1 h9⟩); exact Or.inr ⟨h8, lp_0 h9⟩), by omega⟩, (fun h8 => zlI_0 (hf23 h8)), (zKp.rf.tr hf22 (by have := tn_of (show s0.toInt = s0.toInt from rfl) (by omega); omega)), (by have := (show u4.toInt = u4.toInt from rfl); have := (show u3.toInt = u3.toInt from rfl); omega)⟩ _ _ hT hF hS m13 m8 m9 m12 m15 m6 m7 ls (lv_sub hl [0, 1, 2, 3] rfl)
def w_c_readAny0 : List Cond := .code yX4_readAny cX4_readAny 4 (some .boolean) :: (HAppend.hAppend (α := List Cond) (β := List Cond) (γ := List Cond) [.code yX4_readAll cX4_readAll 4 (some .boolean), .code yX4_readAtom cX4_readAtom 4 (some .boolean), .fieldLink RX4 11 "SeaLand$Law" "things" "[I", .fieldLink RX4 56 "SeaLand$Law" "at" "I", .code yX4_readAny cX4_readAny 4 (some .boolean), .code yX4_readComparison cX4_readComparison 3 (some .boolean), .code yX4_readSum cX4_readSum 3 (some .boolean), .code yX4_readPart cX4_readPart 2 (some .boolean), .code yX4_addStep cX4_addStep 2 none, .fieldLink RX4 63 "SeaLand$Law" "stepped" "I", .fieldLink RX4 39 "SeaLand$Law" "steps" "[I", .methodLink RX4 179 yX4_addStep, .instanceMethod yX4_addStep, .selects RX4 yX4_addStep yX4_addStep, .initialized RX4, .methodLink RX4 192 yX4_readPart, .instanceMethod yX4_readPart, .selects RX4 yX4_readPart yX4_readPart, .code yX4_take cX4_take 2 (some .boolean), .methodLink RX4 70 yX4_take, .instanceMethod yX4_take, .selects RX4 yX4_take yX4_take, .methodLink RX4 189 yX4_readSum, .instanceMethod yX4_readSum, .selects RX4 yX4_readSum yX4_readSum, .methodLink RX4 186 yX4_readComparison, .instanceMethod yX4_readComparison, .selects RX4 yX4_readComparison yX4_readComparison, .methodLink RX4 183 yX4_readAtom, .instanceMethod yX4_readAtom, .selects RX4 yX4_readAtom yX4_readAtom, .methodLink RX4 176 yX4_readAll, .instanceMethod yX4_readAll, .selects RX4 yX4_readAll yX4_readAll, .methodLink RX4 173 yX4_readAny, .instanceMethod yX4_readAny, .selects RX4 yX4_readAny yX4_readAny] bs2)
set_option maxHeartbeats 4000000 in
set_option maxRecDepth 100000 in
theorem c_readAny0 (l : Launch) (dC : Nat → ClassId) (dI : Nat → Nat → Nat) (kA : Nat → ClassId) (adK adV : Nat → Nat) (G : gT) (H0 : Heap) (nC nS : Int) (o0 : Nat) (th : Nat) (a0 : Int32) (s0 : Int32) (sp9 : Nat) (vT : Nat → Int32) (vS : Nat → Int32) (tv ix_tv : Int32) (tn : Int32) (K : Nat → Int) (X pS : Nat → Nat) (hT : gH (dC, dI) kA (SHc nC nS) G H0) (hr_o0 : G o0 = some 152) (hm_th : el H0 o0 (dI 7 0) = some (.ref th)) (hr_th : G th = some 153) (hm_a0 : el H0 o0 (dI 7 13) = some (.int a0)) (hm_s0 : el H0 o0 (dI 7 12) = some (.int s0)) (hm_sp9 : el H0 o0 (dI 7 9) = some (.ref sp9)) (hr_sp9 : G sp9 = some 162) (hq0 : 0 ≤ tn.toInt ∧ tn.toInt ≤ 400) (hq1 : 0 ≤ a0.toInt ∧ a0.toInt ≤ 400) (hat : a0.toInt ≤ tn.toInt) (hKK : ∀ m : Nat, m ≤ tn.toNatClampNeg → (vT m).toInt = K (pS m)) (hXX : ∀ m : Nat, m < tn.toNatClampNeg → pS (m + 1) = X (pS m)) (hq5 : 0 ≤ s0.toInt ∧ s0.toInt ≤ 400) (hsa : s0.toInt ≤ a0.toInt) (hc_vT : ct H0 th 401 vT) (hc_vS : ct H0 sp9 400 vS) (hx_tv : ix_tv.toInt = tn.toInt) (hm_tv : el H0 th ix_tv.toNatClampNeg = some (.int tv)) (hv_tv : 21 ≤ tv.toInt ∧ tv.toInt ≤ 21) (hgC : 0 ≤ nC ∧ nC ≤ 40) (hgS : 0 ≤ nS ∧ nS ≤ 60) : Met l yX4_readAny w_c_readAny0 ({ frames := 24, cells := 0, slots := 0, locals := 546 }) (va_Pc [.ref o0, .int 0] (fun U => U.heap = H0 ∧ va_K (dC, dI) vwCl (tyl kA) U ∧ EVC adK adV (gA G H0.size) U U.heap)) (va_Qi (fun (r : Int32) (u : Int32 × Int32 × (Nat → Int32)) => match u with | (a1, s1, vS1) => (0 ≤ a1.toInt ∧ a1.toInt ≤ 400) ∧ (0 ≤ s1.toInt ∧ s1.toInt ≤ 400) ∧ (0 ≤ r.toInt ∧ r.toInt ≤ 1) ∧ (a0.toInt ≤ a1.toInt ∧ a1.toInt ≤ tn.toInt) ∧ (s0.toInt ≤ s1.toInt ∧ s1.toInt - s0.toInt ≤ a1.toInt - a0.toInt) ∧ (coR K X (aR K X 6) (pS a0.toNatClampNeg) r.toInt (pS a1.toNatClampNeg)) ∧ (zKp vS vS1 s0.toNatClampNeg) ∧ (r.toInt = 1 → zlZ K X (zlZ K X (zaZ K X 6) 14) 15 (pS a0.toNatClampNeg) (zC (tz vS1) s0.toNatClampNeg s1.toNatClampNeg) (pS a1.toNatClampNeg))) (fun (u : Int32 × Int32 × (Nat → Int32)) (t : State) => match u with | (a1, s1, vS1) => gH (dC, dI) kA (SHc nC nS) G t.heap ∧ gF (dC, dI) SKc G ([(152, 12), (152, 13), (162, 0)] : List (Nat × Nat)) H0 t.heap ∧ el t.heap o0 (dI 7 13) = some (.int a1) ∧ el t.heap o0 (dI 7 12) = some (.int s1) ∧ ct t.heap sp9 400 vS1) (gA G H0.size)) 0 0 (gA G H0.size) := by
  refine Met.ofW (cc := cX4_readAny) (maxL := 4) (ret := (some .boolean)) (by decide) rfl ?_
  intro p e s m args below meth c s₁ B hml hv
  obtain ⟨rfl, hH0, hK, hE⟩ := hv
  have hx := B.exec
  have hb := B.bytes
  have hr := B.returns
  have hts := atoms_spec (ws := w_c_readAny0) B.pre
  have hown : s.vm.findClass RX4 = some m.cls := findClass_of_methodNamed B.named
  have hlocks := B.notSynchronized
  subst hH0
  generalize hAe : gA G s.heap.size = A at hE ⊢
  have hA : ∀ q : Nat, s.heap.size ≤ q → A q := fun q h => by rw [← hAe]; exact Or.inr h
  have hG := gA_of hAe
  have hS : va_S A s.heap s.heap [] := va_S.rf
  have hF : gF (dC, dI) SKc G ([(152, 12), (152, 13), (162, 0)] : List (Nat × Nat)) s.heap s.heap := gF.rf
  have hl := lv_entry ([.ref o0, .int 0]) (n := 4) (Nat.le_of_ble_eq_true rfl)
  rw [lg_entry_eq]
  generalize (lg_sl ([.ref o0, .int 0]) ++ List.replicate (4 - (lg_sl ([.ref o0, .int 0])).length) Slot.unset).toArray = ls at hl ⊢
  have hl : lv_has ls 4 [(0, .ref o0), (1, .int 0)] := hl
  refine lv_aload_n hx hb dX4_readAny_0 rfl (lv_at hl 0 rfl) ?_
  refine lv_iload_n hx hb dX4_readAny_1 rfl (lv_at hl 1 rfl) ?_
  have hFc := gA_free hG hA hS
  refine va_calli (va_runV (As := [.int 0]) (rest := []) ⟨hx, hb, hml, hown, hts⟩ (c_readAll0 l dC dI kA adK adV G s.heap nC nS o0 th a0 s0 sp9 vT vS tv ix_tv ix_tv K X pS hT hr_o0 hm_th hr_th hm_a0 hm_s0 hm_sp9 hr_sp9 (by have q8 := ti_all ix_tv; omega) (by have q8 := ti_all a0; omega) (by have := (show a0.toInt = a0.toInt from rfl); have := (show ix_tv.toInt = ix_tv.toInt from rfl); omega) (fun m hm => hKK m (Nat.le_trans hm (Nat.le_of_eq (tn_same hx_tv rfl rfl)))) (fun m hm => hXX m (Nat.lt_of_lt_of_eq hm (tn_same hx_tv rfl rfl))) (by have q8 := ti_all s0; omega) (by have := (show s0.toInt = s0.toInt from rfl); have := (show a0.toInt = a0.toInt from rfl); omega) hc_vT hc_vS (by have q9 := (show ix_tv.toInt = ix_tv.toInt from rfl); have := (show ix_tv.toInt = ix_tv.toInt from rfl); omega) hm_tv (by have q8 := ti_all tv; omega) (by omega) (by omega)) (cwV 1 hts (goodIn_app (goodIn_r _ [32, 33, 34, 15] rfl (by decide +kernel)) (goodIn_ca (goodIn_r _ [1, 2, 3, 4, 5, 1, 6, 7, 8, 9, 10, 11, 12, 13, 14, 15, 16, 17, 18, 19, 20, 21, 22, 23, 24, 25, 26, 27, 28, 29, 30, 31, 32, 33, 34, 35, 36, 37] rfl (by decide +kernel)) (bs2_in _ _))) rfl rfl rfl (by decide +kernel) ⟨(Nat.le_of_ble_eq_true rfl), (Nat.le_of_ble_eq_true rfl)⟩) ⟨fun a U g mk q => by obtain ⟨q0, q1, qK, qE⟩ := q; exact ⟨q0, q1, va_K.moved (u := U) (U := U.calling g mk a) (Vm.Alike.refl U.vm) qK, EVC.blind g mk a qE⟩, gH_rc hK hT hr_o0 shc_152 rfl, fun U hU hW => ⟨rfl, hU, va_K.moved hW.alike hK, hE.call hS hFc hU hW⟩⟩ rfl rfl hl.1 rfl (lv_room (Nat.le_of_ble_eq_true rfl)) dX4_readAny_2 ⟨(Nat.le_of_ble_eq_true rfl), (Nat.le_of_ble_eq_true rfl)⟩) hS (fun q _ h => hFc q h) hFc (fun r1 u t H locs ht hvm hw2 hB _ _ hS => ?_)
  obtain ⟨u3, u4, u5⟩ := u
  obtain ⟨hT, hF1, m6, m7, m8⟩ := hB
  rw [ht] at hT hF1 m6 m7 m8
  have m9 := (hF1.fld hr_o0 skc_152 (k := 0) (by decide) (by decide)).trans hm_th
  have m12 := (hF1.fld hr_o0 skc_152 (k := 9) (by decide) (by decide)).trans hm_sp9
  have m13 := hc_vT.kept (hF1.arr hr_th skc_153 (by decide))
  have m15 := (el_kept (hF1.arr hr_th skc_153 (by decide))).trans hm_tv
  have hF := hF.more hF1 (by decide)
  try dsimp only at hw2
  obtain ⟨h16, h17, h18, hf19, hf20, hf21, hf22, hf23⟩ := hw2
  refine lv_istore_n (lv' := [(2, .int r1), (0, .ref o0), (1, .int 0)]) hx hb dX4_readAny_5 rfl hl (by decide) rfl (fun ls hl => ?_)
  refine lv_iconst (v := 0) hx hb dX4_readAny_6 (by decide) ?_
  refine lv_istore_n (lv' := [(3, .int 0), (2, .int r1), (0, .ref o0), (1, .int 0)]) hx hb dX4_readAny_7 rfl hl (by decide) rfl (fun ls hl => ?_)
  have key105 : ∀ (n105 i24 : Nat), i24 + n105 = 400 → 0 ≤ i24 → ∀ (z25 : Int32), ∀ (V28 : Nat → Int32), ∀ (z33 : Int32), ∀ (z36 : Int32), ((0 ≤ z25.toInt ∧ z25.toInt ≤ 1) ∧ (0 ≤ z33.toInt ∧ z33.toInt ≤ 400) ∧ (0 ≤ z36.toInt ∧ z36.toInt ≤ 400) ∧ (a0.toInt ≤ z33.toInt ∧ z33.toInt ≤ tn.toInt) ∧ (((z25.toInt = 1 ∧ ∀ (r : Int) (f : Nat), lpQ K X (lpR K X (aR K X 6) 14) 15 (pS z33.toNatClampNeg) r f → coR K X (aR K X 6) (pS a0.toNatClampNeg) r f) ∨ (z25.toInt = 0 ∧ coR K X (aR K X 6) (pS a0.toNatClampNeg) 0 (pS z33.toNatClampNeg))) ∧ ((i24 : Nat) : Int) ≤ z33.toInt) ∧ (z25.toInt = 1 → zlI K X (zlZ K X (zaZ K X 6) 14) 15 (pS a0.toNatClampNeg) (zC (tz V28) s0.toNatClampNeg z36.toNatClampNeg) (pS z33.toNatClampNeg)) ∧ (zKp vS V28 s0.toNatClampNeg) ∧ (s0.toInt ≤ z36.toInt ∧ z36.toInt - s0.toInt ≤ z33.toInt - a0.toInt)) → ∀ (H : Heap) (locs : List Loc), gH (dC, dI) kA (SHc nC nS) G H → gF (dC, dI) SKc G ([(152, 12), (152, 13), (162, 0)] : List (Nat × Nat)) s.heap H → va_S A s.heap H locs → ct H th 401 vT → ct H sp9 400 V28 → el H o0 (dI 7 0) = some (.ref th) → el H o0 (dI 7 9) = some (.ref sp9) → el H th ix_tv.toNatClampNeg = some (.int tv) → el H o0 (dI 7 13) = some (.int z33) → el H o0 (dI 7 12) = some (.int z36) → ∀ ls : Array Slot, lv_has ls 4 [(3, .int (nI i24)), (2, .int z25), (0, .ref o0), (1, .int 0)] → W p l e (headSpec w_c_readAny0 ({ frames := 24, cells := 0, slots := 0, locals := 546 })).room s m #[.ref o0, .int 0] below meth c H locs 0 0 (MQ below (va_Qi (fun (r : Int32) (u : Int32 × Int32 × (Nat → Int32)) => match u with | (a1, s1, vS1) => (0 ≤ a1.toInt ∧ a1.toInt ≤ 400) ∧ (0 ≤ s1.toInt ∧ s1.toInt ≤ 400) ∧ (0 ≤ r.toInt ∧ r.toInt ≤ 1) ∧ (a0.toInt ≤ a1.toInt ∧ a1.toInt ≤ tn.toInt) ∧ (s0.toInt ≤ s1.toInt ∧ s1.toInt - s0.toInt ≤ a1.toInt - a0.toInt) ∧ (coR K X (aR K X 6) (pS a0.toNatClampNeg) r.toInt (pS a1.toNatClampNeg)) ∧ (zKp vS vS1 s0.toNatClampNeg) ∧ (r.toInt = 1 → zlZ K X (zlZ K X (zaZ K X 6) 14) 15 (pS a0.toNatClampNeg) (zC (tz vS1) s0.toNatClampNeg s1.toNatClampNeg) (pS a1.toNatClampNeg))) (fun (u : Int32 × Int32 × (Nat → Int32)) (t : State) => match u with | (a1, s1, vS1) => gH (dC, dI) kA (SHc nC nS) G t.heap ∧ gF (dC, dI) SKc G ([(152, 12), (152, 13), (162, 0)] : List (Nat × Nat)) s.heap t.heap ∧ el t.heap o0 (dI 7 13) = some (.int a1) ∧ el t.heap o0 (dI 7 12) = some (.int s1) ∧ ct t.heap sp9 400 vS1) A) #[.ref o0, .int 0] s 0 0 A) (F0 m 8 ls []) := by
    intro n105
    induction n105 with
    | zero =>
      intro i24 hn105 hlo106 z25 V28 z33 z36 ⟨h26, h34, h37, hj39, hj40, hj41, hj42, hj43⟩ H locs hT hF hS m27 m29 m30 m31 m32 m35 m38 ls hl
      obtain rfl : 400 = i24 := by omega
      refine lv_iload_n hx hb dX4_readAny_8 rfl (lv_at hl 0 rfl) ?_
      refine lv_sipush (v := 400) hx hb dX4_readAny_9 (by decide) ?_
      refine lv_icmp_ge (tgt := 46) hx hb dX4_readAny_12 (by decide) (fun c107 => ?_) (fun c107 => (by exfalso; have q9 : ((400 : Nat) : Int) < 400 := ti_nle c107 (by decide) (nI_toInt (by omega)); omega))
      have t108 : 400 ≤ ((400 : Nat) : Int) := ti_le c107 (by decide) (nI_toInt (by omega))
      refine lv_iload_n hx hb dX4_readAny_46 rfl (lv_at hl 1 rfl) ?_
      exact W.zret (v := z25) hx hb hr (nar_b (by have q8 := ti_all z25; omega)) (fun t ht hW => ⟨⟨z25, (z33, z36, V28), rfl, (by exact ⟨(by have q8 := ti_all z33; omega), (by have q8 := ti_all z36; omega), (by have q8 := ti_all z25; omega), (by omega), (by omega), (by rcases hj40.1 with ⟨h8, l9⟩ | ⟨h8, l9⟩; (rw [h8]; exact lp_e l9 (fun h7 => by have := tn_of (show z33.toInt = z33.toInt from rfl) (by omega); have := tn_of (show tn.toInt = tn.toInt from rfl) (by omega); have k9 := hKK tn.toNatClampNeg (Nat.le_refl _); have e9 := hc_vT.at hm_tv (by have q9 := tn_of hx_tv (by omega); omega); have k8 : (vT tn.toNatClampNeg).toInt = 21 := (by have q8 := congrArg Int32.toInt e9; rw [show ix_tv.toNatClampNeg = tn.toNatClampNeg from tn_same hx_tv rfl rfl] at q8; omega); rw [show z33.toNatClampNeg = tn.toNatClampNeg from by omega] at h7; omega)); rw [h8]; exact l9), hj42, (fun h8 => ⟨hj41 h8, fun h7 => by have := tn_of (show z33.toInt = z33.toInt from rfl) (by omega); have := tn_of (show tn.toInt = tn.toInt from rfl) (by omega); have k9 := hKK tn.toNatClampNeg (Nat.le_refl _); have e9 := hc_vT.at hm_tv (by have q9 := tn_of hx_tv (by omega); omega); have k8 : (vT tn.toNatClampNeg).toInt = 21 := (by have q8 := congrArg Int32.toInt e9; rw [show ix_tv.toNatClampNeg = tn.toNatClampNeg from tn_same hx_tv rfl rfl] at q8; omega); rw [show z33.toNatClampNeg = tn.toNatClampNeg from by omega] at h7; omega⟩)⟩), by (try dsimp only); rw [ht]; exact ⟨hT, hF, m35, m38, m29⟩⟩, hS.F ht⟩) hS.2.2 dX4_readAny_47
    | succ n105 ih105 =>
      intro i24 hn105 hlo106 z25 V28 z33 z36 ⟨h26, h34, h37, hj39, hj40, hj41, hj42, hj43⟩ H locs hT hF hS m27 m29 m30 m31 m32 m35 m38 ls hl
      have hlt108 : i24 < 400 := by omega
      refine lv_iload_n hx hb dX4_readAny_8 rfl (lv_at hl 0 rfl) ?_
      refine lv_sipush (v := 400) hx hb dX4_readAny_9 (by decide) ?_
      refine lv_icmp_ge (tgt := 46) hx hb dX4_readAny_12 (by decide) (fun c109 => (by exfalso; have q9 : 400 ≤ ((i24 : Nat) : Int) := ti_le c109 (by decide) (nI_toInt (by omega)); omega)) (fun c109 => ?_)
      have t110 : ((i24 : Nat) : Int) < 400 := ti_nle c109 (by decide) (nI_toInt (by omega))
      refine lv_iload_n hx hb dX4_readAny_15 rfl (lv_at hl 1 rfl) ?_
      refine lv_if_eq (tgt := 46) hx hb dX4_readAny_16 (by decide) (fun c111 => ?_) (fun c111 => ?_)
      · have t112 : z25.toInt = 0 := ti_eq c111 rfl (by decide)
        refine lv_iload_n hx hb dX4_readAny_46 rfl (lv_at hl 1 rfl) ?_
        exact W.zret (v := z25) hx hb hr (nar_b (by have q8 := ti_all z25; omega)) (fun t ht hW => ⟨⟨z25, (z33, z36, V28), rfl, (by exact ⟨(by have q8 := ti_all z33; omega), (by have q8 := ti_all z36; omega), (by have q8 := ti_all z25; omega), (by omega), (by omega), (by rcases hj40.1 with ⟨h8, l9⟩ | ⟨h8, l9⟩; (rw [h8]; exact lp_e l9 (fun h7 => by have := tn_of (show z33.toInt = z33.toInt from rfl) (by omega); have := tn_of (show tn.toInt = tn.toInt from rfl) (by omega); have k9 := hKK tn.toNatClampNeg (Nat.le_refl _); have e9 := hc_vT.at hm_tv (by have q9 := tn_of hx_tv (by omega); omega); have k8 : (vT tn.toNatClampNeg).toInt = 21 := (by have q8 := congrArg Int32.toInt e9; rw [show ix_tv.toNatClampNeg = tn.toNatClampNeg from tn_same hx_tv rfl rfl] at q8; omega); rw [show z33.toNatClampNeg = tn.toNatClampNeg from by omega] at h7; omega)); rw [h8]; exact l9), hj42, (fun h8 => ⟨hj41 h8, fun h7 => by have := tn_of (show z33.toInt = z33.toInt from rfl) (by omega); have := tn_of (show tn.toInt = tn.toInt from rfl) (by omega); have k9 := hKK tn.toNatClampNeg (Nat.le_refl _); have e9 := hc_vT.at hm_tv (by have q9 := tn_of hx_tv (by omega); omega); have k8 : (vT tn.toNatClampNeg).toInt = 21 := (by have q8 := congrArg Int32.toInt e9; rw [show ix_tv.toNatClampNeg = tn.toNatClampNeg from tn_same hx_tv rfl rfl] at q8; omega); rw [show z33.toNatClampNeg = tn.toNatClampNeg from by omega] at h7; omega⟩)⟩), by (try dsimp only); rw [ht]; exact ⟨hT, hF, m35, m38, m29⟩⟩, hS.F ht⟩) hS.2.2 dX4_readAny_47
      · have t113 : z25.toInt ≠ 0 := ti_ne c111 rfl (by decide)
        refine lv_aload_n hx hb dX4_readAny_19 rfl (lv_at hl 2 rfl) ?_
        refine lv_bipush (v := 15) hx hb dX4_readAny_20 (by decide) ?_
        have hFc := gA_free hG hA hS
        refine va_calli (va_runV (As := [.int 15]) (rest := []) ⟨hx, hb, hml, hown, hts⟩ (c_take l dC dI kA adK adV G H nC nS o0 15 th z33 vT tv ix_tv ix_tv K X pS hT hr_o0 m30 hr_th m35 (by have q8 := ti_all ix_tv; omega) (by have q8 := ti_all z33; omega) (by have := (show z33.toInt = z33.toInt from rfl); have := (show ix_tv.toInt = ix_tv.toInt from rfl); omega) (by have := (show (15 : Int32).toInt = 15 from (by decide)); omega) (fun m hm => hKK m (Nat.le_trans hm (Nat.le_of_eq (tn_same hx_tv rfl rfl)))) (fun m hm => hXX m (Nat.lt_of_lt_of_eq hm (tn_same hx_tv rfl rfl))) m27 (by have q9 := (show ix_tv.toInt = ix_tv.toInt from rfl); have := (show ix_tv.toInt = ix_tv.toInt from rfl); omega) m32 (by have q8 := ti_all tv; omega) (by omega) (by omega)) (cwV 1 hts (goodIn_app (goodIn_r _ [20, 21, 22, 15] rfl (by decide +kernel)) (goodIn_ca (goodIn_r _ [19, 3, 4] rfl (by decide +kernel)) (bs2_in _ _))) rfl rfl rfl (by decide +kernel) ⟨(Nat.le_of_ble_eq_true rfl), (Nat.le_of_ble_eq_true rfl)⟩) ⟨fun a U g mk q => by obtain ⟨q0, q1, qK, qE⟩ := q; exact ⟨q0, q1, va_K.moved (u := U) (U := U.calling g mk a) (Vm.Alike.refl U.vm) qK, EVC.blind g mk a qE⟩, gH_rc hK hT hr_o0 shc_152 rfl, fun U hU hW => ⟨rfl, hU, va_K.moved hW.alike hK, hE.call hS hFc hU hW⟩⟩ rfl rfl hl.1 rfl (lv_room (Nat.le_of_ble_eq_true rfl)) dX4_readAny_22 ⟨(Nat.le_of_ble_eq_true rfl), (Nat.le_of_ble_eq_true rfl)⟩) hS (fun q _ h => hFc q h) hFc (fun r114 u t H locs ht hvm hw115 hB _ _ hS => ?_)
        obtain ⟨u116, rfl⟩ : ∃ z, z = u := ⟨_, rfl⟩
        obtain ⟨hT, hF1, m117⟩ := hB
        rw [ht] at hT hF1 m117
        have m118 := m27.kept (hF1.arr hr_th skc_153 (by decide))
        have m119 := m29.kept (hF1.arr hr_sp9 skc_162 (by decide))
        have m120 := (hF1.fld hr_o0 skc_152 (k := 0) (by decide) (by decide)).trans m30
        have m121 := (hF1.fld hr_o0 skc_152 (k := 9) (by decide) (by decide)).trans m31
        have m122 := (el_kept (hF1.arr hr_th skc_153 (by decide))).trans m32
        have m124 := (hF1.fld hr_o0 skc_152 (k := 12) (by decide) (by decide)).trans m38
        have hF := hF.more hF1 (by decide)
        try dsimp only at hw115
        obtain ⟨h125, h126, hf127, hf128, hf129⟩ := hw115
        refine lv_if_eq (tgt := 46) hx hb dX4_readAny_25 (by decide) (fun c130 => ?_) (fun c130 => ?_)
        · have t131 : r114.toInt = 0 := ti_eq c130 rfl (by decide)
          refine lv_iload_n hx hb dX4_readAny_46 rfl (lv_at hl 1 rfl) ?_
          exact W.zret (v := z25) hx hb hr (nar_b (by have q8 := ti_all z25; omega)) (fun t ht hW => ⟨⟨z25, (u116, z36, V28), rfl, (by exact ⟨(by have q8 := ti_all u116; omega), (by have q8 := ti_all z36; omega), (by have q8 := ti_all z25; omega), (by omega), (by omega), (by have l9 := (hj40.1.resolve_right (fun h8 => by have := h8.1; omega)).2; have a9 := hf128.resolve_left (fun h8 => by have := h8.2.1; omega); rw [show z25.toInt = 1 from by omega, a9.2.2]; exact lp_e l9 (fun h7 => a9.1 (h7.trans (by decide)))), hj42, (fun h8 => ⟨by (try dsimp only); have a9 := hf128.resolve_left (fun h8 => by have := h8.2.1; omega); rw [a9.2.2]; exact hj41 h8, by (try dsimp only); have a9 := hf128.resolve_left (fun h8 => by have := h8.2.1; omega); rw [a9.2.2]; exact fun h7 => a9.1 (h7.trans (by decide))⟩)⟩), by (try dsimp only); rw [ht]; exact ⟨hT, hF, m117, m124, m119⟩⟩, hS.F ht⟩) hS.2.2 dX4_readAny_47
        · have t132 : r114.toInt ≠ 0 := ti_ne c130 rfl (by decide)
          refine lv_aload_n hx hb dX4_readAny_28 rfl (lv_at hl 2 rfl) ?_
          refine lv_iload_n hx hb dX4_readAny_29 rfl (lv_at hl 3 rfl) ?_
          have hFc := gA_free hG hA hS
          refine va_calli (va_runV (As := [.int 0]) (rest := []) ⟨hx, hb, hml, hown, hts⟩ (c_readAll0 l dC dI kA adK adV G H nC nS o0 th u116 z36 sp9 vT V28 tv ix_tv ix_tv K X pS hT hr_o0 m120 hr_th m117 m124 m121 hr_sp9 (by have q8 := ti_all ix_tv; omega) (by have q8 := ti_all u116; omega) (by have := (show u116.toInt = u116.toInt from rfl); have := (show ix_tv.toInt = ix_tv.toInt from rfl); omega) (fun m hm => hKK m (Nat.le_trans hm (Nat.le_of_eq (tn_same hx_tv rfl rfl)))) (fun m hm => hXX m (Nat.lt_of_lt_of_eq hm (tn_same hx_tv rfl rfl))) (by have q8 := ti_all z36; omega) (by have := (show z36.toInt = z36.toInt from rfl); have := (show u116.toInt = u116.toInt from rfl); omega) m118 m119 (by have q9 := (show ix_tv.toInt = ix_tv.toInt from rfl); have := (show ix_tv.toInt = ix_tv.toInt from rfl); omega) m122 (by have q8 := ti_all tv; omega) (by omega) (by omega)) (cwV 1 hts (goodIn_app (goodIn_r _ [32, 33, 34, 15] rfl (by decide +kernel)) (goodIn_ca (goodIn_r _ [1, 2, 3, 4, 5, 1, 6, 7, 8, 9, 10, 11, 12, 13, 14, 15, 16, 17, 18, 19, 20, 21, 22, 23, 24, 25, 26, 27, 28, 29, 30, 31, 32, 33, 34, 35, 36, 37] rfl (by decide +kernel)) (bs2_in _ _))) rfl rfl rfl (by decide +kernel) ⟨(Nat.le_of_ble_eq_true rfl), (Nat.le_of_ble_eq_true rfl)⟩) ⟨fun a U g mk q => by obtain ⟨q0, q1, qK, qE⟩ := q; exact ⟨q0, q1, va_K.moved (u := U) (U := U.calling g mk a) (Vm.Alike.refl U.vm) qK, EVC.blind g mk a qE⟩, gH_rc hK hT hr_o0 shc_152 rfl, fun U hU hW => ⟨rfl, hU, va_K.moved hW.alike hK, hE.call hS hFc hU hW⟩⟩ rfl rfl hl.1 rfl (lv_room (Nat.le_of_ble_eq_true rfl)) dX4_readAny_30 ⟨(Nat.le_of_ble_eq_true rfl), (Nat.le_of_ble_eq_true rfl)⟩) hS (fun q _ h => hFc q h) hFc (fun r133 u t H locs ht hvm hw134 hB _ _ hS => ?_)
          obtain ⟨u135, u136, u137⟩ := u
          obtain ⟨hT, hF1, m138, m139, m140⟩ := hB
          rw [ht] at hT hF1 m138 m139 m140
          have m141 := m118.kept (hF1.arr hr_th skc_153 (by decide))
          have m143 := (hF1.fld hr_o0 skc_152 (k := 0) (by decide) (by decide)).trans m120
          have m144 := (hF1.fld hr_o0 skc_152 (k := 9) (by decide) (by decide)).trans m121
          have m145 := (el_kept (hF1.arr hr_th skc_153 (by decide))).trans m122
          have hF := hF.more hF1 (by decide)
          try dsimp only at hw134
          obtain ⟨h148, h149, h150, hf151, hf152, hf153, hf154, hf155⟩ := hw134
          refine lv_istore_n (lv' := [(2, .int r133), (3, .int (nI i24)), (0, .ref o0), (1, .int 0)]) hx hb dX4_readAny_33 rfl hl (by decide) rfl (fun ls hl => ?_)
          refine lv_aload_n hx hb dX4_readAny_34 rfl (lv_at hl 2 rfl) ?_
          refine lv_bipush (v := 15) hx hb dX4_readAny_35 (by decide) ?_
          have hFc := gA_free hG hA hS
          refine va_callv (va_runV (As := [.int 15]) (rest := []) ⟨hx, hb, hml, hown, hts⟩ (c_addStep l dC dI kA adK adV G H nC nS o0 15 u136 sp9 u137 hT hr_o0 m139 m144 hr_sp9 (rg_t (a := 15) (by decide) (by first | decide | omega) (by first | decide | omega)) (by have q8 := ti_all u136; omega) m140 (by omega) (by omega)) (cwV 1 hts (goodIn_app (goodIn_r _ [12, 13, 14, 15] rfl (by decide +kernel)) (goodIn_ca (goodIn_r _ [9, 10, 11] rfl (by decide +kernel)) (bs2_in _ _))) rfl rfl rfl (by decide +kernel) ⟨(Nat.le_of_ble_eq_true rfl), (Nat.le_of_ble_eq_true rfl)⟩) ⟨fun a U g mk q => by obtain ⟨q0, q1, qK, qE⟩ := q; exact ⟨q0, q1, va_K.moved (u := U) (U := U.calling g mk a) (Vm.Alike.refl U.vm) qK, EVC.blind g mk a qE⟩, gH_rc hK hT hr_o0 shc_152 rfl, fun U hU hW => ⟨rfl, hU, va_K.moved hW.alike hK, hE.call hS hFc hU hW⟩⟩ rfl rfl hl.1 rfl (lv_room (Nat.le_of_ble_eq_true rfl)) dX4_readAny_37 ⟨(Nat.le_of_ble_eq_true rfl), (Nat.le_of_ble_eq_true rfl)⟩) hS (fun q _ h => hFc q h) hFc (fun u t H locs ht hvm hw157 hB _ _ hS => ?_)
          obtain ⟨u158, rfl⟩ : ∃ z, z = u := ⟨_, rfl⟩
          obtain ⟨hT, hF1, m159, m160⟩ := hB
          rw [ht] at hT hF1 m159 m160
          have m161 := m141.kept (hF1.arr hr_th skc_153 (by decide))
          have m162 := (hF1.fld hr_o0 skc_152 (k := 0) (by decide) (by decide)).trans m143
          have m163 := (hF1.fld hr_o0 skc_152 (k := 9) (by decide) (by decide)).trans m144
          have m164 := (el_kept (hF1.arr hr_th skc_153 (by decide))).trans m145
          have m165 := (hF1.fld hr_o0 skc_152 (k := 13) (by decide) (by decide)).trans m138
          have hF := hF.more hF1 (by decide)
          try dsimp only at hw157
          obtain ⟨h168, hf169⟩ := hw157
          refine lv_iinc (v := nI (i24 + 1)) (lv' := [(3, .int (nI (i24 + 1))), (2, .int r133), (0, .ref o0), (1, .int 0)]) hx hb dX4_readAny_40 hl (k := 1) rfl (nI_add i24 1) (by decide) rfl (fun ls hl => ?_)
          refine lv_goto (tgt := 8) hx hb dX4_readAny_43 (by decide) ?_
          exact ih105 (i24 + 1) (by omega) (by omega) r133 (cu u137 u136.toNatClampNeg 15) u135 u158 ⟨(by have q8 := ti_all r133; omega), (by have q8 := ti_all u135; omega), (by have q8 := ti_all u158; omega), (by have := hx_tv; have := (show u135.toInt = u135.toInt from rfl); omega), ⟨(by have l9 := (hj40.1.resolve_right (fun h8 => by have := h8.1; omega)).2; have a9 := hf128.resolve_right (fun h8 => by have := h8.2.1; omega); have h9 := hf153; rw [a9.2.2] at h9; rcases (show r133.toInt = 1 ∨ r133.toInt = 0 by omega) with h8 | h8 <;> rw [h8] at h9; (exact Or.inl ⟨h8, lp_s l9 (a9.1.trans (by decide)) h9⟩); exact Or.inr ⟨h8, lp_f l9 (a9.1.trans (by decide)) h9⟩), by omega⟩, (fun h8 => by have := tn_of (show s0.toInt = s0.toInt from rfl) (by omega); have := tn_of (show z36.toInt = z36.toInt from rfl) (by omega); have := tn_of (show u136.toInt = u136.toInt from rfl) (by omega); have := tn_of (show u158.toInt = u158.toInt from rfl) (by omega); have l9 := hj41 (by omega); have a9 := hf128.resolve_right (fun h8 => by have := h8.2.1; omega); have h9 := hf155 h8; rw [a9.2.2] at h9; rw [zC_3 (sx := z36.toNatClampNeg) (s2 := u136.toNatClampNeg) (c := 15) (by omega) (by omega) hf154 (by omega) rfl (by decide)]; exact zlI_s l9 (a9.1.trans (by decide)) h9), ((hj42.tr hf154 (by have := tn_of (show s0.toInt = s0.toInt from rfl) (by omega); have := tn_of (show z36.toInt = z36.toInt from rfl) (by omega); omega)).st (by have := tn_of (show s0.toInt = s0.toInt from rfl) (by omega); have := tn_of (show u136.toInt = u136.toInt from rfl) (by omega); omega)), (by have := (show u158.toInt = u158.toInt from rfl); have := (show u135.toInt = u135.toInt from rfl); omega)⟩ _ _ hT hF hS m161 m160 m162 m163 m164 m165 m159 ls (lv_sub hl [0, 1, 2, 3] rfl)
  exact key105 (400 - 0) 0 (by omega) (Nat.le_refl _) r1 u5 u3 u4 ⟨(by have q8 := ti_all r1; omega), (by have q8 := ti_all u3; omega), (by have q8 := ti_all u4; omega), (by have := hx_tv; have := (show u3.toInt = u3.toInt from rfl); omega), ⟨(by have h9 := hf21; rcases (show r1.toInt = 1 ∨ r1.toInt = 0 by omega) with h8 | h8 <;> rw [h8] at h9; (exact Or.inl ⟨h8, lp_1 h9⟩); exact Or.inr ⟨h8, lp_0 h9⟩), by omega⟩, (fun h8 => zlI_0 (hf23 h8)), (zKp.rf.tr hf22 (by have := tn_of (show s0.toInt = s0.toInt from rfl) (by omega); omega)), (by have := (show u4.toInt = u4.toInt from rfl); have := (show u3.toInt = u3.toInt from rfl); omega)⟩ _ _ hT hF hS m13 m8 m9 m12 m15 m6 m7 ls (lv_sub hl [0, 1, 2, 3] rfl)
def w_c_readLine : List Cond := .code yX4_readLine cX4_readLine 3 (some .boolean) :: (HAppend.hAppend (α := List Cond) (β := List Cond) (γ := List Cond) [.fieldLink RX4 11 "SeaLand$Law" "things" "[I", .fieldLink RX4 56 "SeaLand$Law" "at" "I", .code yX4_lineKind cX4_lineKind 1 (some .int), .methodLink RX4 165 yX4_lineKind, .static yX4_lineKind, .initialized RX4, .fieldLink RX4 18 "SeaLand$Law" "kinds" "[I", .fieldLink RX4 60 "SeaLand$Law" "lines" "I", .fieldLink RX4 33 "SeaLand$Law" "stepFrom" "[I", .fieldLink RX4 63 "SeaLand$Law" "stepped" "I", .code yX4_take cX4_take 2 (some .boolean), .methodLink RX4 70 yX4_take, .instanceMethod yX4_take, .selects RX4 yX4_take yX4_take, .fieldLink RX4 36 "SeaLand$Law" "stepTo" "[I", .code yX4_readAny cX4_readAny 4 (some .boolean), .code yX4_readAll cX4_readAll 4 (some .boolean), .code yX4_readAtom cX4_readAtom 4 (some .boolean), .code yX4_readComparison cX4_readComparison 3 (some .boolean), .code yX4_readSum cX4_readSum 3 (some .boolean), .code yX4_readPart cX4_readPart 2 (some .boolean), .code yX4_addStep cX4_addStep 2 none, .fieldLink RX4 39 "SeaLand$Law" "steps" "[I", .methodLink RX4 179 yX4_addStep, .instanceMethod yX4_addStep, .selects RX4 yX4_addStep yX4_addStep, .methodLink RX4 192 yX4_readPart, .instanceMethod yX4_readPart, .selects RX4 yX4_readPart yX4_readPart, .methodLink RX4 189 yX4_readSum, .instanceMethod yX4_readSum, .selects RX4 yX4_readSum yX4_readSum, .methodLink RX4 186 yX4_readComparison, .instanceMethod yX4_readComparison, .selects RX4 yX4_readComparison yX4_readComparison, .methodLink RX4 183 yX4_readAtom, .instanceMethod yX4_readAtom, .selects RX4 yX4_readAtom yX4_readAtom, .methodLink RX4 176 yX4_readAll, .instanceMethod yX4_readAll, .selects RX4 yX4_readAll yX4_readAll, .methodLink RX4 173 yX4_readAny, .instanceMethod yX4_readAny, .selects RX4 yX4_readAny yX4_readAny, .fieldLink RX4 21 "SeaLand$Law" "firsts" "[I", .code yX4_takeNumber cX4_takeNumber 4 (some .boolean), .methodLink RX4 168 yX4_takeNumber, .instanceMethod yX4_takeNumber, .selects RX4 yX4_takeNumber yX4_takeNumber, .fieldLink RX4 24 "SeaLand$Law" "seconds" "[I", .fieldLink RX4 27 "SeaLand$Law" "froms" "[I", .fieldLink RX4 30 "SeaLand$Law" "tos" "[I", .constant RX4 172 99999] bs2)
set_option maxHeartbeats 4000000 in
set_option maxRecDepth 100000 in
theorem c_readLine (l : Launch) (dC : Nat → ClassId) (dI : Nat → Nat → Nat) (kA : Nat → ClassId) (adK adV : Nat → Nat) (G : gT) (H0 : Heap) (nC nS : Int) (o0 : Nat) (th : Nat) (a0 : Int32) (ln : Int32) (kn9 : Nat) (sf9 : Nat) (st9 : Nat) (s0 : Int32) (sp9 : Nat) (vT : Nat → Int32) (vS : Nat → Int32) (vK : Nat → Int32) (vF : Nat → Int32) (vE : Nat → Int32) (tv ix_tv : Int32) (tn : Int32) (K : Nat → Int) (X pS : Nat → Nat) (hT : gH (dC, dI) kA (SHc nC nS) G H0) (hr_o0 : G o0 = some 152) (hm_th : el H0 o0 (dI 7 0) = some (.ref th)) (hr_th : G th = some 153) (hm_a0 : el H0 o0 (dI 7 13) = some (.int a0)) (hm_ln : el H0 o0 (dI 7 11) = some (.int ln)) (hm_kn9 : el H0 o0 (dI 7 2) = some (.ref kn9)) (hr_kn9 : G kn9 = some 155) (hm_sf9 : el H0 o0 (dI 7 7) = some (.ref sf9)) (hr_sf9 : G sf9 = some 160) (hm_st9 : el H0 o0 (dI 7 8) = some (.ref st9)) (hr_st9 : G st9 = some 161) (hm_s0 : el H0 o0 (dI 7 12) = some (.int s0)) (hm_sp9 : el H0 o0 (dI 7 9) = some (.ref sp9)) (hr_sp9 : G sp9 = some 162) (hq0 : 0 ≤ tn.toInt ∧ tn.toInt ≤ 400) (hq1 : 0 ≤ a0.toInt ∧ a0.toInt ≤ 400) (hat : a0.toInt ≤ tn.toInt) (hq3 : 0 ≤ ln.toInt ∧ ln.toInt ≤ 19) (hKK : ∀ m : Nat, m ≤ tn.toNatClampNeg → (vT m).toInt = K (pS m)) (hXX : ∀ m : Nat, m < tn.toNatClampNeg → pS (m + 1) = X (pS m)) (hq6 : 0 ≤ s0.toInt ∧ s0.toInt ≤ 400) (hsa : s0.toInt ≤ a0.toInt) (hc_vT : ct H0 th 401 vT) (hc_vS : ct H0 sp9 400 vS) (hc_vK : ct H0 kn9 20 vK) (hc_vF : ct H0 sf9 20 vF) (hc_vE : ct H0 st9 20 vE) (hx_tv : ix_tv.toInt = tn.toInt) (hm_tv : el H0 th ix_tv.toNatClampNeg = some (.int tv)) (hv_tv : 21 ≤ tv.toInt ∧ tv.toInt ≤ 21) (hgC : 0 ≤ nC ∧ nC ≤ 40) (hgS : 0 ≤ nS ∧ nS ≤ 60) : Met l yX4_readLine w_c_readLine ({ frames := 25, cells := 0, slots := 0, locals := 569 }) (va_Pc [.ref o0] (fun U => U.heap = H0 ∧ va_K (dC, dI) vwCl (tyl kA) U ∧ EVC adK adV (gA G H0.size) U U.heap)) (va_Qi (fun (r : Int32) (u : Int32 × Int32 × (Nat → Int32) × (Nat → Int32) × (Nat → Int32) × (Nat → Int32)) => match u with | (a1, s1, vS1, vK1, vF1, vE1) => (0 ≤ a1.toInt ∧ a1.toInt ≤ 400) ∧ (0 ≤ s1.toInt ∧ s1.toInt ≤ 400) ∧ (0 ≤ r.toInt ∧ r.toInt ≤ 1) ∧ (a0.toInt ≤ a1.toInt ∧ a1.toInt ≤ tn.toInt) ∧ (s0.toInt ≤ s1.toInt ∧ s1.toInt - s0.toInt ≤ a1.toInt - a0.toInt) ∧ (lnR K X (pS a0.toNatClampNeg) r.toInt (pS a1.toNatClampNeg)) ∧ (zKp vK vK1 ln.toNatClampNeg) ∧ (zKp vF vF1 ln.toNatClampNeg) ∧ (zKp vE vE1 ln.toNatClampNeg) ∧ (zKp vS vS1 s0.toNatClampNeg) ∧ (r.toInt = 1 → zLn K X (pS a0.toNatClampNeg) (pS a1.toNatClampNeg) (tz vS1) s0.toNatClampNeg s1.toNatClampNeg (vK1 ln.toNatClampNeg) (vF1 ln.toNatClampNeg) (vE1 ln.toNatClampNeg))) (fun (u : Int32 × Int32 × (Nat → Int32) × (Nat → Int32) × (Nat → Int32) × (Nat → Int32)) (t : State) => match u with | (a1, s1, vS1, vK1, vF1, vE1) => gH (dC, dI) kA (SHc nC nS) G t.heap ∧ gF (dC, dI) SKc G ([(152, 12), (152, 13), (155, 0), (156, 0), (157, 0), (158, 0), (159, 0), (160, 0), (161, 0), (162, 0)] : List (Nat × Nat)) H0 t.heap ∧ el t.heap o0 (dI 7 13) = some (.int a1) ∧ el t.heap o0 (dI 7 12) = some (.int s1) ∧ ct t.heap sp9 400 vS1 ∧ ct t.heap kn9 20 vK1 ∧ ct t.heap sf9 20 vF1 ∧ ct t.heap st9 20 vE1) (gA G H0.size)) 0 0 (gA G H0.size) := by
  refine Met.ofW (cc := cX4_readLine) (maxL := 3) (ret := (some .boolean)) (by decide) rfl ?_
  intro p e s m args below meth c s₁ B hml hv
  obtain ⟨rfl, hH0, hK, hE⟩ := hv
  have hx := B.exec
  have hb := B.bytes
  have hr := B.returns
  have hts := atoms_spec (ws := w_c_readLine) B.pre
  have hown : s.vm.findClass RX4 = some m.cls := findClass_of_methodNamed B.named
  have hlocks := B.notSynchronized
  subst hH0
  generalize hAe : gA G s.heap.size = A at hE ⊢
  have hA : ∀ q : Nat, s.heap.size ≤ q → A q := fun q h => by rw [← hAe]; exact Or.inr h
  have hG := gA_of hAe
  have hS : va_S A s.heap s.heap [] := va_S.rf
  have hF : gF (dC, dI) SKc G ([(152, 12), (152, 13), (155, 0), (156, 0), (157, 0), (158, 0), (159, 0), (160, 0), (161, 0), (162, 0)] : List (Nat × Nat)) s.heap s.heap := gF.rf
  have hl := lv_entry ([.ref o0]) (n := 3) (Nat.le_of_ble_eq_true rfl)
  rw [lg_entry_eq]
  generalize (lg_sl ([.ref o0]) ++ List.replicate (3 - (lg_sl ([.ref o0])).length) Slot.unset).toArray = ls at hl ⊢
  have hl : lv_has ls 3 [(0, .ref o0)] := hl
  refine lv_aload_n hx hb dX4_readLine_0 rfl (lv_at hl 0 rfl) ?_
  refine tw_getM (v := .ref th) hx hb hts bF2_X4 hown hK hT hr_o0 shc_152 rfl 0 (by decide) (ht_at2 hts 0 rfl) (fun _ h9 => h9) hm_th dX4_readLine_1 ?_
  refine lv_aload_n hx hb dX4_readLine_4 rfl (lv_at hl 0 rfl) ?_
  refine tw_getM (v := .int a0) hx hb hts bF2_X4 hown hK hT hr_o0 shc_152 rfl 13 (by decide) (ht_at2 hts 1 rfl) (fun _ h9 => h9) hm_a0 dX4_readLine_5 ?_
  refine tw_iald (i := a0) hx hb hK hT hr_th shc_153 rfl (vin_t (a := a0.toInt) rfl (by omega) (by omega)) dX4_readLine_8 (fun v9 m1 h9 => ?_)
  obtain ⟨x2, rfl, gx2, kx2⟩ := h9
  have cx2 := hc_vT.at m1 (by have q9 := tn_of (show a0.toInt = a0.toInt from rfl) (by omega); omega)
  have t3 : a0.toInt = ix_tv.toInt → x2.toInt = tv.toInt := fun h8 => congrArg Int32.toInt (el_same m1 hm_tv h8)
  have t4 : x2.toInt = K (pS a0.toNatClampNeg) := (congrArg Int32.toInt cx2).trans (hKK _ (by have := tn_of (show a0.toInt = a0.toInt from rfl) (by omega); have := tn_of (show tn.toInt = tn.toInt from rfl) (by omega); omega))
  have hFc := gA_free hG hA hS
  refine va_calli (va_runS (As := [.int x2]) (rest := []) ⟨hx, hb, hml, hown, hts⟩ (c_lineKind l dC dI kA adK adV G s.heap nC nS x2 hT (by omega) (by omega)) (va_cwS 1 hts (goodIn_app (goodIn_r _ [4, 5, 6] rfl (by decide +kernel)) (goodIn_ca (goodIn_r _ [3] rfl (by decide +kernel)) (bs2_in _ _))) rfl rfl rfl (by decide +kernel) ⟨(Nat.le_of_ble_eq_true rfl), (Nat.le_of_ble_eq_true rfl)⟩) ⟨fun a U g mk q => by obtain ⟨q0, q1, qK, qE⟩ := q; exact ⟨q0, q1, va_K.moved (u := U) (U := U.calling g mk a) (Vm.Alike.refl U.vm) qK, EVC.blind g mk a qE⟩, fun U hU hW => ⟨rfl, hU, va_K.moved hW.alike hK, hE.call hS hFc hU hW⟩⟩ rfl rfl hl.1 rfl (lv_room (Nat.le_of_ble_eq_true rfl)) dX4_readLine_9 ⟨(Nat.le_of_ble_eq_true rfl), (Nat.le_of_ble_eq_true rfl)⟩) hS (fun q _ h => hFc q h) hFc (fun r5 u t H locs ht hvm hw6 hB _ _ hS => ?_)
  obtain ⟨hT, hF1⟩ := hB
  rw [ht] at hT hF1
  have m7 := (hF1.fld hr_o0 skc_152 (k := 0) (by decide) (by decide)).trans hm_th
  have m8 := (hF1.fld hr_o0 skc_152 (k := 13) (by decide) (by decide)).trans hm_a0
  have m9 := (hF1.fld hr_o0 skc_152 (k := 11) (by decide) (by decide)).trans hm_ln
  have m10 := (hF1.fld hr_o0 skc_152 (k := 2) (by decide) (by decide)).trans hm_kn9
  have m11 := (hF1.fld hr_o0 skc_152 (k := 7) (by decide) (by decide)).trans hm_sf9
  have m12 := (hF1.fld hr_o0 skc_152 (k := 8) (by decide) (by decide)).trans hm_st9
  have m13 := (hF1.fld hr_o0 skc_152 (k := 12) (by decide) (by decide)).trans hm_s0
  have m14 := (hF1.fld hr_o0 skc_152 (k := 9) (by decide) (by decide)).trans hm_sp9
  have m15 := hc_vT.kept (hF1.arr hr_th skc_153 (by decide))
  have m16 := hc_vS.kept (hF1.arr hr_sp9 skc_162 (by decide))
  have m17 := hc_vK.kept (hF1.arr hr_kn9 skc_155 (by decide))
  have m18 := hc_vF.kept (hF1.arr hr_sf9 skc_160 (by decide))
  have m19 := hc_vE.kept (hF1.arr hr_st9 skc_161 (by decide))
  have m20 := (el_kept (hF1.arr hr_th skc_153 (by decide))).trans hm_tv
  have hF := hF.more hF1 (by decide)
  try dsimp only at hw6
  obtain ⟨h22, hf23, hf24⟩ := hw6
  refine lv_istore_n (lv' := [(1, .int r5), (0, .ref o0)]) hx hb dX4_readLine_12 rfl hl (by decide) rfl (fun ls hl => ?_)
  refine lv_iload_n hx hb dX4_readLine_13 rfl (lv_at hl 0 rfl) ?_
  refine lv_iconst (v := (-1)) hx hb dX4_readLine_14 (by decide) ?_
  refine lv_icmp_ne (tgt := 20) hx hb dX4_readLine_15 (by decide) (fun c25 => ?_) (fun c25 => ?_)
  · have t26 : r5.toInt ≠ (-1) := ti_ne c25 rfl (by decide)
    refine lv_aload_n hx hb dX4_readLine_20 rfl (lv_at hl 1 rfl) ?_
    refine lv_dup hx hb dX4_readLine_21 rfl ?_
    refine tw_getM (v := .int a0) hx hb hts bF2_X4 hown hK hT hr_o0 shc_152 rfl 13 (by decide) (ht_at2 hts 1 rfl) (fun _ h9 => h9) m8 dX4_readLine_22 ?_
    refine lv_iconst (v := 1) hx hb dX4_readLine_25 (by decide) ?_
    refine lv_iadd hx hb dX4_readLine_26 ?_
    refine lv_topi (fun x27 ex27 => ?_)
    have t28 : x27.toInt = a0.toInt + 1 := ti_add ex27 rfl (by decide) (by omega) (by omega)
    refine tw_put (v := .int x27) (ty := .int) hx hb hts bF2_X4 tyX4 tyX4_ok nmX4 hown hK hT hG hS hr_o0 shc_152 rfl 13 (by decide) (ht_at2 hts 1 rfl) (fun _ h9 => h9) rfl (by decide +kernel) rfl rfl (gl_at rfl (gi_of (show x27.toInt = x27.toInt from rfl) (by omega) (by omega))) dX4_readLine_27 (fun H locs hT oq m29 oj hS => ?_)
    have hF := hF.put hr_o0 skc_152 oq oj (by decide)
    have m30 := (oj 0 (by decide) (by decide)).trans m7
    have m31 := (oj 11 (by decide) (by decide)).trans m9
    have m32 := (oj 2 (by decide) (by decide)).trans m10
    have m33 := (oj 7 (by decide) (by decide)).trans m11
    have m34 := (oj 8 (by decide) (by decide)).trans m12
    have m35 := (oj 12 (by decide) (by decide)).trans m13
    have m36 := (oj 9 (by decide) (by decide)).trans m14
    have m37 := m15.kept (oq _ (gne hr_th hr_o0 (by decide)))
    have m38 := m16.kept (oq _ (gne hr_sp9 hr_o0 (by decide)))
    have m39 := m17.kept (oq _ (gne hr_kn9 hr_o0 (by decide)))
    have m40 := m18.kept (oq _ (gne hr_sf9 hr_o0 (by decide)))
    have m41 := m19.kept (oq _ (gne hr_st9 hr_o0 (by decide)))
    have m42 := (el_kept (oq _ (gne hr_th hr_o0 (by decide)))).trans m20
    refine lv_aload_n hx hb dX4_readLine_30 rfl (lv_at hl 1 rfl) ?_
    refine tw_getM (v := .ref kn9) hx hb hts bF2_X4 hown hK hT hr_o0 shc_152 rfl 2 (by decide) (ht_at2 hts 6 rfl) (fun _ h9 => h9) m32 dX4_readLine_31 ?_
    refine lv_aload_n hx hb dX4_readLine_34 rfl (lv_at hl 1 rfl) ?_
    refine tw_getM (v := .int ln) hx hb hts bF2_X4 hown hK hT hr_o0 shc_152 rfl 11 (by decide) (ht_at2 hts 7 rfl) (fun _ h9 => h9) m31 dX4_readLine_35 ?_
    refine lv_iload_n hx hb dX4_readLine_38 rfl (lv_at hl 0 rfl) ?_
    refine tw_iast (i := ln) (x := r5) hx hb hK hT hG hS hr_kn9 shc_155 rfl (vin_t (a := ln.toInt) rfl (by omega) (by omega)) (gi_all _) dX4_readLine_39 (fun H locs hT oq m44 oi hS => ?_)
    have hF := hF.ast hr_kn9 skc_155 oq (by decide)
    have m45 := (el_kept (oq _ (gne hr_o0 hr_kn9 (by decide)))).trans m30
    have m46 := (el_kept (oq _ (gne hr_o0 hr_kn9 (by decide)))).trans m31
    have m48 := (el_kept (oq _ (gne hr_o0 hr_kn9 (by decide)))).trans m33
    have m49 := (el_kept (oq _ (gne hr_o0 hr_kn9 (by decide)))).trans m34
    have m50 := (el_kept (oq _ (gne hr_o0 hr_kn9 (by decide)))).trans m35
    have m51 := (el_kept (oq _ (gne hr_o0 hr_kn9 (by decide)))).trans m36
    have m52 := m37.kept (oq _ (gne hr_th hr_kn9 (by decide)))
    have m53 := m38.kept (oq _ (gne hr_sp9 hr_kn9 (by decide)))
    have m54 := m39.put m44 oi
    have m55 := m40.kept (oq _ (gne hr_sf9 hr_kn9 (by decide)))
    have m56 := m41.kept (oq _ (gne hr_st9 hr_kn9 (by decide)))
    have m57 := (el_kept (oq _ (gne hr_th hr_kn9 (by decide)))).trans m42
    have m59 := (el_kept (oq _ (gne hr_o0 hr_kn9 (by decide)))).trans m29
    refine lv_aload_n hx hb dX4_readLine_40 rfl (lv_at hl 1 rfl) ?_
    refine tw_getM (v := .ref sf9) hx hb hts bF2_X4 hown hK hT hr_o0 shc_152 rfl 7 (by decide) (ht_at2 hts 8 rfl) (fun _ h9 => h9) m48 dX4_readLine_41 ?_
    refine lv_aload_n hx hb dX4_readLine_44 rfl (lv_at hl 1 rfl) ?_
    refine tw_getM (v := .int ln) hx hb hts bF2_X4 hown hK hT hr_o0 shc_152 rfl 11 (by decide) (ht_at2 hts 7 rfl) (fun _ h9 => h9) m46 dX4_readLine_45 ?_
    refine lv_aload_n hx hb dX4_readLine_48 rfl (lv_at hl 1 rfl) ?_
    refine tw_getM (v := .int s0) hx hb hts bF2_X4 hown hK hT hr_o0 shc_152 rfl 12 (by decide) (ht_at2 hts 9 rfl) (fun _ h9 => h9) m50 dX4_readLine_49 ?_
    refine tw_iast (i := ln) (x := s0) hx hb hK hT hG hS hr_sf9 shc_160 rfl (vin_t (a := ln.toInt) rfl (by omega) (by omega)) (gi_of (show s0.toInt = s0.toInt from rfl) (by omega) (by omega)) dX4_readLine_52 (fun H locs hT oq m60 oi hS => ?_)
    have hF := hF.ast hr_sf9 skc_160 oq (by decide)
    have m61 := (el_kept (oq _ (gne hr_o0 hr_sf9 (by decide)))).trans m45
    have m62 := (el_kept (oq _ (gne hr_o0 hr_sf9 (by decide)))).trans m46
    have m65 := (el_kept (oq _ (gne hr_o0 hr_sf9 (by decide)))).trans m49
    have m66 := (el_kept (oq _ (gne hr_o0 hr_sf9 (by decide)))).trans m50
    have m67 := (el_kept (oq _ (gne hr_o0 hr_sf9 (by decide)))).trans m51
    have m68 := m52.kept (oq _ (gne hr_th hr_sf9 (by decide)))
    have m69 := m53.kept (oq _ (gne hr_sp9 hr_sf9 (by decide)))
    have m70 := m54.kept (oq _ (gne hr_kn9 hr_sf9 (by decide)))
    have m71 := m55.put m60 oi
    have m72 := m56.kept (oq _ (gne hr_st9 hr_sf9 (by decide)))
    have m73 := (el_kept (oq _ (gne hr_th hr_sf9 (by decide)))).trans m57
    have m75 := (el_kept (oq _ (gne hr_o0 hr_sf9 (by decide)))).trans m59
    refine lv_iload_n hx hb dX4_readLine_53 rfl (lv_at hl 0 rfl) ?_
    by_cases hs77 : r5 = 5
    · subst hs77
      refine lv_tableIn (x := 5) (off := 125) (tgt := 179) hx hb dX4_readLine_54 (by decide) (by decide) (by decide) (by decide) ?_
      refine lv_goto (tgt := 197) hx hb dX4_readLine_179 (by decide) ?_
      refine lv_aload_n hx hb dX4_readLine_197 rfl (lv_at hl 1 rfl) ?_
      refine lv_bipush (v := 19) hx hb dX4_readLine_198 (by decide) ?_
      have hFc := gA_free hG hA hS
      refine va_calli (va_runV (As := [.int 19]) (rest := []) ⟨hx, hb, hml, hown, hts⟩ (c_take l dC dI kA adK adV G H nC nS o0 19 th x27 vT tv ix_tv ix_tv K X pS hT hr_o0 m61 hr_th m75 (by have q8 := ti_all ix_tv; omega) (by have q8 := ti_all x27; omega) (by have := (show x27.toInt = x27.toInt from rfl); have := (show ix_tv.toInt = ix_tv.toInt from rfl); omega) (by have := (show (19 : Int32).toInt = 19 from (by decide)); omega) (fun m hm => hKK m (Nat.le_trans hm (Nat.le_of_eq (tn_same hx_tv rfl rfl)))) (fun m hm => hXX m (Nat.lt_of_lt_of_eq hm (tn_same hx_tv rfl rfl))) m68 (by have q9 := (show ix_tv.toInt = ix_tv.toInt from rfl); have := (show ix_tv.toInt = ix_tv.toInt from rfl); omega) m73 (by have q8 := ti_all tv; omega) (by omega) (by omega)) (cwV 1 hts (goodIn_app (goodIn_r _ [12, 13, 14, 6] rfl (by decide +kernel)) (goodIn_ca (goodIn_r _ [11, 1, 2] rfl (by decide +kernel)) (bs2_in _ _))) rfl rfl rfl (by decide +kernel) ⟨(Nat.le_of_ble_eq_true rfl), (Nat.le_of_ble_eq_true rfl)⟩) ⟨fun a U g mk q => by obtain ⟨q0, q1, qK, qE⟩ := q; exact ⟨q0, q1, va_K.moved (u := U) (U := U.calling g mk a) (Vm.Alike.refl U.vm) qK, EVC.blind g mk a qE⟩, gH_rc hK hT hr_o0 shc_152 rfl, fun U hU hW => ⟨rfl, hU, va_K.moved hW.alike hK, hE.call hS hFc hU hW⟩⟩ rfl rfl hl.1 rfl (lv_room (Nat.le_of_ble_eq_true rfl)) dX4_readLine_200 ⟨(Nat.le_of_ble_eq_true rfl), (Nat.le_of_ble_eq_true rfl)⟩) hS (fun q _ h => hFc q h) hFc (fun r78 u t H locs ht hvm hw79 hB _ _ hS => ?_)
      obtain ⟨u80, rfl⟩ : ∃ z, z = u := ⟨_, rfl⟩
      obtain ⟨hT, hF1, m81⟩ := hB
      rw [ht] at hT hF1 m81
      have m82 := (hF1.fld hr_o0 skc_152 (k := 0) (by decide) (by decide)).trans m61
      have m83 := (hF1.fld hr_o0 skc_152 (k := 11) (by decide) (by decide)).trans m62
      have m86 := (hF1.fld hr_o0 skc_152 (k := 8) (by decide) (by decide)).trans m65
      have m87 := (hF1.fld hr_o0 skc_152 (k := 12) (by decide) (by decide)).trans m66
      have m88 := (hF1.fld hr_o0 skc_152 (k := 9) (by decide) (by decide)).trans m67
      have m89 := m68.kept (hF1.arr hr_th skc_153 (by decide))
      have m90 := m69.kept (hF1.arr hr_sp9 skc_162 (by decide))
      have m91 := m70.kept (hF1.arr hr_kn9 skc_155 (by decide))
      have m92 := m71.kept (hF1.arr hr_sf9 skc_160 (by decide))
      have m93 := m72.kept (hF1.arr hr_st9 skc_161 (by decide))
      have m94 := (el_kept (hF1.arr hr_th skc_153 (by decide))).trans m73
      have hF := hF.more hF1 (by decide)
      try dsimp only at hw79
      obtain ⟨h99, h100, hf101, hf102, hf103⟩ := hw79
      refine lv_if_eq (tgt := 214) hx hb dX4_readLine_203 (by decide) (fun c104 => ?_) (fun c104 => ?_)
      · have t105 : r78.toInt = 0 := ti_eq c104 rfl (by decide)
        refine lv_iconst (v := 1) hx hb dX4_readLine_214 (by decide) ?_
        refine lv_goto (tgt := 219) hx hb dX4_readLine_215 (by decide) ?_
        refine lv_istore_n (lv' := [(2, .int 1), (1, .int 5), (0, .ref o0)]) hx hb dX4_readLine_219 rfl hl (by decide) rfl (fun ls hl => ?_)
        refine lv_aload_n hx hb dX4_readLine_220 rfl (lv_at hl 2 rfl) ?_
        refine tw_getM (v := .ref st9) hx hb hts bF2_X4 hown hK hT hr_o0 shc_152 rfl 8 (by decide) (ht_at2 hts 14 rfl) (fun _ h9 => h9) m86 dX4_readLine_221 ?_
        refine lv_aload_n hx hb dX4_readLine_224 rfl (lv_at hl 2 rfl) ?_
        refine tw_getM (v := .int ln) hx hb hts bF2_X4 hown hK hT hr_o0 shc_152 rfl 11 (by decide) (ht_at2 hts 7 rfl) (fun _ h9 => h9) m83 dX4_readLine_225 ?_
        refine lv_aload_n hx hb dX4_readLine_228 rfl (lv_at hl 2 rfl) ?_
        refine tw_getM (v := .int s0) hx hb hts bF2_X4 hown hK hT hr_o0 shc_152 rfl 12 (by decide) (ht_at2 hts 9 rfl) (fun _ h9 => h9) m87 dX4_readLine_229 ?_
        refine tw_iast (i := ln) (x := s0) hx hb hK hT hG hS hr_st9 shc_161 rfl (vin_t (a := ln.toInt) rfl (by omega) (by omega)) (gi_of (show s0.toInt = s0.toInt from rfl) (by omega) (by omega)) dX4_readLine_232 (fun H locs hT oq m106 oi hS => ?_)
        have hF := hF.ast hr_st9 skc_161 oq (by decide)
        have m112 := (el_kept (oq _ (gne hr_o0 hr_st9 (by decide)))).trans m87
        have m115 := m90.kept (oq _ (gne hr_sp9 hr_st9 (by decide)))
        have m116 := m91.kept (oq _ (gne hr_kn9 hr_st9 (by decide)))
        have m117 := m92.kept (oq _ (gne hr_sf9 hr_st9 (by decide)))
        have m118 := m93.put m106 oi
        have m123 := (el_kept (oq _ (gne hr_o0 hr_st9 (by decide)))).trans m81
        refine lv_iload_n hx hb dX4_readLine_233 rfl (lv_at hl 0 rfl) ?_
        exact W.zret (v := 1) hx hb hr (by decide) (fun t ht hW => ⟨⟨1, (u80, s0, vS, (cu vK ln.toNatClampNeg (5 : Int32)), (cu vF ln.toNatClampNeg s0), (cu vE ln.toNatClampNeg s0)), rfl, (by exact ⟨(by have q8 := ti_all u80; omega), (by have q8 := ti_all s0; omega), (rg_t (a := 1) (by decide) (by first | decide | omega) (by first | decide | omega)), (by omega), (by omega), (by have : (0 : Int32).toInt = 0 := (by decide); have : (1 : Int32).toInt = 1 := (by decide); have : (5 : Int32).toInt = 5 := (by decide); have : (6 : Int32).toInt = 6 := (by decide); have : (7 : Int32).toInt = 7 := (by decide); have : (8 : Int32).toInt = 8 := (by decide); have : (9 : Int32).toInt = 9 := (by decide); have : (-1 : Int32).toInt = -1 := (by decide); have l9 := hf24; rw [show x2.toInt = K (pS a0.toNatClampNeg) from by omega] at l9; have x9 := (show pS x27.toNatClampNeg = X (pS a0.toNatClampNeg) from by rw [show x27.toNatClampNeg = a0.toNatClampNeg + 1 from by have := tn_of (show a0.toInt = a0.toInt from rfl) (by omega); have := tn_of (show x27.toInt = x27.toInt from rfl) (by omega); omega]; exact hXX _ (by have := tn_of (show a0.toInt = a0.toInt from rfl) (by omega); have := tn_of (show tn.toInt = tn.toInt from rfl) (by omega); omega)); have h200 := hf102; rw [show (19 : Int32).toInt = 19 from by decide, show r78.toInt = 0 from by omega] at h200; have y9 := h200.resolve_left (fun h8 => by have := h8.2.1; omega); exact Or.inr (Or.inr (Or.inr (Or.inr (Or.inl ⟨by omega, by rw [← x9]; exact Or.inl ⟨y9.1, by decide, y9.2.2⟩⟩))))), (zKp.rf.st (Nat.le_refl _)), (zKp.rf.st (Nat.le_refl _)), (zKp.rf.st (Nat.le_refl _)), zKp.rf, (fun _ => by have : (0 : Int32).toInt = 0 := (by decide); have : (1 : Int32).toInt = 1 := (by decide); have : (5 : Int32).toInt = 5 := (by decide); have : (6 : Int32).toInt = 6 := (by decide); have : (7 : Int32).toInt = 7 := (by decide); have : (8 : Int32).toInt = 8 := (by decide); have : (9 : Int32).toInt = 9 := (by decide); have : (-1 : Int32).toInt = -1 := (by decide); have l9 := hf24; rw [show x2.toInt = K (pS a0.toNatClampNeg) from by omega] at l9; have x9 := (show pS x27.toNatClampNeg = X (pS a0.toNatClampNeg) from by rw [show x27.toNatClampNeg = a0.toNatClampNeg + 1 from by have := tn_of (show a0.toInt = a0.toInt from rfl) (by omega); have := tn_of (show x27.toInt = x27.toInt from rfl) (by omega); omega]; exact hXX _ (by have := tn_of (show a0.toInt = a0.toInt from rfl) (by omega); have := tn_of (show tn.toInt = tn.toInt from rfl) (by omega); omega)); have h200 := hf102; rw [show (19 : Int32).toInt = 19 from by decide, show r78.toInt = 0 from by omega] at h200; have y9 := h200.resolve_left (fun h8 => by have := h8.2.1; omega); exact ⟨((lkT (K (pS a0.toNatClampNeg))), (zC (tz vS) s0.toNatClampNeg s0.toNatClampNeg)), ⟨rfl, Or.inr (Or.inr (Or.inr (Or.inl ⟨by omega, by rw [← x9]; exact Or.inl ⟨y9.1, zC_0, y9.2.2⟩⟩)))⟩, (congrArg Int32.toInt (cu_s rfl)).trans (by omega), fun _ => ⟨congrArg Int32.toNatClampNeg (cu_s rfl), congrArg Int32.toNatClampNeg (cu_s rfl), rfl⟩⟩)⟩), by (try dsimp only); rw [ht]; exact ⟨hT, hF, m123, m112, m115, m116, m117, m118⟩⟩, hS.F ht⟩) hS.2.2 dX4_readLine_234
      · have t124 : r78.toInt ≠ 0 := ti_ne c104 rfl (by decide)
        refine lv_aload_n hx hb dX4_readLine_206 rfl (lv_at hl 1 rfl) ?_
        refine lv_iconst (v := 0) hx hb dX4_readLine_207 (by decide) ?_
        have hFc := gA_free hG hA hS
        refine va_calli (va_runV (As := [.int 0]) (rest := []) ⟨hx, hb, hml, hown, hts⟩ (c_readAny0 l dC dI kA adK adV G H nC nS o0 th u80 s0 sp9 vT vS tv ix_tv ix_tv K X pS hT hr_o0 m82 hr_th m81 m87 m88 hr_sp9 (by have q8 := ti_all ix_tv; omega) (by have q8 := ti_all u80; omega) (by have := (show u80.toInt = u80.toInt from rfl); have := (show ix_tv.toInt = ix_tv.toInt from rfl); omega) (fun m hm => hKK m (Nat.le_trans hm (Nat.le_of_eq (tn_same hx_tv rfl rfl)))) (fun m hm => hXX m (Nat.lt_of_lt_of_eq hm (tn_same hx_tv rfl rfl))) (by have q8 := ti_all s0; omega) (by have := (show s0.toInt = s0.toInt from rfl); have := (show u80.toInt = u80.toInt from rfl); omega) m89 m90 (by have q9 := (show ix_tv.toInt = ix_tv.toInt from rfl); have := (show ix_tv.toInt = ix_tv.toInt from rfl); omega) m94 (by have q8 := ti_all tv; omega) (by omega) (by omega)) (cwV 1 hts (goodIn_app (goodIn_r _ [42, 43, 44, 6] rfl (by decide +kernel)) (goodIn_ca (goodIn_r _ [16, 17, 18, 1, 2, 16, 19, 20, 21, 22, 10, 23, 24, 25, 26, 6, 27, 28, 29, 11, 12, 13, 14, 30, 31, 32, 33, 34, 35, 36, 37, 38, 39, 40, 41, 42, 43, 44] rfl (by decide +kernel)) (bs2_in _ _))) rfl rfl rfl (by decide +kernel) ⟨(Nat.le_of_ble_eq_true rfl), (Nat.le_of_ble_eq_true rfl)⟩) ⟨fun a U g mk q => by obtain ⟨q0, q1, qK, qE⟩ := q; exact ⟨q0, q1, va_K.moved (u := U) (U := U.calling g mk a) (Vm.Alike.refl U.vm) qK, EVC.blind g mk a qE⟩, gH_rc hK hT hr_o0 shc_152 rfl, fun U hU hW => ⟨rfl, hU, va_K.moved hW.alike hK, hE.call hS hFc hU hW⟩⟩ rfl rfl hl.1 rfl (lv_room (Nat.le_of_ble_eq_true rfl)) dX4_readLine_208 ⟨(Nat.le_of_ble_eq_true rfl), (Nat.le_of_ble_eq_true rfl)⟩) hS (fun q _ h => hFc q h) hFc (fun r125 u t H locs ht hvm hw126 hB _ _ hS => ?_)
        obtain ⟨u127, u128, u129⟩ := u
        obtain ⟨hT, hF1, m130, m131, m132⟩ := hB
        rw [ht] at hT hF1 m130 m131 m132
        have m134 := (hF1.fld hr_o0 skc_152 (k := 11) (by decide) (by decide)).trans m83
        have m137 := (hF1.fld hr_o0 skc_152 (k := 8) (by decide) (by decide)).trans m86
        have m142 := m91.kept (hF1.arr hr_kn9 skc_155 (by decide))
        have m143 := m92.kept (hF1.arr hr_sf9 skc_160 (by decide))
        have m144 := m93.kept (hF1.arr hr_st9 skc_161 (by decide))
        have hF := hF.more hF1 (by decide)
        try dsimp only at hw126
        obtain ⟨h150, h151, h152, hf153, hf154, hf155, hf156, hf157⟩ := hw126
        refine lv_if_eq (tgt := 218) hx hb dX4_readLine_211 (by decide) (fun c158 => ?_) (fun c158 => ?_)
        · have t159 : r125.toInt = 0 := ti_eq c158 rfl (by decide)
          refine lv_iconst (v := 0) hx hb dX4_readLine_218 (by decide) ?_
          refine lv_istore_n (lv' := [(2, .int 0), (1, .int 5), (0, .ref o0)]) hx hb dX4_readLine_219 rfl hl (by decide) rfl (fun ls hl => ?_)
          refine lv_aload_n hx hb dX4_readLine_220 rfl (lv_at hl 2 rfl) ?_
          refine tw_getM (v := .ref st9) hx hb hts bF2_X4 hown hK hT hr_o0 shc_152 rfl 8 (by decide) (ht_at2 hts 14 rfl) (fun _ h9 => h9) m137 dX4_readLine_221 ?_
          refine lv_aload_n hx hb dX4_readLine_224 rfl (lv_at hl 2 rfl) ?_
          refine tw_getM (v := .int ln) hx hb hts bF2_X4 hown hK hT hr_o0 shc_152 rfl 11 (by decide) (ht_at2 hts 7 rfl) (fun _ h9 => h9) m134 dX4_readLine_225 ?_
          refine lv_aload_n hx hb dX4_readLine_228 rfl (lv_at hl 2 rfl) ?_
          refine tw_getM (v := .int u128) hx hb hts bF2_X4 hown hK hT hr_o0 shc_152 rfl 12 (by decide) (ht_at2 hts 9 rfl) (fun _ h9 => h9) m131 dX4_readLine_229 ?_
          refine tw_iast (i := ln) (x := u128) hx hb hK hT hG hS hr_st9 shc_161 rfl (vin_t (a := ln.toInt) rfl (by omega) (by omega)) (gi_of (show u128.toInt = u128.toInt from rfl) (by omega) (by omega)) dX4_readLine_232 (fun H locs hT oq m160 oi hS => ?_)
          have hF := hF.ast hr_st9 skc_161 oq (by decide)
          have m168 := m142.kept (oq _ (gne hr_kn9 hr_st9 (by decide)))
          have m169 := m143.kept (oq _ (gne hr_sf9 hr_st9 (by decide)))
          have m170 := m144.put m160 oi
          have m175 := (el_kept (oq _ (gne hr_o0 hr_st9 (by decide)))).trans m130
          have m176 := (el_kept (oq _ (gne hr_o0 hr_st9 (by decide)))).trans m131
          have m177 := m132.kept (oq _ (gne hr_sp9 hr_st9 (by decide)))
          refine lv_iload_n hx hb dX4_readLine_233 rfl (lv_at hl 0 rfl) ?_
          exact W.zret (v := 0) hx hb hr (by decide) (fun t ht hW => ⟨⟨0, (u127, u128, u129, (cu vK ln.toNatClampNeg (5 : Int32)), (cu vF ln.toNatClampNeg s0), (cu vE ln.toNatClampNeg u128)), rfl, (by exact ⟨(by have q8 := ti_all u127; omega), (by have q8 := ti_all u128; omega), (rg_t (a := 0) (by decide) (by first | decide | omega) (by first | decide | omega)), (by omega), (by omega), (by have : (0 : Int32).toInt = 0 := (by decide); have : (1 : Int32).toInt = 1 := (by decide); have : (5 : Int32).toInt = 5 := (by decide); have : (6 : Int32).toInt = 6 := (by decide); have : (7 : Int32).toInt = 7 := (by decide); have : (8 : Int32).toInt = 8 := (by decide); have : (9 : Int32).toInt = 9 := (by decide); have : (-1 : Int32).toInt = -1 := (by decide); have l9 := hf24; rw [show x2.toInt = K (pS a0.toNatClampNeg) from by omega] at l9; have x9 := (show pS x27.toNatClampNeg = X (pS a0.toNatClampNeg) from by rw [show x27.toNatClampNeg = a0.toNatClampNeg + 1 from by have := tn_of (show a0.toInt = a0.toInt from rfl) (by omega); have := tn_of (show x27.toInt = x27.toInt from rfl) (by omega); omega]; exact hXX _ (by have := tn_of (show a0.toInt = a0.toInt from rfl) (by omega); have := tn_of (show tn.toInt = tn.toInt from rfl) (by omega); omega)); have h200 := hf102; rw [show (19 : Int32).toInt = 19 from by decide, show r78.toInt = 1 from by omega] at h200; have h208 := hf155; rw [show r125.toInt = 0 from by omega] at h208; have y9 := h200.resolve_right (fun h8 => by have := h8.2.1; omega); rw [y9.2.2] at h208; exact Or.inr (Or.inr (Or.inr (Or.inr (Or.inl ⟨by omega, by rw [← x9]; exact Or.inr ⟨y9.1, h208⟩⟩))))), (zKp.rf.st (Nat.le_refl _)), (zKp.rf.st (Nat.le_refl _)), (zKp.rf.st (Nat.le_refl _)), (zKp.rf.tr hf156 (by have := tn_of (show s0.toInt = s0.toInt from rfl) (by omega); omega)), (fun h8 => absurd h8 (by decide))⟩), by (try dsimp only); rw [ht]; exact ⟨hT, hF, m175, m176, m177, m168, m169, m170⟩⟩, hS.F ht⟩) hS.2.2 dX4_readLine_234
        · have t178 : r125.toInt ≠ 0 := ti_ne c158 rfl (by decide)
          refine lv_iconst (v := 1) hx hb dX4_readLine_214 (by decide) ?_
          refine lv_goto (tgt := 219) hx hb dX4_readLine_215 (by decide) ?_
          refine lv_istore_n (lv' := [(2, .int 1), (1, .int 5), (0, .ref o0)]) hx hb dX4_readLine_219 rfl hl (by decide) rfl (fun ls hl => ?_)
          refine lv_aload_n hx hb dX4_readLine_220 rfl (lv_at hl 2 rfl) ?_
          refine tw_getM (v := .ref st9) hx hb hts bF2_X4 hown hK hT hr_o0 shc_152 rfl 8 (by decide) (ht_at2 hts 14 rfl) (fun _ h9 => h9) m137 dX4_readLine_221 ?_
          refine lv_aload_n hx hb dX4_readLine_224 rfl (lv_at hl 2 rfl) ?_
          refine tw_getM (v := .int ln) hx hb hts bF2_X4 hown hK hT hr_o0 shc_152 rfl 11 (by decide) (ht_at2 hts 7 rfl) (fun _ h9 => h9) m134 dX4_readLine_225 ?_
          refine lv_aload_n hx hb dX4_readLine_228 rfl (lv_at hl 2 rfl) ?_
          refine tw_getM (v := .int u128) hx hb hts bF2_X4 hown hK hT hr_o0 shc_152 rfl 12 (by decide) (ht_at2 hts 9 rfl) (fun _ h9 => h9) m131 dX4_readLine_229 ?_
          refine tw_iast (i := ln) (x := u128) hx hb hK hT hG hS hr_st9 shc_161 rfl (vin_t (a := ln.toInt) rfl (by omega) (by omega)) (gi_of (show u128.toInt = u128.toInt from rfl) (by omega) (by omega)) dX4_readLine_232 (fun H locs hT oq m179 oi hS => ?_)
          have hF := hF.ast hr_st9 skc_161 oq (by decide)
          have m187 := m142.kept (oq _ (gne hr_kn9 hr_st9 (by decide)))
          have m188 := m143.kept (oq _ (gne hr_sf9 hr_st9 (by decide)))
          have m189 := m144.put m179 oi
          have m194 := (el_kept (oq _ (gne hr_o0 hr_st9 (by decide)))).trans m130
          have m195 := (el_kept (oq _ (gne hr_o0 hr_st9 (by decide)))).trans m131
          have m196 := m132.kept (oq _ (gne hr_sp9 hr_st9 (by decide)))
          refine lv_iload_n hx hb dX4_readLine_233 rfl (lv_at hl 0 rfl) ?_
          exact W.zret (v := 1) hx hb hr (by decide) (fun t ht hW => ⟨⟨1, (u127, u128, u129, (cu vK ln.toNatClampNeg (5 : Int32)), (cu vF ln.toNatClampNeg s0), (cu vE ln.toNatClampNeg u128)), rfl, (by exact ⟨(by have q8 := ti_all u127; omega), (by have q8 := ti_all u128; omega), (rg_t (a := 1) (by decide) (by first | decide | omega) (by first | decide | omega)), (by omega), (by omega), (by have : (0 : Int32).toInt = 0 := (by decide); have : (1 : Int32).toInt = 1 := (by decide); have : (5 : Int32).toInt = 5 := (by decide); have : (6 : Int32).toInt = 6 := (by decide); have : (7 : Int32).toInt = 7 := (by decide); have : (8 : Int32).toInt = 8 := (by decide); have : (9 : Int32).toInt = 9 := (by decide); have : (-1 : Int32).toInt = -1 := (by decide); have l9 := hf24; rw [show x2.toInt = K (pS a0.toNatClampNeg) from by omega] at l9; have x9 := (show pS x27.toNatClampNeg = X (pS a0.toNatClampNeg) from by rw [show x27.toNatClampNeg = a0.toNatClampNeg + 1 from by have := tn_of (show a0.toInt = a0.toInt from rfl) (by omega); have := tn_of (show x27.toInt = x27.toInt from rfl) (by omega); omega]; exact hXX _ (by have := tn_of (show a0.toInt = a0.toInt from rfl) (by omega); have := tn_of (show tn.toInt = tn.toInt from rfl) (by omega); omega)); have h200 := hf102; rw [show (19 : Int32).toInt = 19 from by decide, show r78.toInt = 1 from by omega] at h200; have h208 := hf155; rw [show r125.toInt = 1 from by omega] at h208; have y9 := h200.resolve_right (fun h8 => by have := h8.2.1; omega); rw [y9.2.2] at h208; exact Or.inr (Or.inr (Or.inr (Or.inr (Or.inl ⟨by omega, by rw [← x9]; exact Or.inr ⟨y9.1, h208⟩⟩))))), (zKp.rf.st (Nat.le_refl _)), (zKp.rf.st (Nat.le_refl _)), (zKp.rf.st (Nat.le_refl _)), (zKp.rf.tr hf156 (by have := tn_of (show s0.toInt = s0.toInt from rfl) (by omega); omega)), (fun _ => by have : (0 : Int32).toInt = 0 := (by decide); have : (1 : Int32).toInt = 1 := (by decide); have : (5 : Int32).toInt = 5 := (by decide); have : (6 : Int32).toInt = 6 := (by decide); have : (7 : Int32).toInt = 7 := (by decide); have : (8 : Int32).toInt = 8 := (by decide); have : (9 : Int32).toInt = 9 := (by decide); have : (-1 : Int32).toInt = -1 := (by decide); have l9 := hf24; rw [show x2.toInt = K (pS a0.toNatClampNeg) from by omega] at l9; have x9 := (show pS x27.toNatClampNeg = X (pS a0.toNatClampNeg) from by rw [show x27.toNatClampNeg = a0.toNatClampNeg + 1 from by have := tn_of (show a0.toInt = a0.toInt from rfl) (by omega); have := tn_of (show x27.toInt = x27.toInt from rfl) (by omega); omega]; exact hXX _ (by have := tn_of (show a0.toInt = a0.toInt from rfl) (by omega); have := tn_of (show tn.toInt = tn.toInt from rfl) (by omega); omega)); have h200 := hf102; rw [show (19 : Int32).toInt = 19 from by decide, show r78.toInt = 1 from by omega] at h200; have z9 := hf157 (by omega); have y9 := h200.resolve_right (fun h8 => by have := h8.2.1; omega); rw [y9.2.2] at z9; exact ⟨((lkT (K (pS a0.toNatClampNeg))), (zC (tz u129) s0.toNatClampNeg u128.toNatClampNeg)), ⟨rfl, Or.inr (Or.inr (Or.inr (Or.inl ⟨by omega, by rw [← x9]; exact Or.inr ⟨y9.1, z9⟩⟩)))⟩, (congrArg Int32.toInt (cu_s rfl)).trans (by omega), fun _ => ⟨congrArg Int32.toNatClampNeg (cu_s rfl), congrArg Int32.toNatClampNeg (cu_s rfl), rfl⟩⟩)⟩), by (try dsimp only); rw [ht]; exact ⟨hT, hF, m194, m195, m196, m187, m188, m189⟩⟩, hS.F ht⟩) hS.2.2 dX4_readLine_234
    by_cases hs197 : r5 = 6
    · subst hs197
      refine lv_tableIn (x := 6) (off := 125) (tgt := 179) hx hb dX4_readLine_54 (by decide) (by decide) (by decide) (by decide) ?_
      refine lv_goto (tgt := 197) hx hb dX4_readLine_179 (by decide) ?_
      refine lv_aload_n hx hb dX4_readLine_197 rfl (lv_at hl 1 rfl) ?_
      refine lv_bipush (v := 19) hx hb dX4_readLine_198 (by decide) ?_
      have hFc := gA_free hG hA hS
      refine va_calli (va_runV (As := [.int 19]) (rest := []) ⟨hx, hb, hml, hown, hts⟩ (c_take l dC dI kA adK adV G H nC nS o0 19 th x27 vT tv ix_tv ix_tv K X pS hT hr_o0 m61 hr_th m75 (by have q8 := ti_all ix_tv; omega) (by have q8 := ti_all x27; omega) (by have := (show x27.toInt = x27.toInt from rfl); have := (show ix_tv.toInt = ix_tv.toInt from rfl); omega) (by have := (show (19 : Int32).toInt = 19 from (by decide)); omega) (fun m hm => hKK m (Nat.le_trans hm (Nat.le_of_eq (tn_same hx_tv rfl rfl)))) (fun m hm => hXX m (Nat.lt_of_lt_of_eq hm (tn_same hx_tv rfl rfl))) m68 (by have q9 := (show ix_tv.toInt = ix_tv.toInt from rfl); have := (show ix_tv.toInt = ix_tv.toInt from rfl); omega) m73 (by have q8 := ti_all tv; omega) (by omega) (by omega)) (cwV 1 hts (goodIn_app (goodIn_r _ [12, 13, 14, 6] rfl (by decide +kernel)) (goodIn_ca (goodIn_r _ [11, 1, 2] rfl (by decide +kernel)) (bs2_in _ _))) rfl rfl rfl (by decide +kernel) ⟨(Nat.le_of_ble_eq_true rfl), (Nat.le_of_ble_eq_true rfl)⟩) ⟨fun a U g mk q => by obtain ⟨q0, q1, qK, qE⟩ := q; exact ⟨q0, q1, va_K.moved (u := U) (U := U.calling g mk a) (Vm.Alike.refl U.vm) qK, EVC.blind g mk a qE⟩, gH_rc hK hT hr_o0 shc_152 rfl, fun U hU hW => ⟨rfl, hU, va_K.moved hW.alike hK, hE.call hS hFc hU hW⟩⟩ rfl rfl hl.1 rfl (lv_room (Nat.le_of_ble_eq_true rfl)) dX4_readLine_200 ⟨(Nat.le_of_ble_eq_true rfl), (Nat.le_of_ble_eq_true rfl)⟩) hS (fun q _ h => hFc q h) hFc (fun r198 u t H locs ht hvm hw199 hB _ _ hS => ?_)
      obtain ⟨u200, rfl⟩ : ∃ z, z = u := ⟨_, rfl⟩
      obtain ⟨hT, hF1, m201⟩ := hB
      rw [ht] at hT hF1 m201
      have m202 := (hF1.fld hr_o0 skc_152 (k := 0) (by decide) (by decide)).trans m61
      have m203 := (hF1.fld hr_o0 skc_152 (k := 11) (by decide) (by decide)).trans m62
      have m206 := (hF1.fld hr_o0 skc_152 (k := 8) (by decide) (by decide)).trans m65
      have m207 := (hF1.fld hr_o0 skc_152 (k := 12) (by decide) (by decide)).trans m66
      have m208 := (hF1.fld hr_o0 skc_152 (k := 9) (by decide) (by decide)).trans m67
      have m209 := m68.kept (hF1.arr hr_th skc_153 (by decide))
      have m210 := m69.kept (hF1.arr hr_sp9 skc_162 (by decide))
      have m211 := m70.kept (hF1.arr hr_kn9 skc_155 (by decide))
      have m212 := m71.kept (hF1.arr hr_sf9 skc_160 (by decide))
      have m213 := m72.kept (hF1.arr hr_st9 skc_161 (by decide))
      have m214 := (el_kept (hF1.arr hr_th skc_153 (by decide))).trans m73
      have hF := hF.more hF1 (by decide)
      try dsimp only at hw199
      obtain ⟨h219, h220, hf221, hf222, hf223⟩ := hw199
      refine lv_if_eq (tgt := 214) hx hb dX4_readLine_203 (by decide) (fun c224 => ?_) (fun c224 => ?_)
      · have t225 : r198.toInt = 0 := ti_eq c224 rfl (by decide)
        refine lv_iconst (v := 1) hx hb dX4_readLine_214 (by decide) ?_
        refine lv_goto (tgt := 219) hx hb dX4_readLine_215 (by decide) ?_
        refine lv_istore_n (lv' := [(2, .int 1), (1, .int 6), (0, .ref o0)]) hx hb dX4_readLine_219 rfl hl (by decide) rfl (fun ls hl => ?_)
        refine lv_aload_n hx hb dX4_readLine_220 rfl (lv_at hl 2 rfl) ?_
        refine tw_getM (v := .ref st9) hx hb hts bF2_X4 hown hK hT hr_o0 shc_152 rfl 8 (by decide) (ht_at2 hts 14 rfl) (fun _ h9 => h9) m206 dX4_readLine_221 ?_
        refine lv_aload_n hx hb dX4_readLine_224 rfl (lv_at hl 2 rfl) ?_
        refine tw_getM (v := .int ln) hx hb hts bF2_X4 hown hK hT hr_o0 shc_152 rfl 11 (by decide) (ht_at2 hts 7 rfl) (fun _ h9 => h9) m203 dX4_readLine_225 ?_
        refine lv_aload_n hx hb dX4_readLine_228 rfl (lv_at hl 2 rfl) ?_
        refine tw_getM (v := .int s0) hx hb hts bF2_X4 hown hK hT hr_o0 shc_152 rfl 12 (by decide) (ht_at2 hts 9 rfl) (fun _ h9 => h9) m207 dX4_readLine_229 ?_
        refine tw_iast (i := ln) (x := s0) hx hb hK hT hG hS hr_st9 shc_161 rfl (vin_t (a := ln.toInt) rfl (by omega) (by omega)) (gi_of (show s0.toInt = s0.toInt from rfl) (by omega) (by omega)) dX4_readLine_232 (fun H locs hT oq m226 oi hS => ?_)
        have hF := hF.ast hr_st9 skc_161 oq (by decide)
        have m232 := (el_kept (oq _ (gne hr_o0 hr_st9 (by decide)))).trans m207
        have m235 := m210.kept (oq _ (gne hr_sp9 hr_st9 (by decide)))
        have m236 := m211.kept (oq _ (gne hr_kn9 hr_st9 (by decide)))
        have m237 := m212.kept (oq _ (gne hr_sf9 hr_st9 (by decide)))
        have m238 := m213.put m226 oi
        have m243 := (el_kept (oq _ (gne hr_o0 hr_st9 (by decide)))).trans m201
        refine lv_iload_n hx hb dX4_readLine_233 rfl (lv_at hl 0 rfl) ?_
        exact W.zret (v := 1) hx hb hr (by decide) (fun t ht hW => ⟨⟨1, (u200, s0, vS, (cu vK ln.toNatClampNeg (6 : Int32)), (cu vF ln.toNatClampNeg s0), (cu vE ln.toNatClampNeg s0)), rfl, (by exact ⟨(by have q8 := ti_all u200; omega), (by have q8 := ti_all s0; omega), (rg_t (a := 1) (by decide) (by first | decide | omega) (by first | decide | omega)), (by omega), (by omega), (by have : (0 : Int32).toInt = 0 := (by decide); have : (1 : Int32).toInt = 1 := (by decide); have : (5 : Int32).toInt = 5 := (by decide); have : (6 : Int32).toInt = 6 := (by decide); have : (7 : Int32).toInt = 7 := (by decide); have : (8 : Int32).toInt = 8 := (by decide); have : (9 : Int32).toInt = 9 := (by decide); have : (-1 : Int32).toInt = -1 := (by decide); have l9 := hf24; rw [show x2.toInt = K (pS a0.toNatClampNeg) from by omega] at l9; have x9 := (show pS x27.toNatClampNeg = X (pS a0.toNatClampNeg) from by rw [show x27.toNatClampNeg = a0.toNatClampNeg + 1 from by have := tn_of (show a0.toInt = a0.toInt from rfl) (by omega); have := tn_of (show x27.toInt = x27.toInt from rfl) (by omega); omega]; exact hXX _ (by have := tn_of (show a0.toInt = a0.toInt from rfl) (by omega); have := tn_of (show tn.toInt = tn.toInt from rfl) (by omega); omega)); have h200 := hf222; rw [show (19 : Int32).toInt = 19 from by decide, show r198.toInt = 0 from by omega] at h200; have y9 := h200.resolve_left (fun h8 => by have := h8.2.1; omega); exact Or.inr (Or.inr (Or.inr (Or.inr (Or.inl ⟨by omega, by rw [← x9]; exact Or.inl ⟨y9.1, by decide, y9.2.2⟩⟩))))), (zKp.rf.st (Nat.le_refl _)), (zKp.rf.st (Nat.le_refl _)), (zKp.rf.st (Nat.le_refl _)), zKp.rf, (fun _ => by have : (0 : Int32).toInt = 0 := (by decide); have : (1 : Int32).toInt = 1 := (by decide); have : (5 : Int32).toInt = 5 := (by decide); have : (6 : Int32).toInt = 6 := (by decide); have : (7 : Int32).toInt = 7 := (by decide); have : (8 : Int32).toInt = 8 := (by decide); have : (9 : Int32).toInt = 9 := (by decide); have : (-1 : Int32).toInt = -1 := (by decide); have l9 := hf24; rw [show x2.toInt = K (pS a0.toNatClampNeg) from by omega] at l9; have x9 := (show pS x27.toNatClampNeg = X (pS a0.toNatClampNeg) from by rw [show x27.toNatClampNeg = a0.toNatClampNeg + 1 from by have := tn_of (show a0.toInt = a0.toInt from rfl) (by omega); have := tn_of (show x27.toInt = x27.toInt from rfl) (by omega); omega]; exact hXX _ (by have := tn_of (show a0.toInt = a0.toInt from rfl) (by omega); have := tn_of (show tn.toInt = tn.toInt from rfl) (by omega); omega)); have h200 := hf222; rw [show (19 : Int32).toInt = 19 from by decide, show r198.toInt = 0 from by omega] at h200; have y9 := h200.resolve_left (fun h8 => by have := h8.2.1; omega); exact ⟨((lkT (K (pS a0.toNatClampNeg))), (zC (tz vS) s0.toNatClampNeg s0.toNatClampNeg)), ⟨rfl, Or.inr (Or.inr (Or.inr (Or.inl ⟨by omega, by rw [← x9]; exact Or.inl ⟨y9.1, zC_0, y9.2.2⟩⟩)))⟩, (congrArg Int32.toInt (cu_s rfl)).trans (by omega), fun _ => ⟨congrArg Int32.toNatClampNeg (cu_s rfl), congrArg Int32.toNatClampNeg (cu_s rfl), rfl⟩⟩)⟩), by (try dsimp only); rw [ht]; exact ⟨hT, hF, m243, m232, m235, m236, m237, m238⟩⟩, hS.F ht⟩) hS.2.2 dX4_readLine_234
      · have t244 : r198.toInt ≠ 0 := ti_ne c224 rfl (by decide)
        refine lv_aload_n hx hb dX4_readLine_206 rfl (lv_at hl 1 rfl) ?_
        refine lv_iconst (v := 0) hx hb dX4_readLine_207 (by decide) ?_
        have hFc := gA_free hG hA hS
        refine va_calli (va_runV (As := [.int 0]) (rest := []) ⟨hx, hb, hml, hown, hts⟩ (c_readAny0 l dC dI kA adK adV G H nC nS o0 th u200 s0 sp9 vT vS tv ix_tv ix_tv K X pS hT hr_o0 m202 hr_th m201 m207 m208 hr_sp9 (by have q8 := ti_all ix_tv; omega) (by have q8 := ti_all u200; omega) (by have := (show u200.toInt = u200.toInt from rfl); have := (show ix_tv.toInt = ix_tv.toInt from rfl); omega) (fun m hm => hKK m (Nat.le_trans hm (Nat.le_of_eq (tn_same hx_tv rfl rfl)))) (fun m hm => hXX m (Nat.lt_of_lt_of_eq hm (tn_same hx_tv rfl rfl))) (by have q8 := ti_all s0; omega) (by have := (show s0.toInt = s0.toInt from rfl); have := (show u200.toInt = u200.toInt from rfl); omega) m209 m210 (by have q9 := (show ix_tv.toInt = ix_tv.toInt from rfl); have := (show ix_tv.toInt = ix_tv.toInt from rfl); omega) m214 (by have q8 := ti_all tv; omega) (by omega) (by omega)) (cwV 1 hts (goodIn_app (goodIn_r _ [42, 43, 44, 6] rfl (by decide +kernel)) (goodIn_ca (goodIn_r _ [16, 17, 18, 1, 2, 16, 19, 20, 21, 22, 10, 23, 24, 25, 26, 6, 27, 28, 29, 11, 12, 13, 14, 30, 31, 32, 33, 34, 35, 36, 37, 38, 39, 40, 41, 42, 43, 44] rfl (by decide +kernel)) (bs2_in _ _))) rfl rfl rfl (by decide +kernel) ⟨(Nat.le_of_ble_eq_true rfl), (Nat.le_of_ble_eq_true rfl)⟩) ⟨fun a U g mk q => by obtain ⟨q0, q1, qK, qE⟩ := q; exact ⟨q0, q1, va_K.moved (u := U) (U := U.calling g mk a) (Vm.Alike.refl U.vm) qK, EVC.blind g mk a qE⟩, gH_rc hK hT hr_o0 shc_152 rfl, fun U hU hW => ⟨rfl, hU, va_K.moved hW.alike hK, hE.call hS hFc hU hW⟩⟩ rfl rfl hl.1 rfl (lv_room (Nat.le_of_ble_eq_true rfl)) dX4_readLine_208 ⟨(Nat.le_of_ble_eq_true rfl), (Nat.le_of_ble_eq_true rfl)⟩) hS (fun q _ h => hFc q h) hFc (fun r245 u t H locs ht hvm hw246 hB _ _ hS => ?_)
        obtain ⟨u247, u248, u249⟩ := u
        obtain ⟨hT, hF1, m250, m251, m252⟩ := hB
        rw [ht] at hT hF1 m250 m251 m252
        have m254 := (hF1.fld hr_o0 skc_152 (k := 11) (by decide) (by decide)).trans m203
        have m257 := (hF1.fld hr_o0 skc_152 (k := 8) (by decide) (by decide)).trans m206
        have m262 := m211.kept (hF1.arr hr_kn9 skc_155 (by decide))
        have m263 := m212.kept (hF1.arr hr_sf9 skc_160 (by decide))
        have m264 := m213.kept (hF1.arr hr_st9 skc_161 (by decide))
        have hF := hF.more hF1 (by decide)
        try dsimp only at hw246
        obtain ⟨h270, h271, h272, hf273, hf274, hf275, hf276, hf277⟩ := hw246
        refine lv_if_eq (tgt := 218) hx hb dX4_readLine_211 (by decide) (fun c278 => ?_) (fun c278 => ?_)
        · have t279 : r245.toInt = 0 := ti_eq c278 rfl (by decide)
          refine lv_iconst (v := 0) hx hb dX4_readLine_218 (by decide) ?_
          refine lv_istore_n (lv' := [(2, .int 0), (1, .int 6), (0, .ref o0)]) hx hb dX4_readLine_219 rfl hl (by decide) rfl (fun ls hl => ?_)
          refine lv_aload_n hx hb dX4_readLine_220 rfl (lv_at hl 2 rfl) ?_
          refine tw_getM (v := .ref st9) hx hb hts bF2_X4 hown hK hT hr_o0 shc_152 rfl 8 (by decide) (ht_at2 hts 14 rfl) (fun _ h9 => h9) m257 dX4_readLine_221 ?_
          refine lv_aload_n hx hb dX4_readLine_224 rfl (lv_at hl 2 rfl) ?_
          refine tw_getM (v := .int ln) hx hb hts bF2_X4 hown hK hT hr_o0 shc_152 rfl 11 (by decide) (ht_at2 hts 7 rfl) (fun _ h9 => h9) m254 dX4_readLine_225 ?_
          refine lv_aload_n hx hb dX4_readLine_228 rfl (lv_at hl 2 rfl) ?_
          refine tw_getM (v := .int u248) hx hb hts bF2_X4 hown hK hT hr_o0 shc_152 rfl 12 (by decide) (ht_at2 hts 9 rfl) (fun _ h9 => h9) m251 dX4_readLine_229 ?_
          refine tw_iast (i := ln) (x := u248) hx hb hK hT hG hS hr_st9 shc_161 rfl (vin_t (a := ln.toInt) rfl (by omega) (by omega)) (gi_of (show u248.toInt = u248.toInt from rfl) (by omega) (by omega)) dX4_readLine_232 (fun H locs hT oq m280 oi hS => ?_)
          have hF := hF.ast hr_st9 skc_161 oq (by decide)
          have m288 := m262.kept (oq _ (gne hr_kn9 hr_st9 (by decide)))
          have m289 := m263.kept (oq _ (gne hr_sf9 hr_st9 (by decide)))
          have m290 := m264.put m280 oi
          have m295 := (el_kept (oq _ (gne hr_o0 hr_st9 (by decide)))).trans m250
          have m296 := (el_kept (oq _ (gne hr_o0 hr_st9 (by decide)))).trans m251
          have m297 := m252.kept (oq _ (gne hr_sp9 hr_st9 (by decide)))
          refine lv_iload_n hx hb dX4_readLine_233 rfl (lv_at hl 0 rfl) ?_
          exact W.zret (v := 0) hx hb hr (by decide) (fun t ht hW => ⟨⟨0, (u247, u248, u249, (cu vK ln.toNatClampNeg (6 : Int32)), (cu vF ln.toNatClampNeg s0), (cu vE ln.toNatClampNeg u248)), rfl, (by exact ⟨(by have q8 := ti_all u247; omega), (by have q8 := ti_all u248; omega), (rg_t (a := 0) (by decide) (by first | decide | omega) (by first | decide | omega)), (by omega), (by omega), (by have : (0 : Int32).toInt = 0 := (by decide); have : (1 : Int32).toInt = 1 := (by decide); have : (5 : Int32).toInt = 5 := (by decide); have : (6 : Int32).toInt = 6 := (by decide); have : (7 : Int32).toInt = 7 := (by decide); have : (8 : Int32).toInt = 8 := (by decide); have : (9 : Int32).toInt = 9 := (by decide); have : (-1 : Int32).toInt = -1 := (by decide); have l9 := hf24; rw [show x2.toInt = K (pS a0.toNatClampNeg) from by omega] at l9; have x9 := (show pS x27.toNatClampNeg = X (pS a0.toNatClampNeg) from by rw [show x27.toNatClampNeg = a0.toNatClampNeg + 1 from by have := tn_of (show a0.toInt = a0.toInt from rfl) (by omega); have := tn_of (show x27.toInt = x27.toInt from rfl) (by omega); omega]; exact hXX _ (by have := tn_of (show a0.toInt = a0.toInt from rfl) (by omega); have := tn_of (show tn.toInt = tn.toInt from rfl) (by omega); omega)); have h200 := hf222; rw [show (19 : Int32).toInt = 19 from by decide, show r198.toInt = 1 from by omega] at h200; have h208 := hf275; rw [show r245.toInt = 0 from by omega] at h208; have y9 := h200.resolve_right (fun h8 => by have := h8.2.1; omega); rw [y9.2.2] at h208; exact Or.inr (Or.inr (Or.inr (Or.inr (Or.inl ⟨by omega, by rw [← x9]; exact Or.inr ⟨y9.1, h208⟩⟩))))), (zKp.rf.st (Nat.le_refl _)), (zKp.rf.st (Nat.le_refl _)), (zKp.rf.st (Nat.le_refl _)), (zKp.rf.tr hf276 (by have := tn_of (show s0.toInt = s0.toInt from rfl) (by omega); omega)), (fun h8 => absurd h8 (by decide))⟩), by (try dsimp only); rw [ht]; exact ⟨hT, hF, m295, m296, m297, m288, m289, m290⟩⟩, hS.F ht⟩) hS.2.2 dX4_readLine_234
        · have t298 : r245.toInt ≠ 0 := ti_ne c278 rfl (by decide)
          refine lv_iconst (v := 1) hx hb dX4_readLine_214 (by decide) ?_
          refine lv_goto (tgt := 219) hx hb dX4_readLine_215 (by decide) ?_
          refine lv_istore_n (lv' := [(2, .int 1), (1, .int 6), (0, .ref o0)]) hx hb dX4_readLine_219 rfl hl (by decide) rfl (fun ls hl => ?_)
          refine lv_aload_n hx hb dX4_readLine_220 rfl (lv_at hl 2 rfl) ?_
          refine tw_getM (v := .ref st9) hx hb hts bF2_X4 hown hK hT hr_o0 shc_152 rfl 8 (by decide) (ht_at2 hts 14 rfl) (fun _ h9 => h9) m257 dX4_readLine_221 ?_
          refine lv_aload_n hx hb dX4_readLine_224 rfl (lv_at hl 2 rfl) ?_
          refine tw_getM (v := .int ln) hx hb hts bF2_X4 hown hK hT hr_o0 shc_152 rfl 11 (by decide) (ht_at2 hts 7 rfl) (fun _ h9 => h9) m254 dX4_readLine_225 ?_
          refine lv_aload_n hx hb dX4_readLine_228 rfl (lv_at hl 2 rfl) ?_
          refine tw_getM (v := .int u248) hx hb hts bF2_X4 hown hK hT hr_o0 shc_152 rfl 12 (by decide) (ht_at2 hts 9 rfl) (fun _ h9 => h9) m251 dX4_readLine_229 ?_
          refine tw_iast (i := ln) (x := u248) hx hb hK hT hG hS hr_st9 shc_161 rfl (vin_t (a := ln.toInt) rfl (by omega) (by omega)) (gi_of (show u248.toInt = u248.toInt from rfl) (by omega) (by omega)) dX4_readLine_232 (fun H locs hT oq m299 oi hS => ?_)
          have hF := hF.ast hr_st9 skc_161 oq (by decide)
          have m307 := m262.kept (oq _ (gne hr_kn9 hr_st9 (by decide)))
          have m308 := m263.kept (oq _ (gne hr_sf9 hr_st9 (by decide)))
          have m309 := m264.put m299 oi
          have m314 := (el_kept (oq _ (gne hr_o0 hr_st9 (by decide)))).trans m250
          have m315 := (el_kept (oq _ (gne hr_o0 hr_st9 (by decide)))).trans m251
          have m316 := m252.kept (oq _ (gne hr_sp9 hr_st9 (by decide)))
          refine lv_iload_n hx hb dX4_readLine_233 rfl (lv_at hl 0 rfl) ?_
          exact W.zret (v := 1) hx hb hr (by decide) (fun t ht hW => ⟨⟨1, (u247, u248, u249, (cu vK ln.toNatClampNeg (6 : Int32)), (cu vF ln.toNatClampNeg s0), (cu vE ln.toNatClampNeg u248)), rfl, (by exact ⟨(by have q8 := ti_all u247; omega), (by have q8 := ti_all u248; omega), (rg_t (a := 1) (by decide) (by first | decide | omega) (by first | decide | omega)), (by omega), (by omega), (by have : (0 : Int32).toInt = 0 := (by decide); have : (1 : Int32).toInt = 1 := (by decide); have : (5 : Int32).toInt = 5 := (by decide); have : (6 : Int32).toInt = 6 := (by decide); have : (7 : Int32).toInt = 7 := (by decide); have : (8 : Int32).toInt = 8 := (by decide); have : (9 : Int32).toInt = 9 := (by decide); have : (-1 : Int32).toInt = -1 := (by decide); have l9 := hf24; rw [show x2.toInt = K (pS a0.toNatClampNeg) from by omega] at l9; have x9 := (show pS x27.toNatClampNeg = X (pS a0.toNatClampNeg) from by rw [show x27.toNatClampNeg = a0.toNatClampNeg + 1 from by have := tn_of (show a0.toInt = a0.toInt from rfl) (by omega); have := tn_of (show x27.toInt = x27.toInt from rfl) (by omega); omega]; exact hXX _ (by have := tn_of (show a0.toInt = a0.toInt from rfl) (by omega); have := tn_of (show tn.toInt = tn.toInt from rfl) (by omega); omega)); have h200 := hf222; rw [show (19 : Int32).toInt = 19 from by decide, show r198.toInt = 1 from by omega] at h200; have h208 := hf275; rw [show r245.toInt = 1 from by omega] at h208; have y9 := h200.resolve_right (fun h8 => by have := h8.2.1; omega); rw [y9.2.2] at h208; exact Or.inr (Or.inr (Or.inr (Or.inr (Or.inl ⟨by omega, by rw [← x9]; exact Or.inr ⟨y9.1, h208⟩⟩))))), (zKp.rf.st (Nat.le_refl _)), (zKp.rf.st (Nat.le_refl _)), (zKp.rf.st (Nat.le_refl _)), (zKp.rf.tr hf276 (by have := tn_of (show s0.toInt = s0.toInt from rfl) (by omega); omega)), (fun _ => by have : (0 : Int32).toInt = 0 := (by decide); have : (1 : Int32).toInt = 1 := (by decide); have : (5 : Int32).toInt = 5 := (by decide); have : (6 : Int32).toInt = 6 := (by decide); have : (7 : Int32).toInt = 7 := (by decide); have : (8 : Int32).toInt = 8 := (by decide); have : (9 : Int32).toInt = 9 := (by decide); have : (-1 : Int32).toInt = -1 := (by decide); have l9 := hf24; rw [show x2.toInt = K (pS a0.toNatClampNeg) from by omega] at l9; have x9 := (show pS x27.toNatClampNeg = X (pS a0.toNatClampNeg) from by rw [show x27.toNatClampNeg = a0.toNatClampNeg + 1 from by have := tn_of (show a0.toInt = a0.toInt from rfl) (by omega); have := tn_of (show x27.toInt = x27.toInt from rfl) (by omega); omega]; exact hXX _ (by have := tn_of (show a0.toInt = a0.toInt from rfl) (by omega); have := tn_of (show tn.toInt = tn.toInt from rfl) (by omega); omega)); have h200 := hf222; rw [show (19 : Int32).toInt = 19 from by decide, show r198.toInt = 1 from by omega] at h200; have z9 := hf277 (by omega); have y9 := h200.resolve_right (fun h8 => by have := h8.2.1; omega); rw [y9.2.2] at z9; exact ⟨((lkT (K (pS a0.toNatClampNeg))), (zC (tz u249) s0.toNatClampNeg u248.toNatClampNeg)), ⟨rfl, Or.inr (Or.inr (Or.inr (Or.inl ⟨by omega, by rw [← x9]; exact Or.inr ⟨y9.1, z9⟩⟩)))⟩, (congrArg Int32.toInt (cu_s rfl)).trans (by omega), fun _ => ⟨congrArg Int32.toNatClampNeg (cu_s rfl), congrArg Int32.toNatClampNeg (cu_s rfl), rfl⟩⟩)⟩), by (try dsimp only); rw [ht]; exact ⟨hT, hF, m314, m315, m316, m307, m308, m309⟩⟩, hS.F ht⟩) hS.2.2 dX4_readLine_234
    by_cases hs317 : r5 = 7
    · subst hs317
      refine lv_tableIn (x := 7) (off := 34) (tgt := 88) hx hb dX4_readLine_54 (by decide) (by decide) (by decide) (by decide) ?_
      refine lv_aload_n hx hb dX4_readLine_88 rfl (lv_at hl 1 rfl) ?_
      refine lv_sipush (v := 900) hx hb dX4_readLine_89 (by decide) ?_
      refine lv_aload_n hx hb dX4_readLine_92 rfl (lv_at hl 1 rfl) ?_
      refine tw_get hx hb hts bF2_X4 hown hK hT hr_o0 shc_152 rfl 3 (by decide) (ht_at2 hts 44 rfl) (fun _ h9 => h9) dX4_readLine_93 (fun v9 m318 h9 => ?_)
      obtain ⟨b319, rfl, hg320⟩ := h9 _ rfl
      have hFc := gA_free hG hA hS
      refine va_calli (va_runV (As := [.int 900, .ref b319]) (rest := []) ⟨hx, hb, hml, hown, hts⟩ (c_takeNumber_firsts l dC dI kA adK adV G H nC nS o0 900 b319 th x27 ln vT tv ix_tv ix_tv K X pS hT hg320 hr_o0 m61 hr_th m75 m62 (by have q8 := ti_all ix_tv; omega) (by have q8 := ti_all x27; omega) (by have := (show x27.toInt = x27.toInt from rfl); have := (show ix_tv.toInt = ix_tv.toInt from rfl); omega) (by have q8 := ti_all ln; omega) (rg_t (a := 900) (by decide) (by first | decide | omega) (by first | decide | omega)) (fun m hm => hKK m (Nat.le_trans hm (Nat.le_of_eq (tn_same hx_tv rfl rfl)))) (fun m hm => hXX m (Nat.lt_of_lt_of_eq hm (tn_same hx_tv rfl rfl))) m68 (by have q9 := (show ix_tv.toInt = ix_tv.toInt from rfl); have := (show ix_tv.toInt = ix_tv.toInt from rfl); omega) m73 (by have q8 := ti_all tv; omega) (by omega) (by omega)) (cwV 2 hts (goodIn_app (goodIn_r _ [47, 48, 49, 6] rfl (by decide +kernel)) (goodIn_ca (goodIn_r _ [46, 1, 2, 8] rfl (by decide +kernel)) (bs2_in _ _))) rfl rfl rfl (by decide +kernel) ⟨(Nat.le_of_ble_eq_true rfl), (Nat.le_of_ble_eq_true rfl)⟩) ⟨fun a U g mk q => by obtain ⟨q0, q1, qK, qE⟩ := q; exact ⟨q0, q1, va_K.moved (u := U) (U := U.calling g mk a) (Vm.Alike.refl U.vm) qK, EVC.blind g mk a qE⟩, gH_rc hK hT hr_o0 shc_152 rfl, fun U hU hW => ⟨rfl, hU, va_K.moved hW.alike hK, hE.call hS hFc hU hW⟩⟩ rfl rfl hl.1 rfl (lv_room (Nat.le_of_ble_eq_true rfl)) dX4_readLine_96 ⟨(Nat.le_of_ble_eq_true rfl), (Nat.le_of_ble_eq_true rfl)⟩) hS (fun q _ h => hFc q h) hFc (fun r321 u t H locs ht hvm hw322 hB _ _ hS => ?_)
      obtain ⟨u323, rfl⟩ : ∃ z, z = u := ⟨_, rfl⟩
      obtain ⟨hT, hF1, m324⟩ := hB
      rw [ht] at hT hF1 m324
      have m325 := (hF1.fld hr_o0 skc_152 (k := 0) (by decide) (by decide)).trans m61
      have m326 := (hF1.fld hr_o0 skc_152 (k := 11) (by decide) (by decide)).trans m62
      have m330 := (hF1.fld hr_o0 skc_152 (k := 12) (by decide) (by decide)).trans m66
      have m332 := m68.kept (hF1.arr hr_th skc_153 (by decide))
      have m333 := m69.kept (hF1.arr hr_sp9 skc_162 (by decide))
      have m334 := m70.kept (hF1.arr hr_kn9 skc_155 (by decide))
      have m335 := m71.kept (hF1.arr hr_sf9 skc_160 (by decide))
      have m336 := m72.kept (hF1.arr hr_st9 skc_161 (by decide))
      have m337 := (el_kept (hF1.arr hr_th skc_153 (by decide))).trans m73
      have hF := hF.more hF1 (by decide)
      try dsimp only at hw322
      obtain ⟨h343, h344, hf345, hf346⟩ := hw322
      refine lv_if_eq (tgt := 155) hx hb dX4_readLine_99 (by decide) (fun c347 => ?_) (fun c347 => ?_)
      · have t348 : r321.toInt = 0 := ti_eq c347 rfl (by decide)
        refine lv_iconst (v := 0) hx hb dX4_readLine_155 (by decide) ?_
        exact W.zret (v := 0) hx hb hr (by decide) (fun t ht hW => ⟨⟨0, (u323, s0, vS, (cu vK ln.toNatClampNeg (7 : Int32)), (cu vF ln.toNatClampNeg s0), vE), rfl, (by exact ⟨(by have q8 := ti_all u323; omega), (by have q8 := ti_all s0; omega), (rg_t (a := 0) (by decide) (by first | decide | omega) (by first | decide | omega)), (by omega), (by omega), (by have : (0 : Int32).toInt = 0 := (by decide); have : (1 : Int32).toInt = 1 := (by decide); have : (5 : Int32).toInt = 5 := (by decide); have : (6 : Int32).toInt = 6 := (by decide); have : (7 : Int32).toInt = 7 := (by decide); have : (8 : Int32).toInt = 8 := (by decide); have : (9 : Int32).toInt = 9 := (by decide); have : (-1 : Int32).toInt = -1 := (by decide); have l9 := hf24; rw [show x2.toInt = K (pS a0.toNatClampNeg) from by omega] at l9; have x9 := (show pS x27.toNatClampNeg = X (pS a0.toNatClampNeg) from by rw [show x27.toNatClampNeg = a0.toNatClampNeg + 1 from by have := tn_of (show a0.toInt = a0.toInt from rfl) (by omega); have := tn_of (show x27.toInt = x27.toInt from rfl) (by omega); omega]; exact hXX _ (by have := tn_of (show a0.toInt = a0.toInt from rfl) (by omega); have := tn_of (show tn.toInt = tn.toInt from rfl) (by omega); omega)); have h96 := hf346; rw [show (900 : Int32).toInt = 900 from by decide, show r321.toInt = 0 from by omega] at h96; rw [x9] at h96; exact Or.inr (Or.inl ⟨by omega, Or.inl ⟨h96, by decide⟩⟩)), (zKp.rf.st (Nat.le_refl _)), (zKp.rf.st (Nat.le_refl _)), zKp.rf, zKp.rf, (fun h8 => absurd h8 (by decide))⟩), by (try dsimp only); rw [ht]; exact ⟨hT, hF, m324, m330, m333, m334, m335, m336⟩⟩, hS.F ht⟩) hS.2.2 dX4_readLine_156
      · have t349 : r321.toInt ≠ 0 := ti_ne c347 rfl (by decide)
        refine lv_aload_n hx hb dX4_readLine_102 rfl (lv_at hl 1 rfl) ?_
        refine lv_sipush (v := 900) hx hb dX4_readLine_103 (by decide) ?_
        refine lv_aload_n hx hb dX4_readLine_106 rfl (lv_at hl 1 rfl) ?_
        refine tw_get hx hb hts bF2_X4 hown hK hT hr_o0 shc_152 rfl 4 (by decide) (ht_at2 hts 49 rfl) (fun _ h9 => h9) dX4_readLine_107 (fun v9 m350 h9 => ?_)
        obtain ⟨b351, rfl, hg352⟩ := h9 _ rfl
        have hFc := gA_free hG hA hS
        refine va_calli (va_runV (As := [.int 900, .ref b351]) (rest := []) ⟨hx, hb, hml, hown, hts⟩ (c_takeNumber_seconds l dC dI kA adK adV G H nC nS o0 900 b351 th u323 ln vT tv ix_tv ix_tv K X pS hT hg352 hr_o0 m325 hr_th m324 m326 (by have q8 := ti_all ix_tv; omega) (by have q8 := ti_all u323; omega) (by have := (show u323.toInt = u323.toInt from rfl); have := (show ix_tv.toInt = ix_tv.toInt from rfl); omega) (by have q8 := ti_all ln; omega) (fun m hm => hKK m (Nat.le_trans hm (Nat.le_of_eq (tn_same hx_tv rfl rfl)))) (fun m hm => hXX m (Nat.lt_of_lt_of_eq hm (tn_same hx_tv rfl rfl))) m332 (by have q9 := (show ix_tv.toInt = ix_tv.toInt from rfl); have := (show ix_tv.toInt = ix_tv.toInt from rfl); omega) m337 (by have q8 := ti_all tv; omega) (by omega) (by omega)) (cwV 2 hts (goodIn_app (goodIn_r _ [47, 48, 49, 6] rfl (by decide +kernel)) (goodIn_ca (goodIn_r _ [46, 1, 2, 8] rfl (by decide +kernel)) (bs2_in _ _))) rfl rfl rfl (by decide +kernel) ⟨(Nat.le_of_ble_eq_true rfl), (Nat.le_of_ble_eq_true rfl)⟩) ⟨fun a U g mk q => by obtain ⟨q0, q1, qK, qE⟩ := q; exact ⟨q0, q1, va_K.moved (u := U) (U := U.calling g mk a) (Vm.Alike.refl U.vm) qK, EVC.blind g mk a qE⟩, gH_rc hK hT hr_o0 shc_152 rfl, fun U hU hW => ⟨rfl, hU, va_K.moved hW.alike hK, hE.call hS hFc hU hW⟩⟩ rfl rfl hl.1 rfl (lv_room (Nat.le_of_ble_eq_true rfl)) dX4_readLine_110 ⟨(Nat.le_of_ble_eq_true rfl), (Nat.le_of_ble_eq_true rfl)⟩) hS (fun q _ h => hFc q h) hFc (fun r353 u t H locs ht hvm hw354 hB _ _ hS => ?_)
        obtain ⟨u355, rfl⟩ : ∃ z, z = u := ⟨_, rfl⟩
        obtain ⟨hT, hF1, m356⟩ := hB
        rw [ht] at hT hF1 m356
        have m357 := (hF1.fld hr_o0 skc_152 (k := 0) (by decide) (by decide)).trans m325
        have m358 := (hF1.fld hr_o0 skc_152 (k := 11) (by decide) (by decide)).trans m326
        have m362 := (hF1.fld hr_o0 skc_152 (k := 12) (by decide) (by decide)).trans m330
        have m364 := m332.kept (hF1.arr hr_th skc_153 (by decide))
        have m365 := m333.kept (hF1.arr hr_sp9 skc_162 (by decide))
        have m366 := m334.kept (hF1.arr hr_kn9 skc_155 (by decide))
        have m367 := m335.kept (hF1.arr hr_sf9 skc_160 (by decide))
        have m368 := m336.kept (hF1.arr hr_st9 skc_161 (by decide))
        have m369 := (el_kept (hF1.arr hr_th skc_153 (by decide))).trans m337
        have hF := hF.more hF1 (by decide)
        try dsimp only at hw354
        obtain ⟨h376, h377, hf378, hf379⟩ := hw354
        refine lv_if_eq (tgt := 155) hx hb dX4_readLine_113 (by decide) (fun c380 => ?_) (fun c380 => ?_)
        · have t381 : r353.toInt = 0 := ti_eq c380 rfl (by decide)
          refine lv_iconst (v := 0) hx hb dX4_readLine_155 (by decide) ?_
          exact W.zret (v := 0) hx hb hr (by decide) (fun t ht hW => ⟨⟨0, (u355, s0, vS, (cu vK ln.toNatClampNeg (7 : Int32)), (cu vF ln.toNatClampNeg s0), vE), rfl, (by exact ⟨(by have q8 := ti_all u355; omega), (by have q8 := ti_all s0; omega), (rg_t (a := 0) (by decide) (by first | decide | omega) (by first | decide | omega)), (by omega), (by omega), (by have : (0 : Int32).toInt = 0 := (by decide); have : (1 : Int32).toInt = 1 := (by decide); have : (5 : Int32).toInt = 5 := (by decide); have : (6 : Int32).toInt = 6 := (by decide); have : (7 : Int32).toInt = 7 := (by decide); have : (8 : Int32).toInt = 8 := (by decide); have : (9 : Int32).toInt = 9 := (by decide); have : (-1 : Int32).toInt = -1 := (by decide); have l9 := hf24; rw [show x2.toInt = K (pS a0.toNatClampNeg) from by omega] at l9; have x9 := (show pS x27.toNatClampNeg = X (pS a0.toNatClampNeg) from by rw [show x27.toNatClampNeg = a0.toNatClampNeg + 1 from by have := tn_of (show a0.toInt = a0.toInt from rfl) (by omega); have := tn_of (show x27.toInt = x27.toInt from rfl) (by omega); omega]; exact hXX _ (by have := tn_of (show a0.toInt = a0.toInt from rfl) (by omega); have := tn_of (show tn.toInt = tn.toInt from rfl) (by omega); omega)); have h96 := hf346; rw [show (900 : Int32).toInt = 900 from by decide, show r321.toInt = 1 from by omega] at h96; have h110 := hf379; rw [show (900 : Int32).toInt = 900 from by decide, show r353.toInt = 0 from by omega] at h110; rw [x9] at h96; exact Or.inr (Or.inl ⟨by omega, Or.inr ⟨_, h96, Or.inl ⟨h110, by decide⟩⟩⟩)), (zKp.rf.st (Nat.le_refl _)), (zKp.rf.st (Nat.le_refl _)), zKp.rf, zKp.rf, (fun h8 => absurd h8 (by decide))⟩), by (try dsimp only); rw [ht]; exact ⟨hT, hF, m356, m362, m365, m366, m367, m368⟩⟩, hS.F ht⟩) hS.2.2 dX4_readLine_156
        · have t382 : r353.toInt ≠ 0 := ti_ne c380 rfl (by decide)
          refine lv_aload_n hx hb dX4_readLine_116 rfl (lv_at hl 1 rfl) ?_
          refine lv_bipush (v := 20) hx hb dX4_readLine_117 (by decide) ?_
          have hFc := gA_free hG hA hS
          refine va_calli (va_runV (As := [.int 20]) (rest := []) ⟨hx, hb, hml, hown, hts⟩ (c_take l dC dI kA adK adV G H nC nS o0 20 th u355 vT tv ix_tv ix_tv K X pS hT hr_o0 m357 hr_th m356 (by have q8 := ti_all ix_tv; omega) (by have q8 := ti_all u355; omega) (by have := (show u355.toInt = u355.toInt from rfl); have := (show ix_tv.toInt = ix_tv.toInt from rfl); omega) (by have := (show (20 : Int32).toInt = 20 from (by decide)); omega) (fun m hm => hKK m (Nat.le_trans hm (Nat.le_of_eq (tn_same hx_tv rfl rfl)))) (fun m hm => hXX m (Nat.lt_of_lt_of_eq hm (tn_same hx_tv rfl rfl))) m364 (by have q9 := (show ix_tv.toInt = ix_tv.toInt from rfl); have := (show ix_tv.toInt = ix_tv.toInt from rfl); omega) m369 (by have q8 := ti_all tv; omega) (by omega) (by omega)) (cwV 1 hts (goodIn_app (goodIn_r _ [12, 13, 14, 6] rfl (by decide +kernel)) (goodIn_ca (goodIn_r _ [11, 1, 2] rfl (by decide +kernel)) (bs2_in _ _))) rfl rfl rfl (by decide +kernel) ⟨(Nat.le_of_ble_eq_true rfl), (Nat.le_of_ble_eq_true rfl)⟩) ⟨fun a U g mk q => by obtain ⟨q0, q1, qK, qE⟩ := q; exact ⟨q0, q1, va_K.moved (u := U) (U := U.calling g mk a) (Vm.Alike.refl U.vm) qK, EVC.blind g mk a qE⟩, gH_rc hK hT hr_o0 shc_152 rfl, fun U hU hW => ⟨rfl, hU, va_K.moved hW.alike hK, hE.call hS hFc hU hW⟩⟩ rfl rfl hl.1 rfl (lv_room (Nat.le_of_ble_eq_true rfl)) dX4_readLine_119 ⟨(Nat.le_of_ble_eq_true rfl), (Nat.le_of_ble_eq_true rfl)⟩) hS (fun q _ h => hFc q h) hFc (fun r383 u t H locs ht hvm hw384 hB _ _ hS => ?_)
          obtain ⟨u385, rfl⟩ : ∃ z, z = u := ⟨_, rfl⟩
          obtain ⟨hT, hF1, m386⟩ := hB
          rw [ht] at hT hF1 m386
          have m387 := (hF1.fld hr_o0 skc_152 (k := 0) (by decide) (by decide)).trans m357
          have m388 := (hF1.fld hr_o0 skc_152 (k := 11) (by decide) (by decide)).trans m358
          have m392 := (hF1.fld hr_o0 skc_152 (k := 12) (by decide) (by decide)).trans m362
          have m394 := m364.kept (hF1.arr hr_th skc_153 (by decide))
          have m395 := m365.kept (hF1.arr hr_sp9 skc_162 (by decide))
          have m396 := m366.kept (hF1.arr hr_kn9 skc_155 (by decide))
          have m397 := m367.kept (hF1.arr hr_sf9 skc_160 (by decide))
          have m398 := m368.kept (hF1.arr hr_st9 skc_161 (by decide))
          have m399 := (el_kept (hF1.arr hr_th skc_153 (by decide))).trans m369
          have hF := hF.more hF1 (by decide)
          try dsimp only at hw384
          obtain ⟨h406, h407, hf408, hf409, hf410⟩ := hw384
          refine lv_if_eq (tgt := 155) hx hb dX4_readLine_122 (by decide) (fun c411 => ?_) (fun c411 => ?_)
          · have t412 : r383.toInt = 0 := ti_eq c411 rfl (by decide)
            refine lv_iconst (v := 0) hx hb dX4_readLine_155 (by decide) ?_
            exact W.zret (v := 0) hx hb hr (by decide) (fun t ht hW => ⟨⟨0, (u385, s0, vS, (cu vK ln.toNatClampNeg (7 : Int32)), (cu vF ln.toNatClampNeg s0), vE), rfl, (by exact ⟨(by have q8 := ti_all u385; omega), (by have q8 := ti_all s0; omega), (rg_t (a := 0) (by decide) (by first | decide | omega) (by first | decide | omega)), (by omega), (by omega), (by have : (0 : Int32).toInt = 0 := (by decide); have : (1 : Int32).toInt = 1 := (by decide); have : (5 : Int32).toInt = 5 := (by decide); have : (6 : Int32).toInt = 6 := (by decide); have : (7 : Int32).toInt = 7 := (by decide); have : (8 : Int32).toInt = 8 := (by decide); have : (9 : Int32).toInt = 9 := (by decide); have : (-1 : Int32).toInt = -1 := (by decide); have l9 := hf24; rw [show x2.toInt = K (pS a0.toNatClampNeg) from by omega] at l9; have x9 := (show pS x27.toNatClampNeg = X (pS a0.toNatClampNeg) from by rw [show x27.toNatClampNeg = a0.toNatClampNeg + 1 from by have := tn_of (show a0.toInt = a0.toInt from rfl) (by omega); have := tn_of (show x27.toInt = x27.toInt from rfl) (by omega); omega]; exact hXX _ (by have := tn_of (show a0.toInt = a0.toInt from rfl) (by omega); have := tn_of (show tn.toInt = tn.toInt from rfl) (by omega); omega)); have h96 := hf346; rw [show (900 : Int32).toInt = 900 from by decide, show r321.toInt = 1 from by omega] at h96; have h110 := hf379; rw [show (900 : Int32).toInt = 900 from by decide, show r353.toInt = 1 from by omega] at h110; have h119 := hf409; rw [show (20 : Int32).toInt = 20 from by decide, show r383.toInt = 0 from by omega] at h119; rw [x9] at h96; exact Or.inr (Or.inl ⟨by omega, Or.inr ⟨_, h96, Or.inr ⟨_, h110, Or.inl ⟨h119, by decide⟩⟩⟩⟩)), (zKp.rf.st (Nat.le_refl _)), (zKp.rf.st (Nat.le_refl _)), zKp.rf, zKp.rf, (fun h8 => absurd h8 (by decide))⟩), by (try dsimp only); rw [ht]; exact ⟨hT, hF, m386, m392, m395, m396, m397, m398⟩⟩, hS.F ht⟩) hS.2.2 dX4_readLine_156
          · have t413 : r383.toInt ≠ 0 := ti_ne c411 rfl (by decide)
            refine lv_aload_n hx hb dX4_readLine_125 rfl (lv_at hl 1 rfl) ?_
            refine lv_bipush (v := 95) hx hb dX4_readLine_126 (by decide) ?_
            refine lv_aload_n hx hb dX4_readLine_128 rfl (lv_at hl 1 rfl) ?_
            refine tw_get hx hb hts bF2_X4 hown hK hT hr_o0 shc_152 rfl 5 (by decide) (ht_at2 hts 50 rfl) (fun _ h9 => h9) dX4_readLine_129 (fun v9 m414 h9 => ?_)
            obtain ⟨b415, rfl, hg416⟩ := h9 _ rfl
            have hFc := gA_free hG hA hS
            refine va_calli (va_runV (As := [.int 95, .ref b415]) (rest := []) ⟨hx, hb, hml, hown, hts⟩ (c_takeNumber_froms l dC dI kA adK adV G H nC nS o0 95 b415 th u385 ln vT tv ix_tv ix_tv K X pS hT hg416 hr_o0 m387 hr_th m386 m388 (by have q8 := ti_all ix_tv; omega) (by have q8 := ti_all u385; omega) (by have := (show u385.toInt = u385.toInt from rfl); have := (show ix_tv.toInt = ix_tv.toInt from rfl); omega) (by have q8 := ti_all ln; omega) (fun m hm => hKK m (Nat.le_trans hm (Nat.le_of_eq (tn_same hx_tv rfl rfl)))) (fun m hm => hXX m (Nat.lt_of_lt_of_eq hm (tn_same hx_tv rfl rfl))) m394 (by have q9 := (show ix_tv.toInt = ix_tv.toInt from rfl); have := (show ix_tv.toInt = ix_tv.toInt from rfl); omega) m399 (by have q8 := ti_all tv; omega) (by omega) (by omega)) (cwV 2 hts (goodIn_app (goodIn_r _ [47, 48, 49, 6] rfl (by decide +kernel)) (goodIn_ca (goodIn_r _ [46, 1, 2, 8] rfl (by decide +kernel)) (bs2_in _ _))) rfl rfl rfl (by decide +kernel) ⟨(Nat.le_of_ble_eq_true rfl), (Nat.le_of_ble_eq_true rfl)⟩) ⟨fun a U g mk q => by obtain ⟨q0, q1, qK, qE⟩ := q; exact ⟨q0, q1, va_K.moved (u := U) (U := U.calling g mk a) (Vm.Alike.refl U.vm) qK, EVC.blind g mk a qE⟩, gH_rc hK hT hr_o0 shc_152 rfl, fun U hU hW => ⟨rfl, hU, va_K.moved hW.alike hK, hE.call hS hFc hU hW⟩⟩ rfl rfl hl.1 rfl (lv_room (Nat.le_of_ble_eq_true rfl)) dX4_readLine_132 ⟨(Nat.le_of_ble_eq_true rfl), (Nat.le_of_ble_eq_true rfl)⟩) hS (fun q _ h => hFc q h) hFc (fun r417 u t H locs ht hvm hw418 hB _ _ hS => ?_)
            obtain ⟨u419, rfl⟩ : ∃ z, z = u := ⟨_, rfl⟩
            obtain ⟨hT, hF1, m420⟩ := hB
            rw [ht] at hT hF1 m420
            have m421 := (hF1.fld hr_o0 skc_152 (k := 0) (by decide) (by decide)).trans m387
            have m422 := (hF1.fld hr_o0 skc_152 (k := 11) (by decide) (by decide)).trans m388
            have m426 := (hF1.fld hr_o0 skc_152 (k := 12) (by decide) (by decide)).trans m392
            have m428 := m394.kept (hF1.arr hr_th skc_153 (by decide))
            have m429 := m395.kept (hF1.arr hr_sp9 skc_162 (by decide))
            have m430 := m396.kept (hF1.arr hr_kn9 skc_155 (by decide))
            have m431 := m397.kept (hF1.arr hr_sf9 skc_160 (by decide))
            have m432 := m398.kept (hF1.arr hr_st9 skc_161 (by decide))
            have m433 := (el_kept (hF1.arr hr_th skc_153 (by decide))).trans m399
            have hF := hF.more hF1 (by decide)
            try dsimp only at hw418
            obtain ⟨h441, h442, hf443, hf444⟩ := hw418
            refine lv_if_eq (tgt := 155) hx hb dX4_readLine_135 (by decide) (fun c445 => ?_) (fun c445 => ?_)
            · have t446 : r417.toInt = 0 := ti_eq c445 rfl (by decide)
              refine lv_iconst (v := 0) hx hb dX4_readLine_155 (by decide) ?_
              exact W.zret (v := 0) hx hb hr (by decide) (fun t ht hW => ⟨⟨0, (u419, s0, vS, (cu vK ln.toNatClampNeg (7 : Int32)), (cu vF ln.toNatClampNeg s0), vE), rfl, (by exact ⟨(by have q8 := ti_all u419; omega), (by have q8 := ti_all s0; omega), (rg_t (a := 0) (by decide) (by first | decide | omega) (by first | decide | omega)), (by omega), (by omega), (by have : (0 : Int32).toInt = 0 := (by decide); have : (1 : Int32).toInt = 1 := (by decide); have : (5 : Int32).toInt = 5 := (by decide); have : (6 : Int32).toInt = 6 := (by decide); have : (7 : Int32).toInt = 7 := (by decide); have : (8 : Int32).toInt = 8 := (by decide); have : (9 : Int32).toInt = 9 := (by decide); have : (-1 : Int32).toInt = -1 := (by decide); have l9 := hf24; rw [show x2.toInt = K (pS a0.toNatClampNeg) from by omega] at l9; have x9 := (show pS x27.toNatClampNeg = X (pS a0.toNatClampNeg) from by rw [show x27.toNatClampNeg = a0.toNatClampNeg + 1 from by have := tn_of (show a0.toInt = a0.toInt from rfl) (by omega); have := tn_of (show x27.toInt = x27.toInt from rfl) (by omega); omega]; exact hXX _ (by have := tn_of (show a0.toInt = a0.toInt from rfl) (by omega); have := tn_of (show tn.toInt = tn.toInt from rfl) (by omega); omega)); have h96 := hf346; rw [show (900 : Int32).toInt = 900 from by decide, show r321.toInt = 1 from by omega] at h96; have h110 := hf379; rw [show (900 : Int32).toInt = 900 from by decide, show r353.toInt = 1 from by omega] at h110; have h119 := hf409; rw [show (20 : Int32).toInt = 20 from by decide, show r383.toInt = 1 from by omega] at h119; have h132 := hf444; rw [show (95 : Int32).toInt = 95 from by decide, show r417.toInt = 0 from by omega] at h132; rw [x9] at h96; exact Or.inr (Or.inl ⟨by omega, Or.inr ⟨_, h96, Or.inr ⟨_, h110, Or.inr ⟨_, h119, Or.inl ⟨h132, by decide⟩⟩⟩⟩⟩)), (zKp.rf.st (Nat.le_refl _)), (zKp.rf.st (Nat.le_refl _)), zKp.rf, zKp.rf, (fun h8 => absurd h8 (by decide))⟩), by (try dsimp only); rw [ht]; exact ⟨hT, hF, m420, m426, m429, m430, m431, m432⟩⟩, hS.F ht⟩) hS.2.2 dX4_readLine_156
            · have t447 : r417.toInt ≠ 0 := ti_ne c445 rfl (by decide)
              refine lv_aload_n hx hb dX4_readLine_138 rfl (lv_at hl 1 rfl) ?_
              refine lv_bipush (v := 95) hx hb dX4_readLine_139 (by decide) ?_
              refine lv_aload_n hx hb dX4_readLine_141 rfl (lv_at hl 1 rfl) ?_
              refine tw_get hx hb hts bF2_X4 hown hK hT hr_o0 shc_152 rfl 6 (by decide) (ht_at2 hts 51 rfl) (fun _ h9 => h9) dX4_readLine_142 (fun v9 m448 h9 => ?_)
              obtain ⟨b449, rfl, hg450⟩ := h9 _ rfl
              have hFc := gA_free hG hA hS
              refine va_calli (va_runV (As := [.int 95, .ref b449]) (rest := []) ⟨hx, hb, hml, hown, hts⟩ (c_takeNumber_tos l dC dI kA adK adV G H nC nS o0 95 b449 th u419 ln vT tv ix_tv ix_tv K X pS hT hg450 hr_o0 m421 hr_th m420 m422 (by have q8 := ti_all ix_tv; omega) (by have q8 := ti_all u419; omega) (by have := (show u419.toInt = u419.toInt from rfl); have := (show ix_tv.toInt = ix_tv.toInt from rfl); omega) (by have q8 := ti_all ln; omega) (fun m hm => hKK m (Nat.le_trans hm (Nat.le_of_eq (tn_same hx_tv rfl rfl)))) (fun m hm => hXX m (Nat.lt_of_lt_of_eq hm (tn_same hx_tv rfl rfl))) m428 (by have q9 := (show ix_tv.toInt = ix_tv.toInt from rfl); have := (show ix_tv.toInt = ix_tv.toInt from rfl); omega) m433 (by have q8 := ti_all tv; omega) (by omega) (by omega)) (cwV 2 hts (goodIn_app (goodIn_r _ [47, 48, 49, 6] rfl (by decide +kernel)) (goodIn_ca (goodIn_r _ [46, 1, 2, 8] rfl (by decide +kernel)) (bs2_in _ _))) rfl rfl rfl (by decide +kernel) ⟨(Nat.le_of_ble_eq_true rfl), (Nat.le_of_ble_eq_true rfl)⟩) ⟨fun a U g mk q => by obtain ⟨q0, q1, qK, qE⟩ := q; exact ⟨q0, q1, va_K.moved (u := U) (U := U.calling g mk a) (Vm.Alike.refl U.vm) qK, EVC.blind g mk a qE⟩, gH_rc hK hT hr_o0 shc_152 rfl, fun U hU hW => ⟨rfl, hU, va_K.moved hW.alike hK, hE.call hS hFc hU hW⟩⟩ rfl rfl hl.1 rfl (lv_room (Nat.le_of_ble_eq_true rfl)) dX4_readLine_145 ⟨(Nat.le_of_ble_eq_true rfl), (Nat.le_of_ble_eq_true rfl)⟩) hS (fun q _ h => hFc q h) hFc (fun r451 u t H locs ht hvm hw452 hB _ _ hS => ?_)
              obtain ⟨u453, rfl⟩ : ∃ z, z = u := ⟨_, rfl⟩
              obtain ⟨hT, hF1, m454⟩ := hB
              rw [ht] at hT hF1 m454
              have m460 := (hF1.fld hr_o0 skc_152 (k := 12) (by decide) (by decide)).trans m426
              have m463 := m429.kept (hF1.arr hr_sp9 skc_162 (by decide))
              have m464 := m430.kept (hF1.arr hr_kn9 skc_155 (by decide))
              have m465 := m431.kept (hF1.arr hr_sf9 skc_160 (by decide))
              have m466 := m432.kept (hF1.arr hr_st9 skc_161 (by decide))
              have hF := hF.more hF1 (by decide)
              try dsimp only at hw452
              obtain ⟨h476, h477, hf478, hf479⟩ := hw452
              refine lv_if_eq (tgt := 155) hx hb dX4_readLine_148 (by decide) (fun c480 => ?_) (fun c480 => ?_)
              · have t481 : r451.toInt = 0 := ti_eq c480 rfl (by decide)
                refine lv_iconst (v := 0) hx hb dX4_readLine_155 (by decide) ?_
                exact W.zret (v := 0) hx hb hr (by decide) (fun t ht hW => ⟨⟨0, (u453, s0, vS, (cu vK ln.toNatClampNeg (7 : Int32)), (cu vF ln.toNatClampNeg s0), vE), rfl, (by exact ⟨(by have q8 := ti_all u453; omega), (by have q8 := ti_all s0; omega), (rg_t (a := 0) (by decide) (by first | decide | omega) (by first | decide | omega)), (by omega), (by omega), (by have : (0 : Int32).toInt = 0 := (by decide); have : (1 : Int32).toInt = 1 := (by decide); have : (5 : Int32).toInt = 5 := (by decide); have : (6 : Int32).toInt = 6 := (by decide); have : (7 : Int32).toInt = 7 := (by decide); have : (8 : Int32).toInt = 8 := (by decide); have : (9 : Int32).toInt = 9 := (by decide); have : (-1 : Int32).toInt = -1 := (by decide); have l9 := hf24; rw [show x2.toInt = K (pS a0.toNatClampNeg) from by omega] at l9; have x9 := (show pS x27.toNatClampNeg = X (pS a0.toNatClampNeg) from by rw [show x27.toNatClampNeg = a0.toNatClampNeg + 1 from by have := tn_of (show a0.toInt = a0.toInt from rfl) (by omega); have := tn_of (show x27.toInt = x27.toInt from rfl) (by omega); omega]; exact hXX _ (by have := tn_of (show a0.toInt = a0.toInt from rfl) (by omega); have := tn_of (show tn.toInt = tn.toInt from rfl) (by omega); omega)); have h96 := hf346; rw [show (900 : Int32).toInt = 900 from by decide, show r321.toInt = 1 from by omega] at h96; have h110 := hf379; rw [show (900 : Int32).toInt = 900 from by decide, show r353.toInt = 1 from by omega] at h110; have h119 := hf409; rw [show (20 : Int32).toInt = 20 from by decide, show r383.toInt = 1 from by omega] at h119; have h132 := hf444; rw [show (95 : Int32).toInt = 95 from by decide, show r417.toInt = 1 from by omega] at h132; have h145 := hf479; rw [show (95 : Int32).toInt = 95 from by decide, show r451.toInt = 0 from by omega] at h145; rw [x9] at h96; exact Or.inr (Or.inl ⟨by omega, Or.inr ⟨_, h96, Or.inr ⟨_, h110, Or.inr ⟨_, h119, Or.inr ⟨_, h132, h145⟩⟩⟩⟩⟩)), (zKp.rf.st (Nat.le_refl _)), (zKp.rf.st (Nat.le_refl _)), zKp.rf, zKp.rf, (fun h8 => absurd h8 (by decide))⟩), by (try dsimp only); rw [ht]; exact ⟨hT, hF, m454, m460, m463, m464, m465, m466⟩⟩, hS.F ht⟩) hS.2.2 dX4_readLine_156
              · have t482 : r451.toInt ≠ 0 := ti_ne c480 rfl (by decide)
                refine lv_iconst (v := 1) hx hb dX4_readLine_151 (by decide) ?_
                refine lv_goto (tgt := 156) hx hb dX4_readLine_152 (by decide) ?_
                exact W.zret (v := 1) hx hb hr (by decide) (fun t ht hW => ⟨⟨1, (u453, s0, vS, (cu vK ln.toNatClampNeg (7 : Int32)), (cu vF ln.toNatClampNeg s0), vE), rfl, (by exact ⟨(by have q8 := ti_all u453; omega), (by have q8 := ti_all s0; omega), (rg_t (a := 1) (by decide) (by first | decide | omega) (by first | decide | omega)), (by omega), (by omega), (by have : (0 : Int32).toInt = 0 := (by decide); have : (1 : Int32).toInt = 1 := (by decide); have : (5 : Int32).toInt = 5 := (by decide); have : (6 : Int32).toInt = 6 := (by decide); have : (7 : Int32).toInt = 7 := (by decide); have : (8 : Int32).toInt = 8 := (by decide); have : (9 : Int32).toInt = 9 := (by decide); have : (-1 : Int32).toInt = -1 := (by decide); have l9 := hf24; rw [show x2.toInt = K (pS a0.toNatClampNeg) from by omega] at l9; have x9 := (show pS x27.toNatClampNeg = X (pS a0.toNatClampNeg) from by rw [show x27.toNatClampNeg = a0.toNatClampNeg + 1 from by have := tn_of (show a0.toInt = a0.toInt from rfl) (by omega); have := tn_of (show x27.toInt = x27.toInt from rfl) (by omega); omega]; exact hXX _ (by have := tn_of (show a0.toInt = a0.toInt from rfl) (by omega); have := tn_of (show tn.toInt = tn.toInt from rfl) (by omega); omega)); have h96 := hf346; rw [show (900 : Int32).toInt = 900 from by decide, show r321.toInt = 1 from by omega] at h96; have h110 := hf379; rw [show (900 : Int32).toInt = 900 from by decide, show r353.toInt = 1 from by omega] at h110; have h119 := hf409; rw [show (20 : Int32).toInt = 20 from by decide, show r383.toInt = 1 from by omega] at h119; have h132 := hf444; rw [show (95 : Int32).toInt = 95 from by decide, show r417.toInt = 1 from by omega] at h132; have h145 := hf479; rw [show (95 : Int32).toInt = 95 from by decide, show r451.toInt = 1 from by omega] at h145; rw [x9] at h96; exact Or.inr (Or.inl ⟨by omega, Or.inr ⟨_, h96, Or.inr ⟨_, h110, Or.inr ⟨_, h119, Or.inr ⟨_, h132, h145⟩⟩⟩⟩⟩)), (zKp.rf.st (Nat.le_refl _)), (zKp.rf.st (Nat.le_refl _)), zKp.rf, zKp.rf, (fun _ => by have : (0 : Int32).toInt = 0 := (by decide); have : (1 : Int32).toInt = 1 := (by decide); have : (5 : Int32).toInt = 5 := (by decide); have : (6 : Int32).toInt = 6 := (by decide); have : (7 : Int32).toInt = 7 := (by decide); have : (8 : Int32).toInt = 8 := (by decide); have : (9 : Int32).toInt = 9 := (by decide); have : (-1 : Int32).toInt = -1 := (by decide); have l9 := hf24; rw [show x2.toInt = K (pS a0.toNatClampNeg) from by omega] at l9; have x9 := (show pS x27.toNatClampNeg = X (pS a0.toNatClampNeg) from by rw [show x27.toNatClampNeg = a0.toNatClampNeg + 1 from by have := tn_of (show a0.toInt = a0.toInt from rfl) (by omega); have := tn_of (show x27.toInt = x27.toInt from rfl) (by omega); omega]; exact hXX _ (by have := tn_of (show a0.toInt = a0.toInt from rfl) (by omega); have := tn_of (show tn.toInt = tn.toInt from rfl) (by omega); omega)); have h96 := hf346; rw [show (900 : Int32).toInt = 900 from by decide, show r321.toInt = 1 from by omega] at h96; have h110 := hf379; rw [show (900 : Int32).toInt = 900 from by decide, show r353.toInt = 1 from by omega] at h110; have h119 := hf409; rw [show (20 : Int32).toInt = 20 from by decide, show r383.toInt = 1 from by omega] at h119; have h132 := hf444; rw [show (95 : Int32).toInt = 95 from by decide, show r417.toInt = 1 from by omega] at h132; have h145 := hf479; rw [show (95 : Int32).toInt = 95 from by decide, show r451.toInt = 1 from by omega] at h145; rw [x9] at h96; exact ⟨((lkT (K (pS a0.toNatClampNeg))), []), ⟨rfl, Or.inl ⟨by omega, Or.inr ⟨_, h96, Or.inr ⟨_, h110, Or.inr ⟨_, h119, Or.inr ⟨_, h132, h145⟩⟩⟩⟩, rfl⟩⟩, (congrArg Int32.toInt (cu_s rfl)).trans (by omega), fun h7 => by exfalso; have h6 : (lkT (K (pS a0.toNatClampNeg))) ≤ 6 := h7; omega⟩)⟩), by (try dsimp only); rw [ht]; exact ⟨hT, hF, m454, m460, m463, m464, m465, m466⟩⟩, hS.F ht⟩) hS.2.2 dX4_readLine_156
    by_cases hs483 : r5 = 8
    · subst hs483
      refine lv_tableIn (x := 8) (off := 103) (tgt := 157) hx hb dX4_readLine_54 (by decide) (by decide) (by decide) (by decide) ?_
      refine lv_aload_n hx hb dX4_readLine_157 rfl (lv_at hl 1 rfl) ?_
      refine lv_bipush (v := 100) hx hb dX4_readLine_158 (by decide) ?_
      refine lv_aload_n hx hb dX4_readLine_160 rfl (lv_at hl 1 rfl) ?_
      refine tw_get hx hb hts bF2_X4 hown hK hT hr_o0 shc_152 rfl 3 (by decide) (ht_at2 hts 44 rfl) (fun _ h9 => h9) dX4_readLine_161 (fun v9 m484 h9 => ?_)
      obtain ⟨b485, rfl, hg486⟩ := h9 _ rfl
      have hFc := gA_free hG hA hS
      refine va_calli (va_runV (As := [.int 100, .ref b485]) (rest := []) ⟨hx, hb, hml, hown, hts⟩ (c_takeNumber_firsts l dC dI kA adK adV G H nC nS o0 100 b485 th x27 ln vT tv ix_tv ix_tv K X pS hT hg486 hr_o0 m61 hr_th m75 m62 (by have q8 := ti_all ix_tv; omega) (by have q8 := ti_all x27; omega) (by have := (show x27.toInt = x27.toInt from rfl); have := (show ix_tv.toInt = ix_tv.toInt from rfl); omega) (by have q8 := ti_all ln; omega) (rg_t (a := 100) (by decide) (by first | decide | omega) (by first | decide | omega)) (fun m hm => hKK m (Nat.le_trans hm (Nat.le_of_eq (tn_same hx_tv rfl rfl)))) (fun m hm => hXX m (Nat.lt_of_lt_of_eq hm (tn_same hx_tv rfl rfl))) m68 (by have q9 := (show ix_tv.toInt = ix_tv.toInt from rfl); have := (show ix_tv.toInt = ix_tv.toInt from rfl); omega) m73 (by have q8 := ti_all tv; omega) (by omega) (by omega)) (cwV 2 hts (goodIn_app (goodIn_r _ [47, 48, 49, 6] rfl (by decide +kernel)) (goodIn_ca (goodIn_r _ [46, 1, 2, 8] rfl (by decide +kernel)) (bs2_in _ _))) rfl rfl rfl (by decide +kernel) ⟨(Nat.le_of_ble_eq_true rfl), (Nat.le_of_ble_eq_true rfl)⟩) ⟨fun a U g mk q => by obtain ⟨q0, q1, qK, qE⟩ := q; exact ⟨q0, q1, va_K.moved (u := U) (U := U.calling g mk a) (Vm.Alike.refl U.vm) qK, EVC.blind g mk a qE⟩, gH_rc hK hT hr_o0 shc_152 rfl, fun U hU hW => ⟨rfl, hU, va_K.moved hW.alike hK, hE.call hS hFc hU hW⟩⟩ rfl rfl hl.1 rfl (lv_room (Nat.le_of_ble_eq_true rfl)) dX4_readLine_164 ⟨(Nat.le_of_ble_eq_true rfl), (Nat.le_of_ble_eq_true rfl)⟩) hS (fun q _ h => hFc q h) hFc (fun r487 u t H locs ht hvm hw488 hB _ _ hS => ?_)
      obtain ⟨u489, rfl⟩ : ∃ z, z = u := ⟨_, rfl⟩
      obtain ⟨hT, hF1, m490⟩ := hB
      rw [ht] at hT hF1 m490
      have m496 := (hF1.fld hr_o0 skc_152 (k := 12) (by decide) (by decide)).trans m66
      have m499 := m69.kept (hF1.arr hr_sp9 skc_162 (by decide))
      have m500 := m70.kept (hF1.arr hr_kn9 skc_155 (by decide))
      have m501 := m71.kept (hF1.arr hr_sf9 skc_160 (by decide))
      have m502 := m72.kept (hF1.arr hr_st9 skc_161 (by decide))
      have hF := hF.more hF1 (by decide)
      try dsimp only at hw488
      obtain ⟨h509, h510, hf511, hf512⟩ := hw488
      exact W.zret (v := r487) hx hb hr (nar_b (by have q8 := ti_all r487; omega)) (fun t ht hW => ⟨⟨r487, (u489, s0, vS, (cu vK ln.toNatClampNeg (8 : Int32)), (cu vF ln.toNatClampNeg s0), vE), rfl, (by exact ⟨(by have q8 := ti_all u489; omega), (by have q8 := ti_all s0; omega), (by have q8 := ti_all r487; omega), (by omega), (by omega), (by have : (0 : Int32).toInt = 0 := (by decide); have : (1 : Int32).toInt = 1 := (by decide); have : (5 : Int32).toInt = 5 := (by decide); have : (6 : Int32).toInt = 6 := (by decide); have : (7 : Int32).toInt = 7 := (by decide); have : (8 : Int32).toInt = 8 := (by decide); have : (9 : Int32).toInt = 9 := (by decide); have : (-1 : Int32).toInt = -1 := (by decide); have l9 := hf24; rw [show x2.toInt = K (pS a0.toNatClampNeg) from by omega] at l9; have x9 := (show pS x27.toNatClampNeg = X (pS a0.toNatClampNeg) from by rw [show x27.toNatClampNeg = a0.toNatClampNeg + 1 from by have := tn_of (show a0.toInt = a0.toInt from rfl) (by omega); have := tn_of (show x27.toInt = x27.toInt from rfl) (by omega); omega]; exact hXX _ (by have := tn_of (show a0.toInt = a0.toInt from rfl) (by omega); have := tn_of (show tn.toInt = tn.toInt from rfl) (by omega); omega)); have h164 := hf512; rw [show (100 : Int32).toInt = 100 from by decide] at h164; rw [x9] at h164; exact Or.inr (Or.inr (Or.inl ⟨by omega, h164⟩))), (zKp.rf.st (Nat.le_refl _)), (zKp.rf.st (Nat.le_refl _)), zKp.rf, zKp.rf, (fun h8 => by have : (0 : Int32).toInt = 0 := (by decide); have : (1 : Int32).toInt = 1 := (by decide); have : (5 : Int32).toInt = 5 := (by decide); have : (6 : Int32).toInt = 6 := (by decide); have : (7 : Int32).toInt = 7 := (by decide); have : (8 : Int32).toInt = 8 := (by decide); have : (9 : Int32).toInt = 9 := (by decide); have : (-1 : Int32).toInt = -1 := (by decide); have l9 := hf24; rw [show x2.toInt = K (pS a0.toNatClampNeg) from by omega] at l9; have x9 := (show pS x27.toNatClampNeg = X (pS a0.toNatClampNeg) from by rw [show x27.toNatClampNeg = a0.toNatClampNeg + 1 from by have := tn_of (show a0.toInt = a0.toInt from rfl) (by omega); have := tn_of (show x27.toInt = x27.toInt from rfl) (by omega); omega]; exact hXX _ (by have := tn_of (show a0.toInt = a0.toInt from rfl) (by omega); have := tn_of (show tn.toInt = tn.toInt from rfl) (by omega); omega)); have h164 := hf512; rw [show (100 : Int32).toInt = 100 from by decide, show r487.toInt = 1 from by omega] at h164; rw [x9] at h164; exact ⟨((lkT (K (pS a0.toNatClampNeg))), []), ⟨rfl, Or.inr (Or.inl ⟨by omega, h164, rfl⟩)⟩, (congrArg Int32.toInt (cu_s rfl)).trans (by omega), fun h7 => by exfalso; have h6 : (lkT (K (pS a0.toNatClampNeg))) ≤ 6 := h7; omega⟩)⟩), by (try dsimp only); rw [ht]; exact ⟨hT, hF, m490, m496, m499, m500, m501, m502⟩⟩, hS.F ht⟩) hS.2.2 dX4_readLine_167
    by_cases hs513 : r5 = 9
    · subst hs513
      refine lv_tableIn (x := 9) (off := 114) (tgt := 168) hx hb dX4_readLine_54 (by decide) (by decide) (by decide) (by decide) ?_
      refine lv_aload_n hx hb dX4_readLine_168 rfl (lv_at hl 1 rfl) ?_
      refine lv_bipush (v := 18) hx hb dX4_readLine_169 (by decide) ?_
      refine lv_aload_n hx hb dX4_readLine_171 rfl (lv_at hl 1 rfl) ?_
      refine tw_get hx hb hts bF2_X4 hown hK hT hr_o0 shc_152 rfl 3 (by decide) (ht_at2 hts 44 rfl) (fun _ h9 => h9) dX4_readLine_172 (fun v9 m514 h9 => ?_)
      obtain ⟨b515, rfl, hg516⟩ := h9 _ rfl
      have hFc := gA_free hG hA hS
      refine va_calli (va_runV (As := [.int 18, .ref b515]) (rest := []) ⟨hx, hb, hml, hown, hts⟩ (c_takeNumber_firsts l dC dI kA adK adV G H nC nS o0 18 b515 th x27 ln vT tv ix_tv ix_tv K X pS hT hg516 hr_o0 m61 hr_th m75 m62 (by have q8 := ti_all ix_tv; omega) (by have q8 := ti_all x27; omega) (by have := (show x27.toInt = x27.toInt from rfl); have := (show ix_tv.toInt = ix_tv.toInt from rfl); omega) (by have q8 := ti_all ln; omega) (rg_t (a := 18) (by decide) (by first | decide | omega) (by first | decide | omega)) (fun m hm => hKK m (Nat.le_trans hm (Nat.le_of_eq (tn_same hx_tv rfl rfl)))) (fun m hm => hXX m (Nat.lt_of_lt_of_eq hm (tn_same hx_tv rfl rfl))) m68 (by have q9 := (show ix_tv.toInt = ix_tv.toInt from rfl); have := (show ix_tv.toInt = ix_tv.toInt from rfl); omega) m73 (by have q8 := ti_all tv; omega) (by omega) (by omega)) (cwV 2 hts (goodIn_app (goodIn_r _ [47, 48, 49, 6] rfl (by decide +kernel)) (goodIn_ca (goodIn_r _ [46, 1, 2, 8] rfl (by decide +kernel)) (bs2_in _ _))) rfl rfl rfl (by decide +kernel) ⟨(Nat.le_of_ble_eq_true rfl), (Nat.le_of_ble_eq_true rfl)⟩) ⟨fun a U g mk q => by obtain ⟨q0, q1, qK, qE⟩ := q; exact ⟨q0, q1, va_K.moved (u := U) (U := U.calling g mk a) (Vm.Alike.refl U.vm) qK, EVC.blind g mk a qE⟩, gH_rc hK hT hr_o0 shc_152 rfl, fun U hU hW => ⟨rfl, hU, va_K.moved hW.alike hK, hE.call hS hFc hU hW⟩⟩ rfl rfl hl.1 rfl (lv_room (Nat.le_of_ble_eq_true rfl)) dX4_readLine_175 ⟨(Nat.le_of_ble_eq_true rfl), (Nat.le_of_ble_eq_true rfl)⟩) hS (fun q _ h => hFc q h) hFc (fun r517 u t H locs ht hvm hw518 hB _ _ hS => ?_)
      obtain ⟨u519, rfl⟩ : ∃ z, z = u := ⟨_, rfl⟩
      obtain ⟨hT, hF1, m520⟩ := hB
      rw [ht] at hT hF1 m520
      have m526 := (hF1.fld hr_o0 skc_152 (k := 12) (by decide) (by decide)).trans m66
      have m529 := m69.kept (hF1.arr hr_sp9 skc_162 (by decide))
      have m530 := m70.kept (hF1.arr hr_kn9 skc_155 (by decide))
      have m531 := m71.kept (hF1.arr hr_sf9 skc_160 (by decide))
      have m532 := m72.kept (hF1.arr hr_st9 skc_161 (by decide))
      have hF := hF.more hF1 (by decide)
      try dsimp only at hw518
      obtain ⟨h539, h540, hf541, hf542⟩ := hw518
      exact W.zret (v := r517) hx hb hr (nar_b (by have q8 := ti_all r517; omega)) (fun t ht hW => ⟨⟨r517, (u519, s0, vS, (cu vK ln.toNatClampNeg (9 : Int32)), (cu vF ln.toNatClampNeg s0), vE), rfl, (by exact ⟨(by have q8 := ti_all u519; omega), (by have q8 := ti_all s0; omega), (by have q8 := ti_all r517; omega), (by omega), (by omega), (by have : (0 : Int32).toInt = 0 := (by decide); have : (1 : Int32).toInt = 1 := (by decide); have : (5 : Int32).toInt = 5 := (by decide); have : (6 : Int32).toInt = 6 := (by decide); have : (7 : Int32).toInt = 7 := (by decide); have : (8 : Int32).toInt = 8 := (by decide); have : (9 : Int32).toInt = 9 := (by decide); have : (-1 : Int32).toInt = -1 := (by decide); have l9 := hf24; rw [show x2.toInt = K (pS a0.toNatClampNeg) from by omega] at l9; have x9 := (show pS x27.toNatClampNeg = X (pS a0.toNatClampNeg) from by rw [show x27.toNatClampNeg = a0.toNatClampNeg + 1 from by have := tn_of (show a0.toInt = a0.toInt from rfl) (by omega); have := tn_of (show x27.toInt = x27.toInt from rfl) (by omega); omega]; exact hXX _ (by have := tn_of (show a0.toInt = a0.toInt from rfl) (by omega); have := tn_of (show tn.toInt = tn.toInt from rfl) (by omega); omega)); have h175 := hf542; rw [show (18 : Int32).toInt = 18 from by decide] at h175; rw [x9] at h175; exact Or.inr (Or.inr (Or.inr (Or.inl ⟨by omega, h175⟩)))), (zKp.rf.st (Nat.le_refl _)), (zKp.rf.st (Nat.le_refl _)), zKp.rf, zKp.rf, (fun h8 => by have : (0 : Int32).toInt = 0 := (by decide); have : (1 : Int32).toInt = 1 := (by decide); have : (5 : Int32).toInt = 5 := (by decide); have : (6 : Int32).toInt = 6 := (by decide); have : (7 : Int32).toInt = 7 := (by decide); have : (8 : Int32).toInt = 8 := (by decide); have : (9 : Int32).toInt = 9 := (by decide); have : (-1 : Int32).toInt = -1 := (by decide); have l9 := hf24; rw [show x2.toInt = K (pS a0.toNatClampNeg) from by omega] at l9; have x9 := (show pS x27.toNatClampNeg = X (pS a0.toNatClampNeg) from by rw [show x27.toNatClampNeg = a0.toNatClampNeg + 1 from by have := tn_of (show a0.toInt = a0.toInt from rfl) (by omega); have := tn_of (show x27.toInt = x27.toInt from rfl) (by omega); omega]; exact hXX _ (by have := tn_of (show a0.toInt = a0.toInt from rfl) (by omega); have := tn_of (show tn.toInt = tn.toInt from rfl) (by omega); omega)); have h175 := hf542; rw [show (18 : Int32).toInt = 18 from by decide, show r517.toInt = 1 from by omega] at h175; rw [x9] at h175; exact ⟨((lkT (K (pS a0.toNatClampNeg))), []), ⟨rfl, Or.inr (Or.inr (Or.inl ⟨by omega, h175, rfl⟩))⟩, (congrArg Int32.toInt (cu_s rfl)).trans (by omega), fun h7 => by exfalso; have h6 : (lkT (K (pS a0.toNatClampNeg))) ≤ 6 := h7; omega⟩)⟩), by (try dsimp only); rw [ht]; exact ⟨hT, hF, m520, m526, m529, m530, m531, m532⟩⟩, hS.F ht⟩) hS.2.2 dX4_readLine_178
    have ho543 : r5.toInt < 5 ∨ 9 < r5.toInt := by
      by_cases hz9 : r5.toInt < 5
      · exact Or.inl hz9
      have u9 : (5 : Int) ≤ r5.toInt := Int.not_lt.mp hz9
      have u9 := ll_nx (k1 := 6) u9 hs77 (by decide) (by decide)
      have u9 := ll_nx (k1 := 7) u9 hs197 (by decide) (by decide)
      have u9 := ll_nx (k1 := 8) u9 hs317 (by decide) (by decide)
      have u9 := ll_nx (k1 := 9) u9 hs483 (by decide) (by decide)
      have u9 := ll_nx (k1 := 10) u9 hs513 (by decide) (by decide)
      exact Or.inr (Int.lt_of_lt_of_le (by decide) u9)
    refine lv_tableOut (tgt := 182) hx hb dX4_readLine_54 ho543 (by decide) ?_
    refine lv_aload_n hx hb dX4_readLine_182 rfl (lv_at hl 1 rfl) ?_
    refine lv_ldc (v := 99999) hx hb hown (ht_at2 hts 52 rfl) dX4_readLine_183 ?_
    refine lv_aload_n hx hb dX4_readLine_185 rfl (lv_at hl 1 rfl) ?_
    refine tw_get hx hb hts bF2_X4 hown hK hT hr_o0 shc_152 rfl 3 (by decide) (ht_at2 hts 44 rfl) (fun _ h9 => h9) dX4_readLine_186 (fun v9 m544 h9 => ?_)
    obtain ⟨b545, rfl, hg546⟩ := h9 _ rfl
    have hFc := gA_free hG hA hS
    refine va_calli (va_runV (As := [.int 99999, .ref b545]) (rest := []) ⟨hx, hb, hml, hown, hts⟩ (c_takeNumber_firsts l dC dI kA adK adV G H nC nS o0 99999 b545 th x27 ln vT tv ix_tv ix_tv K X pS hT hg546 hr_o0 m61 hr_th m75 m62 (by have q8 := ti_all ix_tv; omega) (by have q8 := ti_all x27; omega) (by have := (show x27.toInt = x27.toInt from rfl); have := (show ix_tv.toInt = ix_tv.toInt from rfl); omega) (by have q8 := ti_all ln; omega) (rg_t (a := 99999) (by decide) (by first | decide | omega) (by first | decide | omega)) (fun m hm => hKK m (Nat.le_trans hm (Nat.le_of_eq (tn_same hx_tv rfl rfl)))) (fun m hm => hXX m (Nat.lt_of_lt_of_eq hm (tn_same hx_tv rfl rfl))) m68 (by have q9 := (show ix_tv.toInt = ix_tv.toInt from rfl); have := (show ix_tv.toInt = ix_tv.toInt from rfl); omega) m73 (by have q8 := ti_all tv; omega) (by omega) (by omega)) (cwV 2 hts (goodIn_app (goodIn_r _ [47, 48, 49, 6] rfl (by decide +kernel)) (goodIn_ca (goodIn_r _ [46, 1, 2, 8] rfl (by decide +kernel)) (bs2_in _ _))) rfl rfl rfl (by decide +kernel) ⟨(Nat.le_of_ble_eq_true rfl), (Nat.le_of_ble_eq_true rfl)⟩) ⟨fun a U g mk q => by obtain ⟨q0, q1, qK, qE⟩ := q; exact ⟨q0, q1, va_K.moved (u := U) (U := U.calling g mk a) (Vm.Alike.refl U.vm) qK, EVC.blind g mk a qE⟩, gH_rc hK hT hr_o0 shc_152 rfl, fun U hU hW => ⟨rfl, hU, va_K.moved hW.alike hK, hE.call hS hFc hU hW⟩⟩ rfl rfl hl.1 rfl (lv_room (Nat.le_of_ble_eq_true rfl)) dX4_readLine_189 ⟨(Nat.le_of_ble_eq_true rfl), (Nat.le_of_ble_eq_true rfl)⟩) hS (fun q _ h => hFc q h) hFc (fun r547 u t H locs ht hvm hw548 hB _ _ hS => ?_)
    obtain ⟨u549, rfl⟩ : ∃ z, z = u := ⟨_, rfl⟩
    obtain ⟨hT, hF1, m550⟩ := hB
    rw [ht] at hT hF1 m550
    have m551 := (hF1.fld hr_o0 skc_152 (k := 0) (by decide) (by decide)).trans m61
    have m552 := (hF1.fld hr_o0 skc_152 (k := 11) (by decide) (by decide)).trans m62
    have m555 := (hF1.fld hr_o0 skc_152 (k := 8) (by decide) (by decide)).trans m65
    have m556 := (hF1.fld hr_o0 skc_152 (k := 12) (by decide) (by decide)).trans m66
    have m557 := (hF1.fld hr_o0 skc_152 (k := 9) (by decide) (by decide)).trans m67
    have m558 := m68.kept (hF1.arr hr_th skc_153 (by decide))
    have m559 := m69.kept (hF1.arr hr_sp9 skc_162 (by decide))
    have m560 := m70.kept (hF1.arr hr_kn9 skc_155 (by decide))
    have m561 := m71.kept (hF1.arr hr_sf9 skc_160 (by decide))
    have m562 := m72.kept (hF1.arr hr_st9 skc_161 (by decide))
    have m563 := (el_kept (hF1.arr hr_th skc_153 (by decide))).trans m73
    have hF := hF.more hF1 (by decide)
    try dsimp only at hw548
    obtain ⟨h569, h570, hf571, hf572⟩ := hw548
    refine lv_if_ne (tgt := 197) hx hb dX4_readLine_192 (by decide) (fun c573 => ?_) (fun c573 => ?_)
    · have t574 : r547.toInt ≠ 0 := ti_ne c573 rfl (by decide)
      refine lv_aload_n hx hb dX4_readLine_197 rfl (lv_at hl 1 rfl) ?_
      refine lv_bipush (v := 19) hx hb dX4_readLine_198 (by decide) ?_
      have hFc := gA_free hG hA hS
      refine va_calli (va_runV (As := [.int 19]) (rest := []) ⟨hx, hb, hml, hown, hts⟩ (c_take l dC dI kA adK adV G H nC nS o0 19 th u549 vT tv ix_tv ix_tv K X pS hT hr_o0 m551 hr_th m550 (by have q8 := ti_all ix_tv; omega) (by have q8 := ti_all u549; omega) (by have := (show u549.toInt = u549.toInt from rfl); have := (show ix_tv.toInt = ix_tv.toInt from rfl); omega) (by have := (show (19 : Int32).toInt = 19 from (by decide)); omega) (fun m hm => hKK m (Nat.le_trans hm (Nat.le_of_eq (tn_same hx_tv rfl rfl)))) (fun m hm => hXX m (Nat.lt_of_lt_of_eq hm (tn_same hx_tv rfl rfl))) m558 (by have q9 := (show ix_tv.toInt = ix_tv.toInt from rfl); have := (show ix_tv.toInt = ix_tv.toInt from rfl); omega) m563 (by have q8 := ti_all tv; omega) (by omega) (by omega)) (cwV 1 hts (goodIn_app (goodIn_r _ [12, 13, 14, 6] rfl (by decide +kernel)) (goodIn_ca (goodIn_r _ [11, 1, 2] rfl (by decide +kernel)) (bs2_in _ _))) rfl rfl rfl (by decide +kernel) ⟨(Nat.le_of_ble_eq_true rfl), (Nat.le_of_ble_eq_true rfl)⟩) ⟨fun a U g mk q => by obtain ⟨q0, q1, qK, qE⟩ := q; exact ⟨q0, q1, va_K.moved (u := U) (U := U.calling g mk a) (Vm.Alike.refl U.vm) qK, EVC.blind g mk a qE⟩, gH_rc hK hT hr_o0 shc_152 rfl, fun U hU hW => ⟨rfl, hU, va_K.moved hW.alike hK, hE.call hS hFc hU hW⟩⟩ rfl rfl hl.1 rfl (lv_room (Nat.le_of_ble_eq_true rfl)) dX4_readLine_200 ⟨(Nat.le_of_ble_eq_true rfl), (Nat.le_of_ble_eq_true rfl)⟩) hS (fun q _ h => hFc q h) hFc (fun r575 u t H locs ht hvm hw576 hB _ _ hS => ?_)
      obtain ⟨u577, rfl⟩ : ∃ z, z = u := ⟨_, rfl⟩
      obtain ⟨hT, hF1, m578⟩ := hB
      rw [ht] at hT hF1 m578
      have m579 := (hF1.fld hr_o0 skc_152 (k := 0) (by decide) (by decide)).trans m551
      have m580 := (hF1.fld hr_o0 skc_152 (k := 11) (by decide) (by decide)).trans m552
      have m583 := (hF1.fld hr_o0 skc_152 (k := 8) (by decide) (by decide)).trans m555
      have m584 := (hF1.fld hr_o0 skc_152 (k := 12) (by decide) (by decide)).trans m556
      have m585 := (hF1.fld hr_o0 skc_152 (k := 9) (by decide) (by decide)).trans m557
      have m586 := m558.kept (hF1.arr hr_th skc_153 (by decide))
      have m587 := m559.kept (hF1.arr hr_sp9 skc_162 (by decide))
      have m588 := m560.kept (hF1.arr hr_kn9 skc_155 (by decide))
      have m589 := m561.kept (hF1.arr hr_sf9 skc_160 (by decide))
      have m590 := m562.kept (hF1.arr hr_st9 skc_161 (by decide))
      have m591 := (el_kept (hF1.arr hr_th skc_153 (by decide))).trans m563
      have hF := hF.more hF1 (by decide)
      try dsimp only at hw576
      obtain ⟨h597, h598, hf599, hf600, hf601⟩ := hw576
      refine lv_if_eq (tgt := 214) hx hb dX4_readLine_203 (by decide) (fun c602 => ?_) (fun c602 => ?_)
      · have t603 : r575.toInt = 0 := ti_eq c602 rfl (by decide)
        refine lv_iconst (v := 1) hx hb dX4_readLine_214 (by decide) ?_
        refine lv_goto (tgt := 219) hx hb dX4_readLine_215 (by decide) ?_
        refine lv_istore_n (lv' := [(2, .int 1), (1, .int r5), (0, .ref o0)]) hx hb dX4_readLine_219 rfl hl (by decide) rfl (fun ls hl => ?_)
        refine lv_aload_n hx hb dX4_readLine_220 rfl (lv_at hl 2 rfl) ?_
        refine tw_getM (v := .ref st9) hx hb hts bF2_X4 hown hK hT hr_o0 shc_152 rfl 8 (by decide) (ht_at2 hts 14 rfl) (fun _ h9 => h9) m583 dX4_readLine_221 ?_
        refine lv_aload_n hx hb dX4_readLine_224 rfl (lv_at hl 2 rfl) ?_
        refine tw_getM (v := .int ln) hx hb hts bF2_X4 hown hK hT hr_o0 shc_152 rfl 11 (by decide) (ht_at2 hts 7 rfl) (fun _ h9 => h9) m580 dX4_readLine_225 ?_
        refine lv_aload_n hx hb dX4_readLine_228 rfl (lv_at hl 2 rfl) ?_
        refine tw_getM (v := .int s0) hx hb hts bF2_X4 hown hK hT hr_o0 shc_152 rfl 12 (by decide) (ht_at2 hts 9 rfl) (fun _ h9 => h9) m584 dX4_readLine_229 ?_
        refine tw_iast (i := ln) (x := s0) hx hb hK hT hG hS hr_st9 shc_161 rfl (vin_t (a := ln.toInt) rfl (by omega) (by omega)) (gi_of (show s0.toInt = s0.toInt from rfl) (by omega) (by omega)) dX4_readLine_232 (fun H locs hT oq m604 oi hS => ?_)
        have hF := hF.ast hr_st9 skc_161 oq (by decide)
        have m610 := (el_kept (oq _ (gne hr_o0 hr_st9 (by decide)))).trans m584
        have m613 := m587.kept (oq _ (gne hr_sp9 hr_st9 (by decide)))
        have m614 := m588.kept (oq _ (gne hr_kn9 hr_st9 (by decide)))
        have m615 := m589.kept (oq _ (gne hr_sf9 hr_st9 (by decide)))
        have m616 := m590.put m604 oi
        have m622 := (el_kept (oq _ (gne hr_o0 hr_st9 (by decide)))).trans m578
        refine lv_iload_n hx hb dX4_readLine_233 rfl (lv_at hl 0 rfl) ?_
        exact W.zret (v := 1) hx hb hr (by decide) (fun t ht hW => ⟨⟨1, (u577, s0, vS, (cu vK ln.toNatClampNeg r5), (cu vF ln.toNatClampNeg s0), (cu vE ln.toNatClampNeg s0)), rfl, (by exact ⟨(by have q8 := ti_all u577; omega), (by have q8 := ti_all s0; omega), (rg_t (a := 1) (by decide) (by first | decide | omega) (by first | decide | omega)), (by omega), (by omega), (by have : (0 : Int32).toInt = 0 := (by decide); have : (1 : Int32).toInt = 1 := (by decide); have : (5 : Int32).toInt = 5 := (by decide); have : (6 : Int32).toInt = 6 := (by decide); have : (7 : Int32).toInt = 7 := (by decide); have : (8 : Int32).toInt = 8 := (by decide); have : (9 : Int32).toInt = 9 := (by decide); have : (-1 : Int32).toInt = -1 := (by decide); have l9 := hf24; rw [show x2.toInt = K (pS a0.toNatClampNeg) from by omega] at l9; have x9 := (show pS x27.toNatClampNeg = X (pS a0.toNatClampNeg) from by rw [show x27.toNatClampNeg = a0.toNatClampNeg + 1 from by have := tn_of (show a0.toInt = a0.toInt from rfl) (by omega); have := tn_of (show x27.toInt = x27.toInt from rfl) (by omega); omega]; exact hXX _ (by have := tn_of (show a0.toInt = a0.toInt from rfl) (by omega); have := tn_of (show tn.toInt = tn.toInt from rfl) (by omega); omega)); have h189 := hf572; rw [show (99999 : Int32).toInt = 99999 from by decide, show r547.toInt = 1 from by omega] at h189; rw [x9] at h189; have h200 := hf600; rw [show (19 : Int32).toInt = 19 from by decide, show r575.toInt = 0 from by omega] at h200; have y9 := h200.resolve_left (fun h8 => by have := h8.2.1; omega); exact Or.inr (Or.inr (Or.inr (Or.inr (Or.inr (⟨⟨by omega, by omega⟩, Or.inr ⟨_, h189, Or.inl ⟨y9.1, by decide, y9.2.2⟩⟩⟩)))))), (zKp.rf.st (Nat.le_refl _)), (zKp.rf.st (Nat.le_refl _)), (zKp.rf.st (Nat.le_refl _)), zKp.rf, (fun _ => by have : (0 : Int32).toInt = 0 := (by decide); have : (1 : Int32).toInt = 1 := (by decide); have : (5 : Int32).toInt = 5 := (by decide); have : (6 : Int32).toInt = 6 := (by decide); have : (7 : Int32).toInt = 7 := (by decide); have : (8 : Int32).toInt = 8 := (by decide); have : (9 : Int32).toInt = 9 := (by decide); have : (-1 : Int32).toInt = -1 := (by decide); have l9 := hf24; rw [show x2.toInt = K (pS a0.toNatClampNeg) from by omega] at l9; have x9 := (show pS x27.toNatClampNeg = X (pS a0.toNatClampNeg) from by rw [show x27.toNatClampNeg = a0.toNatClampNeg + 1 from by have := tn_of (show a0.toInt = a0.toInt from rfl) (by omega); have := tn_of (show x27.toInt = x27.toInt from rfl) (by omega); omega]; exact hXX _ (by have := tn_of (show a0.toInt = a0.toInt from rfl) (by omega); have := tn_of (show tn.toInt = tn.toInt from rfl) (by omega); omega)); have h189 := hf572; rw [show (99999 : Int32).toInt = 99999 from by decide, show r547.toInt = 1 from by omega] at h189; rw [x9] at h189; have h200 := hf600; rw [show (19 : Int32).toInt = 19 from by decide, show r575.toInt = 0 from by omega] at h200; have y9 := h200.resolve_left (fun h8 => by have := h8.2.1; omega); exact ⟨((lkT (K (pS a0.toNatClampNeg))), (zC (tz vS) s0.toNatClampNeg s0.toNatClampNeg)), ⟨rfl, Or.inr (Or.inr (Or.inr (Or.inr ⟨⟨by omega, by omega⟩, _, h189, Or.inl ⟨y9.1, zC_0, y9.2.2⟩⟩)))⟩, (congrArg Int32.toInt (cu_s rfl)).trans (by omega), fun _ => ⟨congrArg Int32.toNatClampNeg (cu_s rfl), congrArg Int32.toNatClampNeg (cu_s rfl), rfl⟩⟩)⟩), by (try dsimp only); rw [ht]; exact ⟨hT, hF, m622, m610, m613, m614, m615, m616⟩⟩, hS.F ht⟩) hS.2.2 dX4_readLine_234
      · have t623 : r575.toInt ≠ 0 := ti_ne c602 rfl (by decide)
        refine lv_aload_n hx hb dX4_readLine_206 rfl (lv_at hl 1 rfl) ?_
        refine lv_iconst (v := 0) hx hb dX4_readLine_207 (by decide) ?_
        have hFc := gA_free hG hA hS
        refine va_calli (va_runV (As := [.int 0]) (rest := []) ⟨hx, hb, hml, hown, hts⟩ (c_readAny0 l dC dI kA adK adV G H nC nS o0 th u577 s0 sp9 vT vS tv ix_tv ix_tv K X pS hT hr_o0 m579 hr_th m578 m584 m585 hr_sp9 (by have q8 := ti_all ix_tv; omega) (by have q8 := ti_all u577; omega) (by have := (show u577.toInt = u577.toInt from rfl); have := (show ix_tv.toInt = ix_tv.toInt from rfl); omega) (fun m hm => hKK m (Nat.le_trans hm (Nat.le_of_eq (tn_same hx_tv rfl rfl)))) (fun m hm => hXX m (Nat.lt_of_lt_of_eq hm (tn_same hx_tv rfl rfl))) (by have q8 := ti_all s0; omega) (by have := (show s0.toInt = s0.toInt from rfl); have := (show u577.toInt = u577.toInt from rfl); omega) m586 m587 (by have q9 := (show ix_tv.toInt = ix_tv.toInt from rfl); have := (show ix_tv.toInt = ix_tv.toInt from rfl); omega) m591 (by have q8 := ti_all tv; omega) (by omega) (by omega)) (cwV 1 hts (goodIn_app (goodIn_r _ [42, 43, 44, 6] rfl (by decide +kernel)) (goodIn_ca (goodIn_r _ [16, 17, 18, 1, 2, 16, 19, 20, 21, 22, 10, 23, 24, 25, 26, 6, 27, 28, 29, 11, 12, 13, 14, 30, 31, 32, 33, 34, 35, 36, 37, 38, 39, 40, 41, 42, 43, 44] rfl (by decide +kernel)) (bs2_in _ _))) rfl rfl rfl (by decide +kernel) ⟨(Nat.le_of_ble_eq_true rfl), (Nat.le_of_ble_eq_true rfl)⟩) ⟨fun a U g mk q => by obtain ⟨q0, q1, qK, qE⟩ := q; exact ⟨q0, q1, va_K.moved (u := U) (U := U.calling g mk a) (Vm.Alike.refl U.vm) qK, EVC.blind g mk a qE⟩, gH_rc hK hT hr_o0 shc_152 rfl, fun U hU hW => ⟨rfl, hU, va_K.moved hW.alike hK, hE.call hS hFc hU hW⟩⟩ rfl rfl hl.1 rfl (lv_room (Nat.le_of_ble_eq_true rfl)) dX4_readLine_208 ⟨(Nat.le_of_ble_eq_true rfl), (Nat.le_of_ble_eq_true rfl)⟩) hS (fun q _ h => hFc q h) hFc (fun r624 u t H locs ht hvm hw625 hB _ _ hS => ?_)
        obtain ⟨u626, u627, u628⟩ := u
        obtain ⟨hT, hF1, m629, m630, m631⟩ := hB
        rw [ht] at hT hF1 m629 m630 m631
        have m633 := (hF1.fld hr_o0 skc_152 (k := 11) (by decide) (by decide)).trans m580
        have m636 := (hF1.fld hr_o0 skc_152 (k := 8) (by decide) (by decide)).trans m583
        have m641 := m588.kept (hF1.arr hr_kn9 skc_155 (by decide))
        have m642 := m589.kept (hF1.arr hr_sf9 skc_160 (by decide))
        have m643 := m590.kept (hF1.arr hr_st9 skc_161 (by decide))
        have hF := hF.more hF1 (by decide)
        try dsimp only at hw625
        obtain ⟨h650, h651, h652, hf653, hf654, hf655, hf656, hf657⟩ := hw625
        refine lv_if_eq (tgt := 218) hx hb dX4_readLine_211 (by decide) (fun c658 => ?_) (fun c658 => ?_)
        · have t659 : r624.toInt = 0 := ti_eq c658 rfl (by decide)
          refine lv_iconst (v := 0) hx hb dX4_readLine_218 (by decide) ?_
          refine lv_istore_n (lv' := [(2, .int 0), (1, .int r5), (0, .ref o0)]) hx hb dX4_readLine_219 rfl hl (by decide) rfl (fun ls hl => ?_)
          refine lv_aload_n hx hb dX4_readLine_220 rfl (lv_at hl 2 rfl) ?_
          refine tw_getM (v := .ref st9) hx hb hts bF2_X4 hown hK hT hr_o0 shc_152 rfl 8 (by decide) (ht_at2 hts 14 rfl) (fun _ h9 => h9) m636 dX4_readLine_221 ?_
          refine lv_aload_n hx hb dX4_readLine_224 rfl (lv_at hl 2 rfl) ?_
          refine tw_getM (v := .int ln) hx hb hts bF2_X4 hown hK hT hr_o0 shc_152 rfl 11 (by decide) (ht_at2 hts 7 rfl) (fun _ h9 => h9) m633 dX4_readLine_225 ?_
          refine lv_aload_n hx hb dX4_readLine_228 rfl (lv_at hl 2 rfl) ?_
          refine tw_getM (v := .int u627) hx hb hts bF2_X4 hown hK hT hr_o0 shc_152 rfl 12 (by decide) (ht_at2 hts 9 rfl) (fun _ h9 => h9) m630 dX4_readLine_229 ?_
          refine tw_iast (i := ln) (x := u627) hx hb hK hT hG hS hr_st9 shc_161 rfl (vin_t (a := ln.toInt) rfl (by omega) (by omega)) (gi_of (show u627.toInt = u627.toInt from rfl) (by omega) (by omega)) dX4_readLine_232 (fun H locs hT oq m660 oi hS => ?_)
          have hF := hF.ast hr_st9 skc_161 oq (by decide)
          have m668 := m641.kept (oq _ (gne hr_kn9 hr_st9 (by decide)))
          have m669 := m642.kept (oq _ (gne hr_sf9 hr_st9 (by decide)))
          have m670 := m643.put m660 oi
          have m676 := (el_kept (oq _ (gne hr_o0 hr_st9 (by decide)))).trans m629
          have m677 := (el_kept (oq _ (gne hr_o0 hr_st9 (by decide)))).trans m630
          have m678 := m631.kept (oq _ (gne hr_sp9 hr_st9 (by decide)))
          refine lv_iload_n hx hb dX4_readLine_233 rfl (lv_at hl 0 rfl) ?_
          exact W.zret (v := 0) hx hb hr (by decide) (fun t ht hW => ⟨⟨0, (u626, u627, u628, (cu vK ln.toNatClampNeg r5), (cu vF ln.toNatClampNeg s0), (cu vE ln.toNatClampNeg u627)), rfl, (by exact ⟨(by have q8 := ti_all u626; omega), (by have q8 := ti_all u627; omega), (rg_t (a := 0) (by decide) (by first | decide | omega) (by first | decide | omega)), (by omega), (by omega), (by have : (0 : Int32).toInt = 0 := (by decide); have : (1 : Int32).toInt = 1 := (by decide); have : (5 : Int32).toInt = 5 := (by decide); have : (6 : Int32).toInt = 6 := (by decide); have : (7 : Int32).toInt = 7 := (by decide); have : (8 : Int32).toInt = 8 := (by decide); have : (9 : Int32).toInt = 9 := (by decide); have : (-1 : Int32).toInt = -1 := (by decide); have l9 := hf24; rw [show x2.toInt = K (pS a0.toNatClampNeg) from by omega] at l9; have x9 := (show pS x27.toNatClampNeg = X (pS a0.toNatClampNeg) from by rw [show x27.toNatClampNeg = a0.toNatClampNeg + 1 from by have := tn_of (show a0.toInt = a0.toInt from rfl) (by omega); have := tn_of (show x27.toInt = x27.toInt from rfl) (by omega); omega]; exact hXX _ (by have := tn_of (show a0.toInt = a0.toInt from rfl) (by omega); have := tn_of (show tn.toInt = tn.toInt from rfl) (by omega); omega)); have h189 := hf572; rw [show (99999 : Int32).toInt = 99999 from by decide, show r547.toInt = 1 from by omega] at h189; rw [x9] at h189; have h200 := hf600; rw [show (19 : Int32).toInt = 19 from by decide, show r575.toInt = 1 from by omega] at h200; have h208 := hf655; rw [show r624.toInt = 0 from by omega] at h208; have y9 := h200.resolve_right (fun h8 => by have := h8.2.1; omega); rw [y9.2.2] at h208; exact Or.inr (Or.inr (Or.inr (Or.inr (Or.inr (⟨⟨by omega, by omega⟩, Or.inr ⟨_, h189, Or.inr ⟨y9.1, h208⟩⟩⟩)))))), (zKp.rf.st (Nat.le_refl _)), (zKp.rf.st (Nat.le_refl _)), (zKp.rf.st (Nat.le_refl _)), (zKp.rf.tr hf656 (by have := tn_of (show s0.toInt = s0.toInt from rfl) (by omega); omega)), (fun h8 => absurd h8 (by decide))⟩), by (try dsimp only); rw [ht]; exact ⟨hT, hF, m676, m677, m678, m668, m669, m670⟩⟩, hS.F ht⟩) hS.2.2 dX4_readLine_234
        · have t679 : r624.toInt ≠ 0 := ti_ne c658 rfl (by decide)
          refine lv_iconst (v := 1) hx hb dX4_readLine_214 (by decide) ?_
          refine lv_goto (tgt := 219) hx hb dX4_readLine_215 (by decide) ?_
          refine lv_istore_n (lv' := [(2, .int 1), (1, .int r5), (0, .ref o0)]) hx hb dX4_readLine_219 rfl hl (by decide) rfl (fun ls hl => ?_)
          refine lv_aload_n hx hb dX4_readLine_220 rfl (lv_at hl 2 rfl) ?_
          refine tw_getM (v := .ref st9) hx hb hts bF2_X4 hown hK hT hr_o0 shc_152 rfl 8 (by decide) (ht_at2 hts 14 rfl) (fun _ h9 => h9) m636 dX4_readLine_221 ?_
          refine lv_aload_n hx hb dX4_readLine_224 rfl (lv_at hl 2 rfl) ?_
          refine tw_getM (v := .int ln) hx hb hts bF2_X4 hown hK hT hr_o0 shc_152 rfl 11 (by decide) (ht_at2 hts 7 rfl) (fun _ h9 => h9) m633 dX4_readLine_225 ?_
          refine lv_aload_n hx hb dX4_readLine_228 rfl (lv_at hl 2 rfl) ?_
          refine tw_getM (v := .int u627) hx hb hts bF2_X4 hown hK hT hr_o0 shc_152 rfl 12 (by decide) (ht_at2 hts 9 rfl) (fun _ h9 => h9) m630 dX4_readLine_229 ?_
          refine tw_iast (i := ln) (x := u627) hx hb hK hT hG hS hr_st9 shc_161 rfl (vin_t (a := ln.toInt) rfl (by omega) (by omega)) (gi_of (show u627.toInt = u627.toInt from rfl) (by omega) (by omega)) dX4_readLine_232 (fun H locs hT oq m680 oi hS => ?_)
          have hF := hF.ast hr_st9 skc_161 oq (by decide)
          have m688 := m641.kept (oq _ (gne hr_kn9 hr_st9 (by decide)))
          have m689 := m642.kept (oq _ (gne hr_sf9 hr_st9 (by decide)))
          have m690 := m643.put m680 oi
          have m696 := (el_kept (oq _ (gne hr_o0 hr_st9 (by decide)))).trans m629
          have m697 := (el_kept (oq _ (gne hr_o0 hr_st9 (by decide)))).trans m630
          have m698 := m631.kept (oq _ (gne hr_sp9 hr_st9 (by decide)))
          refine lv_iload_n hx hb dX4_readLine_233 rfl (lv_at hl 0 rfl) ?_
          exact W.zret (v := 1) hx hb hr (by decide) (fun t ht hW => ⟨⟨1, (u626, u627, u628, (cu vK ln.toNatClampNeg r5), (cu vF ln.toNatClampNeg s0), (cu vE ln.toNatClampNeg u627)), rfl, (by exact ⟨(by have q8 := ti_all u626; omega), (by have q8 := ti_all u627; omega), (rg_t (a := 1) (by decide) (by first | decide | omega) (by first | decide | omega)), (by omega), (by omega), (by have : (0 : Int32).toInt = 0 := (by decide); have : (1 : Int32).toInt = 1 := (by decide); have : (5 : Int32).toInt = 5 := (by decide); have : (6 : Int32).toInt = 6 := (by decide); have : (7 : Int32).toInt = 7 := (by decide); have : (8 : Int32).toInt = 8 := (by decide); have : (9 : Int32).toInt = 9 := (by decide); have : (-1 : Int32).toInt = -1 := (by decide); have l9 := hf24; rw [show x2.toInt = K (pS a0.toNatClampNeg) from by omega] at l9; have x9 := (show pS x27.toNatClampNeg = X (pS a0.toNatClampNeg) from by rw [show x27.toNatClampNeg = a0.toNatClampNeg + 1 from by have := tn_of (show a0.toInt = a0.toInt from rfl) (by omega); have := tn_of (show x27.toInt = x27.toInt from rfl) (by omega); omega]; exact hXX _ (by have := tn_of (show a0.toInt = a0.toInt from rfl) (by omega); have := tn_of (show tn.toInt = tn.toInt from rfl) (by omega); omega)); have h189 := hf572; rw [show (99999 : Int32).toInt = 99999 from by decide, show r547.toInt = 1 from by omega] at h189; rw [x9] at h189; have h200 := hf600; rw [show (19 : Int32).toInt = 19 from by decide, show r575.toInt = 1 from by omega] at h200; have h208 := hf655; rw [show r624.toInt = 1 from by omega] at h208; have y9 := h200.resolve_right (fun h8 => by have := h8.2.1; omega); rw [y9.2.2] at h208; exact Or.inr (Or.inr (Or.inr (Or.inr (Or.inr (⟨⟨by omega, by omega⟩, Or.inr ⟨_, h189, Or.inr ⟨y9.1, h208⟩⟩⟩)))))), (zKp.rf.st (Nat.le_refl _)), (zKp.rf.st (Nat.le_refl _)), (zKp.rf.st (Nat.le_refl _)), (zKp.rf.tr hf656 (by have := tn_of (show s0.toInt = s0.toInt from rfl) (by omega); omega)), (fun _ => by have : (0 : Int32).toInt = 0 := (by decide); have : (1 : Int32).toInt = 1 := (by decide); have : (5 : Int32).toInt = 5 := (by decide); have : (6 : Int32).toInt = 6 := (by decide); have : (7 : Int32).toInt = 7 := (by decide); have : (8 : Int32).toInt = 8 := (by decide); have : (9 : Int32).toInt = 9 := (by decide); have : (-1 : Int32).toInt = -1 := (by decide); have l9 := hf24; rw [show x2.toInt = K (pS a0.toNatClampNeg) from by omega] at l9; have x9 := (show pS x27.toNatClampNeg = X (pS a0.toNatClampNeg) from by rw [show x27.toNatClampNeg = a0.toNatClampNeg + 1 from by have := tn_of (show a0.toInt = a0.toInt from rfl) (by omega); have := tn_of (show x27.toInt = x27.toInt from rfl) (by omega); omega]; exact hXX _ (by have := tn_of (show a0.toInt = a0.toInt from rfl) (by omega); have := tn_of (show tn.toInt = tn.toInt from rfl) (by omega); omega)); have h189 := hf572; rw [show (99999 : Int32).toInt = 99999 from by decide, show r547.toInt = 1 from by omega] at h189; rw [x9] at h189; have h200 := hf600; rw [show (19 : Int32).toInt = 19 from by decide, show r575.toInt = 1 from by omega] at h200; have z9 := hf657 (by omega); have y9 := h200.resolve_right (fun h8 => by have := h8.2.1; omega); rw [y9.2.2] at z9; exact ⟨((lkT (K (pS a0.toNatClampNeg))), (zC (tz u628) s0.toNatClampNeg u627.toNatClampNeg)), ⟨rfl, Or.inr (Or.inr (Or.inr (Or.inr ⟨⟨by omega, by omega⟩, _, h189, Or.inr ⟨y9.1, z9⟩⟩)))⟩, (congrArg Int32.toInt (cu_s rfl)).trans (by omega), fun _ => ⟨congrArg Int32.toNatClampNeg (cu_s rfl), congrArg Int32.toNatClampNeg (cu_s rfl), rfl⟩⟩)⟩), by (try dsimp only); rw [ht]; exact ⟨hT, hF, m696, m697, m698, m688, m689, m690⟩⟩, hS.F ht⟩) hS.2.2 dX4_readLine_234
    · have t699 : r547.toInt = 0 := ti_eq c573 rfl (by decide)
      refine lv_iconst (v := 0) hx hb dX4_readLine_195 (by decide) ?_
      exact W.zret (v := 0) hx hb hr (by decide) (fun t ht hW => ⟨⟨0, (u549, s0, vS, (cu vK ln.toNatClampNeg r5), (cu vF ln.toNatClampNeg s0), vE), rfl, (by exact ⟨(by have q8 := ti_all u549; omega), (by have q8 := ti_all s0; omega), (rg_t (a := 0) (by decide) (by first | decide | omega) (by first | decide | omega)), (by omega), (by omega), (by have : (0 : Int32).toInt = 0 := (by decide); have : (1 : Int32).toInt = 1 := (by decide); have : (5 : Int32).toInt = 5 := (by decide); have : (6 : Int32).toInt = 6 := (by decide); have : (7 : Int32).toInt = 7 := (by decide); have : (8 : Int32).toInt = 8 := (by decide); have : (9 : Int32).toInt = 9 := (by decide); have : (-1 : Int32).toInt = -1 := (by decide); have l9 := hf24; rw [show x2.toInt = K (pS a0.toNatClampNeg) from by omega] at l9; have x9 := (show pS x27.toNatClampNeg = X (pS a0.toNatClampNeg) from by rw [show x27.toNatClampNeg = a0.toNatClampNeg + 1 from by have := tn_of (show a0.toInt = a0.toInt from rfl) (by omega); have := tn_of (show x27.toInt = x27.toInt from rfl) (by omega); omega]; exact hXX _ (by have := tn_of (show a0.toInt = a0.toInt from rfl) (by omega); have := tn_of (show tn.toInt = tn.toInt from rfl) (by omega); omega)); have h189 := hf572; rw [show (99999 : Int32).toInt = 99999 from by decide, show r547.toInt = 0 from by omega] at h189; rw [x9] at h189; exact Or.inr (Or.inr (Or.inr (Or.inr (Or.inr (⟨⟨by omega, by omega⟩, Or.inl ⟨h189, by decide⟩⟩)))))), (zKp.rf.st (Nat.le_refl _)), (zKp.rf.st (Nat.le_refl _)), zKp.rf, zKp.rf, (fun h8 => absurd h8 (by decide))⟩), by (try dsimp only); rw [ht]; exact ⟨hT, hF, m550, m556, m559, m560, m561, m562⟩⟩, hS.F ht⟩) hS.2.2 dX4_readLine_196
  · have t700 : r5.toInt = (-1) := ti_eq c25 rfl (by decide)
    refine lv_iconst (v := 0) hx hb dX4_readLine_18 (by decide) ?_
    exact W.zret (v := 0) hx hb hr (by decide) (fun t ht hW => ⟨⟨0, (a0, s0, vS, vK, vF, vE), rfl, (by exact ⟨(by have q8 := ti_all a0; omega), (by have q8 := ti_all s0; omega), (rg_t (a := 0) (by decide) (by first | decide | omega) (by first | decide | omega)), (by omega), (by omega), (by have : (0 : Int32).toInt = 0 := (by decide); have : (1 : Int32).toInt = 1 := (by decide); have : (5 : Int32).toInt = 5 := (by decide); have : (6 : Int32).toInt = 6 := (by decide); have : (7 : Int32).toInt = 7 := (by decide); have : (8 : Int32).toInt = 8 := (by decide); have : (9 : Int32).toInt = 9 := (by decide); have : (-1 : Int32).toInt = -1 := (by decide); have l9 := hf24; rw [show x2.toInt = K (pS a0.toNatClampNeg) from by omega] at l9; exact Or.inl ⟨by omega, by decide, rfl⟩), zKp.rf, zKp.rf, zKp.rf, zKp.rf, (fun h8 => absurd h8 (by decide))⟩), by (try dsimp only); rw [ht]; exact ⟨hT, hF, m8, m13, m16, m17, m18, m19⟩⟩, hS.F ht⟩) hS.2.2 dX4_readLine_19
