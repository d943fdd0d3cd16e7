def w_c_bankOf : List Cond := .code yX11_bankOf cX11_bankOf 3 (some (.object "SeaLand$Work")) :: (HAppend.hAppend (α := List Cond) (β := List Cond) (γ := List Cond) [.fieldLink RX11 16 "SeaLand" "lake" "LSeaLand$Lake;", .code yX10_isBank cX10_isBank 1 (some .boolean), .fieldLink RX10 18 "SeaLand$Work" "kind" "I", .methodLink RX11 171 yX10_isBank, .instanceMethod yX10_isBank, .selects RX10 yX10_isBank yX10_isBank, .initialized RX10] bs2)
set_option maxHeartbeats 4000000 in
set_option maxRecDepth 100000 in
theorem c_bankOf (l : Launch) (dC : Nat → ClassId) (dI : Nat → Nat → Nat) (kA : Nat → ClassId) (adK adV : Nat → Nat) (G : gT) (H0 : Heap) (nC nS : Int) (o0 : Nat) (p0 : Nat)  (hT : gH (dC, dI) kA (SHc nC nS) G H0) (hr_p0 : G p0 = some 4) (hr_o0 : G o0 = some 14) (hgC : 0 ≤ nC ∧ nC ≤ 40) (hgS : 0 ≤ nS ∧ nS ≤ 60) : Met l yX11_bankOf w_c_bankOf ({ frames := 1, cells := 0, slots := 0, locals := 20 }) (va_Pc [.ref o0, .ref p0] (fun U => U.heap = H0 ∧ va_K (dC, dI) vwCl (tyl kA) U ∧ EVC adK adV (gA G H0.size) U U.heap)) (va_Qq (fun (r : Option Nat) (u : Unit) => ∀ a : Nat, r = some a → G a = some 13) (fun (_ : Unit) (t : State) => gH (dC, dI) kA (SHc nC nS) G t.heap ∧ gF (dC, dI) SKc G ([] : List (Nat × Nat)) H0 t.heap) (gA G H0.size)) 0 0 (gA G H0.size) := by
  refine Met.ofW (cc := cX11_bankOf) (maxL := 3) (ret := (some (.object "SeaLand$Work"))) (by decide +kernel) rfl ?_
  intro p e s m args below meth c s₁ B hml hv
  obtain ⟨rfl, hH0, hK, hE⟩ := hv
  have hx := B.exec
  have hb := B.bytes
  have hr := B.returns
  have hts := atoms_spec (ws := w_c_bankOf) B.pre
  have hown : s.vm.findClass RX11 = some m.cls := findClass_of_methodNamed B.named
  have hlocks := B.notSynchronized
  subst hH0
  generalize hAe : gA G s.heap.size = A at hE ⊢
  have hA : ∀ q : Nat, s.heap.size ≤ q → A q := fun q h => by rw [← hAe]; exact Or.inr h
  have hG := gA_of hAe
  have hS : va_S A s.heap s.heap [] := va_S.rf
  have hF : gF (dC, dI) SKc G ([] : List (Nat × Nat)) s.heap s.heap := gF.rf
  have hl := lv_entry ([.ref o0, .ref p0]) (n := 3) (Nat.le_of_ble_eq_true rfl)
  rw [lg_entry_eq]
  generalize (lg_sl ([.ref o0, .ref p0]) ++ List.replicate (3 - (lg_sl ([.ref o0, .ref p0])).length) Slot.unset).toArray = ls at hl ⊢
  have hl : lv_has ls 3 [(0, .ref o0), (1, .ref p0)] := hl
  refine lv_aload_n hx hb dX11_bankOf_0 rfl (lv_at hl 1 rfl) ?_
  refine tw_getN hx hb hts bF2_X1 hown hK hT hr_p0 shc_4 rfl 0 (by decide) (hE.nw 43 rfl) (fun _ h9 => h9) dX11_bankOf_1 (fun v9 m1 h9 => ?_)
  obtain ⟨x2, rfl, gx2, kx2⟩ := h9 _ rfl
  refine lv_aload_n hx hb dX11_bankOf_4 rfl (lv_at hl 0 rfl) ?_
  refine tw_get hx hb hts bF2_X11 hown hK hT hr_o0 shc_14 rfl 1 (by decide) (ht_at2 hts 0 rfl) (fun _ h9 => h9) dX11_bankOf_5 (fun v9 m3 h9 => ?_)
  obtain ⟨b4, rfl, hg5⟩ := h9 _ rfl
  refine tw_getN hx hb hts bF2_X3 hown hK hT hg5 shc_6 rfl 3 (by decide) (hE.nw 44 rfl) (fun _ h9 => h9) dX11_bankOf_8 (fun v9 m6 h9 => ?_)
  obtain ⟨x7, rfl, gx7, kx7⟩ := h9 _ rfl
  refine lv_icmp_lt (tgt := 16) hx hb dX11_bankOf_11 (by decide) (fun c8 => ?_) (fun c8 => ?_)
  · have t9 : x2.toInt < x7.toInt := ti_lt c8 rfl rfl
    refine lv_aload_n hx hb dX11_bankOf_16 rfl (lv_at hl 0 rfl) ?_
    refine tw_getM (v := .ref b4) hx hb hts bF2_X11 hown hK hT hr_o0 shc_14 rfl 1 (by decide) (ht_at2 hts 0 rfl) (fun _ h9 => h9) m3 dX11_bankOf_17 ?_
    refine tw_getN hx hb hts bF2_X3 hown hK hT hg5 shc_6 rfl 2 (by decide) (hE.nw 45 rfl) (fun _ h9 => h9) dX11_bankOf_20 (fun v9 m10 h9 => ?_)
    obtain ⟨b11, rfl, hg12⟩ := h9 _ rfl
    refine lv_aload_n hx hb dX11_bankOf_23 rfl (lv_at hl 1 rfl) ?_
    refine tw_getNM (v := .int x2) hx hb hts bF2_X1 hown hK hT hr_p0 shc_4 rfl 0 (by decide) (hE.nw 43 rfl) (fun _ h9 => h9) m1 dX11_bankOf_24 ?_
    refine tw_aald (i := x2) hx hb hK hT hg12 shc_18 rfl (vin_t (a := x2.toInt) rfl (by omega) (by omega)) dX11_bankOf_27 (fun v9 m13 h9 => ?_)
    obtain ⟨b14, rfl, hg15⟩ := h9
    refine lv_astore_n (lv' := [(2, .ref b14), (0, .ref o0), (1, .ref p0)]) hx hb dX11_bankOf_28 rfl hl (by decide) rfl (fun ls hl => ?_)
    refine lv_aload_n hx hb dX11_bankOf_29 rfl (lv_at hl 0 rfl) ?_
    have hFc := gA_free hG hA hS
    refine va_calli (va_runV (As := []) (rest := []) ⟨hx, hb, hml, hown, hts⟩ (c_isBank l dC dI kA adK adV G s.heap nC nS b14 hT hg15 (by omega) (by omega)) (cwV 0 hts (goodIn_app (goodIn_r _ [4, 5, 6, 7] rfl (by decide +kernel)) (goodIn_ca (goodIn_r _ [2, 3] rfl (by decide +kernel)) (bs2_in _ _))) rfl rfl rfl (by decide +kernel) ⟨(Nat.le_of_ble_eq_true rfl), (Nat.le_of_ble_eq_true rfl)⟩) ⟨fun a U g mk q => by obtain ⟨q0, q1, qK, qE⟩ := q; exact ⟨q0, q1, va_K.moved (u := U) (U := U.calling g mk a) (Vm.Alike.refl U.vm) qK, EVC.blind g mk a qE⟩, gH_rc hK hT hg15 shc_13 rfl, fun U hU hW => ⟨rfl, hU, va_K.moved hW.alike hK, hE.call hS hFc hU hW⟩⟩ rfl rfl hl.1 rfl (lv_room (Nat.le_of_ble_eq_true rfl)) dX11_bankOf_30 ⟨(Nat.le_of_ble_eq_true rfl), (Nat.le_of_ble_eq_true rfl)⟩) hS (fun q _ h => hFc q h) hFc (fun r16 u t H locs ht hvm hw17 hB _ _ hS => ?_)
    obtain ⟨hT, hF1⟩ := hB
    rw [ht] at hT hF1
    have hF := hF.more hF1 (by decide)
    try dsimp only at hw17
    have h23 := hw17
    refine lv_if_eq (tgt := 40) hx hb dX11_bankOf_33 (by decide) (fun c24 => ?_) (fun c24 => ?_)
    · have t25 : r16.toInt = 0 := ti_eq c24 rfl (by decide)
      refine lv_null hx hb dX11_bankOf_40 ?_
      exact W.aret (v := .null) hx hb hr (Or.inl ⟨_, rfl⟩) (Or.inl rfl) (fun t ht hW => ⟨⟨none, (), rfl, (fun _ h9 => by cases h9), by (try dsimp only); rw [ht]; exact ⟨hT, hF⟩⟩, hS.F ht⟩) hS.2.2 dX11_bankOf_41
    · have t26 : r16.toInt ≠ 0 := ti_ne c24 rfl (by decide)
      refine lv_aload_n hx hb dX11_bankOf_36 rfl (lv_at hl 0 rfl) ?_
      refine lv_goto (tgt := 41) hx hb dX11_bankOf_37 (by decide) ?_
      exact W.aret (v := .ref b14) hx hb hr (Or.inl ⟨_, rfl⟩) (Or.inr ⟨_, rfl⟩) (fun t ht hW => ⟨⟨(some b14), (), rfl, (fun _ h9 => by cases h9; exact hg15), by (try dsimp only); rw [ht]; exact ⟨hT, hF⟩⟩, hS.F ht⟩) hS.2.2 dX11_bankOf_41
  · have t27 : x7.toInt ≤ x2.toInt := ti_nlt c8 rfl rfl
    refine lv_null hx hb dX11_bankOf_14 ?_
    exact W.aret (v := .null) hx hb hr (Or.inl ⟨_, rfl⟩) (Or.inl rfl) (fun t ht hW => ⟨⟨none, (), rfl, (fun _ h9 => by cases h9), by (try dsimp only); rw [ht]; exact ⟨hT, hF⟩⟩, hS.F ht⟩) hS.2.2 dX11_bankOf_15
def w_c_lessForN : List Cond := .code yX11_lessFor cX11_lessFor 4 (some .int) :: (HAppend.hAppend (α := List Cond) (β := List Cond) (γ := List Cond) [] bs2)
set_option maxHeartbeats 4000000 in
set_option maxRecDepth 100000 in
theorem c_lessForN (l : Launch) (dC : Nat → ClassId) (dI : Nat → Nat → Nat) (kA : Nat → ClassId) (adK adV : Nat → Nat) (G : gT) (H0 : Heap) (nC nS : Int) (o0 : Nat) (ya : Int32)  (hT : gH (dC, dI) kA (SHc nC nS) G H0) (hr_o0 : G o0 = some 14) (hgC : 0 ≤ nC ∧ nC ≤ 40) (hgS : 0 ≤ nS ∧ nS ≤ 60) : Met l yX11_lessFor w_c_lessForN ({ frames := 0, cells := 0, slots := 0, locals := 0 }) (va_Pc [.ref o0, .null, .int ya] (fun U => U.heap = H0 ∧ va_K (dC, dI) vwCl (tyl kA) U ∧ EVC adK adV (gA G H0.size) U U.heap)) (va_Qi (fun (r : Int32) (u : Unit) => (0 ≤ r.toInt ∧ r.toInt ≤ 0)) (fun (_ : Unit) (t : State) => gH (dC, dI) kA (SHc nC nS) G t.heap ∧ gF (dC, dI) SKc G ([] : List (Nat × Nat)) H0 t.heap) (gA G H0.size)) 0 0 (gA G H0.size) := by
  refine Met.ofW (cc := cX11_lessFor) (maxL := 4) (ret := (some .int)) (by decide) rfl ?_
  intro p e s m args below meth c s₁ B hml hv
  obtain ⟨rfl, hH0, hK, hE⟩ := hv
  have hx := B.exec
  have hb := B.bytes
  have hr := B.returns
  have hts := atoms_spec (ws := w_c_lessForN) B.pre
  have hown : s.vm.findClass RX11 = some m.cls := findClass_of_methodNamed B.named
  have hlocks := B.notSynchronized
  subst hH0
  generalize hAe : gA G s.heap.size = A at hE ⊢
  have hA : ∀ q : Nat, s.heap.size ≤ q → A q := fun q h => by rw [← hAe]; exact Or.inr h
  have hG := gA_of hAe
  have hS : va_S A s.heap s.heap [] := va_S.rf
  have hF : gF (dC, dI) SKc G ([] : List (Nat × Nat)) s.heap s.heap := gF.rf
  have hl := lv_entry ([.ref o0, .null, .int ya]) (n := 4) (Nat.le_of_ble_eq_true rfl)
  rw [lg_entry_eq]
  generalize (lg_sl ([.ref o0, .null, .int ya]) ++ List.replicate (4 - (lg_sl ([.ref o0, .null, .int ya])).length) Slot.unset).toArray = ls at hl ⊢
  have hl : lv_has ls 4 [(0, .ref o0), (1, .null), (2, .int ya)] := hl
  refine lv_aload_nN hx hb dX11_lessFor_0 rfl (lv_at hl 1 rfl) ?_
  refine lv_ifnonnullN hx hb dX11_lessFor_1 ?_
  refine lv_iconst (v := 0) hx hb dX11_lessFor_4 (by decide) ?_
  exact W.iret (v := 0) hx hb hr (fun t ht hW => ⟨⟨0, (), rfl, (by exact (rg_t (a := 0) (by decide) (by first | decide | omega) (by first | decide | omega))), by (try dsimp only); rw [ht]; exact ⟨hT, hF⟩⟩, hS.F ht⟩) hS.2.2 dX11_lessFor_5
def w_c_lessForR : List Cond := .code yX11_lessFor cX11_lessFor 4 (some .int) :: (HAppend.hAppend (α := List Cond) (β := List Cond) (γ := List Cond) [.fieldLink RX11 16 "SeaLand" "lake" "LSeaLand$Lake;"] bs2)
set_option maxHeartbeats 4000000 in
set_option maxRecDepth 100000 in
theorem c_lessForR (l : Launch) (dC : Nat → ClassId) (dI : Nat → Nat → Nat) (kA : Nat → ClassId) (adK adV : Nat → Nat) (G : gT) (H0 : Heap) (nC nS : Int) (o0 : Nat) (wk : Nat) (ya : Int32)  (hT : gH (dC, dI) kA (SHc nC nS) G H0) (hr_wk : G wk = some 13) (hr_o0 : G o0 = some 14) (hgC : 0 ≤ nC ∧ nC ≤ 40) (hgS : 0 ≤ nS ∧ nS ≤ 60) : Met l yX11_lessFor w_c_lessForR ({ frames := 0, cells := 0, slots := 0, locals := 0 }) (va_Pc [.ref o0, .ref wk, .int ya] (fun U => U.heap = H0 ∧ va_K (dC, dI) vwCl (tyl kA) U ∧ EVC adK adV (gA G H0.size) U U.heap)) (va_Qi (fun (r : Int32) (u : Unit) => (-429496729 ≤ r.toInt ∧ r.toInt ≤ 429496729)) (fun (_ : Unit) (t : State) => gH (dC, dI) kA (SHc nC nS) G t.heap ∧ gF (dC, dI) SKc G ([] : List (Nat × Nat)) H0 t.heap) (gA G H0.size)) 0 0 (gA G H0.size) := by
  refine Met.ofW (cc := cX11_lessFor) (maxL := 4) (ret := (some .int)) (by decide) rfl ?_
  intro p e s m args below meth c s₁ B hml hv
  obtain ⟨rfl, hH0, hK, hE⟩ := hv
  have hx := B.exec
  have hb := B.bytes
  have hr := B.returns
  have hts := atoms_spec (ws := w_c_lessForR) B.pre
  have hown : s.vm.findClass RX11 = some m.cls := findClass_of_methodNamed B.named
  have hlocks := B.notSynchronized
  subst hH0
  generalize hAe : gA G s.heap.size = A at hE ⊢
  have hA : ∀ q : Nat, s.heap.size ≤ q → A q := fun q h => by rw [← hAe]; exact Or.inr h
  have hG := gA_of hAe
  have hS : va_S A s.heap s.heap [] := va_S.rf
  have hF : gF (dC, dI) SKc G ([] : List (Nat × Nat)) s.heap s.heap := gF.rf
  have hl := lv_entry ([.ref o0, .ref wk, .int ya]) (n := 4) (Nat.le_of_ble_eq_true rfl)
  rw [lg_entry_eq]
  generalize (lg_sl ([.ref o0, .ref wk, .int ya]) ++ List.replicate (4 - (lg_sl ([.ref o0, .ref wk, .int ya])).length) Slot.unset).toArray = ls at hl ⊢
  have hl : lv_has ls 4 [(0, .ref o0), (1, .ref wk), (2, .int ya)] := hl
  refine lv_aload_n hx hb dX11_lessFor_0 rfl (lv_at hl 1 rfl) ?_
  refine lv_ifnonnull (tgt := 6) hx hb dX11_lessFor_1 (by decide) ?_
  refine lv_aload_n hx hb dX11_lessFor_6 rfl (lv_at hl 0 rfl) ?_
  refine tw_get hx hb hts bF2_X11 hown hK hT hr_o0 shc_14 rfl 1 (by decide) (ht_at2 hts 0 rfl) (fun _ h9 => h9) dX11_lessFor_7 (fun v9 m1 h9 => ?_)
  obtain ⟨b2, rfl, hg3⟩ := h9 _ rfl
  refine tw_getN hx hb hts bF2_X3 hown hK hT hg3 shc_6 rfl 1 (by decide) (hE.nw 1 rfl) (fun _ h9 => h9) dX11_lessFor_10 (fun v9 m4 h9 => ?_)
  obtain ⟨b5, rfl, hg6⟩ := h9 _ rfl
  refine tw_getN hx hb hts bF2_X2 hown hK hT hg6 shc_5 rfl 2 (by decide) (hE.nw 17 rfl) (fun _ h9 => h9) dX11_lessFor_13 (fun v9 m7 h9 => ?_)
  obtain ⟨b8, rfl, hg9⟩ := h9 _ rfl
  refine lv_aload_n hx hb dX11_lessFor_16 rfl (lv_at hl 1 rfl) ?_
  refine tw_getN hx hb hts bF2_X10 hown hK hT hr_wk shc_13 rfl 3 (by decide) (hE.nw 13 rfl) (fun _ h9 => h9) dX11_lessFor_17 (fun v9 m10 h9 => ?_)
  obtain ⟨x11, rfl, gx11, kx11⟩ := h9 _ rfl
  refine tw_iald (i := x11) hx hb hK hT hg9 shc_27 rfl (vin_t (a := x11.toInt) rfl (by omega) (by omega)) dX11_lessFor_20 (fun v9 m12 h9 => ?_)
  obtain ⟨x13, rfl, gx13, kx13⟩ := h9
  refine lv_istore_n (lv' := [(3, .int x13), (0, .ref o0), (1, .ref wk), (2, .int ya)]) hx hb dX11_lessFor_21 rfl hl (by decide) rfl (fun ls hl => ?_)
  refine lv_iload_n hx hb dX11_lessFor_22 rfl (lv_at hl 0 rfl) ?_
  refine lv_iconst (v := 1) hx hb dX11_lessFor_23 (by decide) ?_
  have t14 : -2147483648 ≤ x13.toInt ∧ x13.toInt ≤ 2147483647 := ti_all x13
  refine lv_icmp_ne (tgt := 32) hx hb dX11_lessFor_24 (by decide) (fun c15 => ?_) (fun c15 => ?_)
  · have t16 : x13.toInt ≠ 1 := ti_ne c15 rfl (by decide)
    refine lv_iload_n hx hb dX11_lessFor_32 rfl (lv_at hl 0 rfl) ?_
    refine lv_iconst (v := 2) hx hb dX11_lessFor_33 (by decide) ?_
    refine lv_icmp_ne (tgt := 43) hx hb dX11_lessFor_34 (by decide) (fun c17 => ?_) (fun c17 => ?_)
    · have t18 : x13.toInt ≠ 2 := ti_ne c17 rfl (by decide)
      refine lv_iconst (v := 0) hx hb dX11_lessFor_43 (by decide) ?_
      exact W.iret (v := 0) hx hb hr (fun t ht hW => ⟨⟨0, (), rfl, (by exact (rg_t (a := 0) (by decide) (by first | decide | omega) (by first | decide | omega))), by (try dsimp only); rw [ht]; exact ⟨hT, hF⟩⟩, hS.F ht⟩) hS.2.2 dX11_lessFor_44
    · have t19 : x13.toInt = 2 := ti_eq c17 rfl (by decide)
      refine lv_iload_n hx hb dX11_lessFor_37 rfl (lv_at hl 3 rfl) ?_
      refine lv_iconst (v := 5) hx hb dX11_lessFor_38 (by decide) ?_
      have t20 : -2147483648 ≤ ya.toInt ∧ ya.toInt ≤ 2147483647 := ti_all ya
      refine lv_idiv hx hb dX11_lessFor_39 (by decide) ?_
      refine lv_topi (fun x21 ex21 => ?_)
      have t22 : (0 ≤ ya.toInt ∧ x21.toInt = ya.toInt / 5) ∨ (ya.toInt < 0 ∧ x21.toInt = -((-ya.toInt) / 5)) := ti_divs ex21 rfl (by decide) (by decide)
      refine lv_goto (tgt := 44) hx hb dX11_lessFor_40 (by decide) ?_
      exact W.iret (v := x21) hx hb hr (fun t ht hW => ⟨⟨x21, (), rfl, (by exact (by have q8 := ti_all x21; omega)), by (try dsimp only); rw [ht]; exact ⟨hT, hF⟩⟩, hS.F ht⟩) hS.2.2 dX11_lessFor_44
  · have t23 : x13.toInt = 1 := ti_eq c15 rfl (by decide)
    refine lv_iload_n hx hb dX11_lessFor_27 rfl (lv_at hl 3 rfl) ?_
    refine lv_bipush (v := 10) hx hb dX11_lessFor_28 (by decide) ?_
    have t24 : -2147483648 ≤ ya.toInt ∧ ya.toInt ≤ 2147483647 := ti_all ya
    refine lv_idiv hx hb dX11_lessFor_30 (by decide) ?_
    refine lv_topi (fun x25 ex25 => ?_)
    have t26 : (0 ≤ ya.toInt ∧ x25.toInt = ya.toInt / 10) ∨ (ya.toInt < 0 ∧ x25.toInt = -((-ya.toInt) / 10)) := ti_divs ex25 rfl (by decide) (by decide)
    exact W.iret (v := x25) hx hb hr (fun t ht hW => ⟨⟨x25, (), rfl, (by exact (by have q8 := ti_all x25; omega)), by (try dsimp only); rw [ht]; exact ⟨hT, hF⟩⟩, hS.F ht⟩) hS.2.2 dX11_lessFor_31
def w_c_pay : List Cond := .code yX11_pay cX11_pay 7 (some .int) :: (HAppend.hAppend (α := List Cond) (β := List Cond) (γ := List Cond) [.code yX11_contractOf cX11_contractOf 2 (some (.object "SeaLand$Contract")), .fieldLink RX11 414 "SeaLand" "contracted" "I", .code yX11_within cX11_within 3 (some .boolean), .methodLink RX11 58 yX11_within, .static yX11_within, .initialized RX11, .fieldLink RX11 36 "SeaLand" "contracts" "[LSeaLand$Contract;", .classLink RX11 557 "java/lang/IndexOutOfBoundsException", .initialized "java/lang/IndexOutOfBoundsException", .methodLink RX11 419 yX11_contractOf, .instanceMethod yX11_contractOf, .selects RX11 yX11_contractOf yX11_contractOf, .code yX1_hasSpan cX1_hasSpan 1 (some .boolean), .fieldLink RX1 28 "SeaLand$Contract" "measured" "Z", .fieldLink RX1 32 "SeaLand$Contract" "least" "I", .fieldLink RX1 10 "SeaLand$Contract" "most" "I", .methodLink RX11 431 yX1_hasSpan, .instanceMethod yX1_hasSpan, .selects RX1 yX1_hasSpan yX1_hasSpan, .initialized RX1, .code yX11_bankOf cX11_bankOf 3 (some (.object "SeaLand$Work")), .fieldLink RX11 16 "SeaLand" "lake" "LSeaLand$Lake;", .code yX10_isBank cX10_isBank 1 (some .boolean), .fieldLink RX10 18 "SeaLand$Work" "kind" "I", .methodLink RX11 171 yX10_isBank, .instanceMethod yX10_isBank, .selects RX10 yX10_isBank yX10_isBank, .initialized RX10, .methodLink RX11 440 yX11_bankOf, .instanceMethod yX11_bankOf, .selects RX11 yX11_bankOf yX11_bankOf, .code yX11_lessFor cX11_lessFor 4 (some .int), .methodLink RX11 444 yX11_lessFor, .instanceMethod yX11_lessFor, .selects RX11 yX11_lessFor yX11_lessFor, .fieldLink RX11 30 "SeaLand" "board" "LSeaLand$Board;", .code yX10_takesLayer cX10_takesLayer 1 (some .boolean), .fieldLink RX10 34 "SeaLand$Work" "layers" "I", .methodLink RX11 180 yX10_takesLayer, .instanceMethod yX10_takesLayer, .selects RX10 yX10_takesLayer yX10_takesLayer, .fieldLink RX11 23 "SeaLand" "rows" "LSeaLand$Rows;", .code yX6_forget cX6_forget 1 none, .fieldLink RX6 18 "SeaLand$Rows" "kept" "I", .fieldLink RX6 22 "SeaLand$Rows" "oldest" "I", .methodLink RX11 76 yX6_forget, .instanceMethod yX6_forget, .selects RX6 yX6_forget yX6_forget, .initialized RX6, .code yX10_addLayer cX10_addLayer 3 none, .fieldLink RX10 9 "SeaLand$Work" "thick" "[I", .fieldLink RX10 15 "SeaLand$Work" "clay" "[I", .methodLink RX11 183 yX10_addLayer, .instanceMethod yX10_addLayer, .selects RX10 yX10_addLayer yX10_addLayer] bs2)
set_option maxHeartbeats 4000000 in
set_option maxRecDepth 100000 in
theorem c_pay (l : Launch) (hlt : l.stackTraces = false) (dC : Nat → ClassId) (dI : Nat → Nat → Nat) (kA : Nat → ClassId) (adK adV : Nat → Nat) (G : gT) (H0 : Heap) (nC nS : Int) (o0 : Nat) (p0 : Int32)  (hT : gH (dC, dI) kA (SHc nC nS) G H0) (hr_o0 : G o0 = some 14) (hgC : 0 ≤ nC ∧ nC ≤ 40) (hgS : 0 ≤ nS ∧ nS ≤ 60) : vx_Met l yX11_pay w_c_pay ({ frames := 7, cells := 1, slots := 6, locals := 121 }) (va_Pc [.ref o0, .int p0] (fun U => U.heap = H0 ∧ va_K (dC, dI) vwCl (tyl kA) U ∧ EVC adK adV (gA G H0.size) U U.heap)) (va_Qi (fun (r : Int32) (u : Unit) => True) (fun (_ : Unit) (t : State) => gH (dC, dI) kA (SHc nC nS) G t.heap ∧ gF (dC, dI) SKc G ([(3, 17), (4, 7), (9, 2), (9, 3), (13, 7), (36, 0), (37, 0)] : List (Nat × Nat)) H0 t.heap) (gA G H0.size)) (vx_X (fun _ : Unit => True) (fun E _ t => (E = "java/lang/IndexOutOfBoundsException") ∧ gH (dC, dI) kA (SHc nC nS) G t.heap ∧ gF (dC, dI) SKc G ([(3, 17), (4, 7), (9, 2), (9, 3), (13, 7), (36, 0), (37, 0)] : List (Nat × Nat)) H0 t.heap) (gA G H0.size)) 1 6 (gA G H0.size) := by
  refine vx_ofW (cc := cX11_pay) (maxL := 7) (ret := (some .int)) (by decide) rfl ?_
  intro p e s m args below meth c s₁ B hml hnt hv
  obtain ⟨rfl, hH0, hK, hE⟩ := hv
  have hx := B.exec
  have hb := B.bytes
  have hr := B.returns
  have hts := atoms_spec (ws := w_c_pay) B.pre
  have hown : s.vm.findClass RX11 = some m.cls := findClass_of_methodNamed B.named
  have hlocks := B.notSynchronized
  subst hH0
  generalize hAe : gA G s.heap.size = A at hE ⊢
  have hA : ∀ q : Nat, s.heap.size ≤ q → A q := fun q h => by rw [← hAe]; exact Or.inr h
  have hG := gA_of hAe
  have hS : va_S A s.heap s.heap [] := va_S.rf
  have hF : gF (dC, dI) SKc G ([(3, 17), (4, 7), (9, 2), (9, 3), (13, 7), (36, 0), (37, 0)] : List (Nat × Nat)) s.heap s.heap := gF.rf
  have hl := lv_entry ([.ref o0, .int p0]) (n := 7) (Nat.le_of_ble_eq_true rfl)
  rw [lg_entry_eq]
  generalize (lg_sl ([.ref o0, .int p0]) ++ List.replicate (7 - (lg_sl ([.ref o0, .int p0])).length) Slot.unset).toArray = ls at hl ⊢
  have hl : lv_has ls 7 [(0, .ref o0), (1, .int p0)] := hl
  refine lv_aload_n hx hb dX11_pay_0 rfl (lv_at hl 0 rfl) ?_
  refine lv_iload_n hx hb dX11_pay_1 rfl (lv_at hl 1 rfl) ?_
  have hFc := gA_free hG hA hS
  refine vx_callr (vx_runV (As := [.int p0]) (rest := []) ⟨hx, hb, hml, hown, hts⟩ (c_contractOf l hlt dC dI kA adK adV G s.heap nC nS o0 p0 hT hr_o0 (by omega) (by omega)) (cwV 1 hts (goodIn_app (goodIn_r _ [10, 11, 12, 6] rfl (by decide +kernel)) (goodIn_ca (goodIn_r _ [1, 2, 3, 4, 5, 6, 7, 8, 9] rfl (by decide +kernel)) (bs2_in _ _))) rfl rfl rfl (by decide +kernel) ⟨(Nat.le_of_ble_eq_true rfl), (Nat.le_of_ble_eq_true rfl)⟩) ⟨fun a U g mk q => by obtain ⟨q0, q1, qK, qE⟩ := q; exact ⟨q0, q1, va_K.moved (u := U) (U := U.calling g mk a) (Vm.Alike.refl U.vm) qK, EVC.blind g mk a qE⟩, gH_rc hK hT hr_o0 shc_14 rfl, fun U hU hW => ⟨rfl, hU, va_K.moved hW.alike hK, hE.call hS hFc hU hW⟩⟩ rfl rfl hl.1 rfl (lv_room (Nat.le_of_ble_eq_true rfl)) dX11_pay_2 ⟨(Nat.le_of_ble_eq_true rfl), (Nat.le_of_ble_eq_true rfl)⟩) hS (fun q _ h => hFc q h) hFc (fun q _ h => hFc q h) (fun E ce q9 u t H locs ht hvm _ hw2 _ _ hS hce hcv hcl => ?_) (fun u r1 t H locs ht hvm hw2 hB _ _ hS => ?_)
  · obtain ⟨hw2, hTx, hFx⟩ := hw2; rw [ht] at hTx hFx
    exact vx_out (fun x h => (hnt x h).elim) hlocks hce hcv hcl (fun t2 h2 hW => ⟨(), trivial, ⟨((fun h9 => h9) hw2), by rw [h2]; exact hTx, by rw [h2]; exact hF.more hFx (by decide)⟩, hS.F h2⟩) hS.2.2 (by decide) (by decide)
  · obtain ⟨hr9, hT, hF1⟩ := hB
    rw [ht] at hT hF1
    have hF := hF.more hF1 (by decide)
    have hg3 := hr9
    try dsimp only at hw2
    refine lv_astore_n (lv' := [(2, .ref r1), (0, .ref o0), (1, .int p0)]) hx hb dX11_pay_5 rfl hl (by decide) rfl (fun ls hl => ?_)
    refine lv_aload_n hx hb dX11_pay_6 rfl (lv_at hl 0 rfl) ?_
    refine tw_getN hx hb hts bF2_X1 hown hK hT hg3 shc_4 rfl 7 (by decide) (hE.nw 38 rfl) (fun _ h9 => h9) dX11_pay_7 (fun v9 m4 h9 => ?_)
    obtain ⟨x5, rfl, gx5, kx5⟩ := h9 _ rfl
    refine lv_if_ne (tgt := 20) hx hb dX11_pay_10 (by decide) (fun c6 => ?_) (fun c6 => ?_)
    · have t7 : x5.toInt ≠ 0 := ti_ne c6 rfl (by decide)
      refine lv_iconst (v := (-1)) hx hb dX11_pay_20 (by decide) ?_
      exact vx_ret (W.iret (v := (-1)) hx hb hr (fun t ht hW => ⟨⟨(-1), (), rfl, (by exact trivial), by (try dsimp only); rw [ht]; exact ⟨hT, hF⟩⟩, hS.F ht⟩) hS.2.2 dX11_pay_21)
    · have t8 : x5.toInt = 0 := ti_eq c6 rfl (by decide)
      refine lv_aload_n hx hb dX11_pay_13 rfl (lv_at hl 0 rfl) ?_
      have hFc := gA_free hG hA hS
      refine va_calli (va_runV (As := []) (rest := []) ⟨hx, hb, hml, hown, hts⟩ (c_hasSpan l dC dI kA adK adV G H nC nS r1 hT hg3 (by omega) (by omega)) (cwV 0 hts (goodIn_app (goodIn_r _ [17, 18, 19, 20] rfl (by decide +kernel)) (goodIn_ca (goodIn_r _ [13, 14, 15, 16] rfl (by decide +kernel)) (bs2_in _ _))) rfl rfl rfl (by decide +kernel) ⟨(Nat.le_of_ble_eq_true rfl), (Nat.le_of_ble_eq_true rfl)⟩) ⟨fun a U g mk q => by obtain ⟨q0, q1, qK, qE⟩ := q; exact ⟨q0, q1, va_K.moved (u := U) (U := U.calling g mk a) (Vm.Alike.refl U.vm) qK, EVC.blind g mk a qE⟩, gH_rc hK hT hg3 shc_4 rfl, fun U hU hW => ⟨rfl, hU, va_K.moved hW.alike hK, hE.call hS hFc hU hW⟩⟩ rfl rfl hl.1 rfl (lv_room (Nat.le_of_ble_eq_true rfl)) dX11_pay_14 ⟨(Nat.le_of_ble_eq_true rfl), (Nat.le_of_ble_eq_true rfl)⟩) hS (fun q _ h => hFc q h) hFc (fun r9 u t H locs ht hvm hw10 hB _ _ hS => ?_)
      obtain ⟨hT, hF1⟩ := hB
      rw [ht] at hT hF1
      have hF := hF.more hF1 (by decide)
      try dsimp only at hw10
      have h12 := hw10
      refine lv_if_ne (tgt := 22) hx hb dX11_pay_17 (by decide) (fun c13 => ?_) (fun c13 => ?_)
      · have t14 : r9.toInt ≠ 0 := ti_ne c13 rfl (by decide)
        refine lv_aload_n hx hb dX11_pay_22 rfl (lv_at hl 1 rfl) ?_
        refine lv_aload_n hx hb dX11_pay_23 rfl (lv_at hl 0 rfl) ?_
        have hFc := gA_free hG hA hS
        refine va_callq (va_runV (As := [.ref r1]) (rest := []) ⟨hx, hb, hml, hown, hts⟩ (c_bankOf l dC dI kA adK adV G H nC nS o0 r1 hT hg3 hr_o0 (by omega) (by omega)) (cwV 1 hts (goodIn_app (goodIn_r _ [29, 30, 31, 6] rfl (by decide +kernel)) (goodIn_ca (goodIn_r _ [21, 22, 23, 24, 25, 26, 27, 28] rfl (by decide +kernel)) (bs2_in _ _))) rfl rfl rfl (by decide +kernel) ⟨(Nat.le_of_ble_eq_true rfl), (Nat.le_of_ble_eq_true rfl)⟩) ⟨fun a U g mk q => by obtain ⟨q0, q1, qK, qE⟩ := q; exact ⟨q0, q1, va_K.moved (u := U) (U := U.calling g mk a) (Vm.Alike.refl U.vm) qK, EVC.blind g mk a qE⟩, gH_rc hK hT hr_o0 shc_14 rfl, fun U hU hW => ⟨rfl, hU, va_K.moved hW.alike hK, hE.call hS hFc hU hW⟩⟩ rfl rfl hl.1 rfl (lv_room (Nat.le_of_ble_eq_true rfl)) dX11_pay_24 ⟨(Nat.le_of_ble_eq_true rfl), (Nat.le_of_ble_eq_true rfl)⟩) hS (fun q _ h => hFc q h) hFc (fun r15 u t H locs ht hvm hw16 hB _ _ hS => ?_)
        obtain ⟨hT, hF1⟩ := hB
        rw [ht] at hT hF1
        have hF := hF.more hF1 (by decide)
        try dsimp only at hw16
        rcases r15 with _ | b18
        · refine W.eq (g2 := F0 m 27 ls [.null]) rfl ?_
          refine lv_astore_nN (lv' := [(3, .null), (2, .ref r1), (0, .ref o0), (1, .int p0)]) hx hb dX11_pay_27 rfl hl (by decide) rfl (fun ls hl => ?_)
          refine lv_aload_n hx hb dX11_pay_28 rfl (lv_at hl 1 rfl) ?_
          refine tw_getN hx hb hts bF2_X1 hown hK hT hg3 shc_4 rfl 5 (by decide) (hE.nw 40 rfl) (fun _ h9 => h9) dX11_pay_29 (fun v9 m20 h9 => ?_)
          obtain ⟨x21, rfl, gx21, kx21⟩ := h9 _ rfl
          refine lv_aload_n hx hb dX11_pay_32 rfl (lv_at hl 2 rfl) ?_
          refine lv_aload_nN hx hb dX11_pay_33 rfl (lv_at hl 0 rfl) ?_
          refine lv_aload_n hx hb dX11_pay_34 rfl (lv_at hl 1 rfl) ?_
          refine tw_getNM (v := .int x21) hx hb hts bF2_X1 hown hK hT hg3 shc_4 rfl 5 (by decide) (hE.nw 40 rfl) (fun _ h9 => h9) m20 dX11_pay_35 ?_
          have hFc := gA_free hG hA hS
          refine va_calli (va_runV (As := [.null, .int x21]) (rest := [.int x21]) ⟨hx, hb, hml, hown, hts⟩ (c_lessForN l dC dI kA adK adV G H nC nS o0 x21 hT hr_o0 (by omega) (by omega)) (cwV 2 hts (goodIn_app (goodIn_r _ [33, 34, 35, 6] rfl (by decide +kernel)) (goodIn_ca (goodIn_r _ [32] rfl (by decide +kernel)) (bs2_in _ _))) rfl rfl rfl (by decide +kernel) ⟨(Nat.le_of_ble_eq_true rfl), (Nat.le_of_ble_eq_true rfl)⟩) ⟨fun a U g mk q => by obtain ⟨q0, q1, qK, qE⟩ := q; exact ⟨q0, q1, va_K.moved (u := U) (U := U.calling g mk a) (Vm.Alike.refl U.vm) qK, EVC.blind g mk a qE⟩, gH_rc hK hT hr_o0 shc_14 rfl, fun U hU hW => ⟨rfl, hU, va_K.moved hW.alike hK, hE.call hS hFc hU hW⟩⟩ rfl rfl hl.1 rfl (lv_room (Nat.le_of_ble_eq_true rfl)) dX11_pay_38 ⟨(Nat.le_of_ble_eq_true rfl), (Nat.le_of_ble_eq_true rfl)⟩) hS (fun q _ h => hFc q h) hFc (fun r22 u t H locs ht hvm hw23 hB _ _ hS => ?_)
          obtain ⟨hT, hF1⟩ := hB
          rw [ht] at hT hF1
          have hF := hF.more hF1 (by decide)
          try dsimp only at hw23
          have h26 := hw23
          refine lv_isub hx hb dX11_pay_41 ?_
          refine lv_topi (fun x27 ex27 => ?_)
          have t28 : -2147483648 ≤ x21.toInt ∧ x21.toInt ≤ 2147483647 := ti_all x21
          have t29 : x27.toInt = x21.toInt - r22.toInt := ti_sub ex27 rfl rfl (by omega) (by omega)
          refine lv_istore (lv' := [(4, .int x27), (3, .null), (2, .ref r1), (0, .ref o0), (1, .int p0)]) hx hb dX11_pay_42 hl (by decide) rfl (fun ls hl => ?_)
          refine lv_iload hx hb dX11_pay_44 (lv_at hl 0 rfl) ?_
          refine lv_aload_n hx hb dX11_pay_46 rfl (lv_at hl 2 rfl) ?_
          refine tw_getN hx hb hts bF2_X1 hown hK hT hg3 shc_4 rfl 2 (by decide) (hE.nw 41 rfl) (fun _ h9 => h9) dX11_pay_47 (fun v9 m30 h9 => ?_)
          obtain ⟨x31, rfl, gx31, kx31⟩ := h9 _ rfl
          refine lv_imul hx hb dX11_pay_50 ?_
          refine lv_topi (fun x32 ex32 => ?_)
          refine lv_istore (lv' := [(5, .int x32), (4, .int x27), (3, .null), (2, .ref r1), (0, .ref o0), (1, .int p0)]) hx hb dX11_pay_51 hl (by decide) rfl (fun ls hl => ?_)
          refine lv_iload hx hb dX11_pay_53 (lv_at hl 0 rfl) ?_
          refine lv_aload_n hx hb dX11_pay_55 rfl (lv_at hl 4 rfl) ?_
          refine tw_get hx hb hts bF2_X11 hown hK hT hr_o0 shc_14 rfl 3 (by decide) (ht_at2 hts 35 rfl) (fun _ h9 => h9) dX11_pay_56 (fun v9 m33 h9 => ?_)
          obtain ⟨b34, rfl, hg35⟩ := h9 _ rfl
          refine tw_getN hx hb hts bF2_X0 hown hK hT hg35 shc_3 rfl 17 (by decide) (hE.nw 37 rfl) (fun _ h9 => h9) dX11_pay_59 (fun v9 m36 h9 => ?_)
          obtain ⟨x37, rfl, gx37, kx37⟩ := h9 _ rfl
          have t38 : -2147483648 ≤ x32.toInt ∧ x32.toInt ≤ 2147483647 := ti_all x32
          have t39 : -2147483648 ≤ x37.toInt ∧ x37.toInt ≤ 2147483647 := ti_all x37
          refine lv_icmp_le (tgt := 67) hx hb dX11_pay_62 (by decide) (fun c40 => ?_) (fun c40 => ?_)
          · have t41 : x32.toInt ≤ x37.toInt := ti_le c40 rfl rfl
            refine lv_aload_n hx hb dX11_pay_67 rfl (lv_at hl 4 rfl) ?_
            refine tw_getM (v := .ref b34) hx hb hts bF2_X11 hown hK hT hr_o0 shc_14 rfl 3 (by decide) (ht_at2 hts 35 rfl) (fun _ h9 => h9) m33 dX11_pay_68 ?_
            refine lv_dup hx hb dX11_pay_71 rfl ?_
            refine tw_getNM (v := .int x37) hx hb hts bF2_X0 hown hK hT hg35 shc_3 rfl 17 (by decide) (hE.nw 37 rfl) (fun _ h9 => h9) m36 dX11_pay_72 ?_
            refine lv_iload hx hb dX11_pay_75 (lv_at hl 0 rfl) ?_
            refine lv_isub hx hb dX11_pay_77 ?_
            refine lv_topi (fun x42 ex42 => ?_)
            refine tw_putN (v := .int x42) (ty := .int) hx hb hts bF2_X0 tyX0 tyX0_ok nmX0 hown hK hT hG hS hg35 shc_3 rfl 17 (by decide) (hE.nw 37 rfl) (fun _ h9 => h9) rfl (by decide +kernel) rfl rfl (gl_at rfl (gi_all _)) dX11_pay_78 (fun H locs hT oq m43 oj hS => ?_)
            have hF := hF.put hg35 skc_3 oq oj (by decide)
            refine lv_aload_n hx hb dX11_pay_81 rfl (lv_at hl 3 rfl) ?_
            refine lv_iconst (v := 1) hx hb dX11_pay_82 (by decide) ?_
            refine tw_putN (v := .int 1) (ty := .boolean) hx hb hts bF2_X1 tyX1 tyX1_ok nmX1 hown hK hT hG hS hg3 shc_4 rfl 7 (by decide) (hE.nw 38 rfl) (fun _ h9 => h9) rfl (by decide +kernel) rfl rfl (gl_at rfl (gi_of (show (1 : Int32).toInt = 1 from (by decide)) (by first | decide | omega) (by first | decide | omega))) dX11_pay_83 (fun H locs hT oq m48 oj hS => ?_)
            have hF := hF.put hg3 skc_4 oq oj (by decide)
            refine lv_iload hx hb dX11_pay_86 (lv_at hl 1 rfl) ?_
            refine lv_bipush (v := 10) hx hb dX11_pay_88 (by decide) ?_
            have t53 : -2147483648 ≤ x27.toInt ∧ x27.toInt ≤ 2147483647 := ti_all x27
            refine lv_idiv hx hb dX11_pay_90 (by decide) ?_
            refine lv_topi (fun x54 ex54 => ?_)
            have t55 : (0 ≤ x27.toInt ∧ x54.toInt = x27.toInt / 10) ∨ (x27.toInt < 0 ∧ x54.toInt = -((-x27.toInt) / 10)) := ti_divs ex54 rfl (by decide) (by decide)
            refine lv_istore (lv' := [(6, .int x54), (5, .int x32), (4, .int x27), (3, .null), (2, .ref r1), (0, .ref o0), (1, .int p0)]) hx hb dX11_pay_91 hl (by decide) rfl (fun ls hl => ?_)
            refine lv_aload_nN hx hb dX11_pay_93 rfl (lv_at hl 3 rfl) ?_
            refine lv_ifnullN (tgt := 126) hx hb dX11_pay_94 (by decide) ?_
            refine lv_iload hx hb dX11_pay_126 (lv_at hl 1 rfl) ?_
            exact vx_ret (W.iret (v := x32) hx hb hr (fun t ht hW => ⟨⟨x32, (), rfl, (by exact trivial), by (try dsimp only); rw [ht]; exact ⟨hT, hF⟩⟩, hS.F ht⟩) hS.2.2 dX11_pay_128)
          · have t56 : x37.toInt < x32.toInt := ti_nle c40 rfl rfl
            refine lv_iconst (v := (-1)) hx hb dX11_pay_65 (by decide) ?_
            exact vx_ret (W.iret (v := (-1)) hx hb hr (fun t ht hW => ⟨⟨(-1), (), rfl, (by exact trivial), by (try dsimp only); rw [ht]; exact ⟨hT, hF⟩⟩, hS.F ht⟩) hS.2.2 dX11_pay_66)
        · refine W.eq (g2 := F0 m 27 ls [.ref b18]) rfl ?_
          have hg19 := hw16 b18 rfl
          refine lv_astore_n (lv' := [(3, .ref b18), (2, .ref r1), (0, .ref o0), (1, .int p0)]) hx hb dX11_pay_27 rfl hl (by decide) rfl (fun ls hl => ?_)
          refine lv_aload_n hx hb dX11_pay_28 rfl (lv_at hl 1 rfl) ?_
          refine tw_getN hx hb hts bF2_X1 hown hK hT hg3 shc_4 rfl 5 (by decide) (hE.nw 40 rfl) (fun _ h9 => h9) dX11_pay_29 (fun v9 m57 h9 => ?_)
          obtain ⟨x58, rfl, gx58, kx58⟩ := h9 _ rfl
          refine lv_aload_n hx hb dX11_pay_32 rfl (lv_at hl 2 rfl) ?_
          refine lv_aload_n hx hb dX11_pay_33 rfl (lv_at hl 0 rfl) ?_
          refine lv_aload_n hx hb dX11_pay_34 rfl (lv_at hl 1 rfl) ?_
          refine tw_getNM (v := .int x58) hx hb hts bF2_X1 hown hK hT hg3 shc_4 rfl 5 (by decide) (hE.nw 40 rfl) (fun _ h9 => h9) m57 dX11_pay_35 ?_
          have hFc := gA_free hG hA hS
          refine va_calli (va_runV (As := [.ref b18, .int x58]) (rest := [.int x58]) ⟨hx, hb, hml, hown, hts⟩ (c_lessForR l dC dI kA adK adV G H nC nS o0 b18 x58 hT hg19 hr_o0 (by omega) (by omega)) (cwV 2 hts (goodIn_app (goodIn_r _ [33, 34, 35, 6] rfl (by decide +kernel)) (goodIn_ca (goodIn_r _ [32, 22] rfl (by decide +kernel)) (bs2_in _ _))) rfl rfl rfl (by decide +kernel) ⟨(Nat.le_of_ble_eq_true rfl), (Nat.le_of_ble_eq_true rfl)⟩) ⟨fun a U g mk q => by obtain ⟨q0, q1, qK, qE⟩ := q; exact ⟨q0, q1, va_K.moved (u := U) (U := U.calling g mk a) (Vm.Alike.refl U.vm) qK, EVC.blind g mk a qE⟩, gH_rc hK hT hr_o0 shc_14 rfl, fun U hU hW => ⟨rfl, hU, va_K.moved hW.alike hK, hE.call hS hFc hU hW⟩⟩ rfl rfl hl.1 rfl (lv_room (Nat.le_of_ble_eq_true rfl)) dX11_pay_38 ⟨(Nat.le_of_ble_eq_true rfl), (Nat.le_of_ble_eq_true rfl)⟩) hS (fun q _ h => hFc q h) hFc (fun r59 u t H locs ht hvm hw60 hB _ _ hS => ?_)
          obtain ⟨hT, hF1⟩ := hB
          rw [ht] at hT hF1
          have hF := hF.more hF1 (by decide)
          try dsimp only at hw60
          have h63 := hw60
          refine lv_isub hx hb dX11_pay_41 ?_
          refine lv_topi (fun x64 ex64 => ?_)
          refine lv_istore (lv' := [(4, .int x64), (3, .ref b18), (2, .ref r1), (0, .ref o0), (1, .int p0)]) hx hb dX11_pay_42 hl (by decide) rfl (fun ls hl => ?_)
          refine lv_iload hx hb dX11_pay_44 (lv_at hl 0 rfl) ?_
          refine lv_aload_n hx hb dX11_pay_46 rfl (lv_at hl 2 rfl) ?_
          refine tw_getN hx hb hts bF2_X1 hown hK hT hg3 shc_4 rfl 2 (by decide) (hE.nw 41 rfl) (fun _ h9 => h9) dX11_pay_47 (fun v9 m65 h9 => ?_)
          obtain ⟨x66, rfl, gx66, kx66⟩ := h9 _ rfl
          refine lv_imul hx hb dX11_pay_50 ?_
          refine lv_topi (fun x67 ex67 => ?_)
          refine lv_istore (lv' := [(5, .int x67), (4, .int x64), (3, .ref b18), (2, .ref r1), (0, .ref o0), (1, .int p0)]) hx hb dX11_pay_51 hl (by decide) rfl (fun ls hl => ?_)
          refine lv_iload hx hb dX11_pay_53 (lv_at hl 0 rfl) ?_
          refine lv_aload_n hx hb dX11_pay_55 rfl (lv_at hl 4 rfl) ?_
          refine tw_get hx hb hts bF2_X11 hown hK hT hr_o0 shc_14 rfl 3 (by decide) (ht_at2 hts 35 rfl) (fun _ h9 => h9) dX11_pay_56 (fun v9 m68 h9 => ?_)
          obtain ⟨b69, rfl, hg70⟩ := h9 _ rfl
          refine tw_getN hx hb hts bF2_X0 hown hK hT hg70 shc_3 rfl 17 (by decide) (hE.nw 37 rfl) (fun _ h9 => h9) dX11_pay_59 (fun v9 m71 h9 => ?_)
          obtain ⟨x72, rfl, gx72, kx72⟩ := h9 _ rfl
          have t73 : -2147483648 ≤ x67.toInt ∧ x67.toInt ≤ 2147483647 := ti_all x67
          have t74 : -2147483648 ≤ x72.toInt ∧ x72.toInt ≤ 2147483647 := ti_all x72
          refine lv_icmp_le (tgt := 67) hx hb dX11_pay_62 (by decide) (fun c75 => ?_) (fun c75 => ?_)
          · have t76 : x67.toInt ≤ x72.toInt := ti_le c75 rfl rfl
            refine lv_aload_n hx hb dX11_pay_67 rfl (lv_at hl 4 rfl) ?_
            refine tw_getM (v := .ref b69) hx hb hts bF2_X11 hown hK hT hr_o0 shc_14 rfl 3 (by decide) (ht_at2 hts 35 rfl) (fun _ h9 => h9) m68 dX11_pay_68 ?_
            refine lv_dup hx hb dX11_pay_71 rfl ?_
            refine tw_getNM (v := .int x72) hx hb hts bF2_X0 hown hK hT hg70 shc_3 rfl 17 (by decide) (hE.nw 37 rfl) (fun _ h9 => h9) m71 dX11_pay_72 ?_
            refine lv_iload hx hb dX11_pay_75 (lv_at hl 0 rfl) ?_
            refine lv_isub hx hb dX11_pay_77 ?_
            refine lv_topi (fun x77 ex77 => ?_)
            refine tw_putN (v := .int x77) (ty := .int) hx hb hts bF2_X0 tyX0 tyX0_ok nmX0 hown hK hT hG hS hg70 shc_3 rfl 17 (by decide) (hE.nw 37 rfl) (fun _ h9 => h9) rfl (by decide +kernel) rfl rfl (gl_at rfl (gi_all _)) dX11_pay_78 (fun H locs hT oq m78 oj hS => ?_)
            have hF := hF.put hg70 skc_3 oq oj (by decide)
            refine lv_aload_n hx hb dX11_pay_81 rfl (lv_at hl 3 rfl) ?_
            refine lv_iconst (v := 1) hx hb dX11_pay_82 (by decide) ?_
            refine tw_putN (v := .int 1) (ty := .boolean) hx hb hts bF2_X1 tyX1 tyX1_ok nmX1 hown hK hT hG hS hg3 shc_4 rfl 7 (by decide) (hE.nw 38 rfl) (fun _ h9 => h9) rfl (by decide +kernel) rfl rfl (gl_at rfl (gi_of (show (1 : Int32).toInt = 1 from (by decide)) (by first | decide | omega) (by first | decide | omega))) dX11_pay_83 (fun H locs hT oq m83 oj hS => ?_)
            have hF := hF.put hg3 skc_4 oq oj (by decide)
            refine lv_iload hx hb dX11_pay_86 (lv_at hl 1 rfl) ?_
            refine lv_bipush (v := 10) hx hb dX11_pay_88 (by decide) ?_
            have t88 : -2147483648 ≤ x64.toInt ∧ x64.toInt ≤ 2147483647 := ti_all x64
            refine lv_idiv hx hb dX11_pay_90 (by decide) ?_
            refine lv_topi (fun x89 ex89 => ?_)
            have t90 : (0 ≤ x64.toInt ∧ x89.toInt = x64.toInt / 10) ∨ (x64.toInt < 0 ∧ x89.toInt = -((-x64.toInt) / 10)) := ti_divs ex89 rfl (by decide) (by decide)
            refine lv_istore (lv' := [(6, .int x89), (5, .int x67), (4, .int x64), (3, .ref b18), (2, .ref r1), (0, .ref o0), (1, .int p0)]) hx hb dX11_pay_91 hl (by decide) rfl (fun ls hl => ?_)
            refine lv_aload_n hx hb dX11_pay_93 rfl (lv_at hl 3 rfl) ?_
            refine lv_ifnull hx hb dX11_pay_94 ?_
            refine lv_aload_n hx hb dX11_pay_97 rfl (lv_at hl 3 rfl) ?_
            obtain ⟨v9, m91, h9⟩ := gH_fld hT hg19 shc_13 (k := 7) (by decide)
            obtain ⟨x92, rfl, gx92, kx92⟩ := h9 _ rfl
            have hFc := gA_free hG hA hS
            refine va_calli (va_runV (As := []) (rest := []) ⟨hx, hb, hml, hown, hts⟩ (c_takesLayer l dC dI kA adK adV G H nC nS b18 x92 hT hg19 m91 (by have q8 := ti_all x92; omega) (by omega) (by omega)) (cwV 0 hts (goodIn_app (goodIn_r _ [39, 40, 41, 28] rfl (by decide +kernel)) (goodIn_ca (goodIn_r _ [37, 24, 38] rfl (by decide +kernel)) (bs2_in _ _))) rfl rfl rfl (by decide +kernel) ⟨(Nat.le_of_ble_eq_true rfl), (Nat.le_of_ble_eq_true rfl)⟩) ⟨fun a U g mk q => by obtain ⟨q0, q1, qK, qE⟩ := q; exact ⟨q0, q1, va_K.moved (u := U) (U := U.calling g mk a) (Vm.Alike.refl U.vm) qK, EVC.blind g mk a qE⟩, gH_rc hK hT hg19 shc_13 rfl, fun U hU hW => ⟨rfl, hU, va_K.moved hW.alike hK, hE.call hS hFc hU hW⟩⟩ rfl rfl hl.1 rfl (lv_room (Nat.le_of_ble_eq_true rfl)) dX11_pay_98 ⟨(Nat.le_of_ble_eq_true rfl), (Nat.le_of_ble_eq_true rfl)⟩) hS (fun q _ h => hFc q h) hFc (fun r93 u t H locs ht hvm hw94 hB _ _ hS => ?_)
            obtain ⟨hT, hF1⟩ := hB
            rw [ht] at hT hF1
            have m100 := (hF1.fld hg19 skc_13 (k := 7) (by decide) (by decide)).trans m91
            have hF := hF.more hF1 (by decide)
            try dsimp only at hw94
            obtain ⟨h101, hi102⟩ := hw94
            refine lv_if_eq (tgt := 126) hx hb dX11_pay_101 (by decide) (fun c103 => ?_) (fun c103 => ?_)
            · have t104 : r93.toInt = 0 := ti_eq c103 rfl (by decide)
              refine lv_iload hx hb dX11_pay_126 (lv_at hl 1 rfl) ?_
              exact vx_ret (W.iret (v := x67) hx hb hr (fun t ht hW => ⟨⟨x67, (), rfl, (by exact trivial), by (try dsimp only); rw [ht]; exact ⟨hT, hF⟩⟩, hS.F ht⟩) hS.2.2 dX11_pay_128)
            · have t105 : r93.toInt ≠ 0 := ti_ne c103 rfl (by decide)
              have t106 : 0 ≤ x92.toInt ∧ x92.toInt ≤ 5 := hi102 ((bit_of ⟨by omega, by omega⟩).resolve_left c103)
              refine lv_iload hx hb dX11_pay_104 (lv_at hl 0 rfl) ?_
              refine lv_if_le (tgt := 126) hx hb dX11_pay_106 (by decide) (fun c107 => ?_) (fun c107 => ?_)
              · have t108 : x89.toInt ≤ 0 := ti_le c107 rfl (by decide)
                refine lv_iload hx hb dX11_pay_126 (lv_at hl 1 rfl) ?_
                exact vx_ret (W.iret (v := x67) hx hb hr (fun t ht hW => ⟨⟨x67, (), rfl, (by exact trivial), by (try dsimp only); rw [ht]; exact ⟨hT, hF⟩⟩, hS.F ht⟩) hS.2.2 dX11_pay_128)
              · have t109 : 0 < x89.toInt := ti_nle c107 rfl (by decide)
                refine lv_aload_n hx hb dX11_pay_109 rfl (lv_at hl 5 rfl) ?_
                refine tw_get hx hb hts bF2_X11 hown hK hT hr_o0 shc_14 rfl 2 (by decide) (ht_at2 hts 41 rfl) (fun _ h9 => h9) dX11_pay_110 (fun v9 m110 h9 => ?_)
                obtain ⟨b111, rfl, hg112⟩ := h9 _ rfl
                have hFc := gA_free hG hA hS
                refine va_callv (va_runV (As := []) (rest := []) ⟨hx, hb, hml, hown, hts⟩ (c_forget l dC dI kA adK adV G H nC nS b111 hT hg112 (by omega) (by omega)) (cwV 0 hts (goodIn_app (goodIn_r _ [46, 47, 48, 49] rfl (by decide +kernel)) (goodIn_ca (goodIn_r _ [43, 44, 45] rfl (by decide +kernel)) (bs2_in _ _))) rfl rfl rfl (by decide +kernel) ⟨(Nat.le_of_ble_eq_true rfl), (Nat.le_of_ble_eq_true rfl)⟩) ⟨fun a U g mk q => by obtain ⟨q0, q1, qK, qE⟩ := q; exact ⟨q0, q1, va_K.moved (u := U) (U := U.calling g mk a) (Vm.Alike.refl U.vm) qK, EVC.blind g mk a qE⟩, gH_rc hK hT hg112 shc_9 rfl, fun U hU hW => ⟨rfl, hU, va_K.moved hW.alike hK, hE.call hS hFc hU hW⟩⟩ rfl rfl hl.1 rfl (lv_room (Nat.le_of_ble_eq_true rfl)) dX11_pay_113 ⟨(Nat.le_of_ble_eq_true rfl), (Nat.le_of_ble_eq_true rfl)⟩) hS (fun q _ h => hFc q h) hFc (fun u t H locs ht hvm hw114 hB _ _ hS => ?_)
                obtain ⟨hT, hF1⟩ := hB
                rw [ht] at hT hF1
                have m120 := (hF1.fld hg19 skc_13 (k := 7) (by decide) (by decide)).trans m100
                have hF := hF.more hF1 (by decide)
                try dsimp only at hw114
                refine lv_aload_n hx hb dX11_pay_116 rfl (lv_at hl 3 rfl) ?_
                refine lv_iload hx hb dX11_pay_117 (lv_at hl 0 rfl) ?_
                refine lv_aload_n hx hb dX11_pay_119 rfl (lv_at hl 4 rfl) ?_
                refine tw_getN hx hb hts bF2_X1 hown hK hT hg3 shc_4 rfl 1 (by decide) (hE.nw 42 rfl) (fun _ h9 => h9) dX11_pay_120 (fun v9 m122 h9 => ?_)
                obtain ⟨x123, rfl, gx123, kx123⟩ := h9 _ rfl
                have hFc := gA_free hG hA hS
                refine va_callv (va_runV (As := [.int x89, .int x123]) (rest := []) ⟨hx, hb, hml, hown, hts⟩ (c_addLayer l dC dI kA adK adV G H nC nS b18 x89 x123 x92 hT hg19 m120 (by have q8 := ti_all x92; omega) (by omega) (by omega)) (cwV 2 hts (goodIn_app (goodIn_r _ [53, 54, 55, 28] rfl (by decide +kernel)) (goodIn_ca (goodIn_r _ [50, 51, 38, 52] rfl (by decide +kernel)) (bs2_in _ _))) rfl rfl rfl (by decide +kernel) ⟨(Nat.le_of_ble_eq_true rfl), (Nat.le_of_ble_eq_true rfl)⟩) ⟨fun a U g mk q => by obtain ⟨q0, q1, qK, qE⟩ := q; exact ⟨q0, q1, va_K.moved (u := U) (U := U.calling g mk a) (Vm.Alike.refl U.vm) qK, EVC.blind g mk a qE⟩, gH_rc hK hT hg19 shc_13 rfl, fun U hU hW => ⟨rfl, hU, va_K.moved hW.alike hK, hE.call hS hFc hU hW⟩⟩ rfl rfl hl.1 rfl (lv_room (Nat.le_of_ble_eq_true rfl)) dX11_pay_123 ⟨(Nat.le_of_ble_eq_true rfl), (Nat.le_of_ble_eq_true rfl)⟩) hS (fun q _ h => hFc q h) hFc (fun u t H locs ht hvm hw125 hB _ _ hS => ?_)
                obtain ⟨hT, hF1⟩ := hB
                rw [ht] at hT hF1
                have hF := hF.more hF1 (by decide)
                try dsimp only at hw125
                refine lv_iload hx hb dX11_pay_126 (lv_at hl 1 rfl) ?_
                exact vx_ret (W.iret (v := x67) hx hb hr (fun t ht hW => ⟨⟨x67, (), rfl, (by exact trivial), by (try dsimp only); rw [ht]; exact ⟨hT, hF⟩⟩, hS.F ht⟩) hS.2.2 dX11_pay_128)
          · have t134 : x72.toInt < x67.toInt := ti_nle c75 rfl rfl
            refine lv_iconst (v := (-1)) hx hb dX11_pay_65 (by decide) ?_
            exact vx_ret (W.iret (v := (-1)) hx hb hr (fun t ht hW => ⟨⟨(-1), (), rfl, (by exact trivial), by (try dsimp only); rw [ht]; exact ⟨hT, hF⟩⟩, hS.F ht⟩) hS.2.2 dX11_pay_66)
      · have t135 : r9.toInt = 0 := ti_eq c13 rfl (by decide)
        refine lv_iconst (v := (-1)) hx hb dX11_pay_20 (by decide) ?_
        exact vx_ret (W.iret (v := (-1)) hx hb hr (fun t ht hW => ⟨⟨(-1), (), rfl, (by exact trivial), by (try dsimp only); rw [ht]; exact ⟨hT, hF⟩⟩, hS.F ht⟩) hS.2.2 dX11_pay_21)
def w_c_back : List Cond := .code yX11_back cX11_back 1 (some .boolean) :: (HAppend.hAppend (α := List Cond) (β := List Cond) (γ := List Cond) [.fieldLink RX11 505 "SeaLand" "image" "LSeaLand$Lake;", .fieldLink RX11 16 "SeaLand" "lake" "LSeaLand$Lake;", .code yX3_copyFrom cX3_copyFrom 3 none, .fieldLink RX3 12 "SeaLand$Lake" "sky" "LSeaLand$Sky;", .code yX8_copyFrom cX8_copyFrom 2 none, .fieldLink RX8 9 "SeaLand$Sky" "tides" "[I", .methodLink RX8 63 arraycopyName, .native arraycopyName, .static arraycopyName, .initialized "java/lang/System", .fieldLink RX8 15 "SeaLand$Sky" "stormFrom" "[I", .fieldLink RX8 18 "SeaLand$Sky" "stormTo" "[I", .fieldLink RX8 21 "SeaLand$Sky" "stormMore" "[I", .fieldLink RX8 27 "SeaLand$Sky" "wind" "LSeaLand$Tellings;", .code yX9_copyFrom cX9_copyFrom 2 none, .fieldLink RX9 9 "SeaLand$Tellings" "hours" "[I", .methodLink RX9 23 arraycopyName, .fieldLink RX9 15 "SeaLand$Tellings" "numbers" "[I", .fieldLink RX9 18 "SeaLand$Tellings" "told" "I", .methodLink RX8 69 yX9_copyFrom, .instanceMethod yX9_copyFrom, .selects RX9 yX9_copyFrom yX9_copyFrom, .initialized RX9, .fieldLink RX8 31 "SeaLand$Sky" "rain" "LSeaLand$Tellings;", .fieldLink RX8 34 "SeaLand$Sky" "storms" "I", .methodLink RX3 175 yX8_copyFrom, .instanceMethod yX8_copyFrom, .selects RX8 yX8_copyFrom yX8_copyFrom, .initialized RX8, .fieldLink RX3 21 "SeaLand$Lake" "ground" "LSeaLand$Ground;", .code yX2_copyFrom cX2_copyFrom 2 none, .fieldLink RX2 9 "SeaLand$Ground" "isLand" "[Z", .methodLink RX2 95 arraycopyName, .fieldLink RX2 15 "SeaLand$Ground" "height" "[I", .fieldLink RX2 19 "SeaLand$Ground" "soil" "[I", .fieldLink RX2 22 "SeaLand$Ground" "ditch" "[I", .fieldLink RX2 25 "SeaLand$Ground" "water" "[I", .fieldLink RX2 28 "SeaLand$Ground" "salt" "[I", .fieldLink RX2 31 "SeaLand$Ground" "dry" "[I", .fieldLink RX2 34 "SeaLand$Ground" "wet" "[I", .fieldLink RX2 54 "SeaLand$Ground" "rained" "I", .fieldLink RX2 57 "SeaLand$Ground" "cameIn" "I", .fieldLink RX2 64 "SeaLand$Ground" "wentOut" "I", .fieldLink RX2 50 "SeaLand$Ground" "toldMore" "I", .methodLink RX3 179 yX2_copyFrom, .instanceMethod yX2_copyFrom, .selects RX2 yX2_copyFrom yX2_copyFrom, .initialized RX2, .fieldLink RX3 47 "SeaLand$Lake" "built" "I", .fieldLink RX3 32 "SeaLand$Lake" "hour" "I", .fieldLink RX3 27 "SeaLand$Lake" "works" "[LSeaLand$Work;", .code yX10_copyFrom cX10_copyFrom 2 none, .fieldLink RX10 9 "SeaLand$Work" "thick" "[I", .methodLink RX10 60 arraycopyName, .fieldLink RX10 15 "SeaLand$Work" "clay" "[I", .fieldLink RX10 18 "SeaLand$Work" "kind" "I", .fieldLink RX10 22 "SeaLand$Work" "square" "I", .fieldLink RX10 25 "SeaLand$Work" "to" "I", .fieldLink RX10 28 "SeaLand$Work" "size" "I", .fieldLink RX10 31 "SeaLand$Work" "width" "I", .fieldLink RX10 34 "SeaLand$Work" "layers" "I", .fieldLink RX10 37 "SeaLand$Work" "coal" "I", .fieldLink RX10 40 "SeaLand$Work" "on" "Z", .fieldLink RX10 44 "SeaLand$Work" "latest" "I", .fieldLink RX10 47 "SeaLand$Work" "total" "I", .methodLink RX3 182 yX10_copyFrom, .instanceMethod yX10_copyFrom, .selects RX10 yX10_copyFrom yX10_copyFrom, .initialized RX10, .methodLink RX11 508 yX3_copyFrom, .instanceMethod yX3_copyFrom, .selects RX3 yX3_copyFrom yX3_copyFrom, .initialized RX3, .fieldLink RX11 23 "SeaLand" "rows" "LSeaLand$Rows;", .code yX6_forget cX6_forget 1 none, .fieldLink RX6 18 "SeaLand$Rows" "kept" "I", .fieldLink RX6 22 "SeaLand$Rows" "oldest" "I", .methodLink RX11 76 yX6_forget, .instanceMethod yX6_forget, .selects RX6 yX6_forget yX6_forget, .initialized RX6] bs2)
set_option maxHeartbeats 4000000 in
set_option maxRecDepth 100000 in
theorem c_back (l : Launch) (dC : Nat → ClassId) (dI : Nat → Nat → Nat) (kA : Nat → ClassId) (adK adV : Nat → Nat) (G : gT) (H0 : Heap) (nC nS : Int) (o0 : Nat)  (hT : gH (dC, dI) kA (SHc nC nS) G H0) (hr_o0 : G o0 = some 14) (hgC : 0 ≤ nC ∧ nC ≤ 40) (hgS : 0 ≤ nS ∧ nS ≤ 60) : Met l yX11_back w_c_back ({ frames := 5, cells := 0, slots := 0, locals := 124 }) (va_Pc [.ref o0] (fun U => U.heap = H0 ∧ va_K (dC, dI) vwCl (tyl kA) U ∧ EVC adK adV (gA G H0.size) U U.heap)) (va_Qi (fun (r : Int32) (u : Unit) => (0 ≤ r.toInt ∧ r.toInt ≤ 1)) (fun (_ : Unit) (t : State) => gH (dC, dI) kA (SHc nC nS) G t.heap ∧ gF (dC, dI) SKc G ([(5, 11), (5, 12), (5, 13), (5, 14), (6, 3), (6, 4), (9, 2), (9, 3), (11, 6), (12, 2), (13, 2), (13, 3), (13, 4), (13, 5), (13, 6), (13, 7), (13, 8), (13, 9), (13, 10), (13, 11), (19, 0), (20, 0), (21, 0), (22, 0), (23, 0), (24, 0), (25, 0), (26, 0), (27, 0), (28, 0), (29, 0), (30, 0), (31, 0), (32, 0), (36, 0), (37, 0)] : List (Nat × Nat)) H0 t.heap) (gA G H0.size)) 0 0 (gA G H0.size) := by
  refine Met.ofW (cc := cX11_back) (maxL := 1) (ret := (some .boolean)) (by decide) rfl ?_
  intro p e s m args below meth c s₁ B hml hv
  obtain ⟨rfl, hH0, hK, hE⟩ := hv
  have hx := B.exec
  have hb := B.bytes
  have hr := B.returns
  have hts := atoms_spec (ws := w_c_back) B.pre
  have hown : s.vm.findClass RX11 = some m.cls := findClass_of_methodNamed B.named
  have hlocks := B.notSynchronized
  subst hH0
  generalize hAe : gA G s.heap.size = A at hE ⊢
  have hA : ∀ q : Nat, s.heap.size ≤ q → A q := fun q h => by rw [← hAe]; exact Or.inr h
  have hG := gA_of hAe
  have hS : va_S A s.heap s.heap [] := va_S.rf
  have hF : gF (dC, dI) SKc G ([(5, 11), (5, 12), (5, 13), (5, 14), (6, 3), (6, 4), (9, 2), (9, 3), (11, 6), (12, 2), (13, 2), (13, 3), (13, 4), (13, 5), (13, 6), (13, 7), (13, 8), (13, 9), (13, 10), (13, 11), (19, 0), (20, 0), (21, 0), (22, 0), (23, 0), (24, 0), (25, 0), (26, 0), (27, 0), (28, 0), (29, 0), (30, 0), (31, 0), (32, 0), (36, 0), (37, 0)] : List (Nat × Nat)) s.heap s.heap := gF.rf
  have hl := lv_entry ([.ref o0]) (n := 1) (Nat.le_of_ble_eq_true rfl)
  rw [lg_entry_eq]
  generalize (lg_sl ([.ref o0]) ++ List.replicate (1 - (lg_sl ([.ref o0])).length) Slot.unset).toArray = ls at hl ⊢
  have hl : lv_has ls 1 [(0, .ref o0)] := hl
  refine lv_aload_n hx hb dX11_back_0 rfl (lv_at hl 0 rfl) ?_
  refine tw_get hx hb hts bF2_X11 hown hK hT hr_o0 shc_14 rfl 6 (by decide) (ht_at2 hts 0 rfl) (fun _ h9 => h9) dX11_back_1 (fun v9 m1 h9 => ?_)
  obtain ⟨r9, rfl, hn9⟩ := h9 _ rfl
  rcases r9 with _ | b2
  · refine W.eq (g2 := F0 m 4 ls [.null]) rfl ?_
    refine lv_ifnullN (tgt := 24) hx hb dX11_back_4 (by decide) ?_
    refine lv_iconst (v := 0) hx hb dX11_back_24 (by decide) ?_
    exact W.zret (v := 0) hx hb hr (by decide) (fun t ht hW => ⟨⟨0, (), rfl, (by exact (rg_t (a := 0) (by decide) (by first | decide | omega) (by first | decide | omega))), by (try dsimp only); rw [ht]; exact ⟨hT, hF⟩⟩, hS.F ht⟩) hS.2.2 dX11_back_25
  · refine W.eq (g2 := F0 m 4 ls [.ref b2]) rfl ?_
    have hg3 := hn9 b2 rfl
    refine lv_ifnull hx hb dX11_back_4 ?_
    refine lv_aload_n hx hb dX11_back_7 rfl (lv_at hl 0 rfl) ?_
    refine tw_getM (v := .ref b2) hx hb hts bF2_X11 hown hK hT hr_o0 shc_14 rfl 6 (by decide) (ht_at2 hts 0 rfl) (fun _ h9 => h9) m1 dX11_back_8 ?_
    refine tw_getN hx hb hts bF2_X3 hown hK hT hg3 shc_90 rfl 4 (by decide) (hE.nw 0 rfl) (fun _ h9 => h9) dX11_back_11 (fun v9 m4 h9 => ?_)
    obtain ⟨x5, rfl, gx5, kx5⟩ := h9 _ rfl
    refine lv_aload_n hx hb dX11_back_14 rfl (lv_at hl 0 rfl) ?_
    refine tw_get hx hb hts bF2_X11 hown hK hT hr_o0 shc_14 rfl 1 (by decide) (ht_at2 hts 1 rfl) (fun _ h9 => h9) dX11_back_15 (fun v9 m6 h9 => ?_)
    obtain ⟨b7, rfl, hg8⟩ := h9 _ rfl
    refine tw_getN hx hb hts bF2_X3 hown hK hT hg8 shc_6 rfl 4 (by decide) (hE.nw 0 rfl) (fun _ h9 => h9) dX11_back_18 (fun v9 m9 h9 => ?_)
    obtain ⟨x10, rfl, gx10, kx10⟩ := h9 _ rfl
    refine lv_icmp_le (tgt := 26) hx hb dX11_back_21 (by decide) (fun c11 => ?_) (fun c11 => ?_)
    · have t12 : x5.toInt ≤ x10.toInt := ti_le c11 rfl rfl
      refine lv_aload_n hx hb dX11_back_26 rfl (lv_at hl 0 rfl) ?_
      refine tw_getM (v := .ref b7) hx hb hts bF2_X11 hown hK hT hr_o0 shc_14 rfl 1 (by decide) (ht_at2 hts 1 rfl) (fun _ h9 => h9) m6 dX11_back_27 ?_
      refine lv_aload_n hx hb dX11_back_30 rfl (lv_at hl 0 rfl) ?_
      refine tw_getM (v := .ref b2) hx hb hts bF2_X11 hown hK hT hr_o0 shc_14 rfl 6 (by decide) (ht_at2 hts 0 rfl) (fun _ h9 => h9) m1 dX11_back_31 ?_
      have hFc := gA_free hG hA hS
      refine va_callv (va_runV (As := [.ref b2]) (rest := []) ⟨hx, hb, hml, hown, hts⟩ (c_copyL_l l dC dI kA adK adV G s.heap nC nS b7 b2 hT hg8 hg3 (by omega) (by omega)) (cwV 1 hts (goodIn_app (goodIn_r _ [70, 71, 72, 73] rfl (by decide +kernel)) (goodIn_ca (goodIn_r _ [3, 4, 5, 6, 7, 8, 9, 10, 11, 12, 13, 14, 15, 16, 17, 18, 19, 20, 21, 22, 23, 24, 25, 26, 27, 28, 29, 30, 31, 32, 33, 34, 35, 36, 37, 38, 39, 40, 41, 42, 43, 44, 45, 46, 47, 48, 49, 50, 51, 52, 53, 54, 55, 56, 57, 58, 59, 60, 61, 62, 63, 64, 65, 66, 67, 68, 69] rfl (by decide +kernel)) (bs2_in _ _))) rfl rfl rfl (by decide +kernel) ⟨(Nat.le_of_ble_eq_true rfl), (Nat.le_of_ble_eq_true rfl)⟩) ⟨fun a U g mk q => by obtain ⟨q0, q1, qK, qE⟩ := q; exact ⟨q0, q1, va_K.moved (u := U) (U := U.calling g mk a) (Vm.Alike.refl U.vm) qK, EVC.blind g mk a qE⟩, gH_rc hK hT hg8 shc_6 rfl, fun U hU hW => ⟨rfl, hU, va_K.moved hW.alike hK, hE.call hS hFc hU hW⟩⟩ rfl rfl hl.1 rfl (lv_room (Nat.le_of_ble_eq_true rfl)) dX11_back_34 ⟨(Nat.le_of_ble_eq_true rfl), (Nat.le_of_ble_eq_true rfl)⟩) hS (fun q _ h => hFc q h) hFc (fun u t H locs ht hvm hw14 hB _ _ hS => ?_)
      obtain ⟨hT, hF1⟩ := hB
      rw [ht] at hT hF1
      have hF := hF.more hF1 (by decide)
      try dsimp only at hw14
      refine lv_aload_n hx hb dX11_back_37 rfl (lv_at hl 0 rfl) ?_
      refine tw_get hx hb hts bF2_X11 hown hK hT hr_o0 shc_14 rfl 2 (by decide) (ht_at2 hts 73 rfl) (fun _ h9 => h9) dX11_back_38 (fun v9 m19 h9 => ?_)
      obtain ⟨b20, rfl, hg21⟩ := h9 _ rfl
      have hFc := gA_free hG hA hS
      refine va_callv (va_runV (As := []) (rest := []) ⟨hx, hb, hml, hown, hts⟩ (c_forget l dC dI kA adK adV G H nC nS b20 hT hg21 (by omega) (by omega)) (cwV 0 hts (goodIn_app (goodIn_r _ [78, 79, 80, 81] rfl (by decide +kernel)) (goodIn_ca (goodIn_r _ [75, 76, 77] rfl (by decide +kernel)) (bs2_in _ _))) rfl rfl rfl (by decide +kernel) ⟨(Nat.le_of_ble_eq_true rfl), (Nat.le_of_ble_eq_true rfl)⟩) ⟨fun a U g mk q => by obtain ⟨q0, q1, qK, qE⟩ := q; exact ⟨q0, q1, va_K.moved (u := U) (U := U.calling g mk a) (Vm.Alike.refl U.vm) qK, EVC.blind g mk a qE⟩, gH_rc hK hT hg21 shc_9 rfl, fun U hU hW => ⟨rfl, hU, va_K.moved hW.alike hK, hE.call hS hFc hU hW⟩⟩ rfl rfl hl.1 rfl (lv_room (Nat.le_of_ble_eq_true rfl)) dX11_back_41 ⟨(Nat.le_of_ble_eq_true rfl), (Nat.le_of_ble_eq_true rfl)⟩) hS (fun q _ h => hFc q h) hFc (fun u t H locs ht hvm hw23 hB _ _ hS => ?_)
      obtain ⟨hT, hF1⟩ := hB
      rw [ht] at hT hF1
      have hF := hF.more hF1 (by decide)
      try dsimp only at hw23
      refine lv_iconst (v := 1) hx hb dX11_back_44 (by decide) ?_
      exact W.zret (v := 1) hx hb hr (by decide) (fun t ht hW => ⟨⟨1, (), rfl, (by exact (rg_t (a := 1) (by decide) (by first | decide | omega) (by first | decide | omega))), by (try dsimp only); rw [ht]; exact ⟨hT, hF⟩⟩, hS.F ht⟩) hS.2.2 dX11_back_45
    · have t28 : x10.toInt < x5.toInt := ti_nle c11 rfl rfl
      refine lv_iconst (v := 0) hx hb dX11_back_24 (by decide) ?_
      exact W.zret (v := 0) hx hb hr (by decide) (fun t ht hW => ⟨⟨0, (), rfl, (by exact (rg_t (a := 0) (by decide) (by first | decide | omega) (by first | decide | omega))), by (try dsimp only); rw [ht]; exact ⟨hT, hF⟩⟩, hS.F ht⟩) hS.2.2 dX11_back_25
