def w_c_dayNow : List Cond := .code yX3_dayNow cX3_dayNow 1 (some .int) :: (HAppend.hAppend (α := List Cond) (β := List Cond) (γ := List Cond) [.fieldLink RX3 32 "SeaLand$Lake" "hour" "I"] bs2)
set_option maxHeartbeats 4000000 in
set_option maxRecDepth 100000 in
theorem c_dayNow (l : Launch) (dC : Nat → ClassId) (dI : Nat → Nat → Nat) (kA : Nat → ClassId) (adK adV : Nat → Nat) (G : gT) (H0 : Heap) (nC nS : Int) (o0 : Nat)  (hT : gH (dC, dI) kA (SHc nC nS) G H0) (hr_o0 : G o0 = some 6) (hgC : 0 ≤ nC ∧ nC ≤ 40) (hgS : 0 ≤ nS ∧ nS ≤ 60) : Met l yX3_dayNow w_c_dayNow ({ frames := 0, cells := 0, slots := 0, locals := 0 }) (va_Pc [.ref o0] (fun U => U.heap = H0 ∧ va_K (dC, dI) vwCl (tyl kA) U ∧ EVC adK adV (gA G H0.size) U U.heap)) (va_Qi (fun (r : Int32) (u : Unit) => (0 ≤ r.toInt ∧ r.toInt ≤ 1666)) (fun (_ : Unit) (t : State) => gH (dC, dI) kA (SHc nC nS) G t.heap ∧ gF (dC, dI) SKc G ([] : List (Nat × Nat)) H0 t.heap) (gA G H0.size)) 0 0 (gA G H0.size) := by
  refine Met.ofW (cc := cX3_dayNow) (maxL := 1) (ret := (some .int)) (by decide) rfl ?_
  intro p e s m args below meth c s₁ B hml hv
  obtain ⟨rfl, hH0, hK, hE⟩ := hv
  have hx := B.exec
  have hb := B.bytes
  have hr := B.returns
  have hts := atoms_spec (ws := w_c_dayNow) B.pre
  have hown : s.vm.findClass RX3 = some m.cls := findClass_of_methodNamed B.named
  have hlocks := B.notSynchronized
  subst hH0
  generalize hAe : gA G s.heap.size = A at hE ⊢
  have hA : ∀ q : Nat, s.heap.size ≤ q → A q := fun q h => by rw [← hAe]; exact Or.inr h
  have hG := gA_of hAe
  have hS : va_S A s.heap s.heap [] := va_S.rf
  have hF : gF (dC, dI) SKc G ([] : List (Nat × Nat)) s.heap s.heap := gF.rf
  have hl := lv_entry ([.ref o0]) (n := 1) (Nat.le_of_ble_eq_true rfl)
  rw [lg_entry_eq]
  generalize (lg_sl ([.ref o0]) ++ List.replicate (1 - (lg_sl ([.ref o0])).length) Slot.unset).toArray = ls at hl ⊢
  have hl : lv_has ls 1 [(0, .ref o0)] := hl
  refine lv_aload_n hx hb dX3_dayNow_0 rfl (lv_at hl 0 rfl) ?_
  refine tw_get hx hb hts bF2_X3 hown hK hT hr_o0 shc_6 rfl 4 (by decide) (ht_at2 hts 0 rfl) (fun _ h9 => h9) dX3_dayNow_1 (fun v9 m1 h9 => ?_)
  obtain ⟨x2, rfl, gx2, kx2⟩ := h9 _ rfl
  refine lv_bipush (v := 24) hx hb dX3_dayNow_4 (by decide) ?_
  refine lv_idiv hx hb dX3_dayNow_6 (by decide) ?_
  refine lv_topi (fun x3 ex3 => ?_)
  have t4 : x3.toInt = x2.toInt / 24 := ti_div ex3 rfl (by decide) (by omega) (by omega)
  exact W.iret (v := x3) hx hb hr (fun t ht hW => ⟨⟨x3, (), rfl, (by exact (by have q8 := ti_all x3; omega)), by (try dsimp only); rw [ht]; exact ⟨hT, hF⟩⟩, hS.F ht⟩) hS.2.2 dX3_dayNow_7
def w_c_levelNow : List Cond := .code yX3_levelNow cX3_levelNow 2 (some .int) :: (HAppend.hAppend (α := List Cond) (β := List Cond) (γ := List Cond) [.fieldLink RX3 21 "SeaLand$Lake" "ground" "LSeaLand$Ground;", .fieldLink RX3 12 "SeaLand$Lake" "sky" "LSeaLand$Sky;", .fieldLink RX3 32 "SeaLand$Lake" "hour" "I", .code yX8_outsideAt cX8_outsideAt 4 (some .int), .fieldLink RX8 9 "SeaLand$Sky" "tides" "[I", .code yJ9_floorMod_7cf53 cJ9_floorMod_7cf53 3 (some .int), .methodLink RX8 38 yJ9_floorMod_7cf53, .static yJ9_floorMod_7cf53, .initialized RJ9, .fieldLink RX8 34 "SeaLand$Sky" "storms" "I", .fieldLink RX8 15 "SeaLand$Sky" "stormFrom" "[I", .fieldLink RX8 18 "SeaLand$Sky" "stormTo" "[I", .fieldLink RX8 21 "SeaLand$Sky" "stormMore" "[I", .methodLink RX3 44 yX8_outsideAt, .instanceMethod yX8_outsideAt, .selects RX8 yX8_outsideAt yX8_outsideAt, .initialized RX8, .code yX2_levelOf cX2_levelOf 2 (some .int), .fieldLink RX2 15 "SeaLand$Ground" "height" "[I", .fieldLink RX2 25 "SeaLand$Ground" "water" "[I", .methodLink RX3 40 yX2_levelOf, .instanceMethod yX2_levelOf, .selects RX2 yX2_levelOf yX2_levelOf, .initialized RX2] bs2)
set_option maxHeartbeats 4000000 in
set_option maxRecDepth 100000 in
theorem c_levelNow (l : Launch) (dC : Nat → ClassId) (dI : Nat → Nat → Nat) (kA : Nat → ClassId) (adK adV : Nat → Nat) (G : gT) (H0 : Heap) (nC nS : Int) (o0 : Nat) (p0 : Int32)  (hT : gH (dC, dI) kA (SHc nC nS) G H0) (hr_o0 : G o0 = some 6) (hq0 : 0 ≤ p0.toInt ∧ p0.toInt ≤ 95) (hgC : 0 ≤ nC ∧ nC ≤ 40) (hgS : 0 ≤ nS ∧ nS ≤ 60) : Met l yX3_levelNow w_c_levelNow ({ frames := 2, cells := 0, slots := 0, locals := 45 }) (va_Pc [.ref o0, .int p0] (fun U => U.heap = H0 ∧ va_K (dC, dI) vwCl (tyl kA) U ∧ EVC adK adV (gA G H0.size) U U.heap)) (va_Qi (fun (r : Int32) (u : Unit) => True) (fun (_ : Unit) (t : State) => gH (dC, dI) kA (SHc nC nS) G t.heap ∧ gF (dC, dI) SKc G ([] : List (Nat × Nat)) H0 t.heap) (gA G H0.size)) 0 0 (gA G H0.size) := by
  refine Met.ofW (cc := cX3_levelNow) (maxL := 2) (ret := (some .int)) (by decide) rfl ?_
  intro p e s m args below meth c s₁ B hml hv
  obtain ⟨rfl, hH0, hK, hE⟩ := hv
  have hx := B.exec
  have hb := B.bytes
  have hr := B.returns
  have hts := atoms_spec (ws := w_c_levelNow) B.pre
  have hown : s.vm.findClass RX3 = some m.cls := findClass_of_methodNamed B.named
  have hlocks := B.notSynchronized
  subst hH0
  generalize hAe : gA G s.heap.size = A at hE ⊢
  have hA : ∀ q : Nat, s.heap.size ≤ q → A q := fun q h => by rw [← hAe]; exact Or.inr h
  have hG := gA_of hAe
  have hS : va_S A s.heap s.heap [] := va_S.rf
  have hF : gF (dC, dI) SKc G ([] : List (Nat × Nat)) s.heap s.heap := gF.rf
  have hl := lv_entry ([.ref o0, .int p0]) (n := 2) (Nat.le_of_ble_eq_true rfl)
  rw [lg_entry_eq]
  generalize (lg_sl ([.ref o0, .int p0]) ++ List.replicate (2 - (lg_sl ([.ref o0, .int p0])).length) Slot.unset).toArray = ls at hl ⊢
  have hl : lv_has ls 2 [(0, .ref o0), (1, .int p0)] := hl
  refine lv_aload_n hx hb dX3_levelNow_0 rfl (lv_at hl 0 rfl) ?_
  refine tw_get hx hb hts bF2_X3 hown hK hT hr_o0 shc_6 rfl 1 (by decide) (ht_at2 hts 0 rfl) (fun _ h9 => h9) dX3_levelNow_1 (fun v9 m1 h9 => ?_)
  obtain ⟨b2, rfl, hg3⟩ := h9 _ rfl
  refine tw_getN hx hb hts bF2_X2 hown hK hT hg3 shc_5 rfl 0 (by decide) (hE.nw 77 rfl) (fun _ h9 => h9) dX3_levelNow_4 (fun v9 m4 h9 => ?_)
  obtain ⟨b5, rfl, hg6⟩ := h9 _ rfl
  refine lv_iload_n hx hb dX3_levelNow_7 rfl (lv_at hl 1 rfl) ?_
  refine tw_zald (i := p0) hx hb hK hT hg6 shc_25 rfl (vin_t (a := p0.toInt) rfl (by omega) (by omega)) dX3_levelNow_8 (fun v9 m7 h9 => ?_)
  obtain ⟨x8, rfl, gx8, kx8⟩ := h9
  refine lv_if_eq (tgt := 23) hx hb dX3_levelNow_9 (by decide) (fun c9 => ?_) (fun c9 => ?_)
  · have t10 : x8.toInt = 0 := ti_eq c9 rfl (by decide)
    refine lv_aload_n hx hb dX3_levelNow_23 rfl (lv_at hl 0 rfl) ?_
    refine tw_get hx hb hts bF2_X3 hown hK hT hr_o0 shc_6 rfl 0 (by decide) (ht_at2 hts 1 rfl) (fun _ h9 => h9) dX3_levelNow_24 (fun v9 m11 h9 => ?_)
    obtain ⟨b12, rfl, hg13⟩ := h9 _ rfl
    refine lv_aload_n hx hb dX3_levelNow_27 rfl (lv_at hl 0 rfl) ?_
    refine tw_get hx hb hts bF2_X3 hown hK hT hr_o0 shc_6 rfl 4 (by decide) (ht_at2 hts 2 rfl) (fun _ h9 => h9) dX3_levelNow_28 (fun v9 m14 h9 => ?_)
    obtain ⟨x15, rfl, gx15, kx15⟩ := h9 _ rfl
    have hFc := gA_free hG hA hS
    refine va_calli (va_runV (As := [.int x15]) (rest := []) ⟨hx, hb, hml, hown, hts⟩ (c_outsideAt l dC dI kA adK adV G s.heap nC nS b12 x15 hT hg13 (by have q8 := ti_all x15; omega) (by omega) (by omega)) (cwV 1 hts (goodIn_app (goodIn_r _ [14, 15, 16, 17] rfl (by decide +kernel)) (goodIn_ca (goodIn_r _ [4, 5, 6, 7, 8, 9, 10, 11, 12, 13] rfl (by decide +kernel)) (bs2_in _ _))) rfl rfl rfl (by decide +kernel) ⟨(Nat.le_of_ble_eq_true rfl), (Nat.le_of_ble_eq_true rfl)⟩) ⟨fun a U g mk q => by obtain ⟨q0, q1, qK, qE⟩ := q; exact ⟨q0, q1, va_K.moved (u := U) (U := U.calling g mk a) (Vm.Alike.refl U.vm) qK, EVC.blind g mk a qE⟩, gH_rc hK hT hg13 shc_11 rfl, fun U hU hW => ⟨rfl, hU, va_K.moved hW.alike hK, hE.call hS hFc hU hW⟩⟩ rfl rfl hl.1 rfl (lv_room (Nat.le_of_ble_eq_true rfl)) dX3_levelNow_31 ⟨(Nat.le_of_ble_eq_true rfl), (Nat.le_of_ble_eq_true rfl)⟩) hS (fun q _ h => hFc q h) hFc (fun r16 u t H locs ht hvm hw17 hB _ _ hS => ?_)
    obtain ⟨hT, hF1⟩ := hB
    rw [ht] at hT hF1
    have hF := hF.more hF1 (by decide)
    try dsimp only at hw17
    exact W.iret (v := r16) hx hb hr (fun t ht hW => ⟨⟨r16, (), rfl, (by exact trivial), by (try dsimp only); rw [ht]; exact ⟨hT, hF⟩⟩, hS.F ht⟩) hS.2.2 dX3_levelNow_34
  · have t23 : x8.toInt ≠ 0 := ti_ne c9 rfl (by decide)
    refine lv_aload_n hx hb dX3_levelNow_12 rfl (lv_at hl 0 rfl) ?_
    refine tw_getM (v := .ref b2) hx hb hts bF2_X3 hown hK hT hr_o0 shc_6 rfl 1 (by decide) (ht_at2 hts 0 rfl) (fun _ h9 => h9) m1 dX3_levelNow_13 ?_
    refine lv_iload_n hx hb dX3_levelNow_16 rfl (lv_at hl 1 rfl) ?_
    have hFc := gA_free hG hA hS
    refine va_calli (va_runV (As := [.int p0]) (rest := []) ⟨hx, hb, hml, hown, hts⟩ (c_levelOf l dC dI kA adK adV G s.heap nC nS b2 p0 hT hg3 (by have q8 := ti_all p0; omega) (by omega) (by omega)) (cwV 1 hts (goodIn_app (goodIn_r _ [21, 22, 23, 24] rfl (by decide +kernel)) (goodIn_ca (goodIn_r _ [18, 19, 20] rfl (by decide +kernel)) (bs2_in _ _))) rfl rfl rfl (by decide +kernel) ⟨(Nat.le_of_ble_eq_true rfl), (Nat.le_of_ble_eq_true rfl)⟩) ⟨fun a U g mk q => by obtain ⟨q0, q1, qK, qE⟩ := q; exact ⟨q0, q1, va_K.moved (u := U) (U := U.calling g mk a) (Vm.Alike.refl U.vm) qK, EVC.blind g mk a qE⟩, gH_rc hK hT hg3 shc_5 rfl, fun U hU hW => ⟨rfl, hU, va_K.moved hW.alike hK, hE.call hS hFc hU hW⟩⟩ rfl rfl hl.1 rfl (lv_room (Nat.le_of_ble_eq_true rfl)) dX3_levelNow_17 ⟨(Nat.le_of_ble_eq_true rfl), (Nat.le_of_ble_eq_true rfl)⟩) hS (fun q _ h => hFc q h) hFc (fun r24 u t H locs ht hvm hw25 hB _ _ hS => ?_)
    obtain ⟨hT, hF1⟩ := hB
    rw [ht] at hT hF1
    have hF := hF.more hF1 (by decide)
    try dsimp only at hw25
    refine lv_goto (tgt := 34) hx hb dX3_levelNow_20 (by decide) ?_
    exact W.iret (v := r24) hx hb hr (fun t ht hW => ⟨⟨r24, (), rfl, (by exact trivial), by (try dsimp only); rw [ht]; exact ⟨hT, hF⟩⟩, hS.F ht⟩) hS.2.2 dX3_levelNow_34
def w_c_workOn : List Cond := .code yX3_workOn cX3_workOn 3 (some .int) :: (HAppend.hAppend (α := List Cond) (β := List Cond) (γ := List Cond) [.fieldLink RX3 47 "SeaLand$Lake" "built" "I", .fieldLink RX3 27 "SeaLand$Lake" "works" "[LSeaLand$Work;"] bs2)
set_option maxHeartbeats 4000000 in
set_option maxRecDepth 100000 in
theorem c_workOn (l : Launch) (dC : Nat → ClassId) (dI : Nat → Nat → Nat) (kA : Nat → ClassId) (adK adV : Nat → Nat) (G : gT) (H0 : Heap) (nC nS : Int) (o0 : Nat) (p0 : Int32)  (hT : gH (dC, dI) kA (SHc nC nS) G H0) (hr_o0 : G o0 = some 6) (hgC : 0 ≤ nC ∧ nC ≤ 40) (hgS : 0 ≤ nS ∧ nS ≤ 60) : Met l yX3_workOn w_c_workOn ({ frames := 0, cells := 0, slots := 0, locals := 0 }) (va_Pc [.ref o0, .int p0] (fun U => U.heap = H0 ∧ va_K (dC, dI) vwCl (tyl kA) U ∧ EVC adK adV (gA G H0.size) U U.heap)) (va_Qi (fun (r : Int32) (u : Unit) => (-1 ≤ r.toInt ∧ r.toInt ≤ 29)) (fun (_ : Unit) (t : State) => gH (dC, dI) kA (SHc nC nS) G t.heap ∧ gF (dC, dI) SKc G ([] : List (Nat × Nat)) H0 t.heap) (gA G H0.size)) 0 0 (gA G H0.size) := by
  refine Met.ofW (cc := cX3_workOn) (maxL := 3) (ret := (some .int)) (by decide) rfl ?_
  intro p e s m args below meth c s₁ B hml hv
  obtain ⟨rfl, hH0, hK, hE⟩ := hv
  have hx := B.exec
  have hb := B.bytes
  have hr := B.returns
  have hts := atoms_spec (ws := w_c_workOn) B.pre
  have hown : s.vm.findClass RX3 = some m.cls := findClass_of_methodNamed B.named
  have hlocks := B.notSynchronized
  subst hH0
  generalize hAe : gA G s.heap.size = A at hE ⊢
  have hA : ∀ q : Nat, s.heap.size ≤ q → A q := fun q h => by rw [← hAe]; exact Or.inr h
  have hG := gA_of hAe
  have hS : va_S A s.heap s.heap [] := va_S.rf
  have hF : gF (dC, dI) SKc G ([] : List (Nat × Nat)) s.heap s.heap := gF.rf
  have hl := lv_entry ([.ref o0, .int p0]) (n := 3) (Nat.le_of_ble_eq_true rfl)
  rw [lg_entry_eq]
  generalize (lg_sl ([.ref o0, .int p0]) ++ List.replicate (3 - (lg_sl ([.ref o0, .int p0])).length) Slot.unset).toArray = ls at hl ⊢
  have hl : lv_has ls 3 [(0, .ref o0), (1, .int p0)] := hl
  refine lv_iconst (v := 0) hx hb dX3_workOn_0 (by decide) ?_
  refine lv_istore_n (lv' := [(2, .int 0), (0, .ref o0), (1, .int p0)]) hx hb dX3_workOn_1 rfl hl (by decide) rfl (fun ls hl => ?_)
  have key19 : ∀ (n19 i1 : Nat), i1 + n19 = 30 → 0 ≤ i1 → ∀ (H : Heap) (locs : List Loc), gH (dC, dI) kA (SHc nC nS) G H → gF (dC, dI) SKc G ([] : List (Nat × Nat)) s.heap H → va_S A s.heap H locs → ∀ ls : Array Slot, lv_has ls 3 [(2, .int (nI i1)), (0, .ref o0), (1, .int p0)] → W p l e (headSpec w_c_workOn ({ frames := 0, cells := 0, slots := 0, locals := 0 })).room s m #[.ref o0, .int p0] below meth c H locs 0 0 (MQ below (va_Qi (fun (r : Int32) (u : Unit) => (-1 ≤ r.toInt ∧ r.toInt ≤ 29)) (fun (_ : Unit) (t : State) => gH (dC, dI) kA (SHc nC nS) G t.heap ∧ gF (dC, dI) SKc G ([] : List (Nat × Nat)) s.heap t.heap) A) #[.ref o0, .int p0] s 0 0 A) (F0 m 2 ls []) := by
    intro n19
    induction n19 with
    | zero =>
      intro i1 hn19 hlo20  H locs hT hF hS  ls hl
      obtain rfl : 30 = i1 := by omega
      refine lv_iload_n hx hb dX3_workOn_2 rfl (lv_at hl 0 rfl) ?_
      refine lv_aload_n hx hb dX3_workOn_3 rfl (lv_at hl 1 rfl) ?_
      refine tw_get hx hb hts bF2_X3 hown hK hT hr_o0 shc_6 rfl 3 (by decide) (ht_at2 hts 0 rfl) (fun _ h9 => h9) dX3_workOn_4 (fun v9 m21 h9 => ?_)
      obtain ⟨x22, rfl, gx22, kx22⟩ := h9 _ rfl
      refine lv_icmp_ge (tgt := 31) hx hb dX3_workOn_7 (by decide) (fun c23 => ?_) (fun c23 => (by exfalso; have q9 : ((30 : Nat) : Int) < x22.toInt := ti_nle c23 rfl (nI_toInt (by omega)); omega))
      have t24 : x22.toInt ≤ ((30 : Nat) : Int) := ti_le c23 rfl (nI_toInt (by omega))
      refine lv_iconst (v := (-1)) hx hb dX3_workOn_31 (by decide) ?_
      exact W.iret (v := (-1)) hx hb hr (fun t ht hW => ⟨⟨(-1), (), rfl, (by exact (rg_t (a := (-1)) (by decide) (by first | decide | omega) (by first | decide | omega))), by (try dsimp only); rw [ht]; exact ⟨hT, hF⟩⟩, hS.F ht⟩) hS.2.2 dX3_workOn_32
    | succ n19 ih19 =>
      intro i1 hn19 hlo20  H locs hT hF hS  ls hl
      have hlt24 : i1 < 30 := by omega
      refine lv_iload_n hx hb dX3_workOn_2 rfl (lv_at hl 0 rfl) ?_
      refine lv_aload_n hx hb dX3_workOn_3 rfl (lv_at hl 1 rfl) ?_
      refine tw_get hx hb hts bF2_X3 hown hK hT hr_o0 shc_6 rfl 3 (by decide) (ht_at2 hts 0 rfl) (fun _ h9 => h9) dX3_workOn_4 (fun v9 m25 h9 => ?_)
      obtain ⟨x26, rfl, gx26, kx26⟩ := h9 _ rfl
      refine lv_icmp_ge (tgt := 31) hx hb dX3_workOn_7 (by decide) (fun c27 => ?_) (fun c27 => ?_)
      · have t28 : x26.toInt ≤ ((i1 : Nat) : Int) := ti_le c27 rfl (nI_toInt (by omega))
        refine lv_iconst (v := (-1)) hx hb dX3_workOn_31 (by decide) ?_
        exact W.iret (v := (-1)) hx hb hr (fun t ht hW => ⟨⟨(-1), (), rfl, (by exact (rg_t (a := (-1)) (by decide) (by first | decide | omega) (by first | decide | omega))), by (try dsimp only); rw [ht]; exact ⟨hT, hF⟩⟩, hS.F ht⟩) hS.2.2 dX3_workOn_32
      · have t29 : ((i1 : Nat) : Int) < x26.toInt := ti_nle c27 rfl (nI_toInt (by omega))
        refine lv_aload_n hx hb dX3_workOn_10 rfl (lv_at hl 1 rfl) ?_
        refine tw_get hx hb hts bF2_X3 hown hK hT hr_o0 shc_6 rfl 2 (by decide) (ht_at2 hts 1 rfl) (fun _ h9 => h9) dX3_workOn_11 (fun v9 m30 h9 => ?_)
        obtain ⟨b31, rfl, hg32⟩ := h9 _ rfl
        refine lv_iload_n hx hb dX3_workOn_14 rfl (lv_at hl 0 rfl) ?_
        refine tw_aald (i := (nI i1)) hx hb hK hT hg32 shc_18 rfl (vp_in_nI (by omega) (by decide)) dX3_workOn_15 (fun v9 m33 h9 => ?_)
        obtain ⟨b34, rfl, hg35⟩ := h9
        refine tw_getN hx hb hts bF2_X10 hown hK hT hg35 shc_13 rfl 3 (by decide) (hE.nw 78 rfl) (fun _ h9 => h9) dX3_workOn_16 (fun v9 m36 h9 => ?_)
        obtain ⟨x37, rfl, gx37, kx37⟩ := h9 _ rfl
        refine lv_iload_n hx hb dX3_workOn_19 rfl (lv_at hl 2 rfl) ?_
        have t38 : -2147483648 ≤ p0.toInt ∧ p0.toInt ≤ 2147483647 := ti_all p0
        refine lv_icmp_ne (tgt := 25) hx hb dX3_workOn_20 (by decide) (fun c39 => ?_) (fun c39 => ?_)
        · have t40 : x37.toInt ≠ p0.toInt := ti_ne c39 rfl rfl
          refine lv_iinc (v := nI (i1 + 1)) (lv' := [(2, .int (nI (i1 + 1))), (0, .ref o0), (1, .int p0)]) hx hb dX3_workOn_25 hl (k := 0) rfl (nI_add i1 1) (by decide) rfl (fun ls hl => ?_)
          refine lv_goto (tgt := 2) hx hb dX3_workOn_28 (by decide) ?_
          exact ih19 (i1 + 1) (by omega) (by omega) _ _ hT hF hS ls (lv_sub hl [0, 1, 2] rfl)
        · have t41 : x37.toInt = p0.toInt := ti_eq c39 rfl rfl
          refine lv_iload_n hx hb dX3_workOn_23 rfl (lv_at hl 0 rfl) ?_
          exact W.iret (v := nI i1) hx hb hr (fun t ht hW => ⟨⟨nI i1, (), rfl, (by exact (rg_t (a := ((i1 : Nat) : Int)) (nI_toInt (by omega)) (by omega) (by omega))), by (try dsimp only); rw [ht]; exact ⟨hT, hF⟩⟩, hS.F ht⟩) hS.2.2 dX3_workOn_24
  exact key19 (30 - 0) 0 (by omega) (Nat.le_refl _) _ _ hT hF hS ls (lv_sub hl [0, 1, 2] rfl)
def w_c_isFreeLand : List Cond := .code yX3_isFreeLand cX3_isFreeLand 2 (some .boolean) :: (HAppend.hAppend (α := List Cond) (β := List Cond) (γ := List Cond) [.fieldLink RX3 21 "SeaLand$Lake" "ground" "LSeaLand$Ground;", .code yX3_workOn cX3_workOn 3 (some .int), .fieldLink RX3 47 "SeaLand$Lake" "built" "I", .fieldLink RX3 27 "SeaLand$Lake" "works" "[LSeaLand$Work;", .methodLink RX3 53 yX3_workOn, .instanceMethod yX3_workOn, .selects RX3 yX3_workOn yX3_workOn, .initialized RX3] bs2)
set_option maxHeartbeats 4000000 in
set_option maxRecDepth 100000 in
theorem c_isFreeLand (l : Launch) (dC : Nat → ClassId) (dI : Nat → Nat → Nat) (kA : Nat → ClassId) (adK adV : Nat → Nat) (G : gT) (H0 : Heap) (nC nS : Int) (o0 : Nat) (p0 : Int32)  (hT : gH (dC, dI) kA (SHc nC nS) G H0) (hr_o0 : G o0 = some 6) (hq0 : 0 ≤ p0.toInt ∧ p0.toInt ≤ 95) (hgC : 0 ≤ nC ∧ nC ≤ 40) (hgS : 0 ≤ nS ∧ nS ≤ 60) : Met l yX3_isFreeLand w_c_isFreeLand ({ frames := 1, cells := 0, slots := 0, locals := 22 }) (va_Pc [.ref o0, .int p0] (fun U => U.heap = H0 ∧ va_K (dC, dI) vwCl (tyl kA) U ∧ EVC adK adV (gA G H0.size) U U.heap)) (va_Qi (fun (r : Int32) (u : Unit) => (0 ≤ r.toInt ∧ r.toInt ≤ 1)) (fun (_ : Unit) (t : State) => gH (dC, dI) kA (SHc nC nS) G t.heap ∧ gF (dC, dI) SKc G ([] : List (Nat × Nat)) H0 t.heap) (gA G H0.size)) 0 0 (gA G H0.size) := by
  refine Met.ofW (cc := cX3_isFreeLand) (maxL := 2) (ret := (some .boolean)) (by decide) rfl ?_
  intro p e s m args below meth c s₁ B hml hv
  obtain ⟨rfl, hH0, hK, hE⟩ := hv
  have hx := B.exec
  have hb := B.bytes
  have hr := B.returns
  have hts := atoms_spec (ws := w_c_isFreeLand) B.pre
  have hown : s.vm.findClass RX3 = some m.cls := findClass_of_methodNamed B.named
  have hlocks := B.notSynchronized
  subst hH0
  generalize hAe : gA G s.heap.size = A at hE ⊢
  have hA : ∀ q : Nat, s.heap.size ≤ q → A q := fun q h => by rw [← hAe]; exact Or.inr h
  have hG := gA_of hAe
  have hS : va_S A s.heap s.heap [] := va_S.rf
  have hF : gF (dC, dI) SKc G ([] : List (Nat × Nat)) s.heap s.heap := gF.rf
  have hl := lv_entry ([.ref o0, .int p0]) (n := 2) (Nat.le_of_ble_eq_true rfl)
  rw [lg_entry_eq]
  generalize (lg_sl ([.ref o0, .int p0]) ++ List.replicate (2 - (lg_sl ([.ref o0, .int p0])).length) Slot.unset).toArray = ls at hl ⊢
  have hl : lv_has ls 2 [(0, .ref o0), (1, .int p0)] := hl
  refine lv_aload_n hx hb dX3_isFreeLand_0 rfl (lv_at hl 0 rfl) ?_
  refine tw_get hx hb hts bF2_X3 hown hK hT hr_o0 shc_6 rfl 1 (by decide) (ht_at2 hts 0 rfl) (fun _ h9 => h9) dX3_isFreeLand_1 (fun v9 m1 h9 => ?_)
  obtain ⟨b2, rfl, hg3⟩ := h9 _ rfl
  refine tw_getN hx hb hts bF2_X2 hown hK hT hg3 shc_5 rfl 0 (by decide) (hE.nw 77 rfl) (fun _ h9 => h9) dX3_isFreeLand_4 (fun v9 m4 h9 => ?_)
  obtain ⟨b5, rfl, hg6⟩ := h9 _ rfl
  refine lv_iload_n hx hb dX3_isFreeLand_7 rfl (lv_at hl 1 rfl) ?_
  refine tw_zald (i := p0) hx hb hK hT hg6 shc_25 rfl (vin_t (a := p0.toInt) rfl (by omega) (by omega)) dX3_isFreeLand_8 (fun v9 m7 h9 => ?_)
  obtain ⟨x8, rfl, gx8, kx8⟩ := h9
  refine lv_if_eq (tgt := 25) hx hb dX3_isFreeLand_9 (by decide) (fun c9 => ?_) (fun c9 => ?_)
  · have t10 : x8.toInt = 0 := ti_eq c9 rfl (by decide)
    refine lv_iconst (v := 0) hx hb dX3_isFreeLand_25 (by decide) ?_
    exact W.zret (v := 0) hx hb hr (by decide) (fun t ht hW => ⟨⟨0, (), rfl, (by exact (rg_t (a := 0) (by decide) (by first | decide | omega) (by first | decide | omega))), by (try dsimp only); rw [ht]; exact ⟨hT, hF⟩⟩, hS.F ht⟩) hS.2.2 dX3_isFreeLand_26
  · have t11 : x8.toInt ≠ 0 := ti_ne c9 rfl (by decide)
    refine lv_aload_n hx hb dX3_isFreeLand_12 rfl (lv_at hl 0 rfl) ?_
    refine lv_iload_n hx hb dX3_isFreeLand_13 rfl (lv_at hl 1 rfl) ?_
    have hFc := gA_free hG hA hS
    refine va_calli (va_runV (As := [.int p0]) (rest := []) ⟨hx, hb, hml, hown, hts⟩ (c_workOn l dC dI kA adK adV G s.heap nC nS o0 p0 hT hr_o0 (by omega) (by omega)) (cwV 1 hts (goodIn_app (goodIn_r _ [5, 6, 7, 8] rfl (by decide +kernel)) (goodIn_ca (goodIn_r _ [2, 3, 4] rfl (by decide +kernel)) (bs2_in _ _))) rfl rfl rfl (by decide +kernel) ⟨(Nat.le_of_ble_eq_true rfl), (Nat.le_of_ble_eq_true rfl)⟩) ⟨fun a U g mk q => by obtain ⟨q0, q1, qK, qE⟩ := q; exact ⟨q0, q1, va_K.moved (u := U) (U := U.calling g mk a) (Vm.Alike.refl U.vm) qK, EVC.blind g mk a qE⟩, gH_rc hK hT hr_o0 shc_6 rfl, fun U hU hW => ⟨rfl, hU, va_K.moved hW.alike hK, hE.call hS hFc hU hW⟩⟩ rfl rfl hl.1 rfl (lv_room (Nat.le_of_ble_eq_true rfl)) dX3_isFreeLand_14 ⟨(Nat.le_of_ble_eq_true rfl), (Nat.le_of_ble_eq_true rfl)⟩) hS (fun q _ h => hFc q h) hFc (fun r12 u t H locs ht hvm hw13 hB _ _ hS => ?_)
    obtain ⟨hT, hF1⟩ := hB
    rw [ht] at hT hF1
    have hF := hF.more hF1 (by decide)
    try dsimp only at hw13
    have h17 := hw13
    refine lv_iconst (v := (-1)) hx hb dX3_isFreeLand_17 (by decide) ?_
    refine lv_icmp_ne (tgt := 25) hx hb dX3_isFreeLand_18 (by decide) (fun c18 => ?_) (fun c18 => ?_)
    · have t19 : r12.toInt ≠ (-1) := ti_ne c18 rfl (by decide)
      refine lv_iconst (v := 0) hx hb dX3_isFreeLand_25 (by decide) ?_
      exact W.zret (v := 0) hx hb hr (by decide) (fun t ht hW => ⟨⟨0, (), rfl, (by exact (rg_t (a := 0) (by decide) (by first | decide | omega) (by first | decide | omega))), by (try dsimp only); rw [ht]; exact ⟨hT, hF⟩⟩, hS.F ht⟩) hS.2.2 dX3_isFreeLand_26
    · have t20 : r12.toInt = (-1) := ti_eq c18 rfl (by decide)
      refine lv_iconst (v := 1) hx hb dX3_isFreeLand_21 (by decide) ?_
      refine lv_goto (tgt := 26) hx hb dX3_isFreeLand_22 (by decide) ?_
      exact W.zret (v := 1) hx hb hr (by decide) (fun t ht hW => ⟨⟨1, (), rfl, (by exact (rg_t (a := 1) (by decide) (by first | decide | omega) (by first | decide | omega))), by (try dsimp only); rw [ht]; exact ⟨hT, hF⟩⟩, hS.F ht⟩) hS.2.2 dX3_isFreeLand_26
def w_c_isSeaBeside : List Cond := .code yX3_isSeaBeside cX3_isSeaBeside 3 (some .boolean) :: (HAppend.hAppend (α := List Cond) (β := List Cond) (γ := List Cond) [.fieldLink RX3 21 "SeaLand$Lake" "ground" "LSeaLand$Ground;", .code yX11_stepsApart cX11_stepsApart 2 (some .int), .methodLink RX11 580 Lib.Math.abs.name, .static Lib.Math.abs.name, .initialized "java/lang/Math", .code Lib.Math.abs.name Lib.Math.abs.code 1 (some .int), .initialized RX11, .static yX11_stepsApart] bs2)
set_option maxHeartbeats 4000000 in
set_option maxRecDepth 100000 in
theorem c_isSeaBeside (l : Launch) (dC : Nat → ClassId) (dI : Nat → Nat → Nat) (kA : Nat → ClassId) (adK adV : Nat → Nat) (G : gT) (H0 : Heap) (nC nS : Int) (o0 : Nat) (p0 : Int32) (p1 : Int32)  (hT : gH (dC, dI) kA (SHc nC nS) G H0) (hr_o0 : G o0 = some 6) (hq0 : 0 ≤ p0.toInt ∧ p0.toInt ≤ 95) (hq1 : 0 ≤ p1.toInt ∧ p1.toInt ≤ 95) (hgC : 0 ≤ nC ∧ nC ≤ 40) (hgS : 0 ≤ nS ∧ nS ≤ 60) : Met l yX3_isSeaBeside w_c_isSeaBeside ({ frames := 2, cells := 0, slots := 0, locals := 61 }) (va_Pc [.ref o0, .int p0, .int p1] (fun U => U.heap = H0 ∧ va_K (dC, dI) vwCl (tyl kA) U ∧ EVC adK adV (gA G H0.size) U U.heap)) (va_Qi (fun (r : Int32) (u : Unit) => (0 ≤ r.toInt ∧ r.toInt ≤ 1)) (fun (_ : Unit) (t : State) => gH (dC, dI) kA (SHc nC nS) G t.heap ∧ gF (dC, dI) SKc G ([] : List (Nat × Nat)) H0 t.heap) (gA G H0.size)) 0 0 (gA G H0.size) := by
  refine Met.ofW (cc := cX3_isSeaBeside) (maxL := 3) (ret := (some .boolean)) (by decide) rfl ?_
  intro p e s m args below meth c s₁ B hml hv
  obtain ⟨rfl, hH0, hK, hE⟩ := hv
  have hx := B.exec
  have hb := B.bytes
  have hr := B.returns
  have hts := atoms_spec (ws := w_c_isSeaBeside) B.pre
  have hown : s.vm.findClass RX3 = some m.cls := findClass_of_methodNamed B.named
  have hlocks := B.notSynchronized
  subst hH0
  generalize hAe : gA G s.heap.size = A at hE ⊢
  have hA : ∀ q : Nat, s.heap.size ≤ q → A q := fun q h => by rw [← hAe]; exact Or.inr h
  have hG := gA_of hAe
  have hS : va_S A s.heap s.heap [] := va_S.rf
  have hF : gF (dC, dI) SKc G ([] : List (Nat × Nat)) s.heap s.heap := gF.rf
  have hl := lv_entry ([.ref o0, .int p0, .int p1]) (n := 3) (Nat.le_of_ble_eq_true rfl)
  rw [lg_entry_eq]
  generalize (lg_sl ([.ref o0, .int p0, .int p1]) ++ List.replicate (3 - (lg_sl ([.ref o0, .int p0, .int p1])).length) Slot.unset).toArray = ls at hl ⊢
  have hl : lv_has ls 3 [(0, .ref o0), (1, .int p0), (2, .int p1)] := hl
  refine lv_aload_n hx hb dX3_isSeaBeside_0 rfl (lv_at hl 0 rfl) ?_
  refine tw_get hx hb hts bF2_X3 hown hK hT hr_o0 shc_6 rfl 1 (by decide) (ht_at2 hts 0 rfl) (fun _ h9 => h9) dX3_isSeaBeside_1 (fun v9 m1 h9 => ?_)
  obtain ⟨b2, rfl, hg3⟩ := h9 _ rfl
  refine tw_getN hx hb hts bF2_X2 hown hK hT hg3 shc_5 rfl 0 (by decide) (hE.nw 77 rfl) (fun _ h9 => h9) dX3_isSeaBeside_4 (fun v9 m4 h9 => ?_)
  obtain ⟨b5, rfl, hg6⟩ := h9 _ rfl
  refine lv_iload_n hx hb dX3_isSeaBeside_7 rfl (lv_at hl 2 rfl) ?_
  refine tw_zald (i := p1) hx hb hK hT hg6 shc_25 rfl (vin_t (a := p1.toInt) rfl (by omega) (by omega)) dX3_isSeaBeside_8 (fun v9 m7 h9 => ?_)
  obtain ⟨x8, rfl, gx8, kx8⟩ := h9
  refine lv_if_ne (tgt := 25) hx hb dX3_isSeaBeside_9 (by decide) (fun c9 => ?_) (fun c9 => ?_)
  · have t10 : x8.toInt ≠ 0 := ti_ne c9 rfl (by decide)
    refine lv_iconst (v := 0) hx hb dX3_isSeaBeside_25 (by decide) ?_
    exact W.zret (v := 0) hx hb hr (by decide) (fun t ht hW => ⟨⟨0, (), rfl, (by exact (rg_t (a := 0) (by decide) (by first | decide | omega) (by first | decide | omega))), by (try dsimp only); rw [ht]; exact ⟨hT, hF⟩⟩, hS.F ht⟩) hS.2.2 dX3_isSeaBeside_26
  · have t11 : x8.toInt = 0 := ti_eq c9 rfl (by decide)
    refine lv_iload_n hx hb dX3_isSeaBeside_12 rfl (lv_at hl 1 rfl) ?_
    refine lv_iload_n hx hb dX3_isSeaBeside_13 rfl (lv_at hl 2 rfl) ?_
    have hFc := gA_free hG hA hS
    refine va_calli (va_runSN (As := [.int p0, .int p1]) (rest := []) ⟨hx, hb, hml, hown, hts⟩ (c_stepsApart l dC dI kA adK adV G s.heap nC nS p0 p1 hT (by omega) (by omega)) ⟨va_cnB 2 hts (goodIn_ca (goodIn_r _ [2, 3, 4, 5, 6] rfl (by decide +kernel)) (bs2_in _ _)) rfl rfl rfl (hE.nm 109 rfl) (ht_at2 hts 6 rfl) (by decide +kernel) ⟨(Nat.le_of_ble_eq_true rfl), (Nat.le_of_ble_eq_true rfl)⟩, (ht_at2 hts 7 rfl), trivial⟩ ⟨fun a U g mk q => by obtain ⟨q0, q1, qK, qE⟩ := q; exact ⟨q0, q1, va_K.moved (u := U) (U := U.calling g mk a) (Vm.Alike.refl U.vm) qK, EVC.blind g mk a qE⟩, fun U hU hW => ⟨rfl, hU, va_K.moved hW.alike hK, hE.call hS hFc hU hW⟩⟩ rfl rfl hl.1 rfl (lv_room (Nat.le_of_ble_eq_true rfl)) dX3_isSeaBeside_14 ⟨(Nat.le_of_ble_eq_true rfl), (Nat.le_of_ble_eq_true rfl)⟩) hS (fun q _ h => hFc q h) hFc (fun r12 u t H locs ht hvm hw13 hB _ _ hS => ?_)
    obtain ⟨hT, hF1⟩ := hB
    rw [ht] at hT hF1
    have hF := hF.more hF1 (by decide)
    try dsimp only at hw13
    refine lv_iconst (v := 1) hx hb dX3_isSeaBeside_17 (by decide) ?_
    have t17 : -2147483648 ≤ r12.toInt ∧ r12.toInt ≤ 2147483647 := ti_all r12
    refine lv_icmp_ne (tgt := 25) hx hb dX3_isSeaBeside_18 (by decide) (fun c18 => ?_) (fun c18 => ?_)
    · have t19 : r12.toInt ≠ 1 := ti_ne c18 rfl (by decide)
      refine lv_iconst (v := 0) hx hb dX3_isSeaBeside_25 (by decide) ?_
      exact W.zret (v := 0) hx hb hr (by decide) (fun t ht hW => ⟨⟨0, (), rfl, (by exact (rg_t (a := 0) (by decide) (by first | decide | omega) (by first | decide | omega))), by (try dsimp only); rw [ht]; exact ⟨hT, hF⟩⟩, hS.F ht⟩) hS.2.2 dX3_isSeaBeside_26
    · have t20 : r12.toInt = 1 := ti_eq c18 rfl (by decide)
      refine lv_iconst (v := 1) hx hb dX3_isSeaBeside_21 (by decide) ?_
      refine lv_goto (tgt := 26) hx hb dX3_isSeaBeside_22 (by decide) ?_
      exact W.zret (v := 1) hx hb hr (by decide) (fun t ht hW => ⟨⟨1, (), rfl, (by exact (rg_t (a := 1) (by decide) (by first | decide | omega) (by first | decide | omega))), by (try dsimp only); rw [ht]; exact ⟨hT, hF⟩⟩, hS.F ht⟩) hS.2.2 dX3_isSeaBeside_26
def w_c_build : List Cond := .code yX3_build cX3_build 5 (some .int) :: (HAppend.hAppend (α := List Cond) (β := List Cond) (γ := List Cond) [.fieldLink RX3 27 "SeaLand$Lake" "works" "[LSeaLand$Work;", .fieldLink RX3 47 "SeaLand$Lake" "built" "I", .code yX10_begin cX10_begin 5 none, .fieldLink RX10 18 "SeaLand$Work" "kind" "I", .fieldLink RX10 22 "SeaLand$Work" "square" "I", .fieldLink RX10 25 "SeaLand$Work" "to" "I", .fieldLink RX10 28 "SeaLand$Work" "size" "I", .fieldLink RX10 31 "SeaLand$Work" "width" "I", .fieldLink RX10 34 "SeaLand$Work" "layers" "I", .fieldLink RX10 37 "SeaLand$Work" "coal" "I", .fieldLink RX10 40 "SeaLand$Work" "on" "Z", .fieldLink RX10 44 "SeaLand$Work" "latest" "I", .fieldLink RX10 47 "SeaLand$Work" "total" "I", .methodLink RX3 60 yX10_begin, .instanceMethod yX10_begin, .selects RX10 yX10_begin yX10_begin, .initialized RX10] bs2)
set_option maxHeartbeats 4000000 in
set_option maxRecDepth 100000 in
theorem c_build (l : Launch) (dC : Nat → ClassId) (dI : Nat → Nat → Nat) (kA : Nat → ClassId) (adK adV : Nat → Nat) (G : gT) (H0 : Heap) (nC nS : Int) (o0 : Nat) (p0 : Int32) (p1 : Int32) (p2 : Int32) (p3 : Int32) (bu : Int32)  (hT : gH (dC, dI) kA (SHc nC nS) G H0) (hr_o0 : G o0 = some 6) (hm_bu : el H0 o0 (dI 6 3) = some (.int bu)) (hq0 : 0 ≤ p1.toInt ∧ p1.toInt ≤ 95) (hq1 : 0 ≤ p2.toInt ∧ p2.toInt ≤ 95) (hq2 : 0 ≤ bu.toInt ∧ bu.toInt ≤ 29) (hgC : 0 ≤ nC ∧ nC ≤ 40) (hgS : 0 ≤ nS ∧ nS ≤ 60) : Met l yX3_build w_c_build ({ frames := 1, cells := 0, slots := 0, locals := 24 }) (va_Pc [.ref o0, .int p0, .int p1, .int p2, .int p3] (fun U => U.heap = H0 ∧ va_K (dC, dI) vwCl (tyl kA) U ∧ EVC adK adV (gA G H0.size) U U.heap)) (va_Qi (fun (r : Int32) (u : Unit) => (0 ≤ r.toInt ∧ r.toInt ≤ 29)) (fun (_ : Unit) (t : State) => gH (dC, dI) kA (SHc nC nS) G t.heap ∧ gF (dC, dI) SKc G ([(6, 3), (13, 2), (13, 3), (13, 4), (13, 5), (13, 6), (13, 7), (13, 8), (13, 9), (13, 10), (13, 11)] : List (Nat × Nat)) H0 t.heap) (gA G H0.size)) 0 0 (gA G H0.size) := by
  refine Met.ofW (cc := cX3_build) (maxL := 5) (ret := (some .int)) (by decide) rfl ?_
  intro p e s m args below meth c s₁ B hml hv
  obtain ⟨rfl, hH0, hK, hE⟩ := hv
  have hx := B.exec
  have hb := B.bytes
  have hr := B.returns
  have hts := atoms_spec (ws := w_c_build) B.pre
  have hown : s.vm.findClass RX3 = some m.cls := findClass_of_methodNamed B.named
  have hlocks := B.notSynchronized
  subst hH0
  generalize hAe : gA G s.heap.size = A at hE ⊢
  have hA : ∀ q : Nat, s.heap.size ≤ q → A q := fun q h => by rw [← hAe]; exact Or.inr h
  have hG := gA_of hAe
  have hS : va_S A s.heap s.heap [] := va_S.rf
  have hF : gF (dC, dI) SKc G ([(6, 3), (13, 2), (13, 3), (13, 4), (13, 5), (13, 6), (13, 7), (13, 8), (13, 9), (13, 10), (13, 11)] : List (Nat × Nat)) s.heap s.heap := gF.rf
  have hl := lv_entry ([.ref o0, .int p0, .int p1, .int p2, .int p3]) (n := 5) (Nat.le_of_ble_eq_true rfl)
  rw [lg_entry_eq]
  generalize (lg_sl ([.ref o0, .int p0, .int p1, .int p2, .int p3]) ++ List.replicate (5 - (lg_sl ([.ref o0, .int p0, .int p1, .int p2, .int p3])).length) Slot.unset).toArray = ls at hl ⊢
  have hl : lv_has ls 5 [(0, .ref o0), (1, .int p0), (2, .int p1), (3, .int p2), (4, .int p3)] := hl
  refine lv_aload_n hx hb dX3_build_0 rfl (lv_at hl 0 rfl) ?_
  refine tw_get hx hb hts bF2_X3 hown hK hT hr_o0 shc_6 rfl 2 (by decide) (ht_at2 hts 0 rfl) (fun _ h9 => h9) dX3_build_1 (fun v9 m1 h9 => ?_)
  obtain ⟨b2, rfl, hg3⟩ := h9 _ rfl
  refine lv_aload_n hx hb dX3_build_4 rfl (lv_at hl 0 rfl) ?_
  refine tw_getM (v := .int bu) hx hb hts bF2_X3 hown hK hT hr_o0 shc_6 rfl 3 (by decide) (ht_at2 hts 1 rfl) (fun _ h9 => h9) hm_bu dX3_build_5 ?_
  refine tw_aald (i := bu) hx hb hK hT hg3 shc_18 rfl (vin_t (a := bu.toInt) rfl (by omega) (by omega)) dX3_build_8 (fun v9 m4 h9 => ?_)
  obtain ⟨b5, rfl, hg6⟩ := h9
  refine lv_iload_n hx hb dX3_build_9 rfl (lv_at hl 1 rfl) ?_
  refine lv_iload_n hx hb dX3_build_10 rfl (lv_at hl 2 rfl) ?_
  refine lv_iload_n hx hb dX3_build_11 rfl (lv_at hl 3 rfl) ?_
  refine lv_iload hx hb dX3_build_12 (lv_at hl 4 rfl) ?_
  have hFc := gA_free hG hA hS
  refine va_callv (va_runV (As := [.int p0, .int p1, .int p2, .int p3]) (rest := []) ⟨hx, hb, hml, hown, hts⟩ (c_begin l dC dI kA adK adV G s.heap nC nS b5 p0 p1 p2 p3 hT hg6 (by have q8 := ti_all p1; omega) (by have q8 := ti_all p2; omega) (by omega) (by omega)) (cwV 4 hts (goodIn_app (goodIn_r _ [14, 15, 16, 17] rfl (by decide +kernel)) (goodIn_ca (goodIn_r _ [3, 4, 5, 6, 7, 8, 9, 10, 11, 12, 13] rfl (by decide +kernel)) (bs2_in _ _))) rfl rfl rfl (by decide +kernel) ⟨(Nat.le_of_ble_eq_true rfl), (Nat.le_of_ble_eq_true rfl)⟩) ⟨fun a U g mk q => by obtain ⟨q0, q1, qK, qE⟩ := q; exact ⟨q0, q1, va_K.moved (u := U) (U := U.calling g mk a) (Vm.Alike.refl U.vm) qK, EVC.blind g mk a qE⟩, gH_rc hK hT hg6 shc_13 rfl, fun U hU hW => ⟨rfl, hU, va_K.moved hW.alike hK, hE.call hS hFc hU hW⟩⟩ rfl rfl hl.1 rfl (lv_room (Nat.le_of_ble_eq_true rfl)) dX3_build_14 ⟨(Nat.le_of_ble_eq_true rfl), (Nat.le_of_ble_eq_true rfl)⟩) hS (fun q _ h => hFc q h) hFc (fun u t H locs ht hvm hw8 hB _ _ hS => ?_)
  obtain ⟨hT, hF1⟩ := hB
  rw [ht] at hT hF1
  have m9 := (hF1.fld hr_o0 skc_6 (k := 3) (by decide) (by decide)).trans hm_bu
  have hF := hF.more hF1 (by decide)
  try dsimp only at hw8
  refine lv_aload_n hx hb dX3_build_17 rfl (lv_at hl 0 rfl) ?_
  refine lv_dup hx hb dX3_build_18 rfl ?_
  refine tw_getM (v := .int bu) hx hb hts bF2_X3 hown hK hT hr_o0 shc_6 rfl 3 (by decide) (ht_at2 hts 1 rfl) (fun _ h9 => h9) m9 dX3_build_19 ?_
  refine lv_iconst (v := 1) hx hb dX3_build_22 (by decide) ?_
  refine lv_iadd hx hb dX3_build_23 ?_
  refine lv_topi (fun x12 ex12 => ?_)
  have t13 : x12.toInt = bu.toInt + 1 := ti_add ex12 rfl (by decide) (by omega) (by omega)
  refine tw_put (v := .int x12) (ty := .int) hx hb hts bF2_X3 tyX3 tyX3_ok nmX3 hown hK hT hG hS hr_o0 shc_6 rfl 3 (by decide) (ht_at2 hts 1 rfl) (fun _ h9 => h9) rfl (by decide +kernel) rfl rfl (gl_at rfl (gi_of (show x12.toInt = x12.toInt from rfl) (by omega) (by omega))) dX3_build_24 (fun H locs hT oq m14 oj hS => ?_)
  have hF := hF.put hr_o0 skc_6 oq oj (by decide)
  refine lv_aload_n hx hb dX3_build_27 rfl (lv_at hl 0 rfl) ?_
  refine tw_getM (v := .int x12) hx hb hts bF2_X3 hown hK hT hr_o0 shc_6 rfl 3 (by decide) (ht_at2 hts 1 rfl) (fun _ h9 => h9) m14 dX3_build_28 ?_
  refine lv_iconst (v := 1) hx hb dX3_build_31 (by decide) ?_
  refine lv_isub hx hb dX3_build_32 ?_
  refine lv_topi (fun x17 ex17 => ?_)
  have t18 : x17.toInt = x12.toInt - 1 := ti_sub ex17 rfl (by decide) (by omega) (by omega)
  exact W.iret (v := x17) hx hb hr (fun t ht hW => ⟨⟨x17, (), rfl, (by exact (by have q8 := ti_all x17; omega)), by (try dsimp only); rw [ht]; exact ⟨hT, hF⟩⟩, hS.F ht⟩) hS.2.2 dX3_build_33
def w_c_breaches : List Cond := .code yX3_breaches cX3_breaches 3 (some .int) :: (HAppend.hAppend (α := List Cond) (β := List Cond) (γ := List Cond) [.fieldLink RX3 47 "SeaLand$Lake" "built" "I", .fieldLink RX3 27 "SeaLand$Lake" "works" "[LSeaLand$Work;"] bs2)
set_option maxHeartbeats 4000000 in
set_option maxRecDepth 100000 in
theorem c_breaches (l : Launch) (dC : Nat → ClassId) (dI : Nat → Nat → Nat) (kA : Nat → ClassId) (adK adV : Nat → Nat) (G : gT) (H0 : Heap) (nC nS : Int) (o0 : Nat)  (hT : gH (dC, dI) kA (SHc nC nS) G H0) (hr_o0 : G o0 = some 6) (hgC : 0 ≤ nC ∧ nC ≤ 40) (hgS : 0 ≤ nS ∧ nS ≤ 60) : Met l yX3_breaches w_c_breaches ({ frames := 0, cells := 0, slots := 0, locals := 0 }) (va_Pc [.ref o0] (fun U => U.heap = H0 ∧ va_K (dC, dI) vwCl (tyl kA) U ∧ EVC adK adV (gA G H0.size) U U.heap)) (va_Qi (fun (r : Int32) (u : Unit) => True) (fun (_ : Unit) (t : State) => gH (dC, dI) kA (SHc nC nS) G t.heap ∧ gF (dC, dI) SKc G ([] : List (Nat × Nat)) H0 t.heap) (gA G H0.size)) 0 0 (gA G H0.size) := by
  refine Met.ofW (cc := cX3_breaches) (maxL := 3) (ret := (some .int)) (by decide) rfl ?_
  intro p e s m args below meth c s₁ B hml hv
  obtain ⟨rfl, hH0, hK, hE⟩ := hv
  have hx := B.exec
  have hb := B.bytes
  have hr := B.returns
  have hts := atoms_spec (ws := w_c_breaches) B.pre
  have hown : s.vm.findClass RX3 = some m.cls := findClass_of_methodNamed B.named
  have hlocks := B.notSynchronized
  subst hH0
  generalize hAe : gA G s.heap.size = A at hE ⊢
  have hA : ∀ q : Nat, s.heap.size ≤ q → A q := fun q h => by rw [← hAe]; exact Or.inr h
  have hG := gA_of hAe
  have hS : va_S A s.heap s.heap [] := va_S.rf
  have hF : gF (dC, dI) SKc G ([] : List (Nat × Nat)) s.heap s.heap := gF.rf
  have hl := lv_entry ([.ref o0]) (n := 3) (Nat.le_of_ble_eq_true rfl)
  rw [lg_entry_eq]
  generalize (lg_sl ([.ref o0]) ++ List.replicate (3 - (lg_sl ([.ref o0])).length) Slot.unset).toArray = ls at hl ⊢
  have hl : lv_has ls 3 [(0, .ref o0)] := hl
  refine lv_iconst (v := 0) hx hb dX3_breaches_0 (by decide) ?_
  refine lv_istore_n (lv' := [(1, .int 0), (0, .ref o0)]) hx hb dX3_breaches_1 rfl hl (by decide) rfl (fun ls hl => ?_)
  refine lv_iconst (v := 0) hx hb dX3_breaches_2 (by decide) ?_
  refine lv_istore_n (lv' := [(2, .int 0), (1, .int 0), (0, .ref o0)]) hx hb dX3_breaches_3 rfl hl (by decide) rfl (fun ls hl => ?_)
  have key24 : ∀ (n24 i1 : Nat), i1 + n24 = 30 → 0 ≤ i1 → ∀ (z2 : Int32), ∀ (H : Heap) (locs : List Loc), gH (dC, dI) kA (SHc nC nS) G H → gF (dC, dI) SKc G ([] : List (Nat × Nat)) s.heap H → va_S A s.heap H locs → ∀ ls : Array Slot, lv_has ls 3 [(2, .int (nI i1)), (1, .int z2), (0, .ref o0)] → W p l e (headSpec w_c_breaches ({ frames := 0, cells := 0, slots := 0, locals := 0 })).room s m #[.ref o0] below meth c H locs 0 0 (MQ below (va_Qi (fun (r : Int32) (u : Unit) => True) (fun (_ : Unit) (t : State) => gH (dC, dI) kA (SHc nC nS) G t.heap ∧ gF (dC, dI) SKc G ([] : List (Nat × Nat)) s.heap t.heap) A) #[.ref o0] s 0 0 A) (F0 m 4 ls []) := by
    intro n24
    induction n24 with
    | zero =>
      intro i1 hn24 hlo25 z2 H locs hT hF hS  ls hl
      obtain rfl : 30 = i1 := by omega
      refine lv_iload_n hx hb dX3_breaches_4 rfl (lv_at hl 0 rfl) ?_
      refine lv_aload_n hx hb dX3_breaches_5 rfl (lv_at hl 2 rfl) ?_
      refine tw_get hx hb hts bF2_X3 hown hK hT hr_o0 shc_6 rfl 3 (by decide) (ht_at2 hts 0 rfl) (fun _ h9 => h9) dX3_breaches_6 (fun v9 m26 h9 => ?_)
      obtain ⟨x27, rfl, gx27, kx27⟩ := h9 _ rfl
      refine lv_icmp_ge (tgt := 39) hx hb dX3_breaches_9 (by decide) (fun c28 => ?_) (fun c28 => (by exfalso; have q9 : ((30 : Nat) : Int) < x27.toInt := ti_nle c28 rfl (nI_toInt (by omega)); omega))
      have t29 : x27.toInt ≤ ((30 : Nat) : Int) := ti_le c28 rfl (nI_toInt (by omega))
      refine lv_iload_n hx hb dX3_breaches_39 rfl (lv_at hl 1 rfl) ?_
      exact W.iret (v := z2) hx hb hr (fun t ht hW => ⟨⟨z2, (), rfl, (by exact trivial), by (try dsimp only); rw [ht]; exact ⟨hT, hF⟩⟩, hS.F ht⟩) hS.2.2 dX3_breaches_40
    | succ n24 ih24 =>
      intro i1 hn24 hlo25 z2 H locs hT hF hS  ls hl
      have hlt29 : i1 < 30 := by omega
      refine lv_iload_n hx hb dX3_breaches_4 rfl (lv_at hl 0 rfl) ?_
      refine lv_aload_n hx hb dX3_breaches_5 rfl (lv_at hl 2 rfl) ?_
      refine tw_get hx hb hts bF2_X3 hown hK hT hr_o0 shc_6 rfl 3 (by decide) (ht_at2 hts 0 rfl) (fun _ h9 => h9) dX3_breaches_6 (fun v9 m30 h9 => ?_)
      obtain ⟨x31, rfl, gx31, kx31⟩ := h9 _ rfl
      refine lv_icmp_ge (tgt := 39) hx hb dX3_breaches_9 (by decide) (fun c32 => ?_) (fun c32 => ?_)
      · have t33 : x31.toInt ≤ ((i1 : Nat) : Int) := ti_le c32 rfl (nI_toInt (by omega))
        refine lv_iload_n hx hb dX3_breaches_39 rfl (lv_at hl 1 rfl) ?_
        exact W.iret (v := z2) hx hb hr (fun t ht hW => ⟨⟨z2, (), rfl, (by exact trivial), by (try dsimp only); rw [ht]; exact ⟨hT, hF⟩⟩, hS.F ht⟩) hS.2.2 dX3_breaches_40
      · have t34 : ((i1 : Nat) : Int) < x31.toInt := ti_nle c32 rfl (nI_toInt (by omega))
        refine lv_iload_n hx hb dX3_breaches_12 rfl (lv_at hl 1 rfl) ?_
        refine lv_aload_n hx hb dX3_breaches_13 rfl (lv_at hl 2 rfl) ?_
        refine tw_get hx hb hts bF2_X3 hown hK hT hr_o0 shc_6 rfl 2 (by decide) (ht_at2 hts 1 rfl) (fun _ h9 => h9) dX3_breaches_14 (fun v9 m35 h9 => ?_)
        obtain ⟨b36, rfl, hg37⟩ := h9 _ rfl
        refine lv_iload_n hx hb dX3_breaches_17 rfl (lv_at hl 0 rfl) ?_
        refine tw_aald (i := (nI i1)) hx hb hK hT hg37 shc_18 rfl (vp_in_nI (by omega) (by decide)) dX3_breaches_18 (fun v9 m38 h9 => ?_)
        obtain ⟨b39, rfl, hg40⟩ := h9
        refine tw_getN hx hb hts bF2_X10 hown hK hT hg40 shc_13 rfl 2 (by decide) (hE.nw 79 rfl) (fun _ h9 => h9) dX3_breaches_19 (fun v9 m41 h9 => ?_)
        obtain ⟨x42, rfl, gx42, kx42⟩ := h9 _ rfl
        refine lv_iconst (v := 1) hx hb dX3_breaches_22 (by decide) ?_
        have t43 : -2147483648 ≤ x42.toInt ∧ x42.toInt ≤ 2147483647 := ti_all x42
        refine lv_icmp_ne (tgt := 30) hx hb dX3_breaches_23 (by decide) (fun c44 => ?_) (fun c44 => ?_)
        · have t45 : x42.toInt ≠ 1 := ti_ne c44 rfl (by decide)
          refine lv_iconst (v := 0) hx hb dX3_breaches_30 (by decide) ?_
          refine lv_iadd hx hb dX3_breaches_31 ?_
          refine lv_topi (fun x46 ex46 => ?_)
          have t47 : -2147483648 ≤ z2.toInt ∧ z2.toInt ≤ 2147483647 := ti_all z2
          have t48 : x46.toInt = z2.toInt + 0 := ti_add ex46 rfl (by decide) (by omega) (by omega)
          refine lv_istore_n (lv' := [(1, .int x46), (2, .int (nI i1)), (0, .ref o0)]) hx hb dX3_breaches_32 rfl hl (by decide) rfl (fun ls hl => ?_)
          refine lv_iinc (v := nI (i1 + 1)) (lv' := [(2, .int (nI (i1 + 1))), (1, .int x46), (0, .ref o0)]) hx hb dX3_breaches_33 hl (k := 1) rfl (nI_add i1 1) (by decide) rfl (fun ls hl => ?_)
          refine lv_goto (tgt := 4) hx hb dX3_breaches_36 (by decide) ?_
          exact ih24 (i1 + 1) (by omega) (by omega) x46 _ _ hT hF hS ls (lv_sub hl [0, 1, 2] rfl)
        · have t49 : x42.toInt = 1 := ti_eq c44 rfl (by decide)
          refine lv_iconst (v := 1) hx hb dX3_breaches_26 (by decide) ?_
          refine lv_goto (tgt := 31) hx hb dX3_breaches_27 (by decide) ?_
          refine lv_iadd hx hb dX3_breaches_31 ?_
          refine lv_topi (fun x50 ex50 => ?_)
          refine lv_istore_n (lv' := [(1, .int x50), (2, .int (nI i1)), (0, .ref o0)]) hx hb dX3_breaches_32 rfl hl (by decide) rfl (fun ls hl => ?_)
          refine lv_iinc (v := nI (i1 + 1)) (lv' := [(2, .int (nI (i1 + 1))), (1, .int x50), (0, .ref o0)]) hx hb dX3_breaches_33 hl (k := 1) rfl (nI_add i1 1) (by decide) rfl (fun ls hl => ?_)
          refine lv_goto (tgt := 4) hx hb dX3_breaches_36 (by decide) ?_
          exact ih24 (i1 + 1) (by omega) (by omega) x50 _ _ hT hF hS ls (lv_sub hl [0, 1, 2] rfl)
  exact key24 (30 - 0) 0 (by omega) (Nat.le_refl _) 0 _ _ hT hF hS ls (lv_sub hl [0, 1, 2] rfl)
def w_c_stepsToBank : List Cond := .code yX3_stepsToBank cX3_stepsToBank 4 (some .int) :: (HAppend.hAppend (α := List Cond) (β := List Cond) (γ := List Cond) [.fieldLink RX3 47 "SeaLand$Lake" "built" "I", .fieldLink RX3 27 "SeaLand$Lake" "works" "[LSeaLand$Work;", .code yX10_isBank cX10_isBank 1 (some .boolean), .fieldLink RX10 18 "SeaLand$Work" "kind" "I", .methodLink RX3 67 yX10_isBank, .instanceMethod yX10_isBank, .selects RX10 yX10_isBank yX10_isBank, .initialized RX10, .code yX11_stepsApart cX11_stepsApart 2 (some .int), .methodLink RX11 580 Lib.Math.abs.name, .static Lib.Math.abs.name, .initialized "java/lang/Math", .code Lib.Math.abs.name Lib.Math.abs.code 1 (some .int), .initialized RX11, .static yX11_stepsApart, .methodLink RX3 71 Lib.Math.min.name, .static Lib.Math.min.name, .code Lib.Math.min.name Lib.Math.min.code 2 (some .int)] bs2)
set_option maxHeartbeats 4000000 in
set_option maxRecDepth 100000 in
theorem c_stepsToBank (l : Launch) (dC : Nat → ClassId) (dI : Nat → Nat → Nat) (kA : Nat → ClassId) (adK adV : Nat → Nat) (G : gT) (H0 : Heap) (nC nS : Int) (o0 : Nat) (p0 : Int32)  (hT : gH (dC, dI) kA (SHc nC nS) G H0) (hr_o0 : G o0 = some 6) (hgC : 0 ≤ nC ∧ nC ≤ 40) (hgS : 0 ≤ nS ∧ nS ≤ 60) : Met l yX3_stepsToBank w_c_stepsToBank ({ frames := 2, cells := 0, slots := 0, locals := 61 }) (va_Pc [.ref o0, .int p0] (fun U => U.heap = H0 ∧ va_K (dC, dI) vwCl (tyl kA) U ∧ EVC adK adV (gA G H0.size) U U.heap)) (va_Qi (fun (r : Int32) (u : Unit) => (-2147483648 ≤ r.toInt ∧ r.toInt ≤ 99)) (fun (_ : Unit) (t : State) => gH (dC, dI) kA (SHc nC nS) G t.heap ∧ gF (dC, dI) SKc G ([] : List (Nat × Nat)) H0 t.heap) (gA G H0.size)) 0 0 (gA G H0.size) := by
  refine Met.ofW (cc := cX3_stepsToBank) (maxL := 4) (ret := (some .int)) (by decide) rfl ?_
  intro p e s m args below meth c s₁ B hml hv
  obtain ⟨rfl, hH0, hK, hE⟩ := hv
  have hx := B.exec
  have hb := B.bytes
  have hr := B.returns
  have hts := atoms_spec (ws := w_c_stepsToBank) B.pre
  have hown : s.vm.findClass RX3 = some m.cls := findClass_of_methodNamed B.named
  have hlocks := B.notSynchronized
  subst hH0
  generalize hAe : gA G s.heap.size = A at hE ⊢
  have hA : ∀ q : Nat, s.heap.size ≤ q → A q := fun q h => by rw [← hAe]; exact Or.inr h
  have hG := gA_of hAe
  have hS : va_S A s.heap s.heap [] := va_S.rf
  have hF : gF (dC, dI) SKc G ([] : List (Nat × Nat)) s.heap s.heap := gF.rf
  have hl := lv_entry ([.ref o0, .int p0]) (n := 4) (Nat.le_of_ble_eq_true rfl)
  rw [lg_entry_eq]
  generalize (lg_sl ([.ref o0, .int p0]) ++ List.replicate (4 - (lg_sl ([.ref o0, .int p0])).length) Slot.unset).toArray = ls at hl ⊢
  have hl : lv_has ls 4 [(0, .ref o0), (1, .int p0)] := hl
  refine lv_bipush (v := 99) hx hb dX3_stepsToBank_0 (by decide) ?_
  refine lv_istore_n (lv' := [(2, .int 99), (0, .ref o0), (1, .int p0)]) hx hb dX3_stepsToBank_2 rfl hl (by decide) rfl (fun ls hl => ?_)
  refine lv_iconst (v := 0) hx hb dX3_stepsToBank_3 (by decide) ?_
  refine lv_istore_n (lv' := [(3, .int 0), (2, .int 99), (0, .ref o0), (1, .int p0)]) hx hb dX3_stepsToBank_4 rfl hl (by decide) rfl (fun ls hl => ?_)
  have key37 : ∀ (n37 i1 : Nat), i1 + n37 = 30 → 0 ≤ i1 → ∀ (z2 : Int32), ((-2147483648 ≤ z2.toInt ∧ z2.toInt ≤ 99)) → ∀ (H : Heap) (locs : List Loc), gH (dC, dI) kA (SHc nC nS) G H → gF (dC, dI) SKc G ([] : List (Nat × Nat)) s.heap H → va_S A s.heap H locs → ∀ ls : Array Slot, lv_has ls 4 [(3, .int (nI i1)), (2, .int z2), (0, .ref o0), (1, .int p0)] → W p l e (headSpec w_c_stepsToBank ({ frames := 2, cells := 0, slots := 0, locals := 61 })).room s m #[.ref o0, .int p0] below meth c H locs 0 0 (MQ below (va_Qi (fun (r : Int32) (u : Unit) => (-2147483648 ≤ r.toInt ∧ r.toInt ≤ 99)) (fun (_ : Unit) (t : State) => gH (dC, dI) kA (SHc nC nS) G t.heap ∧ gF (dC, dI) SKc G ([] : List (Nat × Nat)) s.heap t.heap) A) #[.ref o0, .int p0] s 0 0 A) (F0 m 5 ls []) := by
    intro n37
    induction n37 with
    | zero =>
      intro i1 hn37 hlo38 z2 h3 H locs hT hF hS  ls hl
      obtain rfl : 30 = i1 := by omega
      refine lv_iload_n hx hb dX3_stepsToBank_5 rfl (lv_at hl 0 rfl) ?_
      refine lv_aload_n hx hb dX3_stepsToBank_6 rfl (lv_at hl 2 rfl) ?_
      refine tw_get hx hb hts bF2_X3 hown hK hT hr_o0 shc_6 rfl 3 (by decide) (ht_at2 hts 0 rfl) (fun _ h9 => h9) dX3_stepsToBank_7 (fun v9 m39 h9 => ?_)
      obtain ⟨x40, rfl, gx40, kx40⟩ := h9 _ rfl
      refine lv_icmp_ge (tgt := 49) hx hb dX3_stepsToBank_10 (by decide) (fun c41 => ?_) (fun c41 => (by exfalso; have q9 : ((30 : Nat) : Int) < x40.toInt := ti_nle c41 rfl (nI_toInt (by omega)); omega))
      have t42 : x40.toInt ≤ ((30 : Nat) : Int) := ti_le c41 rfl (nI_toInt (by omega))
      refine lv_iload_n hx hb dX3_stepsToBank_49 rfl (lv_at hl 1 rfl) ?_
      exact W.iret (v := z2) hx hb hr (fun t ht hW => ⟨⟨z2, (), rfl, (by exact (by have q8 := ti_all z2; omega)), by (try dsimp only); rw [ht]; exact ⟨hT, hF⟩⟩, hS.F ht⟩) hS.2.2 dX3_stepsToBank_50
    | succ n37 ih37 =>
      intro i1 hn37 hlo38 z2 h3 H locs hT hF hS  ls hl
      have hlt42 : i1 < 30 := by omega
      refine lv_iload_n hx hb dX3_stepsToBank_5 rfl (lv_at hl 0 rfl) ?_
      refine lv_aload_n hx hb dX3_stepsToBank_6 rfl (lv_at hl 2 rfl) ?_
      refine tw_get hx hb hts bF2_X3 hown hK hT hr_o0 shc_6 rfl 3 (by decide) (ht_at2 hts 0 rfl) (fun _ h9 => h9) dX3_stepsToBank_7 (fun v9 m43 h9 => ?_)
      obtain ⟨x44, rfl, gx44, kx44⟩ := h9 _ rfl
      refine lv_icmp_ge (tgt := 49) hx hb dX3_stepsToBank_10 (by decide) (fun c45 => ?_) (fun c45 => ?_)
      · have t46 : x44.toInt ≤ ((i1 : Nat) : Int) := ti_le c45 rfl (nI_toInt (by omega))
        refine lv_iload_n hx hb dX3_stepsToBank_49 rfl (lv_at hl 1 rfl) ?_
        exact W.iret (v := z2) hx hb hr (fun t ht hW => ⟨⟨z2, (), rfl, (by exact (by have q8 := ti_all z2; omega)), by (try dsimp only); rw [ht]; exact ⟨hT, hF⟩⟩, hS.F ht⟩) hS.2.2 dX3_stepsToBank_50
      · have t47 : ((i1 : Nat) : Int) < x44.toInt := ti_nle c45 rfl (nI_toInt (by omega))
        refine lv_aload_n hx hb dX3_stepsToBank_13 rfl (lv_at hl 2 rfl) ?_
        refine tw_get hx hb hts bF2_X3 hown hK hT hr_o0 shc_6 rfl 2 (by decide) (ht_at2 hts 1 rfl) (fun _ h9 => h9) dX3_stepsToBank_14 (fun v9 m48 h9 => ?_)
        obtain ⟨b49, rfl, hg50⟩ := h9 _ rfl
        refine lv_iload_n hx hb dX3_stepsToBank_17 rfl (lv_at hl 0 rfl) ?_
        refine tw_aald (i := (nI i1)) hx hb hK hT hg50 shc_18 rfl (vp_in_nI (by omega) (by decide)) dX3_stepsToBank_18 (fun v9 m51 h9 => ?_)
        obtain ⟨b52, rfl, hg53⟩ := h9
        have hFc := gA_free hG hA hS
        refine va_calli (va_runV (As := []) (rest := []) ⟨hx, hb, hml, hown, hts⟩ (c_isBank l dC dI kA adK adV G H nC nS b52 hT hg53 (by omega) (by omega)) (cwV 0 hts (goodIn_app (goodIn_r _ [5, 6, 7, 8] rfl (by decide +kernel)) (goodIn_ca (goodIn_r _ [3, 4] rfl (by decide +kernel)) (bs2_in _ _))) rfl rfl rfl (by decide +kernel) ⟨(Nat.le_of_ble_eq_true rfl), (Nat.le_of_ble_eq_true rfl)⟩) ⟨fun a U g mk q => by obtain ⟨q0, q1, qK, qE⟩ := q; exact ⟨q0, q1, va_K.moved (u := U) (U := U.calling g mk a) (Vm.Alike.refl U.vm) qK, EVC.blind g mk a qE⟩, gH_rc hK hT hg53 shc_13 rfl, fun U hU hW => ⟨rfl, hU, va_K.moved hW.alike hK, hE.call hS hFc hU hW⟩⟩ rfl rfl hl.1 rfl (lv_room (Nat.le_of_ble_eq_true rfl)) dX3_stepsToBank_19 ⟨(Nat.le_of_ble_eq_true rfl), (Nat.le_of_ble_eq_true rfl)⟩) hS (fun q _ h => hFc q h) hFc (fun r54 u t H locs ht hvm hw55 hB _ _ hS => ?_)
        obtain ⟨hT, hF1⟩ := hB
        rw [ht] at hT hF1
        have m57 := (hF1.fld hr_o0 skc_6 (k := 2) (by decide) (by decide)).trans m48
        have m58 := (el_kept (hF1.arr hg50 skc_18 (by decide))).trans m51
        have hF := hF.more hF1 (by decide)
        try dsimp only at hw55
        have h59 := hw55
        refine lv_if_eq (tgt := 43) hx hb dX3_stepsToBank_22 (by decide) (fun c60 => ?_) (fun c60 => ?_)
        · have t61 : r54.toInt = 0 := ti_eq c60 rfl (by decide)
          refine lv_iinc (v := nI (i1 + 1)) (lv' := [(3, .int (nI (i1 + 1))), (2, .int z2), (0, .ref o0), (1, .int p0)]) hx hb dX3_stepsToBank_43 hl (k := 0) rfl (nI_add i1 1) (by decide) rfl (fun ls hl => ?_)
          refine lv_goto (tgt := 5) hx hb dX3_stepsToBank_46 (by decide) ?_
          exact ih37 (i1 + 1) (by omega) (by omega) z2 (by have q8 := ti_all z2; omega) _ _ hT hF hS ls (lv_sub hl [0, 1, 2, 3] rfl)
        · have t62 : r54.toInt ≠ 0 := ti_ne c60 rfl (by decide)
          refine lv_iload_n hx hb dX3_stepsToBank_25 rfl (lv_at hl 1 rfl) ?_
          refine lv_iload_n hx hb dX3_stepsToBank_26 rfl (lv_at hl 3 rfl) ?_
          refine lv_aload_n hx hb dX3_stepsToBank_27 rfl (lv_at hl 2 rfl) ?_
          refine tw_getM (v := .ref b49) hx hb hts bF2_X3 hown hK hT hr_o0 shc_6 rfl 2 (by decide) (ht_at2 hts 1 rfl) (fun _ h9 => h9) m57 dX3_stepsToBank_28 ?_
          refine lv_iload_n hx hb dX3_stepsToBank_31 rfl (lv_at hl 0 rfl) ?_
          refine tw_aald (i := (nI i1)) hx hb hK hT hg50 shc_18 rfl (vp_in_nI (by omega) (by decide)) dX3_stepsToBank_32 (fun v9 m63 h9 => ?_)
          obtain ⟨b64, rfl, hg65⟩ := h9
          obtain rfl : b52 = b64 := (el_sameR m63 m58 (show (nI i1).toInt = (nI i1).toInt from by have q9 := (show (nI i1).toInt = ((i1 : Nat) : Int) from (nI_toInt (by omega))); have q8 := (show (nI i1).toInt = ((i1 : Nat) : Int) from (nI_toInt (by omega))); omega)).symm
          refine tw_getN hx hb hts bF2_X10 hown hK hT hg53 shc_13 rfl 3 (by decide) (hE.nw 78 rfl) (fun _ h9 => h9) dX3_stepsToBank_33 (fun v9 m66 h9 => ?_)
          obtain ⟨x67, rfl, gx67, kx67⟩ := h9 _ rfl
          have hFc := gA_free hG hA hS
          refine va_calli (va_runSN (As := [.int p0, .int x67]) (rest := [.int z2]) ⟨hx, hb, hml, hown, hts⟩ (c_stepsApart l dC dI kA adK adV G H nC nS p0 x67 hT (by omega) (by omega)) ⟨va_cnB 2 hts (goodIn_ca (goodIn_r _ [9, 10, 11, 12, 13] rfl (by decide +kernel)) (bs2_in _ _)) rfl rfl rfl (hE.nm 109 rfl) (ht_at2 hts 13 rfl) (by decide +kernel) ⟨(Nat.le_of_ble_eq_true rfl), (Nat.le_of_ble_eq_true rfl)⟩, (ht_at2 hts 14 rfl), trivial⟩ ⟨fun a U g mk q => by obtain ⟨q0, q1, qK, qE⟩ := q; exact ⟨q0, q1, va_K.moved (u := U) (U := U.calling g mk a) (Vm.Alike.refl U.vm) qK, EVC.blind g mk a qE⟩, fun U hU hW => ⟨rfl, hU, va_K.moved hW.alike hK, hE.call hS hFc hU hW⟩⟩ rfl rfl hl.1 rfl (lv_room (Nat.le_of_ble_eq_true rfl)) dX3_stepsToBank_36 ⟨(Nat.le_of_ble_eq_true rfl), (Nat.le_of_ble_eq_true rfl)⟩) hS (fun q _ h => hFc q h) hFc (fun r68 u t H locs ht hvm hw69 hB _ _ hS => ?_)
          obtain ⟨hT, hF1⟩ := hB
          rw [ht] at hT hF1
          have hF := hF.more hF1 (by decide)
          try dsimp only at hw69
          refine va_mmin hx hb (hml.trans hl.1.symm) hown (ht_at2 hts 15 rfl) (ht_at2 hts 16 rfl) (ht_at2 hts 11 rfl) (ht_at2 hts 17 rfl) (Nat.le_of_ble_eq_true rfl) (Nat.le_of_ble_eq_true rfl) (Nat.le_of_ble_eq_true rfl) (Nat.le_of_ble_eq_true rfl) dX3_stepsToBank_39 ?_
          refine lv_topi (fun x74 ex74 => ?_)
          have t75 : x74.toInt ≤ z2.toInt ∧ x74.toInt ≤ r68.toInt ∧ (x74.toInt = z2.toInt ∨ x74.toInt = r68.toInt) := mn_f ex74 rfl rfl
          refine lv_istore_n (lv' := [(2, .int x74), (3, .int (nI i1)), (0, .ref o0), (1, .int p0)]) hx hb dX3_stepsToBank_42 rfl hl (by decide) rfl (fun ls hl => ?_)
          refine lv_iinc (v := nI (i1 + 1)) (lv' := [(3, .int (nI (i1 + 1))), (2, .int x74), (0, .ref o0), (1, .int p0)]) hx hb dX3_stepsToBank_43 hl (k := 1) rfl (nI_add i1 1) (by decide) rfl (fun ls hl => ?_)
          refine lv_goto (tgt := 5) hx hb dX3_stepsToBank_46 (by decide) ?_
          exact ih37 (i1 + 1) (by omega) (by omega) x74 (by have q8 := ti_all x74; omega) _ _ hT hF hS ls (lv_sub hl [0, 1, 2, 3] rfl)
  exact key37 (30 - 0) 0 (by omega) (Nat.le_refl _) 99 (rg_t (a := 99) (by decide) (by first | decide | omega) (by first | decide | omega)) _ _ hT hF hS ls (lv_sub hl [0, 1, 2, 3] rfl)
def w_c_crestOf : List Cond := .code yX3_crestOf cX3_crestOf 2 (some .int) :: (HAppend.hAppend (α := List Cond) (β := List Cond) (γ := List Cond) [.fieldLink RX3 21 "SeaLand$Lake" "ground" "LSeaLand$Ground;", .code yX10_thickness cX10_thickness 3 (some .int), .fieldLink RX10 34 "SeaLand$Work" "layers" "I", .fieldLink RX10 9 "SeaLand$Work" "thick" "[I", .methodLink RX3 80 yX10_thickness, .instanceMethod yX10_thickness, .selects RX10 yX10_thickness yX10_thickness, .initialized RX10] bs2)
set_option maxHeartbeats 4000000 in
set_option maxRecDepth 100000 in
theorem c_crestOf (l : Launch) (dC : Nat → ClassId) (dI : Nat → Nat → Nat) (kA : Nat → ClassId) (adK adV : Nat → Nat) (G : gT) (H0 : Heap) (nC nS : Int) (o0 : Nat) (p0 : Nat)  (hT : gH (dC, dI) kA (SHc nC nS) G H0) (hr_p0 : G p0 = some 13) (hr_o0 : G o0 = some 6) (hgC : 0 ≤ nC ∧ nC ≤ 40) (hgS : 0 ≤ nS ∧ nS ≤ 60) : Met l yX3_crestOf w_c_crestOf ({ frames := 1, cells := 0, slots := 0, locals := 22 }) (va_Pc [.ref o0, .ref p0] (fun U => U.heap = H0 ∧ va_K (dC, dI) vwCl (tyl kA) U ∧ EVC adK adV (gA G H0.size) U U.heap)) (va_Qi (fun (r : Int32) (u : Unit) => True) (fun (_ : Unit) (t : State) => gH (dC, dI) kA (SHc nC nS) G t.heap ∧ gF (dC, dI) SKc G ([] : List (Nat × Nat)) H0 t.heap) (gA G H0.size)) 0 0 (gA G H0.size) := by
  refine Met.ofW (cc := cX3_crestOf) (maxL := 2) (ret := (some .int)) (by decide) rfl ?_
  intro p e s m args below meth c s₁ B hml hv
  obtain ⟨rfl, hH0, hK, hE⟩ := hv
  have hx := B.exec
  have hb := B.bytes
  have hr := B.returns
  have hts := atoms_spec (ws := w_c_crestOf) B.pre
  have hown : s.vm.findClass RX3 = some m.cls := findClass_of_methodNamed B.named
  have hlocks := B.notSynchronized
  subst hH0
  generalize hAe : gA G s.heap.size = A at hE ⊢
  have hA : ∀ q : Nat, s.heap.size ≤ q → A q := fun q h => by rw [← hAe]; exact Or.inr h
  have hG := gA_of hAe
  have hS : va_S A s.heap s.heap [] := va_S.rf
  have hF : gF (dC, dI) SKc G ([] : List (Nat × Nat)) s.heap s.heap := gF.rf
  have hl := lv_entry ([.ref o0, .ref p0]) (n := 2) (Nat.le_of_ble_eq_true rfl)
  rw [lg_entry_eq]
  generalize (lg_sl ([.ref o0, .ref p0]) ++ List.replicate (2 - (lg_sl ([.ref o0, .ref p0])).length) Slot.unset).toArray = ls at hl ⊢
  have hl : lv_has ls 2 [(0, .ref o0), (1, .ref p0)] := hl
  refine lv_aload_n hx hb dX3_crestOf_0 rfl (lv_at hl 0 rfl) ?_
  refine tw_get hx hb hts bF2_X3 hown hK hT hr_o0 shc_6 rfl 1 (by decide) (ht_at2 hts 0 rfl) (fun _ h9 => h9) dX3_crestOf_1 (fun v9 m1 h9 => ?_)
  obtain ⟨b2, rfl, hg3⟩ := h9 _ rfl
  refine tw_getN hx hb hts bF2_X2 hown hK hT hg3 shc_5 rfl 1 (by decide) (hE.nw 80 rfl) (fun _ h9 => h9) dX3_crestOf_4 (fun v9 m4 h9 => ?_)
  obtain ⟨b5, rfl, hg6⟩ := h9 _ rfl
  refine lv_aload_n hx hb dX3_crestOf_7 rfl (lv_at hl 1 rfl) ?_
  refine tw_getN hx hb hts bF2_X10 hown hK hT hr_p0 shc_13 rfl 3 (by decide) (hE.nw 78 rfl) (fun _ h9 => h9) dX3_crestOf_8 (fun v9 m7 h9 => ?_)
  obtain ⟨x8, rfl, gx8, kx8⟩ := h9 _ rfl
  refine tw_iald (i := x8) hx hb hK hT hg6 shc_26 rfl (vin_t (a := x8.toInt) rfl (by omega) (by omega)) dX3_crestOf_11 (fun v9 m9 h9 => ?_)
  obtain ⟨x10, rfl, gx10, kx10⟩ := h9
  refine lv_aload_n hx hb dX3_crestOf_12 rfl (lv_at hl 1 rfl) ?_
  have hFc := gA_free hG hA hS
  refine va_calli (va_runV (As := []) (rest := [.int x10]) ⟨hx, hb, hml, hown, hts⟩ (c_thickness l dC dI kA adK adV G s.heap nC nS p0 hT hr_p0 (by omega) (by omega)) (cwV 0 hts (goodIn_app (goodIn_r _ [5, 6, 7, 8] rfl (by decide +kernel)) (goodIn_ca (goodIn_r _ [2, 3, 4] rfl (by decide +kernel)) (bs2_in _ _))) rfl rfl rfl (by decide +kernel) ⟨(Nat.le_of_ble_eq_true rfl), (Nat.le_of_ble_eq_true rfl)⟩) ⟨fun a U g mk q => by obtain ⟨q0, q1, qK, qE⟩ := q; exact ⟨q0, q1, va_K.moved (u := U) (U := U.calling g mk a) (Vm.Alike.refl U.vm) qK, EVC.blind g mk a qE⟩, gH_rc hK hT hr_p0 shc_13 rfl, fun U hU hW => ⟨rfl, hU, va_K.moved hW.alike hK, hE.call hS hFc hU hW⟩⟩ rfl rfl hl.1 rfl (lv_room (Nat.le_of_ble_eq_true rfl)) dX3_crestOf_13 ⟨(Nat.le_of_ble_eq_true rfl), (Nat.le_of_ble_eq_true rfl)⟩) hS (fun q _ h => hFc q h) hFc (fun r11 u t H locs ht hvm hw12 hB _ _ hS => ?_)
  obtain ⟨hT, hF1⟩ := hB
  rw [ht] at hT hF1
  have hF := hF.more hF1 (by decide)
  try dsimp only at hw12
  refine lv_iadd hx hb dX3_crestOf_16 ?_
  refine lv_topi (fun x17 ex17 => ?_)
  exact W.iret (v := x17) hx hb hr (fun t ht hW => ⟨⟨x17, (), rfl, (by exact trivial), by (try dsimp only); rw [ht]; exact ⟨hT, hF⟩⟩, hS.F ht⟩) hS.2.2 dX3_crestOf_17
def w_c_sizeOf : List Cond := .code yX3_sizeOf cX3_sizeOf 2 (some .int) :: (HAppend.hAppend (α := List Cond) (β := List Cond) (γ := List Cond) [.code yX3_crestOf cX3_crestOf 2 (some .int), .fieldLink RX3 21 "SeaLand$Lake" "ground" "LSeaLand$Ground;", .code yX10_thickness cX10_thickness 3 (some .int), .fieldLink RX10 34 "SeaLand$Work" "layers" "I", .fieldLink RX10 9 "SeaLand$Work" "thick" "[I", .methodLink RX3 80 yX10_thickness, .instanceMethod yX10_thickness, .selects RX10 yX10_thickness yX10_thickness, .initialized RX10, .methodLink RX3 84 yX3_crestOf, .instanceMethod yX3_crestOf, .selects RX3 yX3_crestOf yX3_crestOf, .initialized RX3] bs2)
set_option maxHeartbeats 4000000 in
set_option maxRecDepth 100000 in
theorem c_sizeOf (l : Launch) (dC : Nat → ClassId) (dI : Nat → Nat → Nat) (kA : Nat → ClassId) (adK adV : Nat → Nat) (G : gT) (H0 : Heap) (nC nS : Int) (o0 : Nat) (p0 : Nat)  (hT : gH (dC, dI) kA (SHc nC nS) G H0) (hr_p0 : G p0 = some 13) (hr_o0 : G o0 = some 6) (hgC : 0 ≤ nC ∧ nC ≤ 40) (hgS : 0 ≤ nS ∧ nS ≤ 60) : Met l yX3_sizeOf w_c_sizeOf ({ frames := 2, cells := 0, slots := 0, locals := 43 }) (va_Pc [.ref o0, .ref p0] (fun U => U.heap = H0 ∧ va_K (dC, dI) vwCl (tyl kA) U ∧ EVC adK adV (gA G H0.size) U U.heap)) (va_Qi (fun (r : Int32) (u : Unit) => True) (fun (_ : Unit) (t : State) => gH (dC, dI) kA (SHc nC nS) G t.heap ∧ gF (dC, dI) SKc G ([] : List (Nat × Nat)) H0 t.heap) (gA G H0.size)) 0 0 (gA G H0.size) := by
  refine Met.ofW (cc := cX3_sizeOf) (maxL := 2) (ret := (some .int)) (by decide) rfl ?_
  intro p e s m args below meth c s₁ B hml hv
  obtain ⟨rfl, hH0, hK, hE⟩ := hv
  have hx := B.exec
  have hb := B.bytes
  have hr := B.returns
  have hts := atoms_spec (ws := w_c_sizeOf) B.pre
  have hown : s.vm.findClass RX3 = some m.cls := findClass_of_methodNamed B.named
  have hlocks := B.notSynchronized
  subst hH0
  generalize hAe : gA G s.heap.size = A at hE ⊢
  have hA : ∀ q : Nat, s.heap.size ≤ q → A q := fun q h => by rw [← hAe]; exact Or.inr h
  have hG := gA_of hAe
  have hS : va_S A s.heap s.heap [] := va_S.rf
  have hF : gF (dC, dI) SKc G ([] : List (Nat × Nat)) s.heap s.heap := gF.rf
  have hl := lv_entry ([.ref o0, .ref p0]) (n := 2) (Nat.le_of_ble_eq_true rfl)
  rw [lg_entry_eq]
  generalize (lg_sl ([.ref o0, .ref p0]) ++ List.replicate (2 - (lg_sl ([.ref o0, .ref p0])).length) Slot.unset).toArray = ls at hl ⊢
  have hl : lv_has ls 2 [(0, .ref o0), (1, .ref p0)] := hl
  refine lv_aload_n hx hb dX3_sizeOf_0 rfl (lv_at hl 1 rfl) ?_
  refine tw_getN hx hb hts bF2_X10 hown hK hT hr_p0 shc_13 rfl 2 (by decide) (hE.nw 79 rfl) (fun _ h9 => h9) dX3_sizeOf_1 (fun v9 m1 h9 => ?_)
  obtain ⟨x2, rfl, gx2, kx2⟩ := h9 _ rfl
  have t3 : -2147483648 ≤ x2.toInt ∧ x2.toInt ≤ 2147483647 := ti_all x2
  refine lv_if_ne (tgt := 13) hx hb dX3_sizeOf_4 (by decide) (fun c4 => ?_) (fun c4 => ?_)
  · have t5 : x2.toInt ≠ 0 := ti_ne c4 rfl (by decide)
    refine lv_aload_n hx hb dX3_sizeOf_13 rfl (lv_at hl 1 rfl) ?_
    refine tw_getNM (v := .int x2) hx hb hts bF2_X10 hown hK hT hr_p0 shc_13 rfl 2 (by decide) (hE.nw 79 rfl) (fun _ h9 => h9) m1 dX3_sizeOf_14 ?_
    refine lv_iconst (v := 1) hx hb dX3_sizeOf_17 (by decide) ?_
    refine lv_icmp_ne (tgt := 28) hx hb dX3_sizeOf_18 (by decide) (fun c6 => ?_) (fun c6 => ?_)
    · have t7 : x2.toInt ≠ 1 := ti_ne c6 rfl (by decide)
      refine lv_aload_n hx hb dX3_sizeOf_28 rfl (lv_at hl 1 rfl) ?_
      refine tw_getN hx hb hts bF2_X10 hown hK hT hr_p0 shc_13 rfl 5 (by decide) (hE.nw 82 rfl) (fun _ h9 => h9) dX3_sizeOf_29 (fun v9 m8 h9 => ?_)
      obtain ⟨x9, rfl, gx9, kx9⟩ := h9 _ rfl
      exact W.iret (v := x9) hx hb hr (fun t ht hW => ⟨⟨x9, (), rfl, (by exact trivial), by (try dsimp only); rw [ht]; exact ⟨hT, hF⟩⟩, hS.F ht⟩) hS.2.2 dX3_sizeOf_32
    · have t10 : x2.toInt = 1 := ti_eq c6 rfl (by decide)
      refine lv_aload_n hx hb dX3_sizeOf_21 rfl (lv_at hl 1 rfl) ?_
      refine tw_getN hx hb hts bF2_X10 hown hK hT hr_p0 shc_13 rfl 6 (by decide) (hE.nw 81 rfl) (fun _ h9 => h9) dX3_sizeOf_22 (fun v9 m11 h9 => ?_)
      obtain ⟨x12, rfl, gx12, kx12⟩ := h9 _ rfl
      refine lv_goto (tgt := 32) hx hb dX3_sizeOf_25 (by decide) ?_
      exact W.iret (v := x12) hx hb hr (fun t ht hW => ⟨⟨x12, (), rfl, (by exact trivial), by (try dsimp only); rw [ht]; exact ⟨hT, hF⟩⟩, hS.F ht⟩) hS.2.2 dX3_sizeOf_32
  · have t13 : x2.toInt = 0 := ti_eq c4 rfl (by decide)
    refine lv_aload_n hx hb dX3_sizeOf_7 rfl (lv_at hl 0 rfl) ?_
    refine lv_aload_n hx hb dX3_sizeOf_8 rfl (lv_at hl 1 rfl) ?_
    have hFc := gA_free hG hA hS
    refine va_calli (va_runV (As := [.ref p0]) (rest := []) ⟨hx, hb, hml, hown, hts⟩ (c_crestOf l dC dI kA adK adV G s.heap nC nS o0 p0 hT hr_p0 hr_o0 (by omega) (by omega)) (cwV 1 hts (goodIn_app (goodIn_r _ [10, 11, 12, 13] rfl (by decide +kernel)) (goodIn_ca (goodIn_r _ [1, 2, 3, 4, 5, 6, 7, 8, 9] rfl (by decide +kernel)) (bs2_in _ _))) rfl rfl rfl (by decide +kernel) ⟨(Nat.le_of_ble_eq_true rfl), (Nat.le_of_ble_eq_true rfl)⟩) ⟨fun a U g mk q => by obtain ⟨q0, q1, qK, qE⟩ := q; exact ⟨q0, q1, va_K.moved (u := U) (U := U.calling g mk a) (Vm.Alike.refl U.vm) qK, EVC.blind g mk a qE⟩, gH_rc hK hT hr_o0 shc_6 rfl, fun U hU hW => ⟨rfl, hU, va_K.moved hW.alike hK, hE.call hS hFc hU hW⟩⟩ rfl rfl hl.1 rfl (lv_room (Nat.le_of_ble_eq_true rfl)) dX3_sizeOf_9 ⟨(Nat.le_of_ble_eq_true rfl), (Nat.le_of_ble_eq_true rfl)⟩) hS (fun q _ h => hFc q h) hFc (fun r14 u t H locs ht hvm hw15 hB _ _ hS => ?_)
    obtain ⟨hT, hF1⟩ := hB
    rw [ht] at hT hF1
    have hF := hF.more hF1 (by decide)
    try dsimp only at hw15
    exact W.iret (v := r14) hx hb hr (fun t ht hW => ⟨⟨r14, (), rfl, (by exact trivial), by (try dsimp only); rw [ht]; exact ⟨hT, hF⟩⟩, hS.F ht⟩) hS.2.2 dX3_sizeOf_12
def w_c_seepOf : List Cond := .code yX3_seepOf cX3_seepOf 5 (some .int) :: (HAppend.hAppend (α := List Cond) (β := List Cond) (γ := List Cond) [.fieldLink RX3 21 "SeaLand$Lake" "ground" "LSeaLand$Ground;", .code yX2_levelOf cX2_levelOf 2 (some .int), .fieldLink RX2 15 "SeaLand$Ground" "height" "[I", .fieldLink RX2 25 "SeaLand$Ground" "water" "[I", .methodLink RX3 40 yX2_levelOf, .instanceMethod yX2_levelOf, .selects RX2 yX2_levelOf yX2_levelOf, .initialized RX2, .methodLink RX3 97 Lib.Math.max.name, .static Lib.Math.max.name, .initialized "java/lang/Math", .code Lib.Math.max.name Lib.Math.max.code 2 (some .int), .code yX10_leakBelow cX10_leakBelow 6 (some .int), .fieldLink RX10 34 "SeaLand$Work" "layers" "I", .fieldLink RX10 9 "SeaLand$Work" "thick" "[I", .fieldLink RX10 15 "SeaLand$Work" "clay" "[I", .methodLink RX3 100 yX10_leakBelow, .instanceMethod yX10_leakBelow, .selects RX10 yX10_leakBelow yX10_leakBelow, .initialized RX10] bs2)
set_option maxHeartbeats 4000000 in
set_option maxRecDepth 100000 in
theorem c_seepOf (l : Launch) (dC : Nat → ClassId) (dI : Nat → Nat → Nat) (kA : Nat → ClassId) (adK adV : Nat → Nat) (G : gT) (H0 : Heap) (nC nS : Int) (o0 : Nat) (p0 : Nat) (p1 : Int32)  (hT : gH (dC, dI) kA (SHc nC nS) G H0) (hr_p0 : G p0 = some 13) (hr_o0 : G o0 = some 6) (hgC : 0 ≤ nC ∧ nC ≤ 40) (hgS : 0 ≤ nS ∧ nS ≤ 60) : Met l yX3_seepOf w_c_seepOf ({ frames := 1, cells := 0, slots := 0, locals := 40 }) (va_Pc [.ref o0, .ref p0, .int p1] (fun U => U.heap = H0 ∧ va_K (dC, dI) vwCl (tyl kA) U ∧ EVC adK adV (gA G H0.size) U U.heap)) (va_Qi (fun (r : Int32) (u : Unit) => (-21474836 ≤ r.toInt ∧ r.toInt ≤ 21474836)) (fun (_ : Unit) (t : State) => gH (dC, dI) kA (SHc nC nS) G t.heap ∧ gF (dC, dI) SKc G ([] : List (Nat × Nat)) H0 t.heap) (gA G H0.size)) 0 0 (gA G H0.size) := by
  refine Met.ofW (cc := cX3_seepOf) (maxL := 5) (ret := (some .int)) (by decide) rfl ?_
  intro p e s m args below meth c s₁ B hml hv
  obtain ⟨rfl, hH0, hK, hE⟩ := hv
  have hx := B.exec
  have hb := B.bytes
  have hr := B.returns
  have hts := atoms_spec (ws := w_c_seepOf) B.pre
  have hown : s.vm.findClass RX3 = some m.cls := findClass_of_methodNamed B.named
  have hlocks := B.notSynchronized
  subst hH0
  generalize hAe : gA G s.heap.size = A at hE ⊢
  have hA : ∀ q : Nat, s.heap.size ≤ q → A q := fun q h => by rw [← hAe]; exact Or.inr h
  have hG := gA_of hAe
  have hS : va_S A s.heap s.heap [] := va_S.rf
  have hF : gF (dC, dI) SKc G ([] : List (Nat × Nat)) s.heap s.heap := gF.rf
  have hl := lv_entry ([.ref o0, .ref p0, .int p1]) (n := 5) (Nat.le_of_ble_eq_true rfl)
  rw [lg_entry_eq]
  generalize (lg_sl ([.ref o0, .ref p0, .int p1]) ++ List.replicate (5 - (lg_sl ([.ref o0, .ref p0, .int p1])).length) Slot.unset).toArray = ls at hl ⊢
  have hl : lv_has ls 5 [(0, .ref o0), (1, .ref p0), (2, .int p1)] := hl
  refine lv_aload_n hx hb dX3_seepOf_0 rfl (lv_at hl 0 rfl) ?_
  refine tw_get hx hb hts bF2_X3 hown hK hT hr_o0 shc_6 rfl 1 (by decide) (ht_at2 hts 0 rfl) (fun _ h9 => h9) dX3_seepOf_1 (fun v9 m1 h9 => ?_)
  obtain ⟨b2, rfl, hg3⟩ := h9 _ rfl
  refine tw_getN hx hb hts bF2_X2 hown hK hT hg3 shc_5 rfl 1 (by decide) (hE.nw 80 rfl) (fun _ h9 => h9) dX3_seepOf_4 (fun v9 m4 h9 => ?_)
  obtain ⟨b5, rfl, hg6⟩ := h9 _ rfl
  refine lv_aload_n hx hb dX3_seepOf_7 rfl (lv_at hl 1 rfl) ?_
  refine tw_getN hx hb hts bF2_X10 hown hK hT hr_p0 shc_13 rfl 3 (by decide) (hE.nw 78 rfl) (fun _ h9 => h9) dX3_seepOf_8 (fun v9 m7 h9 => ?_)
  obtain ⟨x8, rfl, gx8, kx8⟩ := h9 _ rfl
  refine tw_iald (i := x8) hx hb hK hT hg6 shc_26 rfl (vin_t (a := x8.toInt) rfl (by omega) (by omega)) dX3_seepOf_11 (fun v9 m9 h9 => ?_)
  obtain ⟨x10, rfl, gx10, kx10⟩ := h9
  refine lv_istore_n (lv' := [(3, .int x10), (0, .ref o0), (1, .ref p0), (2, .int p1)]) hx hb dX3_seepOf_12 rfl hl (by decide) rfl (fun ls hl => ?_)
  refine lv_iload_n hx hb dX3_seepOf_13 rfl (lv_at hl 3 rfl) ?_
  refine lv_aload_n hx hb dX3_seepOf_14 rfl (lv_at hl 1 rfl) ?_
  refine tw_getM (v := .ref b2) hx hb hts bF2_X3 hown hK hT hr_o0 shc_6 rfl 1 (by decide) (ht_at2 hts 0 rfl) (fun _ h9 => h9) m1 dX3_seepOf_15 ?_
  refine lv_aload_n hx hb dX3_seepOf_18 rfl (lv_at hl 2 rfl) ?_
  refine tw_getN hx hb hts bF2_X10 hown hK hT hr_p0 shc_13 rfl 4 (by decide) (hE.nw 83 rfl) (fun _ h9 => h9) dX3_seepOf_19 (fun v9 m11 h9 => ?_)
  obtain ⟨x12, rfl, gx12, kx12⟩ := h9 _ rfl
  have hFc := gA_free hG hA hS
  refine va_calli (va_runV (As := [.int x12]) (rest := [.int p1]) ⟨hx, hb, hml, hown, hts⟩ (c_levelOf l dC dI kA adK adV G s.heap nC nS b2 x12 hT hg3 (by have q8 := ti_all x12; omega) (by omega) (by omega)) (cwV 1 hts (goodIn_app (goodIn_r _ [5, 6, 7, 8] rfl (by decide +kernel)) (goodIn_ca (goodIn_r _ [2, 3, 4] rfl (by decide +kernel)) (bs2_in _ _))) rfl rfl rfl (by decide +kernel) ⟨(Nat.le_of_ble_eq_true rfl), (Nat.le_of_ble_eq_true rfl)⟩) ⟨fun a U g mk q => by obtain ⟨q0, q1, qK, qE⟩ := q; exact ⟨q0, q1, va_K.moved (u := U) (U := U.calling g mk a) (Vm.Alike.refl U.vm) qK, EVC.blind g mk a qE⟩, gH_rc hK hT hg3 shc_5 rfl, fun U hU hW => ⟨rfl, hU, va_K.moved hW.alike hK, hE.call hS hFc hU hW⟩⟩ rfl rfl hl.1 rfl (lv_room (Nat.le_of_ble_eq_true rfl)) dX3_seepOf_22 ⟨(Nat.le_of_ble_eq_true rfl), (Nat.le_of_ble_eq_true rfl)⟩) hS (fun q _ h => hFc q h) hFc (fun r13 u t H locs ht hvm hw14 hB _ _ hS => ?_)
  obtain ⟨hT, hF1⟩ := hB
  rw [ht] at hT hF1
  have hF := hF.more hF1 (by decide)
  try dsimp only at hw14
  refine lv_iload_n hx hb dX3_seepOf_25 rfl (lv_at hl 0 rfl) ?_
  refine va_mmax hx hb (hml.trans hl.1.symm) hown (ht_at2 hts 8 rfl) (ht_at2 hts 9 rfl) (ht_at2 hts 10 rfl) (ht_at2 hts 11 rfl) (Nat.le_of_ble_eq_true rfl) (Nat.le_of_ble_eq_true rfl) (Nat.le_of_ble_eq_true rfl) (Nat.le_of_ble_eq_true rfl) dX3_seepOf_26 ?_
  refine lv_topi (fun x20 ex20 => ?_)
  have t21 : r13.toInt ≤ x20.toInt ∧ x10.toInt ≤ x20.toInt ∧ (x20.toInt = r13.toInt ∨ x20.toInt = x10.toInt) := mx_f ex20 rfl rfl
  refine lv_isub hx hb dX3_seepOf_29 ?_
  refine lv_topi (fun x22 ex22 => ?_)
  refine lv_istore (lv' := [(4, .int x22), (3, .int x10), (0, .ref o0), (1, .ref p0), (2, .int p1)]) hx hb dX3_seepOf_30 hl (by decide) rfl (fun ls hl => ?_)
  refine lv_iload hx hb dX3_seepOf_32 (lv_at hl 0 rfl) ?_
  have t23 : -2147483648 ≤ x22.toInt ∧ x22.toInt ≤ 2147483647 := ti_all x22
  refine lv_if_gt (tgt := 41) hx hb dX3_seepOf_34 (by decide) (fun c24 => ?_) (fun c24 => ?_)
  · have t25 : 0 < x22.toInt := ti_lt c24 (by decide) rfl
    refine lv_iload hx hb dX3_seepOf_41 (lv_at hl 0 rfl) ?_
    refine lv_aload_n hx hb dX3_seepOf_43 rfl (lv_at hl 3 rfl) ?_
    refine lv_iload_n hx hb dX3_seepOf_44 rfl (lv_at hl 1 rfl) ?_
    refine lv_iload_n hx hb dX3_seepOf_45 rfl (lv_at hl 4 rfl) ?_
    have hFc := gA_free hG hA hS
    refine va_calli (va_runV (As := [.int x10, .int p1]) (rest := [.int x22]) ⟨hx, hb, hml, hown, hts⟩ (c_leakBelow l dC dI kA adK adV G H nC nS p0 x10 p1 hT hr_p0 (by omega) (by omega)) (cwV 2 hts (goodIn_app (goodIn_r _ [17, 18, 19, 20] rfl (by decide +kernel)) (goodIn_ca (goodIn_r _ [13, 14, 15, 16] rfl (by decide +kernel)) (bs2_in _ _))) rfl rfl rfl (by decide +kernel) ⟨(Nat.le_of_ble_eq_true rfl), (Nat.le_of_ble_eq_true rfl)⟩) ⟨fun a U g mk q => by obtain ⟨q0, q1, qK, qE⟩ := q; exact ⟨q0, q1, va_K.moved (u := U) (U := U.calling g mk a) (Vm.Alike.refl U.vm) qK, EVC.blind g mk a qE⟩, gH_rc hK hT hr_p0 shc_13 rfl, fun U hU hW => ⟨rfl, hU, va_K.moved hW.alike hK, hE.call hS hFc hU hW⟩⟩ rfl rfl hl.1 rfl (lv_room (Nat.le_of_ble_eq_true rfl)) dX3_seepOf_46 ⟨(Nat.le_of_ble_eq_true rfl), (Nat.le_of_ble_eq_true rfl)⟩) hS (fun q _ h => hFc q h) hFc (fun r26 u t H locs ht hvm hw27 hB _ _ hS => ?_)
    obtain ⟨hT, hF1⟩ := hB
    rw [ht] at hT hF1
    have hF := hF.more hF1 (by decide)
    try dsimp only at hw27
    refine lv_imul hx hb dX3_seepOf_49 ?_
    refine lv_topi (fun x33 ex33 => ?_)
    refine lv_bipush (v := 100) hx hb dX3_seepOf_50 (by decide) ?_
    have t34 : -2147483648 ≤ x33.toInt ∧ x33.toInt ≤ 2147483647 := ti_all x33
    refine lv_idiv hx hb dX3_seepOf_52 (by decide) ?_
    refine lv_topi (fun x35 ex35 => ?_)
    have t36 : (0 ≤ x33.toInt ∧ x35.toInt = x33.toInt / 100) ∨ (x33.toInt < 0 ∧ x35.toInt = -((-x33.toInt) / 100)) := ti_divs ex35 rfl (by decide) (by decide)
    exact W.iret (v := x35) hx hb hr (fun t ht hW => ⟨⟨x35, (), rfl, (by exact (by have q8 := ti_all x35; omega)), by (try dsimp only); rw [ht]; exact ⟨hT, hF⟩⟩, hS.F ht⟩) hS.2.2 dX3_seepOf_53
  · have t37 : x22.toInt ≤ 0 := ti_nlt c24 (by decide) rfl
    refine lv_iconst (v := 0) hx hb dX3_seepOf_37 (by decide) ?_
    refine lv_goto (tgt := 53) hx hb dX3_seepOf_38 (by decide) ?_
    exact W.iret (v := 0) hx hb hr (fun t ht hW => ⟨⟨0, (), rfl, (by exact (rg_t (a := 0) (by decide) (by first | decide | omega) (by first | decide | omega))), by (try dsimp only); rw [ht]; exact ⟨hT, hF⟩⟩, hS.F ht⟩) hS.2.2 dX3_seepOf_53
def w_c_runBreach : List Cond := .code yX3_runBreach cX3_runBreach 4 none :: (HAppend.hAppend (α := List Cond) (β := List Cond) (γ := List Cond) [.fieldLink RX3 21 "SeaLand$Lake" "ground" "LSeaLand$Ground;", .code yX2_levelOf cX2_levelOf 2 (some .int), .fieldLink RX2 15 "SeaLand$Ground" "height" "[I", .fieldLink RX2 25 "SeaLand$Ground" "water" "[I", .methodLink RX3 40 yX2_levelOf, .instanceMethod yX2_levelOf, .selects RX2 yX2_levelOf yX2_levelOf, .initialized RX2, .constantLong RX3 149 120, .methodLink RX3 71 Lib.Math.min.name, .static Lib.Math.min.name, .initialized "java/lang/Math", .code Lib.Math.min.name Lib.Math.min.code 2 (some .int), .code yX2_giveToSea cX2_giveToSea 3 none, .fieldLink RX2 28 "SeaLand$Ground" "salt" "[I", .code yX2_saltGoingWith cX2_saltGoingWith 4 (some .int), .methodLink RX2 60 yX2_saltGoingWith, .instanceMethod yX2_saltGoingWith, .selects RX2 yX2_saltGoingWith yX2_saltGoingWith, .fieldLink RX2 64 "SeaLand$Ground" "wentOut" "I", .methodLink RX3 154 yX2_giveToSea, .instanceMethod yX2_giveToSea, .selects RX2 yX2_giveToSea yX2_giveToSea, .code yX2_takeFromSea cX2_takeFromSea 3 none, .fieldLink RX2 57 "SeaLand$Ground" "cameIn" "I", .methodLink RX3 136 yX2_takeFromSea, .instanceMethod yX2_takeFromSea, .selects RX2 yX2_takeFromSea yX2_takeFromSea, .code yX10_moved cX10_moved 2 none, .fieldLink RX10 44 "SeaLand$Work" "latest" "I", .fieldLink RX10 47 "SeaLand$Work" "total" "I", .methodLink RX3 140 yX10_moved, .instanceMethod yX10_moved, .selects RX10 yX10_moved yX10_moved, .initialized RX10] bs2)
set_option maxHeartbeats 4000000 in
set_option maxRecDepth 100000 in
theorem c_runBreach (l : Launch) (dC : Nat → ClassId) (dI : Nat → Nat → Nat) (kA : Nat → ClassId) (adK adV : Nat → Nat) (G : gT) (H0 : Heap) (nC nS : Int) (o0 : Nat) (p0 : Nat) (p1 : Int32)  (hT : gH (dC, dI) kA (SHc nC nS) G H0) (hr_p0 : G p0 = some 13) (hr_o0 : G o0 = some 6) (hgC : 0 ≤ nC ∧ nC ≤ 40) (hgS : 0 ≤ nS ∧ nS ≤ 60) : Met l yX3_runBreach w_c_runBreach ({ frames := 2, cells := 0, slots := 0, locals := 45 }) (va_Pc [.ref o0, .ref p0, .int p1] (fun U => U.heap = H0 ∧ va_K (dC, dI) vwCl (tyl kA) U ∧ EVC adK adV (gA G H0.size) U U.heap)) (va_Qv (fun (u : Unit) => True) (fun (_ : Unit) (t : State) => gH (dC, dI) kA (SHc nC nS) G t.heap ∧ gF (dC, dI) SKc G ([(5, 12), (5, 13), (13, 10), (13, 11), (29, 0), (30, 0)] : List (Nat × Nat)) H0 t.heap) (gA G H0.size)) 0 0 (gA G H0.size) := by
  refine Met.ofW (cc := cX3_runBreach) (maxL := 4) (ret := none) (by decide) rfl ?_
  intro p e s m args below meth c s₁ B hml hv
  obtain ⟨rfl, hH0, hK, hE⟩ := hv
  have hx := B.exec
  have hb := B.bytes
  have hr := B.returns
  have hts := atoms_spec (ws := w_c_runBreach) B.pre
  have hown : s.vm.findClass RX3 = some m.cls := findClass_of_methodNamed B.named
  have hlocks := B.notSynchronized
  subst hH0
  generalize hAe : gA G s.heap.size = A at hE ⊢
  have hA : ∀ q : Nat, s.heap.size ≤ q → A q := fun q h => by rw [← hAe]; exact Or.inr h
  have hG := gA_of hAe
  have hS : va_S A s.heap s.heap [] := va_S.rf
  have hF : gF (dC, dI) SKc G ([(5, 12), (5, 13), (13, 10), (13, 11), (29, 0), (30, 0)] : List (Nat × Nat)) s.heap s.heap := gF.rf
  have hl := lv_entry ([.ref o0, .ref p0, .int p1]) (n := 4) (Nat.le_of_ble_eq_true rfl)
  rw [lg_entry_eq]
  generalize (lg_sl ([.ref o0, .ref p0, .int p1]) ++ List.replicate (4 - (lg_sl ([.ref o0, .ref p0, .int p1])).length) Slot.unset).toArray = ls at hl ⊢
  have hl : lv_has ls 4 [(0, .ref o0), (1, .ref p0), (2, .int p1)] := hl
  refine lv_iload_n hx hb dX3_runBreach_0 rfl (lv_at hl 2 rfl) ?_
  refine lv_aload_n hx hb dX3_runBreach_1 rfl (lv_at hl 0 rfl) ?_
  refine tw_get hx hb hts bF2_X3 hown hK hT hr_o0 shc_6 rfl 1 (by decide) (ht_at2 hts 0 rfl) (fun _ h9 => h9) dX3_runBreach_2 (fun v9 m1 h9 => ?_)
  obtain ⟨b2, rfl, hg3⟩ := h9 _ rfl
  refine lv_aload_n hx hb dX3_runBreach_5 rfl (lv_at hl 1 rfl) ?_
  refine tw_getN hx hb hts bF2_X10 hown hK hT hr_p0 shc_13 rfl 4 (by decide) (hE.nw 83 rfl) (fun _ h9 => h9) dX3_runBreach_6 (fun v9 m4 h9 => ?_)
  obtain ⟨x5, rfl, gx5, kx5⟩ := h9 _ rfl
  have hFc := gA_free hG hA hS
  refine va_calli (va_runV (As := [.int x5]) (rest := [.int p1]) ⟨hx, hb, hml, hown, hts⟩ (c_levelOf l dC dI kA adK adV G s.heap nC nS b2 x5 hT hg3 (by have q8 := ti_all x5; omega) (by omega) (by omega)) (cwV 1 hts (goodIn_app (goodIn_r _ [5, 6, 7, 8] rfl (by decide +kernel)) (goodIn_ca (goodIn_r _ [2, 3, 4] rfl (by decide +kernel)) (bs2_in _ _))) rfl rfl rfl (by decide +kernel) ⟨(Nat.le_of_ble_eq_true rfl), (Nat.le_of_ble_eq_true rfl)⟩) ⟨fun a U g mk q => by obtain ⟨q0, q1, qK, qE⟩ := q; exact ⟨q0, q1, va_K.moved (u := U) (U := U.calling g mk a) (Vm.Alike.refl U.vm) qK, EVC.blind g mk a qE⟩, gH_rc hK hT hg3 shc_5 rfl, fun U hU hW => ⟨rfl, hU, va_K.moved hW.alike hK, hE.call hS hFc hU hW⟩⟩ rfl rfl hl.1 rfl (lv_room (Nat.le_of_ble_eq_true rfl)) dX3_runBreach_9 ⟨(Nat.le_of_ble_eq_true rfl), (Nat.le_of_ble_eq_true rfl)⟩) hS (fun q _ h => hFc q h) hFc (fun r6 u t H locs ht hvm hw7 hB _ _ hS => ?_)
  obtain ⟨hT, hF1⟩ := hB
  rw [ht] at hT hF1
  have m8 := (hF1.fld hr_o0 skc_6 (k := 1) (by decide) (by decide)).trans m1
  have m9 := (hF1.fld hr_p0 skc_13 (k := 4) (by decide) (by decide)).trans m4
  have hF := hF.more hF1 (by decide)
  try dsimp only at hw7
  refine lv_isub hx hb dX3_runBreach_12 ?_
  refine lv_topi (fun x10 ex10 => ?_)
  refine lv_i2l (v := x10.toInt64) hx hb dX3_runBreach_13 rfl ?_
  refine lv_aload_n hx hb dX3_runBreach_14 rfl (lv_at hl 1 rfl) ?_
  refine tw_getN hx hb hts bF2_X10 hown hK hT hr_p0 shc_13 rfl 6 (by decide) (hE.nw 81 rfl) (fun _ h9 => h9) dX3_runBreach_15 (fun v9 m11 h9 => ?_)
  obtain ⟨x12, rfl, gx12, kx12⟩ := h9 _ rfl
  refine lv_i2l (v := x12.toInt64) hx hb dX3_runBreach_18 rfl ?_
  refine lv_lmul hx hb dX3_runBreach_19 ?_
  refine lv_topl (fun y13 _ => ?_)
  refine lv_ldc2 (v := 120) hx hb hown (ht_at2 hts 8 rfl) dX3_runBreach_20 ?_
  refine lv_ldiv hx hb dX3_runBreach_23 (by decide) ?_
  refine lv_topl (fun y14 _ => ?_)
  refine lv_l2i (v := y14.toInt32) hx hb dX3_runBreach_24 rfl ?_
  refine lv_topi (fun x15 _ => ?_)
  refine lv_istore_n (lv' := [(3, .int x15), (0, .ref o0), (1, .ref p0), (2, .int p1)]) hx hb dX3_runBreach_25 rfl hl (by decide) rfl (fun ls hl => ?_)
  refine lv_iload_n hx hb dX3_runBreach_26 rfl (lv_at hl 0 rfl) ?_
  have jn42 : ∀ (z38 : Int32), ∀ (H : Heap) (locs : List Loc), gH (dC, dI) kA (SHc nC nS) G H → gF (dC, dI) SKc G ([(5, 12), (5, 13), (13, 10), (13, 11), (29, 0), (30, 0)] : List (Nat × Nat)) s.heap H → va_S A s.heap H locs → el H o0 (dI 6 1) = some (.ref b2) → el H p0 (dI 13 4) = some (.int x5) → el H p0 (dI 13 6) = some (.int x12) → ∀ ls : Array Slot, lv_has ls 4 [(3, .int z38), (0, .ref o0), (1, .ref p0), (2, .int p1)] → W p l e (headSpec w_c_runBreach ({ frames := 2, cells := 0, slots := 0, locals := 45 })).room s m #[.ref o0, .ref p0, .int p1] below meth c H locs 0 0 (MQ below (va_Qv (fun (u : Unit) => True) (fun (_ : Unit) (t : State) => gH (dC, dI) kA (SHc nC nS) G t.heap ∧ gF (dC, dI) SKc G ([(5, 12), (5, 13), (13, 10), (13, 11), (29, 0), (30, 0)] : List (Nat × Nat)) s.heap t.heap) A) #[.ref o0, .ref p0, .int p1] s 0 0 A) (F0 m 77 ls []) := by
    intro z38 H locs hT hF hS m39 m40 m41 ls hl
    refine lv_aload_n hx hb dX3_runBreach_77 rfl (lv_at hl 2 rfl) ?_
    refine lv_iload_n hx hb dX3_runBreach_78 rfl (lv_at hl 0 rfl) ?_
    have hFc := gA_free hG hA hS
    refine va_callv (va_runV (As := [.int z38]) (rest := []) ⟨hx, hb, hml, hown, hts⟩ (c_moved l dC dI kA adK adV G H nC nS p0 z38 hT hr_p0 (by omega) (by omega)) (cwV 1 hts (goodIn_app (goodIn_r _ [32, 33, 34, 35] rfl (by decide +kernel)) (goodIn_ca (goodIn_r _ [29, 30, 31] rfl (by decide +kernel)) (bs2_in _ _))) rfl rfl rfl (by decide +kernel) ⟨(Nat.le_of_ble_eq_true rfl), (Nat.le_of_ble_eq_true rfl)⟩) ⟨fun a U g mk q => by obtain ⟨q0, q1, qK, qE⟩ := q; exact ⟨q0, q1, va_K.moved (u := U) (U := U.calling g mk a) (Vm.Alike.refl U.vm) qK, EVC.blind g mk a qE⟩, gH_rc hK hT hr_p0 shc_13 rfl, fun U hU hW => ⟨rfl, hU, va_K.moved hW.alike hK, hE.call hS hFc hU hW⟩⟩ rfl rfl hl.1 rfl (lv_room (Nat.le_of_ble_eq_true rfl)) dX3_runBreach_79 ⟨(Nat.le_of_ble_eq_true rfl), (Nat.le_of_ble_eq_true rfl)⟩) hS (fun q _ h => hFc q h) hFc (fun u t H locs ht hvm hw44 hB _ _ hS => ?_)
    obtain ⟨hT, hF1⟩ := hB
    rw [ht] at hT hF1
    have hF := hF.more hF1 (by decide)
    try dsimp only at hw44
    exact W.vret hx hb hr (fun t ht hW => ⟨⟨(), rfl, (by exact trivial), by (try dsimp only); rw [ht]; exact ⟨hT, hF⟩⟩, hS.F ht⟩) hS.2.2 dX3_runBreach_82
  have t48 : -2147483648 ≤ x15.toInt ∧ x15.toInt ≤ 2147483647 := ti_all x15
  refine lv_if_lt (tgt := 45) hx hb dX3_runBreach_27 (by decide) (fun c49 => ?_) (fun c49 => ?_)
  · have t50 : x15.toInt < 0 := ti_lt c49 rfl (by decide)
    refine lv_iload_n hx hb dX3_runBreach_45 rfl (lv_at hl 0 rfl) ?_
    refine lv_ineg hx hb dX3_runBreach_46 ?_
    refine lv_topi (fun x51 ex51 => ?_)
    refine lv_aload_n hx hb dX3_runBreach_47 rfl (lv_at hl 1 rfl) ?_
    refine tw_getM (v := .ref b2) hx hb hts bF2_X3 hown hK hT hr_o0 shc_6 rfl 1 (by decide) (ht_at2 hts 0 rfl) (fun _ h9 => h9) m8 dX3_runBreach_48 ?_
    refine tw_getN hx hb hts bF2_X2 hown hK hT hg3 shc_5 rfl 4 (by decide) (hE.nw 84 rfl) (fun _ h9 => h9) dX3_runBreach_51 (fun v9 m52 h9 => ?_)
    obtain ⟨b53, rfl, hg54⟩ := h9 _ rfl
    refine lv_aload_n hx hb dX3_runBreach_54 rfl (lv_at hl 2 rfl) ?_
    refine tw_getNM (v := .int x5) hx hb hts bF2_X10 hown hK hT hr_p0 shc_13 rfl 4 (by decide) (hE.nw 83 rfl) (fun _ h9 => h9) m9 dX3_runBreach_55 ?_
    refine tw_iald (i := x5) hx hb hK hT hg54 shc_29 rfl (vin_t (a := x5.toInt) rfl (by omega) (by omega)) dX3_runBreach_58 (fun v9 m55 h9 => ?_)
    obtain ⟨x56, rfl, gx56, kx56⟩ := h9
    refine va_mmin hx hb (hml.trans hl.1.symm) hown (ht_at2 hts 9 rfl) (ht_at2 hts 10 rfl) (ht_at2 hts 11 rfl) (ht_at2 hts 12 rfl) (Nat.le_of_ble_eq_true rfl) (Nat.le_of_ble_eq_true rfl) (Nat.le_of_ble_eq_true rfl) (Nat.le_of_ble_eq_true rfl) dX3_runBreach_59 ?_
    refine lv_topi (fun x57 ex57 => ?_)
    have t58 : x57.toInt ≤ x51.toInt ∧ x57.toInt ≤ x56.toInt ∧ (x57.toInt = x51.toInt ∨ x57.toInt = x56.toInt) := mn_f ex57 rfl rfl
    refine lv_ineg hx hb dX3_runBreach_62 ?_
    refine lv_topi (fun x59 ex59 => ?_)
    refine lv_istore_n (lv' := [(3, .int x59), (0, .ref o0), (1, .ref p0), (2, .int p1)]) hx hb dX3_runBreach_63 rfl hl (by decide) rfl (fun ls hl => ?_)
    refine lv_aload_n hx hb dX3_runBreach_64 rfl (lv_at hl 1 rfl) ?_
    refine tw_getM (v := .ref b2) hx hb hts bF2_X3 hown hK hT hr_o0 shc_6 rfl 1 (by decide) (ht_at2 hts 0 rfl) (fun _ h9 => h9) m8 dX3_runBreach_65 ?_
    refine lv_aload_n hx hb dX3_runBreach_68 rfl (lv_at hl 2 rfl) ?_
    refine tw_getNM (v := .int x5) hx hb hts bF2_X10 hown hK hT hr_p0 shc_13 rfl 4 (by decide) (hE.nw 83 rfl) (fun _ h9 => h9) m9 dX3_runBreach_69 ?_
    refine lv_iload_n hx hb dX3_runBreach_72 rfl (lv_at hl 0 rfl) ?_
    refine lv_ineg hx hb dX3_runBreach_73 ?_
    refine lv_topi (fun x60 ex60 => ?_)
    have hFc := gA_free hG hA hS
    refine va_callv (va_runV (As := [.int x5, .int x60]) (rest := []) ⟨hx, hb, hml, hown, hts⟩ (c_giveToSea l dC dI kA adK adV G H nC nS b2 x5 x60 hT hg3 (by have q8 := ti_all x5; omega) (by omega) (by omega)) (cwV 2 hts (goodIn_app (goodIn_r _ [21, 22, 23, 8] rfl (by decide +kernel)) (goodIn_ca (goodIn_r _ [14, 15, 16, 4, 17, 18, 19, 8, 20] rfl (by decide +kernel)) (bs2_in _ _))) rfl rfl rfl (by decide +kernel) ⟨(Nat.le_of_ble_eq_true rfl), (Nat.le_of_ble_eq_true rfl)⟩) ⟨fun a U g mk q => by obtain ⟨q0, q1, qK, qE⟩ := q; exact ⟨q0, q1, va_K.moved (u := U) (U := U.calling g mk a) (Vm.Alike.refl U.vm) qK, EVC.blind g mk a qE⟩, gH_rc hK hT hg3 shc_5 rfl, fun U hU hW => ⟨rfl, hU, va_K.moved hW.alike hK, hE.call hS hFc hU hW⟩⟩ rfl rfl hl.1 rfl (lv_room (Nat.le_of_ble_eq_true rfl)) dX3_runBreach_74 ⟨(Nat.le_of_ble_eq_true rfl), (Nat.le_of_ble_eq_true rfl)⟩) hS (fun q _ h => hFc q h) hFc (fun u t H locs ht hvm hw62 hB _ _ hS => ?_)
    obtain ⟨hT, hF1⟩ := hB
    rw [ht] at hT hF1
    have m63 := (hF1.fld hr_o0 skc_6 (k := 1) (by decide) (by decide)).trans m8
    have m64 := (hF1.fld hr_p0 skc_13 (k := 4) (by decide) (by decide)).trans m9
    have m65 := (hF1.fld hr_p0 skc_13 (k := 6) (by decide) (by decide)).trans m11
    have hF := hF.more hF1 (by decide)
    try dsimp only at hw62
    exact jn42 x59 _ _ hT hF hS m63 m64 m65 ls (lv_sub hl [0, 1, 2, 3] rfl)
  · have t68 : 0 ≤ x15.toInt := ti_nlt c49 rfl (by decide)
    refine lv_aload_n hx hb dX3_runBreach_30 rfl (lv_at hl 1 rfl) ?_
    refine tw_getM (v := .ref b2) hx hb hts bF2_X3 hown hK hT hr_o0 shc_6 rfl 1 (by decide) (ht_at2 hts 0 rfl) (fun _ h9 => h9) m8 dX3_runBreach_31 ?_
    refine lv_aload_n hx hb dX3_runBreach_34 rfl (lv_at hl 2 rfl) ?_
    refine tw_getNM (v := .int x5) hx hb hts bF2_X10 hown hK hT hr_p0 shc_13 rfl 4 (by decide) (hE.nw 83 rfl) (fun _ h9 => h9) m9 dX3_runBreach_35 ?_
    refine lv_iload_n hx hb dX3_runBreach_38 rfl (lv_at hl 0 rfl) ?_
    have hFc := gA_free hG hA hS
    refine va_callv (va_runV (As := [.int x5, .int x15]) (rest := []) ⟨hx, hb, hml, hown, hts⟩ (c_takeFromSea l dC dI kA adK adV G H nC nS b2 x5 x15 hT hg3 (by have q8 := ti_all x5; omega) (by omega) (by omega)) (cwV 2 hts (goodIn_app (goodIn_r _ [26, 27, 28, 8] rfl (by decide +kernel)) (goodIn_ca (goodIn_r _ [24, 4, 15, 25] rfl (by decide +kernel)) (bs2_in _ _))) rfl rfl rfl (by decide +kernel) ⟨(Nat.le_of_ble_eq_true rfl), (Nat.le_of_ble_eq_true rfl)⟩) ⟨fun a U g mk q => by obtain ⟨q0, q1, qK, qE⟩ := q; exact ⟨q0, q1, va_K.moved (u := U) (U := U.calling g mk a) (Vm.Alike.refl U.vm) qK, EVC.blind g mk a qE⟩, gH_rc hK hT hg3 shc_5 rfl, fun U hU hW => ⟨rfl, hU, va_K.moved hW.alike hK, hE.call hS hFc hU hW⟩⟩ rfl rfl hl.1 rfl (lv_room (Nat.le_of_ble_eq_true rfl)) dX3_runBreach_39 ⟨(Nat.le_of_ble_eq_true rfl), (Nat.le_of_ble_eq_true rfl)⟩) hS (fun q _ h => hFc q h) hFc (fun u t H locs ht hvm hw70 hB _ _ hS => ?_)
    obtain ⟨hT, hF1⟩ := hB
    rw [ht] at hT hF1
    have m71 := (hF1.fld hr_o0 skc_6 (k := 1) (by decide) (by decide)).trans m8
    have m72 := (hF1.fld hr_p0 skc_13 (k := 4) (by decide) (by decide)).trans m9
    have m73 := (hF1.fld hr_p0 skc_13 (k := 6) (by decide) (by decide)).trans m11
    have hF := hF.more hF1 (by decide)
    try dsimp only at hw70
    refine lv_goto (tgt := 77) hx hb dX3_runBreach_42 (by decide) ?_
    exact jn42 x15 _ _ hT hF hS m71 m72 m73 ls (lv_sub hl [0, 1, 2, 3] rfl)
def w_c_runBank : List Cond := .code yX3_runBank cX3_runBank 4 none :: (HAppend.hAppend (α := List Cond) (β := List Cond) (γ := List Cond) [.code yX3_seepOf cX3_seepOf 5 (some .int), .fieldLink RX3 21 "SeaLand$Lake" "ground" "LSeaLand$Ground;", .code yX2_levelOf cX2_levelOf 2 (some .int), .fieldLink RX2 15 "SeaLand$Ground" "height" "[I", .fieldLink RX2 25 "SeaLand$Ground" "water" "[I", .methodLink RX3 40 yX2_levelOf, .instanceMethod yX2_levelOf, .selects RX2 yX2_levelOf yX2_levelOf, .initialized RX2, .methodLink RX3 97 Lib.Math.max.name, .static Lib.Math.max.name, .initialized "java/lang/Math", .code Lib.Math.max.name Lib.Math.max.code 2 (some .int), .code yX10_leakBelow cX10_leakBelow 6 (some .int), .fieldLink RX10 34 "SeaLand$Work" "layers" "I", .fieldLink RX10 9 "SeaLand$Work" "thick" "[I", .fieldLink RX10 15 "SeaLand$Work" "clay" "[I", .methodLink RX3 100 yX10_leakBelow, .instanceMethod yX10_leakBelow, .selects RX10 yX10_leakBelow yX10_leakBelow, .initialized RX10, .methodLink RX3 132 yX3_seepOf, .instanceMethod yX3_seepOf, .selects RX3 yX3_seepOf yX3_seepOf, .initialized RX3, .code yX10_breakOpen cX10_breakOpen 1 none, .fieldLink RX10 18 "SeaLand$Work" "kind" "I", .fieldLink RX10 31 "SeaLand$Work" "width" "I", .methodLink RX3 143 yX10_breakOpen, .instanceMethod yX10_breakOpen, .selects RX10 yX10_breakOpen yX10_breakOpen, .code yX3_runBreach cX3_runBreach 4 none, .constantLong RX3 149 120, .methodLink RX3 71 Lib.Math.min.name, .static Lib.Math.min.name, .code Lib.Math.min.name Lib.Math.min.code 2 (some .int), .code yX2_giveToSea cX2_giveToSea 3 none, .fieldLink RX2 28 "SeaLand$Ground" "salt" "[I", .code yX2_saltGoingWith cX2_saltGoingWith 4 (some .int), .methodLink RX2 60 yX2_saltGoingWith, .instanceMethod yX2_saltGoingWith, .selects RX2 yX2_saltGoingWith yX2_saltGoingWith, .fieldLink RX2 64 "SeaLand$Ground" "wentOut" "I", .methodLink RX3 154 yX2_giveToSea, .instanceMethod yX2_giveToSea, .selects RX2 yX2_giveToSea yX2_giveToSea, .code yX2_takeFromSea cX2_takeFromSea 3 none, .fieldLink RX2 57 "SeaLand$Ground" "cameIn" "I", .methodLink RX3 136 yX2_takeFromSea, .instanceMethod yX2_takeFromSea, .selects RX2 yX2_takeFromSea yX2_takeFromSea, .code yX10_moved cX10_moved 2 none, .fieldLink RX10 44 "SeaLand$Work" "latest" "I", .fieldLink RX10 47 "SeaLand$Work" "total" "I", .methodLink RX3 140 yX10_moved, .instanceMethod yX10_moved, .selects RX10 yX10_moved yX10_moved, .methodLink RX3 146 yX3_runBreach, .instanceMethod yX3_runBreach, .selects RX3 yX3_runBreach yX3_runBreach, .code yX3_crestOf cX3_crestOf 2 (some .int), .code yX10_thickness cX10_thickness 3 (some .int), .methodLink RX3 80 yX10_thickness, .instanceMethod yX10_thickness, .selects RX10 yX10_thickness yX10_thickness, .methodLink RX3 84 yX3_crestOf, .instanceMethod yX3_crestOf, .selects RX3 yX3_crestOf yX3_crestOf, .code yX10_widen cX10_widen 1 none, .code yX10_wider cX10_wider 1 (some .int), .methodLink RX10 54 Lib.Math.min.name, .methodLink RX10 50 yX10_wider, .static yX10_wider, .methodLink RX3 129 yX10_widen, .instanceMethod yX10_widen, .selects RX10 yX10_widen yX10_widen] bs2)
set_option maxHeartbeats 4000000 in
set_option maxRecDepth 100000 in
theorem c_runBank (l : Launch) (dC : Nat → ClassId) (dI : Nat → Nat → Nat) (kA : Nat → ClassId) (adK adV : Nat → Nat) (G : gT) (H0 : Heap) (nC nS : Int) (o0 : Nat) (p0 : Nat) (p1 : Int32)  (hT : gH (dC, dI) kA (SHc nC nS) G H0) (hr_p0 : G p0 = some 13) (hr_o0 : G o0 = some 6) (hgC : 0 ≤ nC ∧ nC ≤ 40) (hgS : 0 ≤ nS ∧ nS ≤ 60) : Met l yX3_runBank w_c_runBank ({ frames := 3, cells := 0, slots := 0, locals := 80 }) (va_Pc [.ref o0, .ref p0, .int p1] (fun U => U.heap = H0 ∧ va_K (dC, dI) vwCl (tyl kA) U ∧ EVC adK adV (gA G H0.size) U U.heap)) (va_Qv (fun (u : Unit) => True) (fun (_ : Unit) (t : State) => gH (dC, dI) kA (SHc nC nS) G t.heap ∧ gF (dC, dI) SKc G ([(5, 12), (5, 13), (13, 2), (13, 6), (13, 10), (13, 11), (29, 0), (30, 0)] : List (Nat × Nat)) H0 t.heap) (gA G H0.size)) 0 0 (gA G H0.size) := by
  refine Met.ofW (cc := cX3_runBank) (maxL := 4) (ret := none) (by decide) rfl ?_
  intro p e s m args below meth c s₁ B hml hv
  obtain ⟨rfl, hH0, hK, hE⟩ := hv
  have hx := B.exec
  have hb := B.bytes
  have hr := B.returns
  have hts := atoms_spec (ws := w_c_runBank) B.pre
  have hown : s.vm.findClass RX3 = some m.cls := findClass_of_methodNamed B.named
  have hlocks := B.notSynchronized
  subst hH0
  generalize hAe : gA G s.heap.size = A at hE ⊢
  have hA : ∀ q : Nat, s.heap.size ≤ q → A q := fun q h => by rw [← hAe]; exact Or.inr h
  have hG := gA_of hAe
  have hS : va_S A s.heap s.heap [] := va_S.rf
  have hF : gF (dC, dI) SKc G ([(5, 12), (5, 13), (13, 2), (13, 6), (13, 10), (13, 11), (29, 0), (30, 0)] : List (Nat × Nat)) s.heap s.heap := gF.rf
  have hl := lv_entry ([.ref o0, .ref p0, .int p1]) (n := 4) (Nat.le_of_ble_eq_true rfl)
  rw [lg_entry_eq]
  generalize (lg_sl ([.ref o0, .ref p0, .int p1]) ++ List.replicate (4 - (lg_sl ([.ref o0, .ref p0, .int p1])).length) Slot.unset).toArray = ls at hl ⊢
  have hl : lv_has ls 4 [(0, .ref o0), (1, .ref p0), (2, .int p1)] := hl
  refine lv_aload_n hx hb dX3_runBank_0 rfl (lv_at hl 1 rfl) ?_
  refine tw_getN hx hb hts bF2_X10 hown hK hT hr_p0 shc_13 rfl 2 (by decide) (hE.nw 79 rfl) (fun _ h9 => h9) dX3_runBank_1 (fun v9 m1 h9 => ?_)
  obtain ⟨x2, rfl, gx2, kx2⟩ := h9 _ rfl
  refine lv_iconst (v := 1) hx hb dX3_runBank_4 (by decide) ?_
  have t3 : -2147483648 ≤ x2.toInt ∧ x2.toInt ≤ 2147483647 := ti_all x2
  refine lv_icmp_ne (tgt := 15) hx hb dX3_runBank_5 (by decide) (fun c4 => ?_) (fun c4 => ?_)
  · have t5 : x2.toInt ≠ 1 := ti_ne c4 rfl (by decide)
    refine lv_aload_n hx hb dX3_runBank_15 rfl (lv_at hl 0 rfl) ?_
    refine lv_aload_n hx hb dX3_runBank_16 rfl (lv_at hl 1 rfl) ?_
    refine lv_iload_n hx hb dX3_runBank_17 rfl (lv_at hl 2 rfl) ?_
    have hFc := gA_free hG hA hS
    refine va_calli (va_runV (As := [.ref p0, .int p1]) (rest := []) ⟨hx, hb, hml, hown, hts⟩ (c_seepOf l dC dI kA adK adV G s.heap nC nS o0 p0 p1 hT hr_p0 hr_o0 (by omega) (by omega)) (cwV 2 hts (goodIn_app (goodIn_r _ [22, 23, 24, 25] rfl (by decide +kernel)) (goodIn_ca (goodIn_r _ [1, 2, 3, 4, 5, 6, 7, 8, 9, 10, 11, 12, 13, 14, 15, 16, 17, 18, 19, 20, 21] rfl (by decide +kernel)) (bs2_in _ _))) rfl rfl rfl (by decide +kernel) ⟨(Nat.le_of_ble_eq_true rfl), (Nat.le_of_ble_eq_true rfl)⟩) ⟨fun a U g mk q => by obtain ⟨q0, q1, qK, qE⟩ := q; exact ⟨q0, q1, va_K.moved (u := U) (U := U.calling g mk a) (Vm.Alike.refl U.vm) qK, EVC.blind g mk a qE⟩, gH_rc hK hT hr_o0 shc_6 rfl, fun U hU hW => ⟨rfl, hU, va_K.moved hW.alike hK, hE.call hS hFc hU hW⟩⟩ rfl rfl hl.1 rfl (lv_room (Nat.le_of_ble_eq_true rfl)) dX3_runBank_18 ⟨(Nat.le_of_ble_eq_true rfl), (Nat.le_of_ble_eq_true rfl)⟩) hS (fun q _ h => hFc q h) hFc (fun r6 u t H locs ht hvm hw7 hB _ _ hS => ?_)
    obtain ⟨hT, hF1⟩ := hB
    rw [ht] at hT hF1
    have hF := hF.more hF1 (by decide)
    try dsimp only at hw7
    have h9 := hw7
    refine lv_istore_n (lv' := [(3, .int r6), (0, .ref o0), (1, .ref p0), (2, .int p1)]) hx hb dX3_runBank_21 rfl hl (by decide) rfl (fun ls hl => ?_)
    refine lv_iload_n hx hb dX3_runBank_22 rfl (lv_at hl 0 rfl) ?_
    refine lv_aload_n hx hb dX3_runBank_23 rfl (lv_at hl 2 rfl) ?_
    refine tw_getN hx hb hts bF2_X10 hown hK hT hr_p0 shc_13 rfl 5 (by decide) (hE.nw 82 rfl) (fun _ h9 => h9) dX3_runBank_24 (fun v9 m10 h9 => ?_)
    obtain ⟨x11, rfl, gx11, kx11⟩ := h9 _ rfl
    have t12 : -2147483648 ≤ x11.toInt ∧ x11.toInt ≤ 2147483647 := ti_all x11
    refine lv_icmp_gt (tgt := 57) hx hb dX3_runBank_27 (by decide) (fun c13 => ?_) (fun c13 => ?_)
    · have t14 : x11.toInt < r6.toInt := ti_lt c13 rfl rfl
      refine lv_aload_n hx hb dX3_runBank_57 rfl (lv_at hl 2 rfl) ?_
      have hFc := gA_free hG hA hS
      refine va_callv (va_runV (As := []) (rest := []) ⟨hx, hb, hml, hown, hts⟩ (c_breakOpen l dC dI kA adK adV G H nC nS p0 hT hr_p0 (by omega) (by omega)) (cwV 0 hts (goodIn_app (goodIn_r _ [29, 30, 31, 21] rfl (by decide +kernel)) (goodIn_ca (goodIn_r _ [26, 27, 28] rfl (by decide +kernel)) (bs2_in _ _))) rfl rfl rfl (by decide +kernel) ⟨(Nat.le_of_ble_eq_true rfl), (Nat.le_of_ble_eq_true rfl)⟩) ⟨fun a U g mk q => by obtain ⟨q0, q1, qK, qE⟩ := q; exact ⟨q0, q1, va_K.moved (u := U) (U := U.calling g mk a) (Vm.Alike.refl U.vm) qK, EVC.blind g mk a qE⟩, gH_rc hK hT hr_p0 shc_13 rfl, fun U hU hW => ⟨rfl, hU, va_K.moved hW.alike hK, hE.call hS hFc hU hW⟩⟩ rfl rfl hl.1 rfl (lv_room (Nat.le_of_ble_eq_true rfl)) dX3_runBank_58 ⟨(Nat.le_of_ble_eq_true rfl), (Nat.le_of_ble_eq_true rfl)⟩) hS (fun q _ h => hFc q h) hFc (fun u t H locs ht hvm hw16 hB _ _ hS => ?_)
      obtain ⟨hT, hF1⟩ := hB
      rw [ht] at hT hF1
      have hF := hF.more hF1 (by decide)
      try dsimp only at hw16
      refine lv_aload_n hx hb dX3_runBank_61 rfl (lv_at hl 1 rfl) ?_
      refine lv_aload_n hx hb dX3_runBank_62 rfl (lv_at hl 2 rfl) ?_
      refine lv_iload_n hx hb dX3_runBank_63 rfl (lv_at hl 3 rfl) ?_
      have hFc := gA_free hG hA hS
      refine va_callv (va_runV (As := [.ref p0, .int p1]) (rest := []) ⟨hx, hb, hml, hown, hts⟩ (c_runBreach l dC dI kA adK adV G H nC nS o0 p0 p1 hT hr_p0 hr_o0 (by omega) (by omega)) (cwV 2 hts (goodIn_app (goodIn_r _ [58, 59, 60, 25] rfl (by decide +kernel)) (goodIn_ca (goodIn_r _ [32, 2, 3, 4, 5, 6, 7, 8, 9, 33, 34, 35, 12, 36, 37, 38, 39, 40, 41, 42, 43, 44, 45, 46, 47, 48, 49, 50, 51, 52, 53, 54, 55, 56, 57, 21] rfl (by decide +kernel)) (bs2_in _ _))) rfl rfl rfl (by decide +kernel) ⟨(Nat.le_of_ble_eq_true rfl), (Nat.le_of_ble_eq_true rfl)⟩) ⟨fun a U g mk q => by obtain ⟨q0, q1, qK, qE⟩ := q; exact ⟨q0, q1, va_K.moved (u := U) (U := U.calling g mk a) (Vm.Alike.refl U.vm) qK, EVC.blind g mk a qE⟩, gH_rc hK hT hr_o0 shc_6 rfl, fun U hU hW => ⟨rfl, hU, va_K.moved hW.alike hK, hE.call hS hFc hU hW⟩⟩ rfl rfl hl.1 rfl (lv_room (Nat.le_of_ble_eq_true rfl)) dX3_runBank_64 ⟨(Nat.le_of_ble_eq_true rfl), (Nat.le_of_ble_eq_true rfl)⟩) hS (fun q _ h => hFc q h) hFc (fun u t H locs ht hvm hw20 hB _ _ hS => ?_)
      obtain ⟨hT, hF1⟩ := hB
      rw [ht] at hT hF1
      have hF := hF.more hF1 (by decide)
      try dsimp only at hw20
      exact W.vret hx hb hr (fun t ht hW => ⟨⟨(), rfl, (by exact trivial), by (try dsimp only); rw [ht]; exact ⟨hT, hF⟩⟩, hS.F ht⟩) hS.2.2 dX3_runBank_67
    · have t22 : r6.toInt ≤ x11.toInt := ti_nlt c13 rfl rfl
      refine lv_iload_n hx hb dX3_runBank_30 rfl (lv_at hl 3 rfl) ?_
      refine lv_aload_n hx hb dX3_runBank_31 rfl (lv_at hl 1 rfl) ?_
      refine lv_aload_n hx hb dX3_runBank_32 rfl (lv_at hl 2 rfl) ?_
      have hFc := gA_free hG hA hS
      refine va_calli (va_runV (As := [.ref p0]) (rest := [.int p1]) ⟨hx, hb, hml, hown, hts⟩ (c_crestOf l dC dI kA adK adV G H nC nS o0 p0 hT hr_p0 hr_o0 (by omega) (by omega)) (cwV 1 hts (goodIn_app (goodIn_r _ [66, 67, 68, 25] rfl (by decide +kernel)) (goodIn_ca (goodIn_r _ [61, 2, 62, 15, 16, 63, 64, 65, 21] rfl (by decide +kernel)) (bs2_in _ _))) rfl rfl rfl (by decide +kernel) ⟨(Nat.le_of_ble_eq_true rfl), (Nat.le_of_ble_eq_true rfl)⟩) ⟨fun a U g mk q => by obtain ⟨q0, q1, qK, qE⟩ := q; exact ⟨q0, q1, va_K.moved (u := U) (U := U.calling g mk a) (Vm.Alike.refl U.vm) qK, EVC.blind g mk a qE⟩, gH_rc hK hT hr_o0 shc_6 rfl, fun U hU hW => ⟨rfl, hU, va_K.moved hW.alike hK, hE.call hS hFc hU hW⟩⟩ rfl rfl hl.1 rfl (lv_room (Nat.le_of_ble_eq_true rfl)) dX3_runBank_33 ⟨(Nat.le_of_ble_eq_true rfl), (Nat.le_of_ble_eq_true rfl)⟩) hS (fun q _ h => hFc q h) hFc (fun r23 u t H locs ht hvm hw24 hB _ _ hS => ?_)
      obtain ⟨hT, hF1⟩ := hB
      rw [ht] at hT hF1
      have hF := hF.more hF1 (by decide)
      try dsimp only at hw24
      have t27 : -2147483648 ≤ p1.toInt ∧ p1.toInt ≤ 2147483647 := ti_all p1
      have t28 : -2147483648 ≤ r23.toInt ∧ r23.toInt ≤ 2147483647 := ti_all r23
      refine lv_icmp_gt (tgt := 57) hx hb dX3_runBank_36 (by decide) (fun c29 => ?_) (fun c29 => ?_)
      · have t30 : r23.toInt < p1.toInt := ti_lt c29 rfl rfl
        refine lv_aload_n hx hb dX3_runBank_57 rfl (lv_at hl 2 rfl) ?_
        have hFc := gA_free hG hA hS
        refine va_callv (va_runV (As := []) (rest := []) ⟨hx, hb, hml, hown, hts⟩ (c_breakOpen l dC dI kA adK adV G H nC nS p0 hT hr_p0 (by omega) (by omega)) (cwV 0 hts (goodIn_app (goodIn_r _ [29, 30, 31, 21] rfl (by decide +kernel)) (goodIn_ca (goodIn_r _ [26, 27, 28] rfl (by decide +kernel)) (bs2_in _ _))) rfl rfl rfl (by decide +kernel) ⟨(Nat.le_of_ble_eq_true rfl), (Nat.le_of_ble_eq_true rfl)⟩) ⟨fun a U g mk q => by obtain ⟨q0, q1, qK, qE⟩ := q; exact ⟨q0, q1, va_K.moved (u := U) (U := U.calling g mk a) (Vm.Alike.refl U.vm) qK, EVC.blind g mk a qE⟩, gH_rc hK hT hr_p0 shc_13 rfl, fun U hU hW => ⟨rfl, hU, va_K.moved hW.alike hK, hE.call hS hFc hU hW⟩⟩ rfl rfl hl.1 rfl (lv_room (Nat.le_of_ble_eq_true rfl)) dX3_runBank_58 ⟨(Nat.le_of_ble_eq_true rfl), (Nat.le_of_ble_eq_true rfl)⟩) hS (fun q _ h => hFc q h) hFc (fun u t H locs ht hvm hw32 hB _ _ hS => ?_)
        obtain ⟨hT, hF1⟩ := hB
        rw [ht] at hT hF1
        have hF := hF.more hF1 (by decide)
        try dsimp only at hw32
        refine lv_aload_n hx hb dX3_runBank_61 rfl (lv_at hl 1 rfl) ?_
        refine lv_aload_n hx hb dX3_runBank_62 rfl (lv_at hl 2 rfl) ?_
        refine lv_iload_n hx hb dX3_runBank_63 rfl (lv_at hl 3 rfl) ?_
        have hFc := gA_free hG hA hS
        refine va_callv (va_runV (As := [.ref p0, .int p1]) (rest := []) ⟨hx, hb, hml, hown, hts⟩ (c_runBreach l dC dI kA adK adV G H nC nS o0 p0 p1 hT hr_p0 hr_o0 (by omega) (by omega)) (cwV 2 hts (goodIn_app (goodIn_r _ [58, 59, 60, 25] rfl (by decide +kernel)) (goodIn_ca (goodIn_r _ [32, 2, 3, 4, 5, 6, 7, 8, 9, 33, 34, 35, 12, 36, 37, 38, 39, 40, 41, 42, 43, 44, 45, 46, 47, 48, 49, 50, 51, 52, 53, 54, 55, 56, 57, 21] rfl (by decide +kernel)) (bs2_in _ _))) rfl rfl rfl (by decide +kernel) ⟨(Nat.le_of_ble_eq_true rfl), (Nat.le_of_ble_eq_true rfl)⟩) ⟨fun a U g mk q => by obtain ⟨q0, q1, qK, qE⟩ := q; exact ⟨q0, q1, va_K.moved (u := U) (U := U.calling g mk a) (Vm.Alike.refl U.vm) qK, EVC.blind g mk a qE⟩, gH_rc hK hT hr_o0 shc_6 rfl, fun U hU hW => ⟨rfl, hU, va_K.moved hW.alike hK, hE.call hS hFc hU hW⟩⟩ rfl rfl hl.1 rfl (lv_room (Nat.le_of_ble_eq_true rfl)) dX3_runBank_64 ⟨(Nat.le_of_ble_eq_true rfl), (Nat.le_of_ble_eq_true rfl)⟩) hS (fun q _ h => hFc q h) hFc (fun u t H locs ht hvm hw36 hB _ _ hS => ?_)
        obtain ⟨hT, hF1⟩ := hB
        rw [ht] at hT hF1
        have hF := hF.more hF1 (by decide)
        try dsimp only at hw36
        exact W.vret hx hb hr (fun t ht hW => ⟨⟨(), rfl, (by exact trivial), by (try dsimp only); rw [ht]; exact ⟨hT, hF⟩⟩, hS.F ht⟩) hS.2.2 dX3_runBank_67
      · have t38 : p1.toInt ≤ r23.toInt := ti_nlt c29 rfl rfl
        refine lv_aload_n hx hb dX3_runBank_39 rfl (lv_at hl 1 rfl) ?_
        refine tw_get hx hb hts bF2_X3 hown hK hT hr_o0 shc_6 rfl 1 (by decide) (ht_at2 hts 1 rfl) (fun _ h9 => h9) dX3_runBank_40 (fun v9 m39 h9 => ?_)
        obtain ⟨b40, rfl, hg41⟩ := h9 _ rfl
        refine lv_aload_n hx hb dX3_runBank_43 rfl (lv_at hl 2 rfl) ?_
        refine tw_getN hx hb hts bF2_X10 hown hK hT hr_p0 shc_13 rfl 4 (by decide) (hE.nw 83 rfl) (fun _ h9 => h9) dX3_runBank_44 (fun v9 m42 h9 => ?_)
        obtain ⟨x43, rfl, gx43, kx43⟩ := h9 _ rfl
        refine lv_iload_n hx hb dX3_runBank_47 rfl (lv_at hl 0 rfl) ?_
        have hFc := gA_free hG hA hS
        refine va_callv (va_runV (As := [.int x43, .int r6]) (rest := []) ⟨hx, hb, hml, hown, hts⟩ (c_takeFromSea l dC dI kA adK adV G H nC nS b40 x43 r6 hT hg41 (by have q8 := ti_all x43; omega) (by omega) (by omega)) (cwV 2 hts (goodIn_app (goodIn_r _ [49, 50, 51, 9] rfl (by decide +kernel)) (goodIn_ca (goodIn_r _ [47, 5, 38, 48] rfl (by decide +kernel)) (bs2_in _ _))) rfl rfl rfl (by decide +kernel) ⟨(Nat.le_of_ble_eq_true rfl), (Nat.le_of_ble_eq_true rfl)⟩) ⟨fun a U g mk q => by obtain ⟨q0, q1, qK, qE⟩ := q; exact ⟨q0, q1, va_K.moved (u := U) (U := U.calling g mk a) (Vm.Alike.refl U.vm) qK, EVC.blind g mk a qE⟩, gH_rc hK hT hg41 shc_5 rfl, fun U hU hW => ⟨rfl, hU, va_K.moved hW.alike hK, hE.call hS hFc hU hW⟩⟩ rfl rfl hl.1 rfl (lv_room (Nat.le_of_ble_eq_true rfl)) dX3_runBank_48 ⟨(Nat.le_of_ble_eq_true rfl), (Nat.le_of_ble_eq_true rfl)⟩) hS (fun q _ h => hFc q h) hFc (fun u t H locs ht hvm hw45 hB _ _ hS => ?_)
        obtain ⟨hT, hF1⟩ := hB
        rw [ht] at hT hF1
        have hF := hF.more hF1 (by decide)
        try dsimp only at hw45
        refine lv_aload_n hx hb dX3_runBank_51 rfl (lv_at hl 2 rfl) ?_
        refine lv_iload_n hx hb dX3_runBank_52 rfl (lv_at hl 0 rfl) ?_
        have hFc := gA_free hG hA hS
        refine va_callv (va_runV (As := [.int r6]) (rest := []) ⟨hx, hb, hml, hown, hts⟩ (c_moved l dC dI kA adK adV G H nC nS p0 r6 hT hr_p0 (by omega) (by omega)) (cwV 1 hts (goodIn_app (goodIn_r _ [55, 56, 57, 21] rfl (by decide +kernel)) (goodIn_ca (goodIn_r _ [52, 53, 54] rfl (by decide +kernel)) (bs2_in _ _))) rfl rfl rfl (by decide +kernel) ⟨(Nat.le_of_ble_eq_true rfl), (Nat.le_of_ble_eq_true rfl)⟩) ⟨fun a U g mk q => by obtain ⟨q0, q1, qK, qE⟩ := q; exact ⟨q0, q1, va_K.moved (u := U) (U := U.calling g mk a) (Vm.Alike.refl U.vm) qK, EVC.blind g mk a qE⟩, gH_rc hK hT hr_p0 shc_13 rfl, fun U hU hW => ⟨rfl, hU, va_K.moved hW.alike hK, hE.call hS hFc hU hW⟩⟩ rfl rfl hl.1 rfl (lv_room (Nat.le_of_ble_eq_true rfl)) dX3_runBank_53 ⟨(Nat.le_of_ble_eq_true rfl), (Nat.le_of_ble_eq_true rfl)⟩) hS (fun q _ h => hFc q h) hFc (fun u t H locs ht hvm hw51 hB _ _ hS => ?_)
        obtain ⟨hT, hF1⟩ := hB
        rw [ht] at hT hF1
        have hF := hF.more hF1 (by decide)
        try dsimp only at hw51
        exact W.vret hx hb hr (fun t ht hW => ⟨⟨(), rfl, (by exact trivial), by (try dsimp only); rw [ht]; exact ⟨hT, hF⟩⟩, hS.F ht⟩) hS.2.2 dX3_runBank_56
  · have t56 : x2.toInt = 1 := ti_eq c4 rfl (by decide)
    refine lv_aload_n hx hb dX3_runBank_8 rfl (lv_at hl 1 rfl) ?_
    have hFc := gA_free hG hA hS
    refine va_callv (va_runV (As := []) (rest := []) ⟨hx, hb, hml, hown, hts⟩ (c_widen l dC dI kA adK adV G s.heap nC nS p0 hT hr_p0 (by omega) (by omega)) (cwV 0 hts (goodIn_app (goodIn_r _ [74, 75, 76, 21] rfl (by decide +kernel)) (goodIn_ca (goodIn_r _ [69, 28, 70, 71, 35, 12, 36, 72, 73, 21] rfl (by decide +kernel)) (bs2_in _ _))) rfl rfl rfl (by decide +kernel) ⟨(Nat.le_of_ble_eq_true rfl), (Nat.le_of_ble_eq_true rfl)⟩) ⟨fun a U g mk q => by obtain ⟨q0, q1, qK, qE⟩ := q; exact ⟨q0, q1, va_K.moved (u := U) (U := U.calling g mk a) (Vm.Alike.refl U.vm) qK, EVC.blind g mk a qE⟩, gH_rc hK hT hr_p0 shc_13 rfl, fun U hU hW => ⟨rfl, hU, va_K.moved hW.alike hK, hE.call hS hFc hU hW⟩⟩ rfl rfl hl.1 rfl (lv_room (Nat.le_of_ble_eq_true rfl)) dX3_runBank_9 ⟨(Nat.le_of_ble_eq_true rfl), (Nat.le_of_ble_eq_true rfl)⟩) hS (fun q _ h => hFc q h) hFc (fun u t H locs ht hvm hw58 hB _ _ hS => ?_)
    obtain ⟨hT, hF1⟩ := hB
    rw [ht] at hT hF1
    have hF := hF.more hF1 (by decide)
    try dsimp only at hw58
    refine lv_goto (tgt := 61) hx hb dX3_runBank_12 (by decide) ?_
    refine lv_aload_n hx hb dX3_runBank_61 rfl (lv_at hl 0 rfl) ?_
    refine lv_aload_n hx hb dX3_runBank_62 rfl (lv_at hl 1 rfl) ?_
    refine lv_iload_n hx hb dX3_runBank_63 rfl (lv_at hl 2 rfl) ?_
    have hFc := gA_free hG hA hS
    refine va_callv (va_runV (As := [.ref p0, .int p1]) (rest := []) ⟨hx, hb, hml, hown, hts⟩ (c_runBreach l dC dI kA adK adV G H nC nS o0 p0 p1 hT hr_p0 hr_o0 (by omega) (by omega)) (cwV 2 hts (goodIn_app (goodIn_r _ [58, 59, 60, 25] rfl (by decide +kernel)) (goodIn_ca (goodIn_r _ [32, 2, 3, 4, 5, 6, 7, 8, 9, 33, 34, 35, 12, 36, 37, 38, 39, 40, 41, 42, 43, 44, 45, 46, 47, 48, 49, 50, 51, 52, 53, 54, 55, 56, 57, 21] rfl (by decide +kernel)) (bs2_in _ _))) rfl rfl rfl (by decide +kernel) ⟨(Nat.le_of_ble_eq_true rfl), (Nat.le_of_ble_eq_true rfl)⟩) ⟨fun a U g mk q => by obtain ⟨q0, q1, qK, qE⟩ := q; exact ⟨q0, q1, va_K.moved (u := U) (U := U.calling g mk a) (Vm.Alike.refl U.vm) qK, EVC.blind g mk a qE⟩, gH_rc hK hT hr_o0 shc_6 rfl, fun U hU hW => ⟨rfl, hU, va_K.moved hW.alike hK, hE.call hS hFc hU hW⟩⟩ rfl rfl hl.1 rfl (lv_room (Nat.le_of_ble_eq_true rfl)) dX3_runBank_64 ⟨(Nat.le_of_ble_eq_true rfl), (Nat.le_of_ble_eq_true rfl)⟩) hS (fun q _ h => hFc q h) hFc (fun u t H locs ht hvm hw61 hB _ _ hS => ?_)
    obtain ⟨hT, hF1⟩ := hB
    rw [ht] at hT hF1
    have hF := hF.more hF1 (by decide)
    try dsimp only at hw61
    exact W.vret hx hb hr (fun t ht hW => ⟨⟨(), rfl, (by exact trivial), by (try dsimp only); rw [ht]; exact ⟨hT, hF⟩⟩, hS.F ht⟩) hS.2.2 dX3_runBank_67
def w_c_runSluice : List Cond := .code yX3_runSluice cX3_runSluice 5 none :: (HAppend.hAppend (α := List Cond) (β := List Cond) (γ := List Cond) [.fieldLink RX3 21 "SeaLand$Lake" "ground" "LSeaLand$Ground;", .code yX2_levelOf cX2_levelOf 2 (some .int), .fieldLink RX2 15 "SeaLand$Ground" "height" "[I", .fieldLink RX2 25 "SeaLand$Ground" "water" "[I", .methodLink RX3 40 yX2_levelOf, .instanceMethod yX2_levelOf, .selects RX2 yX2_levelOf yX2_levelOf, .initialized RX2, .methodLink RX3 71 Lib.Math.min.name, .static Lib.Math.min.name, .initialized "java/lang/Math", .code Lib.Math.min.name Lib.Math.min.code 2 (some .int), .code yX2_giveToSea cX2_giveToSea 3 none, .fieldLink RX2 28 "SeaLand$Ground" "salt" "[I", .code yX2_saltGoingWith cX2_saltGoingWith 4 (some .int), .methodLink RX2 60 yX2_saltGoingWith, .instanceMethod yX2_saltGoingWith, .selects RX2 yX2_saltGoingWith yX2_saltGoingWith, .fieldLink RX2 64 "SeaLand$Ground" "wentOut" "I", .methodLink RX3 154 yX2_giveToSea, .instanceMethod yX2_giveToSea, .selects RX2 yX2_giveToSea yX2_giveToSea, .code yX10_moved cX10_moved 2 none, .fieldLink RX10 44 "SeaLand$Work" "latest" "I", .fieldLink RX10 47 "SeaLand$Work" "total" "I", .methodLink RX3 140 yX10_moved, .instanceMethod yX10_moved, .selects RX10 yX10_moved yX10_moved, .initialized RX10] bs2)
set_option maxHeartbeats 4000000 in
set_option maxRecDepth 100000 in
theorem c_runSluice (l : Launch) (dC : Nat → ClassId) (dI : Nat → Nat → Nat) (kA : Nat → ClassId) (adK adV : Nat → Nat) (G : gT) (H0 : Heap) (nC nS : Int) (o0 : Nat) (p0 : Nat) (p1 : Int32)  (hT : gH (dC, dI) kA (SHc nC nS) G H0) (hr_p0 : G p0 = some 13) (hr_o0 : G o0 = some 6) (hgC : 0 ≤ nC ∧ nC ≤ 40) (hgS : 0 ≤ nS ∧ nS ≤ 60) : Met l yX3_runSluice w_c_runSluice ({ frames := 2, cells := 0, slots := 0, locals := 45 }) (va_Pc [.ref o0, .ref p0, .int p1] (fun U => U.heap = H0 ∧ va_K (dC, dI) vwCl (tyl kA) U ∧ EVC adK adV (gA G H0.size) U U.heap)) (va_Qv (fun (u : Unit) => True) (fun (_ : Unit) (t : State) => gH (dC, dI) kA (SHc nC nS) G t.heap ∧ gF (dC, dI) SKc G ([(5, 13), (13, 10), (13, 11), (29, 0), (30, 0)] : List (Nat × Nat)) H0 t.heap) (gA G H0.size)) 0 0 (gA G H0.size) := by
  refine Met.ofW (cc := cX3_runSluice) (maxL := 5) (ret := none) (by decide) rfl ?_
  intro p e s m args below meth c s₁ B hml hv
  obtain ⟨rfl, hH0, hK, hE⟩ := hv
  have hx := B.exec
  have hb := B.bytes
  have hr := B.returns
  have hts := atoms_spec (ws := w_c_runSluice) B.pre
  have hown : s.vm.findClass RX3 = some m.cls := findClass_of_methodNamed B.named
  have hlocks := B.notSynchronized
  subst hH0
  generalize hAe : gA G s.heap.size = A at hE ⊢
  have hA : ∀ q : Nat, s.heap.size ≤ q → A q := fun q h => by rw [← hAe]; exact Or.inr h
  have hG := gA_of hAe
  have hS : va_S A s.heap s.heap [] := va_S.rf
  have hF : gF (dC, dI) SKc G ([(5, 13), (13, 10), (13, 11), (29, 0), (30, 0)] : List (Nat × Nat)) s.heap s.heap := gF.rf
  have hl := lv_entry ([.ref o0, .ref p0, .int p1]) (n := 5) (Nat.le_of_ble_eq_true rfl)
  rw [lg_entry_eq]
  generalize (lg_sl ([.ref o0, .ref p0, .int p1]) ++ List.replicate (5 - (lg_sl ([.ref o0, .ref p0, .int p1])).length) Slot.unset).toArray = ls at hl ⊢
  have hl : lv_has ls 5 [(0, .ref o0), (1, .ref p0), (2, .int p1)] := hl
  refine lv_aload_n hx hb dX3_runSluice_0 rfl (lv_at hl 0 rfl) ?_
  refine tw_get hx hb hts bF2_X3 hown hK hT hr_o0 shc_6 rfl 1 (by decide) (ht_at2 hts 0 rfl) (fun _ h9 => h9) dX3_runSluice_1 (fun v9 m1 h9 => ?_)
  obtain ⟨b2, rfl, hg3⟩ := h9 _ rfl
  refine lv_aload_n hx hb dX3_runSluice_4 rfl (lv_at hl 1 rfl) ?_
  refine tw_getN hx hb hts bF2_X10 hown hK hT hr_p0 shc_13 rfl 3 (by decide) (hE.nw 78 rfl) (fun _ h9 => h9) dX3_runSluice_5 (fun v9 m4 h9 => ?_)
  obtain ⟨x5, rfl, gx5, kx5⟩ := h9 _ rfl
  have hFc := gA_free hG hA hS
  refine va_calli (va_runV (As := [.int x5]) (rest := []) ⟨hx, hb, hml, hown, hts⟩ (c_levelOf l dC dI kA adK adV G s.heap nC nS b2 x5 hT hg3 (by have q8 := ti_all x5; omega) (by omega) (by omega)) (cwV 1 hts (goodIn_app (goodIn_r _ [5, 6, 7, 8] rfl (by decide +kernel)) (goodIn_ca (goodIn_r _ [2, 3, 4] rfl (by decide +kernel)) (bs2_in _ _))) rfl rfl rfl (by decide +kernel) ⟨(Nat.le_of_ble_eq_true rfl), (Nat.le_of_ble_eq_true rfl)⟩) ⟨fun a U g mk q => by obtain ⟨q0, q1, qK, qE⟩ := q; exact ⟨q0, q1, va_K.moved (u := U) (U := U.calling g mk a) (Vm.Alike.refl U.vm) qK, EVC.blind g mk a qE⟩, gH_rc hK hT hg3 shc_5 rfl, fun U hU hW => ⟨rfl, hU, va_K.moved hW.alike hK, hE.call hS hFc hU hW⟩⟩ rfl rfl hl.1 rfl (lv_room (Nat.le_of_ble_eq_true rfl)) dX3_runSluice_8 ⟨(Nat.le_of_ble_eq_true rfl), (Nat.le_of_ble_eq_true rfl)⟩) hS (fun q _ h => hFc q h) hFc (fun r6 u t H locs ht hvm hw7 hB _ _ hS => ?_)
  obtain ⟨hT, hF1⟩ := hB
  rw [ht] at hT hF1
  have m8 := (hF1.fld hr_o0 skc_6 (k := 1) (by decide) (by decide)).trans m1
  have m9 := (hF1.fld hr_p0 skc_13 (k := 3) (by decide) (by decide)).trans m4
  have hF := hF.more hF1 (by decide)
  try dsimp only at hw7
  refine lv_iload_n hx hb dX3_runSluice_11 rfl (lv_at hl 2 rfl) ?_
  refine lv_isub hx hb dX3_runSluice_12 ?_
  refine lv_topi (fun x10 ex10 => ?_)
  refine lv_istore_n (lv' := [(3, .int x10), (0, .ref o0), (1, .ref p0), (2, .int p1)]) hx hb dX3_runSluice_13 rfl hl (by decide) rfl (fun ls hl => ?_)
  refine lv_iconst (v := 0) hx hb dX3_runSluice_14 (by decide) ?_
  refine lv_istore (lv' := [(4, .int 0), (3, .int x10), (0, .ref o0), (1, .ref p0), (2, .int p1)]) hx hb dX3_runSluice_15 hl (by decide) rfl (fun ls hl => ?_)
  refine lv_aload_n hx hb dX3_runSluice_17 rfl (lv_at hl 3 rfl) ?_
  refine tw_getN hx hb hts bF2_X10 hown hK hT hr_p0 shc_13 rfl 9 (by decide) (hE.nw 85 rfl) (fun _ h9 => h9) dX3_runSluice_18 (fun v9 m11 h9 => ?_)
  obtain ⟨x12, rfl, gx12, kx12⟩ := h9 _ rfl
  have jn43 : ∀ (z38 : Int32), ((-2147483648 ≤ z38.toInt ∧ z38.toInt ≤ 536870911)) → ∀ (H : Heap) (locs : List Loc), gH (dC, dI) kA (SHc nC nS) G H → gF (dC, dI) SKc G ([(5, 13), (13, 10), (13, 11), (29, 0), (30, 0)] : List (Nat × Nat)) s.heap H → va_S A s.heap H locs → el H o0 (dI 6 1) = some (.ref b2) → el H p0 (dI 13 3) = some (.int x5) → el H p0 (dI 13 9) = some (.int x12) → ∀ ls : Array Slot, lv_has ls 5 [(4, .int z38), (3, .int x10), (0, .ref o0), (1, .ref p0), (2, .int p1)] → W p l e (headSpec w_c_runSluice ({ frames := 2, cells := 0, slots := 0, locals := 45 })).room s m #[.ref o0, .ref p0, .int p1] below meth c H locs 0 0 (MQ below (va_Qv (fun (u : Unit) => True) (fun (_ : Unit) (t : State) => gH (dC, dI) kA (SHc nC nS) G t.heap ∧ gF (dC, dI) SKc G ([(5, 13), (13, 10), (13, 11), (29, 0), (30, 0)] : List (Nat × Nat)) s.heap t.heap) A) #[.ref o0, .ref p0, .int p1] s 0 0 A) (F0 m 68 ls []) := by
    intro z38 h39 H locs hT hF hS m40 m41 m42 ls hl
    refine lv_aload_n hx hb dX3_runSluice_68 rfl (lv_at hl 3 rfl) ?_
    refine lv_iload hx hb dX3_runSluice_69 (lv_at hl 0 rfl) ?_
    have hFc := gA_free hG hA hS
    refine va_callv (va_runV (As := [.int z38]) (rest := []) ⟨hx, hb, hml, hown, hts⟩ (c_moved l dC dI kA adK adV G H nC nS p0 z38 hT hr_p0 (by omega) (by omega)) (cwV 1 hts (goodIn_app (goodIn_r _ [26, 27, 28, 29] rfl (by decide +kernel)) (goodIn_ca (goodIn_r _ [23, 24, 25] rfl (by decide +kernel)) (bs2_in _ _))) rfl rfl rfl (by decide +kernel) ⟨(Nat.le_of_ble_eq_true rfl), (Nat.le_of_ble_eq_true rfl)⟩) ⟨fun a U g mk q => by obtain ⟨q0, q1, qK, qE⟩ := q; exact ⟨q0, q1, va_K.moved (u := U) (U := U.calling g mk a) (Vm.Alike.refl U.vm) qK, EVC.blind g mk a qE⟩, gH_rc hK hT hr_p0 shc_13 rfl, fun U hU hW => ⟨rfl, hU, va_K.moved hW.alike hK, hE.call hS hFc hU hW⟩⟩ rfl rfl hl.1 rfl (lv_room (Nat.le_of_ble_eq_true rfl)) dX3_runSluice_71 ⟨(Nat.le_of_ble_eq_true rfl), (Nat.le_of_ble_eq_true rfl)⟩) hS (fun q _ h => hFc q h) hFc (fun u t H locs ht hvm hw45 hB _ _ hS => ?_)
    obtain ⟨hT, hF1⟩ := hB
    rw [ht] at hT hF1
    have hF := hF.more hF1 (by decide)
    try dsimp only at hw45
    exact W.vret hx hb hr (fun t ht hW => ⟨⟨(), rfl, (by exact trivial), by (try dsimp only); rw [ht]; exact ⟨hT, hF⟩⟩, hS.F ht⟩) hS.2.2 dX3_runSluice_74
  refine lv_if_eq (tgt := 68) hx hb dX3_runSluice_21 (by decide) (fun c49 => ?_) (fun c49 => ?_)
  · have t50 : x12.toInt = 0 := ti_eq c49 rfl (by decide)
    exact jn43 0 (rg_t (a := 0) (by decide) (by first | decide | omega) (by first | decide | omega)) _ _ hT hF hS m8 m9 m11 ls (lv_sub hl [0, 1, 2, 3, 4] rfl)
  · have t51 : x12.toInt ≠ 0 := ti_ne c49 rfl (by decide)
    refine lv_iload_n hx hb dX3_runSluice_24 rfl (lv_at hl 1 rfl) ?_
    have t52 : -2147483648 ≤ x10.toInt ∧ x10.toInt ≤ 2147483647 := ti_all x10
    refine lv_if_le (tgt := 68) hx hb dX3_runSluice_25 (by decide) (fun c53 => ?_) (fun c53 => ?_)
    · have t54 : x10.toInt ≤ 0 := ti_le c53 rfl (by decide)
      exact jn43 0 (rg_t (a := 0) (by decide) (by first | decide | omega) (by first | decide | omega)) _ _ hT hF hS m8 m9 m11 ls (lv_sub hl [0, 1, 2, 3, 4] rfl)
    · have t55 : 0 < x10.toInt := ti_nle c53 rfl (by decide)
      refine lv_iload_n hx hb dX3_runSluice_28 rfl (lv_at hl 1 rfl) ?_
      refine lv_iconst (v := 4) hx hb dX3_runSluice_29 (by decide) ?_
      refine lv_idiv hx hb dX3_runSluice_30 (by decide) ?_
      refine lv_topi (fun x56 ex56 => ?_)
      have t57 : x56.toInt = x10.toInt / 4 := ti_div ex56 rfl (by decide) (by omega) (by omega)
      refine lv_aload_n hx hb dX3_runSluice_31 rfl (lv_at hl 2 rfl) ?_
      refine tw_getM (v := .ref b2) hx hb hts bF2_X3 hown hK hT hr_o0 shc_6 rfl 1 (by decide) (ht_at2 hts 0 rfl) (fun _ h9 => h9) m8 dX3_runSluice_32 ?_
      refine tw_getN hx hb hts bF2_X2 hown hK hT hg3 shc_5 rfl 4 (by decide) (hE.nw 84 rfl) (fun _ h9 => h9) dX3_runSluice_35 (fun v9 m58 h9 => ?_)
      obtain ⟨b59, rfl, hg60⟩ := h9 _ rfl
      refine lv_aload_n hx hb dX3_runSluice_38 rfl (lv_at hl 3 rfl) ?_
      refine tw_getNM (v := .int x5) hx hb hts bF2_X10 hown hK hT hr_p0 shc_13 rfl 3 (by decide) (hE.nw 78 rfl) (fun _ h9 => h9) m9 dX3_runSluice_39 ?_
      refine tw_iald (i := x5) hx hb hK hT hg60 shc_29 rfl (vin_t (a := x5.toInt) rfl (by omega) (by omega)) dX3_runSluice_42 (fun v9 m61 h9 => ?_)
      obtain ⟨x62, rfl, gx62, kx62⟩ := h9
      refine lv_aload_n hx hb dX3_runSluice_43 rfl (lv_at hl 3 rfl) ?_
      refine tw_getN hx hb hts bF2_X10 hown hK hT hr_p0 shc_13 rfl 5 (by decide) (hE.nw 82 rfl) (fun _ h9 => h9) dX3_runSluice_44 (fun v9 m63 h9 => ?_)
      obtain ⟨x64, rfl, gx64, kx64⟩ := h9 _ rfl
      refine va_mmin hx hb (hml.trans hl.1.symm) hown (ht_at2 hts 8 rfl) (ht_at2 hts 9 rfl) (ht_at2 hts 10 rfl) (ht_at2 hts 11 rfl) (Nat.le_of_ble_eq_true rfl) (Nat.le_of_ble_eq_true rfl) (Nat.le_of_ble_eq_true rfl) (Nat.le_of_ble_eq_true rfl) dX3_runSluice_47 ?_
      refine lv_topi (fun x65 ex65 => ?_)
      have t66 : x65.toInt ≤ x62.toInt ∧ x65.toInt ≤ x64.toInt ∧ (x65.toInt = x62.toInt ∨ x65.toInt = x64.toInt) := mn_f ex65 rfl rfl
      refine va_mmin hx hb (hml.trans hl.1.symm) hown (ht_at2 hts 8 rfl) (ht_at2 hts 9 rfl) (ht_at2 hts 10 rfl) (ht_at2 hts 11 rfl) (Nat.le_of_ble_eq_true rfl) (Nat.le_of_ble_eq_true rfl) (Nat.le_of_ble_eq_true rfl) (Nat.le_of_ble_eq_true rfl) dX3_runSluice_50 ?_
      refine lv_topi (fun x67 ex67 => ?_)
      have t68 : x67.toInt ≤ x56.toInt ∧ x67.toInt ≤ x65.toInt ∧ (x67.toInt = x56.toInt ∨ x67.toInt = x65.toInt) := mn_f ex67 rfl rfl
      refine lv_istore (lv' := [(4, .int x67), (3, .int x10), (0, .ref o0), (1, .ref p0), (2, .int p1)]) hx hb dX3_runSluice_53 hl (by decide) rfl (fun ls hl => ?_)
      refine lv_aload_n hx hb dX3_runSluice_55 rfl (lv_at hl 2 rfl) ?_
      refine tw_getM (v := .ref b2) hx hb hts bF2_X3 hown hK hT hr_o0 shc_6 rfl 1 (by decide) (ht_at2 hts 0 rfl) (fun _ h9 => h9) m8 dX3_runSluice_56 ?_
      refine lv_aload_n hx hb dX3_runSluice_59 rfl (lv_at hl 3 rfl) ?_
      refine tw_getNM (v := .int x5) hx hb hts bF2_X10 hown hK hT hr_p0 shc_13 rfl 3 (by decide) (hE.nw 78 rfl) (fun _ h9 => h9) m9 dX3_runSluice_60 ?_
      refine lv_iload hx hb dX3_runSluice_63 (lv_at hl 0 rfl) ?_
      have hFc := gA_free hG hA hS
      refine va_callv (va_runV (As := [.int x5, .int x67]) (rest := []) ⟨hx, hb, hml, hown, hts⟩ (c_giveToSea l dC dI kA adK adV G H nC nS b2 x5 x67 hT hg3 (by have q8 := ti_all x5; omega) (by omega) (by omega)) (cwV 2 hts (goodIn_app (goodIn_r _ [20, 21, 22, 8] rfl (by decide +kernel)) (goodIn_ca (goodIn_r _ [13, 14, 15, 4, 16, 17, 18, 8, 19] rfl (by decide +kernel)) (bs2_in _ _))) rfl rfl rfl (by decide +kernel) ⟨(Nat.le_of_ble_eq_true rfl), (Nat.le_of_ble_eq_true rfl)⟩) ⟨fun a U g mk q => by obtain ⟨q0, q1, qK, qE⟩ := q; exact ⟨q0, q1, va_K.moved (u := U) (U := U.calling g mk a) (Vm.Alike.refl U.vm) qK, EVC.blind g mk a qE⟩, gH_rc hK hT hg3 shc_5 rfl, fun U hU hW => ⟨rfl, hU, va_K.moved hW.alike hK, hE.call hS hFc hU hW⟩⟩ rfl rfl hl.1 rfl (lv_room (Nat.le_of_ble_eq_true rfl)) dX3_runSluice_65 ⟨(Nat.le_of_ble_eq_true rfl), (Nat.le_of_ble_eq_true rfl)⟩) hS (fun q _ h => hFc q h) hFc (fun u t H locs ht hvm hw70 hB _ _ hS => ?_)
      obtain ⟨hT, hF1⟩ := hB
      rw [ht] at hT hF1
      have m71 := (hF1.fld hr_o0 skc_6 (k := 1) (by decide) (by decide)).trans m8
      have m72 := (hF1.fld hr_p0 skc_13 (k := 3) (by decide) (by decide)).trans m9
      have m73 := (hF1.fld hr_p0 skc_13 (k := 9) (by decide) (by decide)).trans m11
      have hF := hF.more hF1 (by decide)
      try dsimp only at hw70
      exact jn43 x67 (by have q8 := ti_all x67; omega) _ _ hT hF hS m71 m72 m73 ls (lv_sub hl [0, 1, 2, 3, 4] rfl)
def w_c_liftBy : List Cond := .code yX3_liftBy cX3_liftBy 4 none :: (HAppend.hAppend (α := List Cond) (β := List Cond) (γ := List Cond) [.fieldLink RX3 21 "SeaLand$Lake" "ground" "LSeaLand$Ground;", .methodLink RX3 71 Lib.Math.min.name, .static Lib.Math.min.name, .initialized "java/lang/Math", .code Lib.Math.min.name Lib.Math.min.code 2 (some .int), .code yX2_giveTo cX2_giveTo 5 none, .fieldLink RX2 9 "SeaLand$Ground" "isLand" "[Z", .code yX2_saltGoingWith cX2_saltGoingWith 4 (some .int), .fieldLink RX2 25 "SeaLand$Ground" "water" "[I", .fieldLink RX2 28 "SeaLand$Ground" "salt" "[I", .methodLink RX2 60 yX2_saltGoingWith, .instanceMethod yX2_saltGoingWith, .selects RX2 yX2_saltGoingWith yX2_saltGoingWith, .initialized RX2, .code yX2_giveToSea cX2_giveToSea 3 none, .fieldLink RX2 64 "SeaLand$Ground" "wentOut" "I", .methodLink RX2 67 yX2_giveToSea, .instanceMethod yX2_giveToSea, .selects RX2 yX2_giveToSea yX2_giveToSea, .methodLink RX3 171 yX2_giveTo, .instanceMethod yX2_giveTo, .selects RX2 yX2_giveTo yX2_giveTo, .code yX10_moved cX10_moved 2 none, .fieldLink RX10 44 "SeaLand$Work" "latest" "I", .fieldLink RX10 47 "SeaLand$Work" "total" "I", .methodLink RX3 140 yX10_moved, .instanceMethod yX10_moved, .selects RX10 yX10_moved yX10_moved, .initialized RX10] bs2)
set_option maxHeartbeats 4000000 in
set_option maxRecDepth 100000 in
theorem c_liftBy (l : Launch) (dC : Nat → ClassId) (dI : Nat → Nat → Nat) (kA : Nat → ClassId) (adK adV : Nat → Nat) (G : gT) (H0 : Heap) (nC nS : Int) (o0 : Nat) (p0 : Nat) (p1 : Int32)  (hT : gH (dC, dI) kA (SHc nC nS) G H0) (hr_p0 : G p0 = some 13) (hr_o0 : G o0 = some 6) (hgC : 0 ≤ nC ∧ nC ≤ 40) (hgS : 0 ≤ nS ∧ nS ≤ 60) : Met l yX3_liftBy w_c_liftBy ({ frames := 3, cells := 0, slots := 0, locals := 69 }) (va_Pc [.ref o0, .ref p0, .int p1] (fun U => U.heap = H0 ∧ va_K (dC, dI) vwCl (tyl kA) U ∧ EVC adK adV (gA G H0.size) U U.heap)) (va_Qv (fun (u : Unit) => True) (fun (_ : Unit) (t : State) => gH (dC, dI) kA (SHc nC nS) G t.heap ∧ gF (dC, dI) SKc G ([(5, 13), (13, 10), (13, 11), (29, 0), (30, 0)] : List (Nat × Nat)) H0 t.heap) (gA G H0.size)) 0 0 (gA G H0.size) := by
  refine Met.ofW (cc := cX3_liftBy) (maxL := 4) (ret := none) (by decide) rfl ?_
  intro p e s m args below meth c s₁ B hml hv
  obtain ⟨rfl, hH0, hK, hE⟩ := hv
  have hx := B.exec
  have hb := B.bytes
  have hr := B.returns
  have hts := atoms_spec (ws := w_c_liftBy) B.pre
  have hown : s.vm.findClass RX3 = some m.cls := findClass_of_methodNamed B.named
  have hlocks := B.notSynchronized
  subst hH0
  generalize hAe : gA G s.heap.size = A at hE ⊢
  have hA : ∀ q : Nat, s.heap.size ≤ q → A q := fun q h => by rw [← hAe]; exact Or.inr h
  have hG := gA_of hAe
  have hS : va_S A s.heap s.heap [] := va_S.rf
  have hF : gF (dC, dI) SKc G ([(5, 13), (13, 10), (13, 11), (29, 0), (30, 0)] : List (Nat × Nat)) s.heap s.heap := gF.rf
  have hl := lv_entry ([.ref o0, .ref p0, .int p1]) (n := 4) (Nat.le_of_ble_eq_true rfl)
  rw [lg_entry_eq]
  generalize (lg_sl ([.ref o0, .ref p0, .int p1]) ++ List.replicate (4 - (lg_sl ([.ref o0, .ref p0, .int p1])).length) Slot.unset).toArray = ls at hl ⊢
  have hl : lv_has ls 4 [(0, .ref o0), (1, .ref p0), (2, .int p1)] := hl
  refine lv_iload_n hx hb dX3_liftBy_0 rfl (lv_at hl 2 rfl) ?_
  refine lv_aload_n hx hb dX3_liftBy_1 rfl (lv_at hl 0 rfl) ?_
  refine tw_get hx hb hts bF2_X3 hown hK hT hr_o0 shc_6 rfl 1 (by decide) (ht_at2 hts 0 rfl) (fun _ h9 => h9) dX3_liftBy_2 (fun v9 m1 h9 => ?_)
  obtain ⟨b2, rfl, hg3⟩ := h9 _ rfl
  refine tw_getN hx hb hts bF2_X2 hown hK hT hg3 shc_5 rfl 4 (by decide) (hE.nw 84 rfl) (fun _ h9 => h9) dX3_liftBy_5 (fun v9 m4 h9 => ?_)
  obtain ⟨b5, rfl, hg6⟩ := h9 _ rfl
  refine lv_aload_n hx hb dX3_liftBy_8 rfl (lv_at hl 1 rfl) ?_
  refine tw_getN hx hb hts bF2_X10 hown hK hT hr_p0 shc_13 rfl 3 (by decide) (hE.nw 78 rfl) (fun _ h9 => h9) dX3_liftBy_9 (fun v9 m7 h9 => ?_)
  obtain ⟨x8, rfl, gx8, kx8⟩ := h9 _ rfl
  refine tw_iald (i := x8) hx hb hK hT hg6 shc_29 rfl (vin_t (a := x8.toInt) rfl (by omega) (by omega)) dX3_liftBy_12 (fun v9 m9 h9 => ?_)
  obtain ⟨x10, rfl, gx10, kx10⟩ := h9
  refine va_mmin hx hb (hml.trans hl.1.symm) hown (ht_at2 hts 1 rfl) (ht_at2 hts 2 rfl) (ht_at2 hts 3 rfl) (ht_at2 hts 4 rfl) (Nat.le_of_ble_eq_true rfl) (Nat.le_of_ble_eq_true rfl) (Nat.le_of_ble_eq_true rfl) (Nat.le_of_ble_eq_true rfl) dX3_liftBy_13 ?_
  refine lv_topi (fun x11 ex11 => ?_)
  have t12 : x11.toInt ≤ p1.toInt ∧ x11.toInt ≤ x10.toInt ∧ (x11.toInt = p1.toInt ∨ x11.toInt = x10.toInt) := mn_f ex11 rfl rfl
  refine lv_istore_n (lv' := [(3, .int x11), (0, .ref o0), (1, .ref p0), (2, .int p1)]) hx hb dX3_liftBy_16 rfl hl (by decide) rfl (fun ls hl => ?_)
  refine lv_aload_n hx hb dX3_liftBy_17 rfl (lv_at hl 1 rfl) ?_
  refine tw_getM (v := .ref b2) hx hb hts bF2_X3 hown hK hT hr_o0 shc_6 rfl 1 (by decide) (ht_at2 hts 0 rfl) (fun _ h9 => h9) m1 dX3_liftBy_18 ?_
  refine lv_aload_n hx hb dX3_liftBy_21 rfl (lv_at hl 2 rfl) ?_
  refine tw_getNM (v := .int x8) hx hb hts bF2_X10 hown hK hT hr_p0 shc_13 rfl 3 (by decide) (hE.nw 78 rfl) (fun _ h9 => h9) m7 dX3_liftBy_22 ?_
  refine lv_aload_n hx hb dX3_liftBy_25 rfl (lv_at hl 2 rfl) ?_
  refine tw_getN hx hb hts bF2_X10 hown hK hT hr_p0 shc_13 rfl 4 (by decide) (hE.nw 83 rfl) (fun _ h9 => h9) dX3_liftBy_26 (fun v9 m13 h9 => ?_)
  obtain ⟨x14, rfl, gx14, kx14⟩ := h9 _ rfl
  refine lv_iload_n hx hb dX3_liftBy_29 rfl (lv_at hl 0 rfl) ?_
  have hFc := gA_free hG hA hS
  refine va_callv (va_runV (As := [.int x8, .int x14, .int x11]) (rest := []) ⟨hx, hb, hml, hown, hts⟩ (c_giveTo l dC dI kA adK adV G s.heap nC nS b2 x8 x14 x11 hT hg3 (by have q8 := ti_all x8; omega) (by have q8 := ti_all x14; omega) (by omega) (by omega)) (cwV 3 hts (goodIn_app (goodIn_r _ [20, 21, 22, 14] rfl (by decide +kernel)) (goodIn_ca (goodIn_r _ [6, 7, 8, 9, 10, 11, 12, 13, 14, 15, 16, 17, 18, 19] rfl (by decide +kernel)) (bs2_in _ _))) rfl rfl rfl (by decide +kernel) ⟨(Nat.le_of_ble_eq_true rfl), (Nat.le_of_ble_eq_true rfl)⟩) ⟨fun a U g mk q => by obtain ⟨q0, q1, qK, qE⟩ := q; exact ⟨q0, q1, va_K.moved (u := U) (U := U.calling g mk a) (Vm.Alike.refl U.vm) qK, EVC.blind g mk a qE⟩, gH_rc hK hT hg3 shc_5 rfl, fun U hU hW => ⟨rfl, hU, va_K.moved hW.alike hK, hE.call hS hFc hU hW⟩⟩ rfl rfl hl.1 rfl (lv_room (Nat.le_of_ble_eq_true rfl)) dX3_liftBy_30 ⟨(Nat.le_of_ble_eq_true rfl), (Nat.le_of_ble_eq_true rfl)⟩) hS (fun q _ h => hFc q h) hFc (fun u t H locs ht hvm hw16 hB _ _ hS => ?_)
  obtain ⟨hT, hF1⟩ := hB
  rw [ht] at hT hF1
  have hF := hF.more hF1 (by decide)
  try dsimp only at hw16
  refine lv_aload_n hx hb dX3_liftBy_33 rfl (lv_at hl 2 rfl) ?_
  refine lv_iload_n hx hb dX3_liftBy_34 rfl (lv_at hl 0 rfl) ?_
  have hFc := gA_free hG hA hS
  refine va_callv (va_runV (As := [.int x11]) (rest := []) ⟨hx, hb, hml, hown, hts⟩ (c_moved l dC dI kA adK adV G H nC nS p0 x11 hT hr_p0 (by omega) (by omega)) (cwV 1 hts (goodIn_app (goodIn_r _ [26, 27, 28, 29] rfl (by decide +kernel)) (goodIn_ca (goodIn_r _ [23, 24, 25] rfl (by decide +kernel)) (bs2_in _ _))) rfl rfl rfl (by decide +kernel) ⟨(Nat.le_of_ble_eq_true rfl), (Nat.le_of_ble_eq_true rfl)⟩) ⟨fun a U g mk q => by obtain ⟨q0, q1, qK, qE⟩ := q; exact ⟨q0, q1, va_K.moved (u := U) (U := U.calling g mk a) (Vm.Alike.refl U.vm) qK, EVC.blind g mk a qE⟩, gH_rc hK hT hr_p0 shc_13 rfl, fun U hU hW => ⟨rfl, hU, va_K.moved hW.alike hK, hE.call hS hFc hU hW⟩⟩ rfl rfl hl.1 rfl (lv_room (Nat.le_of_ble_eq_true rfl)) dX3_liftBy_35 ⟨(Nat.le_of_ble_eq_true rfl), (Nat.le_of_ble_eq_true rfl)⟩) hS (fun q _ h => hFc q h) hFc (fun u t H locs ht hvm hw23 hB _ _ hS => ?_)
  obtain ⟨hT, hF1⟩ := hB
  rw [ht] at hT hF1
  have hF := hF.more hF1 (by decide)
  try dsimp only at hw23
  exact W.vret hx hb hr (fun t ht hW => ⟨⟨(), rfl, (by exact trivial), by (try dsimp only); rw [ht]; exact ⟨hT, hF⟩⟩, hS.F ht⟩) hS.2.2 dX3_liftBy_38
def w_c_runEngine : List Cond := .code yX3_runEngine cX3_runEngine 3 none :: (HAppend.hAppend (α := List Cond) (β := List Cond) (γ := List Cond) [.code yX3_liftBy cX3_liftBy 4 none, .fieldLink RX3 21 "SeaLand$Lake" "ground" "LSeaLand$Ground;", .methodLink RX3 71 Lib.Math.min.name, .static Lib.Math.min.name, .initialized "java/lang/Math", .code Lib.Math.min.name Lib.Math.min.code 2 (some .int), .code yX2_giveTo cX2_giveTo 5 none, .fieldLink RX2 9 "SeaLand$Ground" "isLand" "[Z", .code yX2_saltGoingWith cX2_saltGoingWith 4 (some .int), .fieldLink RX2 25 "SeaLand$Ground" "water" "[I", .fieldLink RX2 28 "SeaLand$Ground" "salt" "[I", .methodLink RX2 60 yX2_saltGoingWith, .instanceMethod yX2_saltGoingWith, .selects RX2 yX2_saltGoingWith yX2_saltGoingWith, .initialized RX2, .code yX2_giveToSea cX2_giveToSea 3 none, .fieldLink RX2 64 "SeaLand$Ground" "wentOut" "I", .methodLink RX2 67 yX2_giveToSea, .instanceMethod yX2_giveToSea, .selects RX2 yX2_giveToSea yX2_giveToSea, .methodLink RX3 171 yX2_giveTo, .instanceMethod yX2_giveTo, .selects RX2 yX2_giveTo yX2_giveTo, .code yX10_moved cX10_moved 2 none, .fieldLink RX10 44 "SeaLand$Work" "latest" "I", .fieldLink RX10 47 "SeaLand$Work" "total" "I", .methodLink RX3 140 yX10_moved, .instanceMethod yX10_moved, .selects RX10 yX10_moved yX10_moved, .initialized RX10, .methodLink RX3 161 yX3_liftBy, .instanceMethod yX3_liftBy, .selects RX3 yX3_liftBy yX3_liftBy, .initialized RX3] bs2)
set_option maxHeartbeats 4000000 in
set_option maxRecDepth 100000 in
theorem c_runEngine (l : Launch) (dC : Nat → ClassId) (dI : Nat → Nat → Nat) (kA : Nat → ClassId) (adK adV : Nat → Nat) (G : gT) (H0 : Heap) (nC nS : Int) (o0 : Nat) (p0 : Nat)  (hT : gH (dC, dI) kA (SHc nC nS) G H0) (hr_p0 : G p0 = some 13) (hr_o0 : G o0 = some 6) (hgC : 0 ≤ nC ∧ nC ≤ 40) (hgS : 0 ≤ nS ∧ nS ≤ 60) : Met l yX3_runEngine w_c_runEngine ({ frames := 4, cells := 0, slots := 0, locals := 92 }) (va_Pc [.ref o0, .ref p0] (fun U => U.heap = H0 ∧ va_K (dC, dI) vwCl (tyl kA) U ∧ EVC adK adV (gA G H0.size) U U.heap)) (va_Qv (fun (u : Unit) => True) (fun (_ : Unit) (t : State) => gH (dC, dI) kA (SHc nC nS) G t.heap ∧ gF (dC, dI) SKc G ([(5, 13), (13, 8), (13, 10), (13, 11), (29, 0), (30, 0)] : List (Nat × Nat)) H0 t.heap) (gA G H0.size)) 0 0 (gA G H0.size) := by
  refine Met.ofW (cc := cX3_runEngine) (maxL := 3) (ret := none) (by decide) rfl ?_
  intro p e s m args below meth c s₁ B hml hv
  obtain ⟨rfl, hH0, hK, hE⟩ := hv
  have hx := B.exec
  have hb := B.bytes
  have hr := B.returns
  have hts := atoms_spec (ws := w_c_runEngine) B.pre
  have hown : s.vm.findClass RX3 = some m.cls := findClass_of_methodNamed B.named
  have hlocks := B.notSynchronized
  subst hH0
  generalize hAe : gA G s.heap.size = A at hE ⊢
  have hA : ∀ q : Nat, s.heap.size ≤ q → A q := fun q h => by rw [← hAe]; exact Or.inr h
  have hG := gA_of hAe
  have hS : va_S A s.heap s.heap [] := va_S.rf
  have hF : gF (dC, dI) SKc G ([(5, 13), (13, 8), (13, 10), (13, 11), (29, 0), (30, 0)] : List (Nat × Nat)) s.heap s.heap := gF.rf
  have hl := lv_entry ([.ref o0, .ref p0]) (n := 3) (Nat.le_of_ble_eq_true rfl)
  rw [lg_entry_eq]
  generalize (lg_sl ([.ref o0, .ref p0]) ++ List.replicate (3 - (lg_sl ([.ref o0, .ref p0])).length) Slot.unset).toArray = ls at hl ⊢
  have hl : lv_has ls 3 [(0, .ref o0), (1, .ref p0)] := hl
  refine lv_aload_n hx hb dX3_runEngine_0 rfl (lv_at hl 1 rfl) ?_
  refine tw_getN hx hb hts bF2_X10 hown hK hT hr_p0 shc_13 rfl 9 (by decide) (hE.nw 85 rfl) (fun _ h9 => h9) dX3_runEngine_1 (fun v9 m1 h9 => ?_)
  obtain ⟨x2, rfl, gx2, kx2⟩ := h9 _ rfl
  have jn12 : ∀ (z9 : Int32), ((0 ≤ z9.toInt ∧ z9.toInt ≤ 1)) → ∀ (H : Heap) (locs : List Loc), gH (dC, dI) kA (SHc nC nS) G H → gF (dC, dI) SKc G ([(5, 13), (13, 8), (13, 10), (13, 11), (29, 0), (30, 0)] : List (Nat × Nat)) s.heap H → va_S A s.heap H locs → el H p0 (dI 13 9) = some (.int x2) → ∀ ls : Array Slot, lv_has ls 3 [(0, .ref o0), (1, .ref p0)] → W p l e (headSpec w_c_runEngine ({ frames := 4, cells := 0, slots := 0, locals := 92 })).room s m #[.ref o0, .ref p0] below meth c H locs 0 0 (MQ below (va_Qv (fun (u : Unit) => True) (fun (_ : Unit) (t : State) => gH (dC, dI) kA (SHc nC nS) G t.heap ∧ gF (dC, dI) SKc G ([(5, 13), (13, 8), (13, 10), (13, 11), (29, 0), (30, 0)] : List (Nat × Nat)) s.heap t.heap) A) #[.ref o0, .ref p0] s 0 0 A) (F0 m 19 ls [.int z9]) := by
    intro z9 h10 H locs hT hF hS m11 ls hl
    refine lv_istore_n (lv' := [(2, .int z9), (0, .ref o0), (1, .ref p0)]) hx hb dX3_runEngine_19 rfl hl (by decide) rfl (fun ls hl => ?_)
    refine lv_aload_n hx hb dX3_runEngine_20 rfl (lv_at hl 2 rfl) ?_
    refine lv_dup hx hb dX3_runEngine_21 rfl ?_
    refine tw_getN hx hb hts bF2_X10 hown hK hT hr_p0 shc_13 rfl 8 (by decide) (hE.nw 86 rfl) (fun _ h9 => h9) dX3_runEngine_22 (fun v9 m13 h9 => ?_)
    obtain ⟨x14, rfl, gx14, kx14⟩ := h9 _ rfl
    refine lv_iload_n hx hb dX3_runEngine_25 rfl (lv_at hl 0 rfl) ?_
    have jn19 : ∀ (z15 : Int32), ((0 ≤ z15.toInt ∧ z15.toInt ≤ 1)) → ∀ (H : Heap) (locs : List Loc), gH (dC, dI) kA (SHc nC nS) G H → gF (dC, dI) SKc G ([(5, 13), (13, 8), (13, 10), (13, 11), (29, 0), (30, 0)] : List (Nat × Nat)) s.heap H → va_S A s.heap H locs → el H p0 (dI 13 9) = some (.int x2) → el H p0 (dI 13 8) = some (.int x14) → ∀ ls : Array Slot, lv_has ls 3 [(2, .int z9), (0, .ref o0), (1, .ref p0)] → W p l e (headSpec w_c_runEngine ({ frames := 4, cells := 0, slots := 0, locals := 92 })).room s m #[.ref o0, .ref p0] below meth c H locs 0 0 (MQ below (va_Qv (fun (u : Unit) => True) (fun (_ : Unit) (t : State) => gH (dC, dI) kA (SHc nC nS) G t.heap ∧ gF (dC, dI) SKc G ([(5, 13), (13, 8), (13, 10), (13, 11), (29, 0), (30, 0)] : List (Nat × Nat)) s.heap t.heap) A) #[.ref o0, .ref p0] s 0 0 A) (F0 m 34 ls [.int z15, .int x14, .ref p0]) := by
      intro z15 h16 H locs hT hF hS m17 m18 ls hl
      refine lv_isub hx hb dX3_runEngine_34 ?_
      refine lv_topi (fun x20 ex20 => ?_)
      refine tw_putN (v := .int x20) (ty := .int) hx hb hts bF2_X10 tyX10 tyX10_ok nmX10 hown hK hT hG hS hr_p0 shc_13 rfl 8 (by decide) (hE.nw 86 rfl) (fun _ h9 => h9) rfl (by decide +kernel) rfl rfl (gl_at rfl (gi_all _)) dX3_runEngine_35 (fun H locs hT oq m21 oj hS => ?_)
      have hF := hF.put hr_p0 skc_13 oq oj (by decide)
      have m22 := (oj 9 (by decide) (by decide)).trans m17
      refine lv_aload_n hx hb dX3_runEngine_38 rfl (lv_at hl 1 rfl) ?_
      refine lv_aload_n hx hb dX3_runEngine_39 rfl (lv_at hl 2 rfl) ?_
      refine lv_iload_n hx hb dX3_runEngine_40 rfl (lv_at hl 0 rfl) ?_
      have jn28 : ∀ (z25 : Int32), ∀ (H : Heap) (locs : List Loc), gH (dC, dI) kA (SHc nC nS) G H → gF (dC, dI) SKc G ([(5, 13), (13, 8), (13, 10), (13, 11), (29, 0), (30, 0)] : List (Nat × Nat)) s.heap H → va_S A s.heap H locs → el H p0 (dI 13 9) = some (.int x2) → el H p0 (dI 13 8) = some (.int x20) → ∀ ls : Array Slot, lv_has ls 3 [(2, .int z9), (0, .ref o0), (1, .ref p0)] → W p l e (headSpec w_c_runEngine ({ frames := 4, cells := 0, slots := 0, locals := 92 })).room s m #[.ref o0, .ref p0] below meth c H locs 0 0 (MQ below (va_Qv (fun (u : Unit) => True) (fun (_ : Unit) (t : State) => gH (dC, dI) kA (SHc nC nS) G t.heap ∧ gF (dC, dI) SKc G ([(5, 13), (13, 8), (13, 10), (13, 11), (29, 0), (30, 0)] : List (Nat × Nat)) s.heap t.heap) A) #[.ref o0, .ref p0] s 0 0 A) (F0 m 52 ls [.int z25, .ref p0, .ref o0]) := by
        intro z25 H locs hT hF hS m26 m27 ls hl
        have hFc := gA_free hG hA hS
        refine va_callv (va_runV (As := [.ref p0, .int z25]) (rest := []) ⟨hx, hb, hml, hown, hts⟩ (c_liftBy l dC dI kA adK adV G H nC nS o0 p0 z25 hT hr_p0 hr_o0 (by omega) (by omega)) (cwV 2 hts (goodIn_app (goodIn_r _ [31, 32, 33, 34] rfl (by decide +kernel)) (goodIn_ca (goodIn_r _ [1, 2, 3, 4, 5, 6, 7, 8, 9, 10, 11, 12, 13, 14, 15, 16, 17, 18, 19, 20, 21, 22, 23, 24, 25, 26, 27, 28, 29, 30] rfl (by decide +kernel)) (bs2_in _ _))) rfl rfl rfl (by decide +kernel) ⟨(Nat.le_of_ble_eq_true rfl), (Nat.le_of_ble_eq_true rfl)⟩) ⟨fun a U g mk q => by obtain ⟨q0, q1, qK, qE⟩ := q; exact ⟨q0, q1, va_K.moved (u := U) (U := U.calling g mk a) (Vm.Alike.refl U.vm) qK, EVC.blind g mk a qE⟩, gH_rc hK hT hr_o0 shc_6 rfl, fun U hU hW => ⟨rfl, hU, va_K.moved hW.alike hK, hE.call hS hFc hU hW⟩⟩ rfl rfl hl.1 rfl (lv_room (Nat.le_of_ble_eq_true rfl)) dX3_runEngine_52 ⟨(Nat.le_of_ble_eq_true rfl), (Nat.le_of_ble_eq_true rfl)⟩) hS (fun q _ h => hFc q h) hFc (fun u t H locs ht hvm hw30 hB _ _ hS => ?_)
        obtain ⟨hT, hF1⟩ := hB
        rw [ht] at hT hF1
        have hF := hF.more hF1 (by decide)
        try dsimp only at hw30
        exact W.vret hx hb hr (fun t ht hW => ⟨⟨(), rfl, (by exact trivial), by (try dsimp only); rw [ht]; exact ⟨hT, hF⟩⟩, hS.F ht⟩) hS.2.2 dX3_runEngine_55
      refine lv_if_eq (tgt := 51) hx hb dX3_runEngine_41 (by decide) (fun c33 => ?_) (fun c33 => ?_)
      · have t34 : z9.toInt = 0 := ti_eq c33 rfl (by decide)
        refine lv_iconst (v := 0) hx hb dX3_runEngine_51 (by decide) ?_
        exact jn28 0 _ _ hT hF hS m22 m21 ls (lv_sub hl [0, 1, 2] rfl)
      · have t35 : z9.toInt ≠ 0 := ti_ne c33 rfl (by decide)
        refine lv_aload_n hx hb dX3_runEngine_44 rfl (lv_at hl 2 rfl) ?_
        refine tw_getN hx hb hts bF2_X10 hown hK hT hr_p0 shc_13 rfl 5 (by decide) (hE.nw 82 rfl) (fun _ h9 => h9) dX3_runEngine_45 (fun v9 m36 h9 => ?_)
        obtain ⟨x37, rfl, gx37, kx37⟩ := h9 _ rfl
        refine lv_goto (tgt := 52) hx hb dX3_runEngine_48 (by decide) ?_
        exact jn28 x37 _ _ hT hF hS m22 m21 ls (lv_sub hl [0, 1, 2] rfl)
    refine lv_if_eq (tgt := 33) hx hb dX3_runEngine_26 (by decide) (fun c38 => ?_) (fun c38 => ?_)
    · have t39 : z9.toInt = 0 := ti_eq c38 rfl (by decide)
      refine lv_iconst (v := 0) hx hb dX3_runEngine_33 (by decide) ?_
      exact jn19 0 (rg_t (a := 0) (by decide) (by first | decide | omega) (by first | decide | omega)) _ _ hT hF hS m11 m13 ls (lv_sub hl [0, 1, 2] rfl)
    · have t40 : z9.toInt ≠ 0 := ti_ne c38 rfl (by decide)
      refine lv_iconst (v := 1) hx hb dX3_runEngine_29 (by decide) ?_
      refine lv_goto (tgt := 34) hx hb dX3_runEngine_30 (by decide) ?_
      exact jn19 1 (rg_t (a := 1) (by decide) (by first | decide | omega) (by first | decide | omega)) _ _ hT hF hS m11 m13 ls (lv_sub hl [0, 1, 2] rfl)
  refine lv_if_eq (tgt := 18) hx hb dX3_runEngine_4 (by decide) (fun c41 => ?_) (fun c41 => ?_)
  · have t42 : x2.toInt = 0 := ti_eq c41 rfl (by decide)
    refine lv_iconst (v := 0) hx hb dX3_runEngine_18 (by decide) ?_
    exact jn12 0 (rg_t (a := 0) (by decide) (by first | decide | omega) (by first | decide | omega)) _ _ hT hF hS m1 ls (lv_sub hl [0, 1] rfl)
  · have t43 : x2.toInt ≠ 0 := ti_ne c41 rfl (by decide)
    refine lv_aload_n hx hb dX3_runEngine_7 rfl (lv_at hl 1 rfl) ?_
    refine tw_getN hx hb hts bF2_X10 hown hK hT hr_p0 shc_13 rfl 8 (by decide) (hE.nw 86 rfl) (fun _ h9 => h9) dX3_runEngine_8 (fun v9 m44 h9 => ?_)
    obtain ⟨x45, rfl, gx45, kx45⟩ := h9 _ rfl
    have t46 : -2147483648 ≤ x45.toInt ∧ x45.toInt ≤ 2147483647 := ti_all x45
    refine lv_if_le (tgt := 18) hx hb dX3_runEngine_11 (by decide) (fun c47 => ?_) (fun c47 => ?_)
    · have t48 : x45.toInt ≤ 0 := ti_le c47 rfl (by decide)
      refine lv_iconst (v := 0) hx hb dX3_runEngine_18 (by decide) ?_
      exact jn12 0 (rg_t (a := 0) (by decide) (by first | decide | omega) (by first | decide | omega)) _ _ hT hF hS m1 ls (lv_sub hl [0, 1] rfl)
    · have t49 : 0 < x45.toInt := ti_nle c47 rfl (by decide)
      refine lv_iconst (v := 1) hx hb dX3_runEngine_14 (by decide) ?_
      refine lv_goto (tgt := 19) hx hb dX3_runEngine_15 (by decide) ?_
      exact jn12 1 (rg_t (a := 1) (by decide) (by first | decide | omega) (by first | decide | omega)) _ _ hT hF hS m1 ls (lv_sub hl [0, 1] rfl)
def w_c_runMills : List Cond := .code yX3_runMills cX3_runMills 3 none :: (HAppend.hAppend (α := List Cond) (β := List Cond) (γ := List Cond) [.fieldLink RX3 47 "SeaLand$Lake" "built" "I", .fieldLink RX3 27 "SeaLand$Lake" "works" "[LSeaLand$Work;", .code yX3_runEngine cX3_runEngine 3 none, .code yX3_liftBy cX3_liftBy 4 none, .fieldLink RX3 21 "SeaLand$Lake" "ground" "LSeaLand$Ground;", .methodLink RX3 71 Lib.Math.min.name, .static Lib.Math.min.name, .initialized "java/lang/Math", .code Lib.Math.min.name Lib.Math.min.code 2 (some .int), .code yX2_giveTo cX2_giveTo 5 none, .fieldLink RX2 9 "SeaLand$Ground" "isLand" "[Z", .code yX2_saltGoingWith cX2_saltGoingWith 4 (some .int), .fieldLink RX2 25 "SeaLand$Ground" "water" "[I", .fieldLink RX2 28 "SeaLand$Ground" "salt" "[I", .methodLink RX2 60 yX2_saltGoingWith, .instanceMethod yX2_saltGoingWith, .selects RX2 yX2_saltGoingWith yX2_saltGoingWith, .initialized RX2, .code yX2_giveToSea cX2_giveToSea 3 none, .fieldLink RX2 64 "SeaLand$Ground" "wentOut" "I", .methodLink RX2 67 yX2_giveToSea, .instanceMethod yX2_giveToSea, .selects RX2 yX2_giveToSea yX2_giveToSea, .methodLink RX3 171 yX2_giveTo, .instanceMethod yX2_giveTo, .selects RX2 yX2_giveTo yX2_giveTo, .code yX10_moved cX10_moved 2 none, .fieldLink RX10 44 "SeaLand$Work" "latest" "I", .fieldLink RX10 47 "SeaLand$Work" "total" "I", .methodLink RX3 140 yX10_moved, .instanceMethod yX10_moved, .selects RX10 yX10_moved yX10_moved, .initialized RX10, .methodLink RX3 161 yX3_liftBy, .instanceMethod yX3_liftBy, .selects RX3 yX3_liftBy yX3_liftBy, .initialized RX3, .methodLink RX3 164 yX3_runEngine, .instanceMethod yX3_runEngine, .selects RX3 yX3_runEngine yX3_runEngine] bs2)
set_option maxHeartbeats 4000000 in
set_option maxRecDepth 100000 in
theorem c_runMills (l : Launch) (dC : Nat → ClassId) (dI : Nat → Nat → Nat) (kA : Nat → ClassId) (adK adV : Nat → Nat) (G : gT) (H0 : Heap) (nC nS : Int) (o0 : Nat) (p0 : Int32)  (hT : gH (dC, dI) kA (SHc nC nS) G H0) (hr_o0 : G o0 = some 6) (hgC : 0 ≤ nC ∧ nC ≤ 40) (hgS : 0 ≤ nS ∧ nS ≤ 60) : Met l yX3_runMills w_c_runMills ({ frames := 5, cells := 0, slots := 0, locals := 114 }) (va_Pc [.ref o0, .int p0] (fun U => U.heap = H0 ∧ va_K (dC, dI) vwCl (tyl kA) U ∧ EVC adK adV (gA G H0.size) U U.heap)) (va_Qv (fun (u : Unit) => True) (fun (_ : Unit) (t : State) => gH (dC, dI) kA (SHc nC nS) G t.heap ∧ gF (dC, dI) SKc G ([(5, 13), (13, 8), (13, 10), (13, 11), (29, 0), (30, 0)] : List (Nat × Nat)) H0 t.heap) (gA G H0.size)) 0 0 (gA G H0.size) := by
  refine Met.ofW (cc := cX3_runMills) (maxL := 3) (ret := none) (by decide) rfl ?_
  intro p e s m args below meth c s₁ B hml hv
  obtain ⟨rfl, hH0, hK, hE⟩ := hv
  have hx := B.exec
  have hb := B.bytes
  have hr := B.returns
  have hts := atoms_spec (ws := w_c_runMills) B.pre
  have hown : s.vm.findClass RX3 = some m.cls := findClass_of_methodNamed B.named
  have hlocks := B.notSynchronized
  subst hH0
  generalize hAe : gA G s.heap.size = A at hE ⊢
  have hA : ∀ q : Nat, s.heap.size ≤ q → A q := fun q h => by rw [← hAe]; exact Or.inr h
  have hG := gA_of hAe
  have hS : va_S A s.heap s.heap [] := va_S.rf
  have hF : gF (dC, dI) SKc G ([(5, 13), (13, 8), (13, 10), (13, 11), (29, 0), (30, 0)] : List (Nat × Nat)) s.heap s.heap := gF.rf
  have hl := lv_entry ([.ref o0, .int p0]) (n := 3) (Nat.le_of_ble_eq_true rfl)
  rw [lg_entry_eq]
  generalize (lg_sl ([.ref o0, .int p0]) ++ List.replicate (3 - (lg_sl ([.ref o0, .int p0])).length) Slot.unset).toArray = ls at hl ⊢
  have hl : lv_has ls 3 [(0, .ref o0), (1, .int p0)] := hl
  refine lv_iconst (v := 0) hx hb dX3_runMills_0 (by decide) ?_
  refine lv_istore_n (lv' := [(2, .int 0), (0, .ref o0), (1, .int p0)]) hx hb dX3_runMills_1 rfl hl (by decide) rfl (fun ls hl => ?_)
  have key53 : ∀ (n53 i1 : Nat), i1 + n53 = 30 → 0 ≤ i1 → ∀ (H : Heap) (locs : List Loc), gH (dC, dI) kA (SHc nC nS) G H → gF (dC, dI) SKc G ([(5, 13), (13, 8), (13, 10), (13, 11), (29, 0), (30, 0)] : List (Nat × Nat)) s.heap H → va_S A s.heap H locs → ∀ ls : Array Slot, lv_has ls 3 [(2, .int (nI i1)), (0, .ref o0), (1, .int p0)] → W p l e (headSpec w_c_runMills ({ frames := 5, cells := 0, slots := 0, locals := 114 })).room s m #[.ref o0, .int p0] below meth c H locs 0 0 (MQ below (va_Qv (fun (u : Unit) => True) (fun (_ : Unit) (t : State) => gH (dC, dI) kA (SHc nC nS) G t.heap ∧ gF (dC, dI) SKc G ([(5, 13), (13, 8), (13, 10), (13, 11), (29, 0), (30, 0)] : List (Nat × Nat)) s.heap t.heap) A) #[.ref o0, .int p0] s 0 0 A) (F0 m 2 ls []) := by
    intro n53
    induction n53 with
    | zero =>
      intro i1 hn53 hlo54  H locs hT hF hS  ls hl
      obtain rfl : 30 = i1 := by omega
      refine lv_iload_n hx hb dX3_runMills_2 rfl (lv_at hl 0 rfl) ?_
      refine lv_aload_n hx hb dX3_runMills_3 rfl (lv_at hl 1 rfl) ?_
      refine tw_get hx hb hts bF2_X3 hown hK hT hr_o0 shc_6 rfl 3 (by decide) (ht_at2 hts 0 rfl) (fun _ h9 => h9) dX3_runMills_4 (fun v9 m55 h9 => ?_)
      obtain ⟨x56, rfl, gx56, kx56⟩ := h9 _ rfl
      refine lv_icmp_ge (tgt := 79) hx hb dX3_runMills_7 (by decide) (fun c57 => ?_) (fun c57 => (by exfalso; have q9 : ((30 : Nat) : Int) < x56.toInt := ti_nle c57 rfl (nI_toInt (by omega)); omega))
      have t58 : x56.toInt ≤ ((30 : Nat) : Int) := ti_le c57 rfl (nI_toInt (by omega))
      exact W.vret hx hb hr (fun t ht hW => ⟨⟨(), rfl, (by exact trivial), by (try dsimp only); rw [ht]; exact ⟨hT, hF⟩⟩, hS.F ht⟩) hS.2.2 dX3_runMills_79
    | succ n53 ih53 =>
      intro i1 hn53 hlo54  H locs hT hF hS  ls hl
      have hlt58 : i1 < 30 := by omega
      refine lv_iload_n hx hb dX3_runMills_2 rfl (lv_at hl 0 rfl) ?_
      refine lv_aload_n hx hb dX3_runMills_3 rfl (lv_at hl 1 rfl) ?_
      refine tw_get hx hb hts bF2_X3 hown hK hT hr_o0 shc_6 rfl 3 (by decide) (ht_at2 hts 0 rfl) (fun _ h9 => h9) dX3_runMills_4 (fun v9 m59 h9 => ?_)
      obtain ⟨x60, rfl, gx60, kx60⟩ := h9 _ rfl
      refine lv_icmp_ge (tgt := 79) hx hb dX3_runMills_7 (by decide) (fun c61 => ?_) (fun c61 => ?_)
      · have t62 : x60.toInt ≤ ((i1 : Nat) : Int) := ti_le c61 rfl (nI_toInt (by omega))
        exact W.vret hx hb hr (fun t ht hW => ⟨⟨(), rfl, (by exact trivial), by (try dsimp only); rw [ht]; exact ⟨hT, hF⟩⟩, hS.F ht⟩) hS.2.2 dX3_runMills_79
      · have t63 : ((i1 : Nat) : Int) < x60.toInt := ti_nle c61 rfl (nI_toInt (by omega))
        refine lv_aload_n hx hb dX3_runMills_10 rfl (lv_at hl 1 rfl) ?_
        refine tw_get hx hb hts bF2_X3 hown hK hT hr_o0 shc_6 rfl 2 (by decide) (ht_at2 hts 1 rfl) (fun _ h9 => h9) dX3_runMills_11 (fun v9 m64 h9 => ?_)
        obtain ⟨b65, rfl, hg66⟩ := h9 _ rfl
        refine lv_iload_n hx hb dX3_runMills_14 rfl (lv_at hl 0 rfl) ?_
        refine tw_aald (i := (nI i1)) hx hb hK hT hg66 shc_18 rfl (vp_in_nI (by omega) (by decide)) dX3_runMills_15 (fun v9 m67 h9 => ?_)
        obtain ⟨b68, rfl, hg69⟩ := h9
        refine tw_getN hx hb hts bF2_X10 hown hK hT hg69 shc_13 rfl 2 (by decide) (hE.nw 79 rfl) (fun _ h9 => h9) dX3_runMills_16 (fun v9 m70 h9 => ?_)
        obtain ⟨x71, rfl, gx71, kx71⟩ := h9 _ rfl
        refine lv_iconst (v := 2) hx hb dX3_runMills_19 (by decide) ?_
        have t72 : -2147483648 ≤ x71.toInt ∧ x71.toInt ≤ 2147483647 := ti_all x71
        refine lv_icmp_ne (tgt := 50) hx hb dX3_runMills_20 (by decide) (fun c73 => ?_) (fun c73 => ?_)
        · have t74 : x71.toInt ≠ 2 := ti_ne c73 rfl (by decide)
          refine lv_aload_n hx hb dX3_runMills_50 rfl (lv_at hl 1 rfl) ?_
          refine tw_getM (v := .ref b65) hx hb hts bF2_X3 hown hK hT hr_o0 shc_6 rfl 2 (by decide) (ht_at2 hts 1 rfl) (fun _ h9 => h9) m64 dX3_runMills_51 ?_
          refine lv_iload_n hx hb dX3_runMills_54 rfl (lv_at hl 0 rfl) ?_
          refine tw_aald (i := (nI i1)) hx hb hK hT hg66 shc_18 rfl (vp_in_nI (by omega) (by decide)) dX3_runMills_55 (fun v9 m75 h9 => ?_)
          obtain ⟨b76, rfl, hg77⟩ := h9
          obtain rfl : b68 = b76 := (el_sameR m75 m67 (show (nI i1).toInt = (nI i1).toInt from by have q9 := (show (nI i1).toInt = ((i1 : Nat) : Int) from (nI_toInt (by omega))); have q8 := (show (nI i1).toInt = ((i1 : Nat) : Int) from (nI_toInt (by omega))); omega)).symm
          refine tw_getNM (v := .int x71) hx hb hts bF2_X10 hown hK hT hg69 shc_13 rfl 2 (by decide) (hE.nw 79 rfl) (fun _ h9 => h9) m70 dX3_runMills_56 ?_
          refine lv_iconst (v := 3) hx hb dX3_runMills_59 (by decide) ?_
          refine lv_icmp_ne (tgt := 73) hx hb dX3_runMills_60 (by decide) (fun c78 => ?_) (fun c78 => ?_)
          · have t79 : x71.toInt ≠ 3 := ti_ne c78 rfl (by decide)
            refine lv_iinc (v := nI (i1 + 1)) (lv' := [(2, .int (nI (i1 + 1))), (0, .ref o0), (1, .int p0)]) hx hb dX3_runMills_73 hl (k := 0) rfl (nI_add i1 1) (by decide) rfl (fun ls hl => ?_)
            refine lv_goto (tgt := 2) hx hb dX3_runMills_76 (by decide) ?_
            exact ih53 (i1 + 1) (by omega) (by omega) _ _ hT hF hS ls (lv_sub hl [0, 1, 2] rfl)
          · have t80 : x71.toInt = 3 := ti_eq c78 rfl (by decide)
            refine lv_aload_n hx hb dX3_runMills_63 rfl (lv_at hl 1 rfl) ?_
            refine lv_aload_n hx hb dX3_runMills_64 rfl (lv_at hl 1 rfl) ?_
            refine tw_getM (v := .ref b65) hx hb hts bF2_X3 hown hK hT hr_o0 shc_6 rfl 2 (by decide) (ht_at2 hts 1 rfl) (fun _ h9 => h9) m64 dX3_runMills_65 ?_
            refine lv_iload_n hx hb dX3_runMills_68 rfl (lv_at hl 0 rfl) ?_
            refine tw_aald (i := (nI i1)) hx hb hK hT hg66 shc_18 rfl (vp_in_nI (by omega) (by decide)) dX3_runMills_69 (fun v9 m81 h9 => ?_)
            obtain ⟨b82, rfl, hg83⟩ := h9
            obtain rfl : b68 = b82 := (el_sameR m81 m67 (show (nI i1).toInt = (nI i1).toInt from by have q9 := (show (nI i1).toInt = ((i1 : Nat) : Int) from (nI_toInt (by omega))); have q8 := (show (nI i1).toInt = ((i1 : Nat) : Int) from (nI_toInt (by omega))); omega)).symm
            have hFc := gA_free hG hA hS
            refine va_callv (va_runV (As := [.ref b68]) (rest := []) ⟨hx, hb, hml, hown, hts⟩ (c_runEngine l dC dI kA adK adV G H nC nS o0 b68 hT hg69 hr_o0 (by omega) (by omega)) (cwV 1 hts (goodIn_app (goodIn_r _ [38, 39, 40, 37] rfl (by decide +kernel)) (goodIn_ca (goodIn_r _ [3, 4, 5, 6, 7, 8, 9, 10, 11, 12, 13, 14, 15, 16, 17, 18, 19, 20, 21, 22, 23, 24, 25, 26, 27, 28, 29, 30, 31, 32, 33, 34, 35, 36, 37] rfl (by decide +kernel)) (bs2_in _ _))) rfl rfl rfl (by decide +kernel) ⟨(Nat.le_of_ble_eq_true rfl), (Nat.le_of_ble_eq_true rfl)⟩) ⟨fun a U g mk q => by obtain ⟨q0, q1, qK, qE⟩ := q; exact ⟨q0, q1, va_K.moved (u := U) (U := U.calling g mk a) (Vm.Alike.refl U.vm) qK, EVC.blind g mk a qE⟩, gH_rc hK hT hr_o0 shc_6 rfl, fun U hU hW => ⟨rfl, hU, va_K.moved hW.alike hK, hE.call hS hFc hU hW⟩⟩ rfl rfl hl.1 rfl (lv_room (Nat.le_of_ble_eq_true rfl)) dX3_runMills_70 ⟨(Nat.le_of_ble_eq_true rfl), (Nat.le_of_ble_eq_true rfl)⟩) hS (fun q _ h => hFc q h) hFc (fun u t H locs ht hvm hw85 hB _ _ hS => ?_)
            obtain ⟨hT, hF1⟩ := hB
            rw [ht] at hT hF1
            have hF := hF.more hF1 (by decide)
            try dsimp only at hw85
            refine lv_iinc (v := nI (i1 + 1)) (lv' := [(2, .int (nI (i1 + 1))), (0, .ref o0), (1, .int p0)]) hx hb dX3_runMills_73 hl (k := 0) rfl (nI_add i1 1) (by decide) rfl (fun ls hl => ?_)
            refine lv_goto (tgt := 2) hx hb dX3_runMills_76 (by decide) ?_
            exact ih53 (i1 + 1) (by omega) (by omega) _ _ hT hF hS ls (lv_sub hl [0, 1, 2] rfl)
        · have t90 : x71.toInt = 2 := ti_eq c73 rfl (by decide)
          refine lv_aload_n hx hb dX3_runMills_23 rfl (lv_at hl 1 rfl) ?_
          refine lv_aload_n hx hb dX3_runMills_24 rfl (lv_at hl 1 rfl) ?_
          refine tw_getM (v := .ref b65) hx hb hts bF2_X3 hown hK hT hr_o0 shc_6 rfl 2 (by decide) (ht_at2 hts 1 rfl) (fun _ h9 => h9) m64 dX3_runMills_25 ?_
          refine lv_iload_n hx hb dX3_runMills_28 rfl (lv_at hl 0 rfl) ?_
          refine tw_aald (i := (nI i1)) hx hb hK hT hg66 shc_18 rfl (vp_in_nI (by omega) (by decide)) dX3_runMills_29 (fun v9 m91 h9 => ?_)
          obtain ⟨b92, rfl, hg93⟩ := h9
          obtain rfl : b68 = b92 := (el_sameR m91 m67 (show (nI i1).toInt = (nI i1).toInt from by have q9 := (show (nI i1).toInt = ((i1 : Nat) : Int) from (nI_toInt (by omega))); have q8 := (show (nI i1).toInt = ((i1 : Nat) : Int) from (nI_toInt (by omega))); omega)).symm
          refine lv_aload_n hx hb dX3_runMills_30 rfl (lv_at hl 1 rfl) ?_
          refine tw_getM (v := .ref b65) hx hb hts bF2_X3 hown hK hT hr_o0 shc_6 rfl 2 (by decide) (ht_at2 hts 1 rfl) (fun _ h9 => h9) m64 dX3_runMills_31 ?_
          refine lv_iload_n hx hb dX3_runMills_34 rfl (lv_at hl 0 rfl) ?_
          refine tw_aald (i := (nI i1)) hx hb hK hT hg66 shc_18 rfl (vp_in_nI (by omega) (by decide)) dX3_runMills_35 (fun v9 m94 h9 => ?_)
          obtain ⟨b95, rfl, hg96⟩ := h9
          obtain rfl : b68 = b95 := (el_sameR m94 m67 (show (nI i1).toInt = (nI i1).toInt from by have q9 := (show (nI i1).toInt = ((i1 : Nat) : Int) from (nI_toInt (by omega))); have q8 := (show (nI i1).toInt = ((i1 : Nat) : Int) from (nI_toInt (by omega))); omega)).symm
          refine tw_getN hx hb hts bF2_X10 hown hK hT hg69 shc_13 rfl 5 (by decide) (hE.nw 82 rfl) (fun _ h9 => h9) dX3_runMills_36 (fun v9 m97 h9 => ?_)
          obtain ⟨x98, rfl, gx98, kx98⟩ := h9 _ rfl
          refine lv_iload_n hx hb dX3_runMills_39 rfl (lv_at hl 2 rfl) ?_
          refine lv_imul hx hb dX3_runMills_40 ?_
          refine lv_topi (fun x99 ex99 => ?_)
          refine lv_bipush (v := 10) hx hb dX3_runMills_41 (by decide) ?_
          have t100 : -2147483648 ≤ x99.toInt ∧ x99.toInt ≤ 2147483647 := ti_all x99
          refine lv_idiv hx hb dX3_runMills_43 (by decide) ?_
          refine lv_topi (fun x101 ex101 => ?_)
          have t102 : (0 ≤ x99.toInt ∧ x101.toInt = x99.toInt / 10) ∨ (x99.toInt < 0 ∧ x101.toInt = -((-x99.toInt) / 10)) := ti_divs ex101 rfl (by decide) (by decide)
          have hFc := gA_free hG hA hS
          refine va_callv (va_runV (As := [.ref b68, .int x101]) (rest := []) ⟨hx, hb, hml, hown, hts⟩ (c_liftBy l dC dI kA adK adV G H nC nS o0 b68 x101 hT hg69 hr_o0 (by omega) (by omega)) (cwV 2 hts (goodIn_app (goodIn_r _ [34, 35, 36, 37] rfl (by decide +kernel)) (goodIn_ca (goodIn_r _ [4, 5, 6, 7, 8, 9, 10, 11, 12, 13, 14, 15, 16, 17, 18, 19, 20, 21, 22, 23, 24, 25, 26, 27, 28, 29, 30, 31, 32, 33] rfl (by decide +kernel)) (bs2_in _ _))) rfl rfl rfl (by decide +kernel) ⟨(Nat.le_of_ble_eq_true rfl), (Nat.le_of_ble_eq_true rfl)⟩) ⟨fun a U g mk q => by obtain ⟨q0, q1, qK, qE⟩ := q; exact ⟨q0, q1, va_K.moved (u := U) (U := U.calling g mk a) (Vm.Alike.refl U.vm) qK, EVC.blind g mk a qE⟩, gH_rc hK hT hr_o0 shc_6 rfl, fun U hU hW => ⟨rfl, hU, va_K.moved hW.alike hK, hE.call hS hFc hU hW⟩⟩ rfl rfl hl.1 rfl (lv_room (Nat.le_of_ble_eq_true rfl)) dX3_runMills_44 ⟨(Nat.le_of_ble_eq_true rfl), (Nat.le_of_ble_eq_true rfl)⟩) hS (fun q _ h => hFc q h) hFc (fun u t H locs ht hvm hw104 hB _ _ hS => ?_)
          obtain ⟨hT, hF1⟩ := hB
          rw [ht] at hT hF1
          have hF := hF.more hF1 (by decide)
          try dsimp only at hw104
          refine lv_goto (tgt := 73) hx hb dX3_runMills_47 (by decide) ?_
          refine lv_iinc (v := nI (i1 + 1)) (lv' := [(2, .int (nI (i1 + 1))), (0, .ref o0), (1, .int p0)]) hx hb dX3_runMills_73 hl (k := 0) rfl (nI_add i1 1) (by decide) rfl (fun ls hl => ?_)
          refine lv_goto (tgt := 2) hx hb dX3_runMills_76 (by decide) ?_
          exact ih53 (i1 + 1) (by omega) (by omega) _ _ hT hF hS ls (lv_sub hl [0, 1, 2] rfl)
  exact key53 (30 - 0) 0 (by omega) (Nat.le_refl _) _ _ hT hF hS ls (lv_sub hl [0, 1, 2] rfl)
def w_c_allMillsLift : List Cond := .code yX3_allMillsLift cX3_allMillsLift 5 (some .int) :: (HAppend.hAppend (α := List Cond) (β := List Cond) (γ := List Cond) [.fieldLink RX3 12 "SeaLand$Lake" "sky" "LSeaLand$Sky;", .code yX8_windAt cX8_windAt 4 (some .int), .fieldLink RX8 27 "SeaLand$Sky" "wind" "LSeaLand$Tellings;", .code yX9_standingAt cX9_standingAt 5 (some .int), .fieldLink RX9 18 "SeaLand$Tellings" "told" "I", .fieldLink RX9 9 "SeaLand$Tellings" "hours" "[I", .methodLink RX8 44 yX9_standingAt, .instanceMethod yX9_standingAt, .selects RX9 yX9_standingAt yX9_standingAt, .initialized RX9, .code yX9_nearestNumberBefore cX9_nearestNumberBefore 5 (some .int), .fieldLink RX9 15 "SeaLand$Tellings" "numbers" "[I", .methodLink RX8 54 yX9_nearestNumberBefore, .instanceMethod yX9_nearestNumberBefore, .selects RX9 yX9_nearestNumberBefore yX9_nearestNumberBefore, .code yX9_nearestNumberAfter cX9_nearestNumberAfter 5 (some .int), .constant RX9 22 40001, .methodLink RX8 57 yX9_nearestNumberAfter, .instanceMethod yX9_nearestNumberAfter, .selects RX9 yX9_nearestNumberAfter yX9_nearestNumberAfter, .methodLink RX8 60 Lib.Math.max.name, .static Lib.Math.max.name, .initialized "java/lang/Math", .code Lib.Math.max.name Lib.Math.max.code 2 (some .int), .methodLink RX3 120 yX8_windAt, .instanceMethod yX8_windAt, .selects RX8 yX8_windAt yX8_windAt, .initialized RX8, .fieldLink RX3 47 "SeaLand$Lake" "built" "I", .fieldLink RX3 27 "SeaLand$Lake" "works" "[LSeaLand$Work;"] bs2)
set_option maxHeartbeats 4000000 in
set_option maxRecDepth 100000 in
theorem c_allMillsLift (l : Launch) (dC : Nat → ClassId) (dI : Nat → Nat → Nat) (kA : Nat → ClassId) (adK adV : Nat → Nat) (G : gT) (H0 : Heap) (nC nS : Int) (o0 : Nat) (p0 : Int32)  (hT : gH (dC, dI) kA (SHc nC nS) G H0) (hr_o0 : G o0 = some 6) (hq0 : 0 ≤ p0.toInt ∧ p0.toInt ≤ 100000) (hgC : 0 ≤ nC ∧ nC ≤ 40) (hgS : 0 ≤ nS ∧ nS ≤ 60) : Met l yX3_allMillsLift w_c_allMillsLift ({ frames := 2, cells := 0, slots := 0, locals := 63 }) (va_Pc [.ref o0, .int p0] (fun U => U.heap = H0 ∧ va_K (dC, dI) vwCl (tyl kA) U ∧ EVC adK adV (gA G H0.size) U U.heap)) (va_Qi (fun (r : Int32) (u : Unit) => True) (fun (_ : Unit) (t : State) => gH (dC, dI) kA (SHc nC nS) G t.heap ∧ gF (dC, dI) SKc G ([] : List (Nat × Nat)) H0 t.heap) (gA G H0.size)) 0 0 (gA G H0.size) := by
  refine Met.ofW (cc := cX3_allMillsLift) (maxL := 5) (ret := (some .int)) (by decide) rfl ?_
  intro p e s m args below meth c s₁ B hml hv
  obtain ⟨rfl, hH0, hK, hE⟩ := hv
  have hx := B.exec
  have hb := B.bytes
  have hr := B.returns
  have hts := atoms_spec (ws := w_c_allMillsLift) B.pre
  have hown : s.vm.findClass RX3 = some m.cls := findClass_of_methodNamed B.named
  have hlocks := B.notSynchronized
  subst hH0
  generalize hAe : gA G s.heap.size = A at hE ⊢
  have hA : ∀ q : Nat, s.heap.size ≤ q → A q := fun q h => by rw [← hAe]; exact Or.inr h
  have hG := gA_of hAe
  have hS : va_S A s.heap s.heap [] := va_S.rf
  have hF : gF (dC, dI) SKc G ([] : List (Nat × Nat)) s.heap s.heap := gF.rf
  have hl := lv_entry ([.ref o0, .int p0]) (n := 5) (Nat.le_of_ble_eq_true rfl)
  rw [lg_entry_eq]
  generalize (lg_sl ([.ref o0, .int p0]) ++ List.replicate (5 - (lg_sl ([.ref o0, .int p0])).length) Slot.unset).toArray = ls at hl ⊢
  have hl : lv_has ls 5 [(0, .ref o0), (1, .int p0)] := hl
  refine lv_aload_n hx hb dX3_allMillsLift_0 rfl (lv_at hl 0 rfl) ?_
  refine tw_get hx hb hts bF2_X3 hown hK hT hr_o0 shc_6 rfl 0 (by decide) (ht_at2 hts 0 rfl) (fun _ h9 => h9) dX3_allMillsLift_1 (fun v9 m1 h9 => ?_)
  obtain ⟨b2, rfl, hg3⟩ := h9 _ rfl
  refine lv_iload_n hx hb dX3_allMillsLift_4 rfl (lv_at hl 1 rfl) ?_
  have hFc := gA_free hG hA hS
  refine va_calli (va_runV (As := [.int p0]) (rest := []) ⟨hx, hb, hml, hown, hts⟩ (c_windAt l dC dI kA adK adV G s.heap nC nS b2 p0 hT hg3 (by omega) (by omega)) (cwV 1 hts (goodIn_app (goodIn_r _ [25, 26, 27, 28] rfl (by decide +kernel)) (goodIn_ca (goodIn_r _ [2, 3, 4, 5, 6, 7, 8, 9, 10, 11, 12, 13, 14, 15, 16, 17, 18, 19, 20, 21, 22, 23, 24] rfl (by decide +kernel)) (bs2_in _ _))) rfl rfl rfl (by decide +kernel) ⟨(Nat.le_of_ble_eq_true rfl), (Nat.le_of_ble_eq_true rfl)⟩) ⟨fun a U g mk q => by obtain ⟨q0, q1, qK, qE⟩ := q; exact ⟨q0, q1, va_K.moved (u := U) (U := U.calling g mk a) (Vm.Alike.refl U.vm) qK, EVC.blind g mk a qE⟩, gH_rc hK hT hg3 shc_11 rfl, fun U hU hW => ⟨rfl, hU, va_K.moved hW.alike hK, hE.call hS hFc hU hW⟩⟩ rfl rfl hl.1 rfl (lv_room (Nat.le_of_ble_eq_true rfl)) dX3_allMillsLift_5 ⟨(Nat.le_of_ble_eq_true rfl), (Nat.le_of_ble_eq_true rfl)⟩) hS (fun q _ h => hFc q h) hFc (fun r4 u t H locs ht hvm hw5 hB _ _ hS => ?_)
  obtain ⟨hT, hF1⟩ := hB
  rw [ht] at hT hF1
  have m6 := (hF1.fld hr_o0 skc_6 (k := 0) (by decide) (by decide)).trans m1
  have hF := hF.more hF1 (by decide)
  try dsimp only at hw5
  refine lv_istore_n (lv' := [(2, .int r4), (0, .ref o0), (1, .int p0)]) hx hb dX3_allMillsLift_8 rfl hl (by decide) rfl (fun ls hl => ?_)
  refine lv_iconst (v := 0) hx hb dX3_allMillsLift_9 (by decide) ?_
  refine lv_istore_n (lv' := [(3, .int 0), (2, .int r4), (0, .ref o0), (1, .int p0)]) hx hb dX3_allMillsLift_10 rfl hl (by decide) rfl (fun ls hl => ?_)
  refine lv_iconst (v := 0) hx hb dX3_allMillsLift_11 (by decide) ?_
  refine lv_istore (lv' := [(4, .int 0), (3, .int 0), (2, .int r4), (0, .ref o0), (1, .int p0)]) hx hb dX3_allMillsLift_12 hl (by decide) rfl (fun ls hl => ?_)
  have key40 : ∀ (n40 i7 : Nat), i7 + n40 = 30 → 0 ≤ i7 → ∀ (z8 : Int32), ∀ (H : Heap) (locs : List Loc), gH (dC, dI) kA (SHc nC nS) G H → gF (dC, dI) SKc G ([] : List (Nat × Nat)) s.heap H → va_S A s.heap H locs → el H o0 (dI 6 0) = some (.ref b2) → ∀ ls : Array Slot, lv_has ls 5 [(4, .int (nI i7)), (3, .int z8), (2, .int r4), (0, .ref o0), (1, .int p0)] → W p l e (headSpec w_c_allMillsLift ({ frames := 2, cells := 0, slots := 0, locals := 63 })).room s m #[.ref o0, .int p0] below meth c H locs 0 0 (MQ below (va_Qi (fun (r : Int32) (u : Unit) => True) (fun (_ : Unit) (t : State) => gH (dC, dI) kA (SHc nC nS) G t.heap ∧ gF (dC, dI) SKc G ([] : List (Nat × Nat)) s.heap t.heap) A) #[.ref o0, .int p0] s 0 0 A) (F0 m 14 ls []) := by
    intro n40
    induction n40 with
    | zero =>
      intro i7 hn40 hlo41 z8 H locs hT hF hS m9 ls hl
      obtain rfl : 30 = i7 := by omega
      refine lv_iload hx hb dX3_allMillsLift_14 (lv_at hl 0 rfl) ?_
      refine lv_aload_n hx hb dX3_allMillsLift_16 rfl (lv_at hl 3 rfl) ?_
      refine tw_get hx hb hts bF2_X3 hown hK hT hr_o0 shc_6 rfl 3 (by decide) (ht_at2 hts 28 rfl) (fun _ h9 => h9) dX3_allMillsLift_17 (fun v9 m42 h9 => ?_)
      obtain ⟨x43, rfl, gx43, kx43⟩ := h9 _ rfl
      refine lv_icmp_ge (tgt := 65) hx hb dX3_allMillsLift_20 (by decide) (fun c44 => ?_) (fun c44 => (by exfalso; have q9 : ((30 : Nat) : Int) < x43.toInt := ti_nle c44 rfl (nI_toInt (by omega)); omega))
      have t45 : x43.toInt ≤ ((30 : Nat) : Int) := ti_le c44 rfl (nI_toInt (by omega))
      refine lv_iload_n hx hb dX3_allMillsLift_65 rfl (lv_at hl 1 rfl) ?_
      exact W.iret (v := z8) hx hb hr (fun t ht hW => ⟨⟨z8, (), rfl, (by exact trivial), by (try dsimp only); rw [ht]; exact ⟨hT, hF⟩⟩, hS.F ht⟩) hS.2.2 dX3_allMillsLift_66
    | succ n40 ih40 =>
      intro i7 hn40 hlo41 z8 H locs hT hF hS m9 ls hl
      have hlt45 : i7 < 30 := by omega
      refine lv_iload hx hb dX3_allMillsLift_14 (lv_at hl 0 rfl) ?_
      refine lv_aload_n hx hb dX3_allMillsLift_16 rfl (lv_at hl 3 rfl) ?_
      refine tw_get hx hb hts bF2_X3 hown hK hT hr_o0 shc_6 rfl 3 (by decide) (ht_at2 hts 28 rfl) (fun _ h9 => h9) dX3_allMillsLift_17 (fun v9 m46 h9 => ?_)
      obtain ⟨x47, rfl, gx47, kx47⟩ := h9 _ rfl
      refine lv_icmp_ge (tgt := 65) hx hb dX3_allMillsLift_20 (by decide) (fun c48 => ?_) (fun c48 => ?_)
      · have t49 : x47.toInt ≤ ((i7 : Nat) : Int) := ti_le c48 rfl (nI_toInt (by omega))
        refine lv_iload_n hx hb dX3_allMillsLift_65 rfl (lv_at hl 1 rfl) ?_
        exact W.iret (v := z8) hx hb hr (fun t ht hW => ⟨⟨z8, (), rfl, (by exact trivial), by (try dsimp only); rw [ht]; exact ⟨hT, hF⟩⟩, hS.F ht⟩) hS.2.2 dX3_allMillsLift_66
      · have t50 : ((i7 : Nat) : Int) < x47.toInt := ti_nle c48 rfl (nI_toInt (by omega))
        refine lv_iload_n hx hb dX3_allMillsLift_23 rfl (lv_at hl 1 rfl) ?_
        refine lv_aload_n hx hb dX3_allMillsLift_24 rfl (lv_at hl 3 rfl) ?_
        refine tw_get hx hb hts bF2_X3 hown hK hT hr_o0 shc_6 rfl 2 (by decide) (ht_at2 hts 29 rfl) (fun _ h9 => h9) dX3_allMillsLift_25 (fun v9 m51 h9 => ?_)
        obtain ⟨b52, rfl, hg53⟩ := h9 _ rfl
        refine lv_iload hx hb dX3_allMillsLift_28 (lv_at hl 0 rfl) ?_
        refine tw_aald (i := (nI i7)) hx hb hK hT hg53 shc_18 rfl (vp_in_nI (by omega) (by decide)) dX3_allMillsLift_30 (fun v9 m54 h9 => ?_)
        obtain ⟨b55, rfl, hg56⟩ := h9
        refine tw_getN hx hb hts bF2_X10 hown hK hT hg56 shc_13 rfl 2 (by decide) (hE.nw 79 rfl) (fun _ h9 => h9) dX3_allMillsLift_31 (fun v9 m57 h9 => ?_)
        obtain ⟨x58, rfl, gx58, kx58⟩ := h9 _ rfl
        refine lv_iconst (v := 2) hx hb dX3_allMillsLift_34 (by decide) ?_
        have t59 : -2147483648 ≤ x58.toInt ∧ x58.toInt ≤ 2147483647 := ti_all x58
        refine lv_icmp_ne (tgt := 56) hx hb dX3_allMillsLift_35 (by decide) (fun c60 => ?_) (fun c60 => ?_)
        · have t61 : x58.toInt ≠ 2 := ti_ne c60 rfl (by decide)
          refine lv_iconst (v := 0) hx hb dX3_allMillsLift_56 (by decide) ?_
          refine lv_iadd hx hb dX3_allMillsLift_57 ?_
          refine lv_topi (fun x62 ex62 => ?_)
          have t63 : -2147483648 ≤ z8.toInt ∧ z8.toInt ≤ 2147483647 := ti_all z8
          have t64 : x62.toInt = z8.toInt + 0 := ti_add ex62 rfl (by decide) (by omega) (by omega)
          refine lv_istore_n (lv' := [(3, .int x62), (4, .int (nI i7)), (2, .int r4), (0, .ref o0), (1, .int p0)]) hx hb dX3_allMillsLift_58 rfl hl (by decide) rfl (fun ls hl => ?_)
          refine lv_iinc (v := nI (i7 + 1)) (lv' := [(4, .int (nI (i7 + 1))), (3, .int x62), (2, .int r4), (0, .ref o0), (1, .int p0)]) hx hb dX3_allMillsLift_59 hl (k := 1) rfl (nI_add i7 1) (by decide) rfl (fun ls hl => ?_)
          refine lv_goto (tgt := 14) hx hb dX3_allMillsLift_62 (by decide) ?_
          exact ih40 (i7 + 1) (by omega) (by omega) x62 _ _ hT hF hS m9 ls (lv_sub hl [0, 1, 2, 3, 4] rfl)
        · have t65 : x58.toInt = 2 := ti_eq c60 rfl (by decide)
          refine lv_aload_n hx hb dX3_allMillsLift_38 rfl (lv_at hl 3 rfl) ?_
          refine tw_getM (v := .ref b52) hx hb hts bF2_X3 hown hK hT hr_o0 shc_6 rfl 2 (by decide) (ht_at2 hts 29 rfl) (fun _ h9 => h9) m51 dX3_allMillsLift_39 ?_
          refine lv_iload hx hb dX3_allMillsLift_42 (lv_at hl 0 rfl) ?_
          refine tw_aald (i := (nI i7)) hx hb hK hT hg53 shc_18 rfl (vp_in_nI (by omega) (by decide)) dX3_allMillsLift_44 (fun v9 m66 h9 => ?_)
          obtain ⟨b67, rfl, hg68⟩ := h9
          obtain rfl : b55 = b67 := (el_sameR m66 m54 (show (nI i7).toInt = (nI i7).toInt from by have q9 := (show (nI i7).toInt = ((i7 : Nat) : Int) from (nI_toInt (by omega))); have q8 := (show (nI i7).toInt = ((i7 : Nat) : Int) from (nI_toInt (by omega))); omega)).symm
          refine tw_getN hx hb hts bF2_X10 hown hK hT hg56 shc_13 rfl 5 (by decide) (hE.nw 82 rfl) (fun _ h9 => h9) dX3_allMillsLift_45 (fun v9 m69 h9 => ?_)
          obtain ⟨x70, rfl, gx70, kx70⟩ := h9 _ rfl
          refine lv_iload_n hx hb dX3_allMillsLift_48 rfl (lv_at hl 2 rfl) ?_
          refine lv_imul hx hb dX3_allMillsLift_49 ?_
          refine lv_topi (fun x71 ex71 => ?_)
          refine lv_bipush (v := 10) hx hb dX3_allMillsLift_50 (by decide) ?_
          have t72 : -2147483648 ≤ x71.toInt ∧ x71.toInt ≤ 2147483647 := ti_all x71
          refine lv_idiv hx hb dX3_allMillsLift_52 (by decide) ?_
          refine lv_topi (fun x73 ex73 => ?_)
          have t74 : (0 ≤ x71.toInt ∧ x73.toInt = x71.toInt / 10) ∨ (x71.toInt < 0 ∧ x73.toInt = -((-x71.toInt) / 10)) := ti_divs ex73 rfl (by decide) (by decide)
          refine lv_goto (tgt := 57) hx hb dX3_allMillsLift_53 (by decide) ?_
          refine lv_iadd hx hb dX3_allMillsLift_57 ?_
          refine lv_topi (fun x75 ex75 => ?_)
          refine lv_istore_n (lv' := [(3, .int x75), (4, .int (nI i7)), (2, .int r4), (0, .ref o0), (1, .int p0)]) hx hb dX3_allMillsLift_58 rfl hl (by decide) rfl (fun ls hl => ?_)
          refine lv_iinc (v := nI (i7 + 1)) (lv' := [(4, .int (nI (i7 + 1))), (3, .int x75), (2, .int r4), (0, .ref o0), (1, .int p0)]) hx hb dX3_allMillsLift_59 hl (k := 1) rfl (nI_add i7 1) (by decide) rfl (fun ls hl => ?_)
          refine lv_goto (tgt := 14) hx hb dX3_allMillsLift_62 (by decide) ?_
          exact ih40 (i7 + 1) (by omega) (by omega) x75 _ _ hT hF hS m9 ls (lv_sub hl [0, 1, 2, 3, 4] rfl)
  exact key40 (30 - 0) 0 (by omega) (Nat.le_refl _) 0 _ _ hT hF hS m6 ls (lv_sub hl [0, 1, 2, 3, 4] rfl)
def w_c_passHour : List Cond := .code yX3_passHour cX3_passHour 3 none :: (HAppend.hAppend (α := List Cond) (β := List Cond) (γ := List Cond) [.fieldLink RX3 32 "SeaLand$Lake" "hour" "I", .fieldLink RX3 12 "SeaLand$Lake" "sky" "LSeaLand$Sky;", .code yX8_outsideAt cX8_outsideAt 4 (some .int), .fieldLink RX8 9 "SeaLand$Sky" "tides" "[I", .code yJ9_floorMod_7cf53 cJ9_floorMod_7cf53 3 (some .int), .methodLink RX8 38 yJ9_floorMod_7cf53, .static yJ9_floorMod_7cf53, .initialized RJ9, .fieldLink RX8 34 "SeaLand$Sky" "storms" "I", .fieldLink RX8 15 "SeaLand$Sky" "stormFrom" "[I", .fieldLink RX8 18 "SeaLand$Sky" "stormTo" "[I", .fieldLink RX8 21 "SeaLand$Sky" "stormMore" "[I", .methodLink RX3 44 yX8_outsideAt, .instanceMethod yX8_outsideAt, .selects RX8 yX8_outsideAt yX8_outsideAt, .initialized RX8, .fieldLink RX3 21 "SeaLand$Lake" "ground" "LSeaLand$Ground;", .code yX8_rainAt cX8_rainAt 3 (some .int), .fieldLink RX8 31 "SeaLand$Sky" "rain" "LSeaLand$Tellings;", .code yX9_standingAt cX9_standingAt 5 (some .int), .fieldLink RX9 18 "SeaLand$Tellings" "told" "I", .fieldLink RX9 9 "SeaLand$Tellings" "hours" "[I", .methodLink RX8 44 yX9_standingAt, .instanceMethod yX9_standingAt, .selects RX9 yX9_standingAt yX9_standingAt, .initialized RX9, .methodLink RX3 103 yX8_rainAt, .instanceMethod yX8_rainAt, .selects RX8 yX8_rainAt yX8_rainAt, .code yX2_rainOnLand cX2_rainOnLand 3 none, .fieldLink RX2 9 "SeaLand$Ground" "isLand" "[Z", .fieldLink RX2 25 "SeaLand$Ground" "water" "[I", .fieldLink RX2 54 "SeaLand$Ground" "rained" "I", .methodLink RX3 106 yX2_rainOnLand, .instanceMethod yX2_rainOnLand, .selects RX2 yX2_rainOnLand yX2_rainOnLand, .initialized RX2, .fieldLink RX3 47 "SeaLand$Lake" "built" "I", .fieldLink RX3 27 "SeaLand$Lake" "works" "[LSeaLand$Work;", .code yX3_runSluice cX3_runSluice 5 none, .code yX2_levelOf cX2_levelOf 2 (some .int), .fieldLink RX2 15 "SeaLand$Ground" "height" "[I", .methodLink RX3 40 yX2_levelOf, .instanceMethod yX2_levelOf, .selects RX2 yX2_levelOf yX2_levelOf, .methodLink RX3 71 Lib.Math.min.name, .static Lib.Math.min.name, .initialized "java/lang/Math", .code Lib.Math.min.name Lib.Math.min.code 2 (some .int), .code yX2_giveToSea cX2_giveToSea 3 none, .fieldLink RX2 28 "SeaLand$Ground" "salt" "[I", .code yX2_saltGoingWith cX2_saltGoingWith 4 (some .int), .methodLink RX2 60 yX2_saltGoingWith, .instanceMethod yX2_saltGoingWith, .selects RX2 yX2_saltGoingWith yX2_saltGoingWith, .fieldLink RX2 64 "SeaLand$Ground" "wentOut" "I", .methodLink RX3 154 yX2_giveToSea, .instanceMethod yX2_giveToSea, .selects RX2 yX2_giveToSea yX2_giveToSea, .code yX10_moved cX10_moved 2 none, .fieldLink RX10 44 "SeaLand$Work" "latest" "I", .fieldLink RX10 47 "SeaLand$Work" "total" "I", .methodLink RX3 140 yX10_moved, .instanceMethod yX10_moved, .selects RX10 yX10_moved yX10_moved, .initialized RX10, .methodLink RX3 114 yX3_runSluice, .instanceMethod yX3_runSluice, .selects RX3 yX3_runSluice yX3_runSluice, .initialized RX3, .code yX2_runDitches cX2_runDitches 3 none, .fieldLink RX2 37 "SeaLand$Ground" "ditchTo" "[I", .fieldLink RX2 40 "SeaLand$Ground" "ditchWater" "[I", .fieldLink RX2 43 "SeaLand$Ground" "ditchSalt" "[I", .code yX2_reckonDitch cX2_reckonDitch 5 none, .fieldLink RX2 22 "SeaLand$Ground" "ditch" "[I", .code yX2_lowestDitchBeside cX2_lowestDitchBeside 4 (some .int), .code yX2_lowerDitch cX2_lowerDitch 4 (some .int), .methodLink RX2 79 yX2_levelOf, .methodLink RX2 87 yX2_lowerDitch, .instanceMethod yX2_lowerDitch, .selects RX2 yX2_lowerDitch yX2_lowerDitch, .methodLink RX2 75 yX2_lowestDitchBeside, .instanceMethod yX2_lowestDitchBeside, .selects RX2 yX2_lowestDitchBeside yX2_lowestDitchBeside, .methodLink RX2 82 Lib.Math.min.name, .methodLink RX2 71 yX2_reckonDitch, .instanceMethod yX2_reckonDitch, .selects RX2 yX2_reckonDitch yX2_reckonDitch, .methodLink RX3 117 yX2_runDitches, .instanceMethod yX2_runDitches, .selects RX2 yX2_runDitches yX2_runDitches, .code yX8_windAt cX8_windAt 4 (some .int), .fieldLink RX8 27 "SeaLand$Sky" "wind" "LSeaLand$Tellings;", .code yX9_nearestNumberBefore cX9_nearestNumberBefore 5 (some .int), .fieldLink RX9 15 "SeaLand$Tellings" "numbers" "[I", .methodLink RX8 54 yX9_nearestNumberBefore, .instanceMethod yX9_nearestNumberBefore, .selects RX9 yX9_nearestNumberBefore yX9_nearestNumberBefore, .code yX9_nearestNumberAfter cX9_nearestNumberAfter 5 (some .int), .constant RX9 22 40001, .methodLink RX8 57 yX9_nearestNumberAfter, .instanceMethod yX9_nearestNumberAfter, .selects RX9 yX9_nearestNumberAfter yX9_nearestNumberAfter, .methodLink RX8 60 Lib.Math.max.name, .static Lib.Math.max.name, .code Lib.Math.max.name Lib.Math.max.code 2 (some .int), .methodLink RX3 120 yX8_windAt, .instanceMethod yX8_windAt, .selects RX8 yX8_windAt yX8_windAt, .code yX3_runMills cX3_runMills 3 none, .code yX3_runEngine cX3_runEngine 3 none, .code yX3_liftBy cX3_liftBy 4 none, .code yX2_giveTo cX2_giveTo 5 none, .methodLink RX2 67 yX2_giveToSea, .methodLink RX3 171 yX2_giveTo, .instanceMethod yX2_giveTo, .selects RX2 yX2_giveTo yX2_giveTo, .methodLink RX3 161 yX3_liftBy, .instanceMethod yX3_liftBy, .selects RX3 yX3_liftBy yX3_liftBy, .methodLink RX3 164 yX3_runEngine, .instanceMethod yX3_runEngine, .selects RX3 yX3_runEngine yX3_runEngine, .methodLink RX3 123 yX3_runMills, .instanceMethod yX3_runMills, .selects RX3 yX3_runMills yX3_runMills, .code yX2_endDay cX2_endDay 2 none, .fieldLink RX2 31 "SeaLand$Ground" "dry" "[I", .code yX2_sinksNow cX2_sinksNow 2 (some .boolean), .fieldLink RX2 19 "SeaLand$Ground" "soil" "[I", .methodLink RX2 91 yX2_sinksNow, .instanceMethod yX2_sinksNow, .selects RX2 yX2_sinksNow yX2_sinksNow, .fieldLink RX2 34 "SeaLand$Ground" "wet" "[I", .methodLink RX3 126 yX2_endDay, .instanceMethod yX2_endDay, .selects RX2 yX2_endDay yX2_endDay, .code yX10_isBank cX10_isBank 1 (some .boolean), .fieldLink RX10 18 "SeaLand$Work" "kind" "I", .methodLink RX3 67 yX10_isBank, .instanceMethod yX10_isBank, .selects RX10 yX10_isBank yX10_isBank, .code yX3_runBank cX3_runBank 4 none, .code yX3_seepOf cX3_seepOf 5 (some .int), .methodLink RX3 97 Lib.Math.max.name, .code yX10_leakBelow cX10_leakBelow 6 (some .int), .fieldLink RX10 34 "SeaLand$Work" "layers" "I", .fieldLink RX10 9 "SeaLand$Work" "thick" "[I", .fieldLink RX10 15 "SeaLand$Work" "clay" "[I", .methodLink RX3 100 yX10_leakBelow, .instanceMethod yX10_leakBelow, .selects RX10 yX10_leakBelow yX10_leakBelow, .methodLink RX3 132 yX3_seepOf, .instanceMethod yX3_seepOf, .selects RX3 yX3_seepOf yX3_seepOf, .code yX10_breakOpen cX10_breakOpen 1 none, .fieldLink RX10 31 "SeaLand$Work" "width" "I", .methodLink RX3 143 yX10_breakOpen, .instanceMethod yX10_breakOpen, .selects RX10 yX10_breakOpen yX10_breakOpen, .code yX3_runBreach cX3_runBreach 4 none, .constantLong RX3 149 120, .code yX2_takeFromSea cX2_takeFromSea 3 none, .fieldLink RX2 57 "SeaLand$Ground" "cameIn" "I", .methodLink RX3 136 yX2_takeFromSea, .instanceMethod yX2_takeFromSea, .selects RX2 yX2_takeFromSea yX2_takeFromSea, .methodLink RX3 146 yX3_runBreach, .instanceMethod yX3_runBreach, .selects RX3 yX3_runBreach yX3_runBreach, .code yX3_crestOf cX3_crestOf 2 (some .int), .code yX10_thickness cX10_thickness 3 (some .int), .methodLink RX3 80 yX10_thickness, .instanceMethod yX10_thickness, .selects RX10 yX10_thickness yX10_thickness, .methodLink RX3 84 yX3_crestOf, .instanceMethod yX3_crestOf, .selects RX3 yX3_crestOf yX3_crestOf, .code yX10_widen cX10_widen 1 none, .code yX10_wider cX10_wider 1 (some .int), .methodLink RX10 54 Lib.Math.min.name, .methodLink RX10 50 yX10_wider, .static yX10_wider, .methodLink RX3 129 yX10_widen, .instanceMethod yX10_widen, .selects RX10 yX10_widen yX10_widen, .methodLink RX3 110 yX3_runBank, .instanceMethod yX3_runBank, .selects RX3 yX3_runBank yX3_runBank] bs2)
set_option maxHeartbeats 4000000 in
set_option maxRecDepth 100000 in
theorem c_passHour (l : Launch) (dC : Nat → ClassId) (dI : Nat → Nat → Nat) (kA : Nat → ClassId) (adK adV : Nat → Nat) (G : gT) (H0 : Heap) (nC nS : Int) (o0 : Nat) (ho : Int32)  (hT : gH (dC, dI) kA (SHc nC nS) G H0) (hr_o0 : G o0 = some 6) (hm_ho : el H0 o0 (dI 6 4) = some (.int ho)) (hq0 : 0 ≤ ho.toInt ∧ ho.toInt ≤ 39999) (hgC : 0 ≤ nC ∧ nC ≤ 40) (hgS : 0 ≤ nS ∧ nS ≤ 60) : Met l yX3_passHour w_c_passHour ({ frames := 6, cells := 0, slots := 0, locals := 136 }) (va_Pc [.ref o0] (fun U => U.heap = H0 ∧ va_K (dC, dI) vwCl (tyl kA) U ∧ EVC adK adV (gA G H0.size) U U.heap)) (va_Qv (fun (u : Unit) => True) (fun (_ : Unit) (t : State) => gH (dC, dI) kA (SHc nC nS) G t.heap ∧ gF (dC, dI) SKc G ([(5, 11), (5, 12), (5, 13), (6, 4), (13, 2), (13, 6), (13, 8), (13, 10), (13, 11), (26, 0), (29, 0), (30, 0), (31, 0), (32, 0), (33, 0), (34, 0), (35, 0)] : List (Nat × Nat)) H0 t.heap) (gA G H0.size)) 0 0 (gA G H0.size) := by
  refine Met.ofW (cc := cX3_passHour) (maxL := 3) (ret := none) (by decide) rfl ?_
  intro p e s m args below meth c s₁ B hml hv
  obtain ⟨rfl, hH0, hK, hE⟩ := hv
  have hx := B.exec
  have hb := B.bytes
  have hr := B.returns
  have hts := atoms_spec (ws := w_c_passHour) B.pre
  have hown : s.vm.findClass RX3 = some m.cls := findClass_of_methodNamed B.named
  have hlocks := B.notSynchronized
  subst hH0
  generalize hAe : gA G s.heap.size = A at hE ⊢
  have hA : ∀ q : Nat, s.heap.size ≤ q → A q := fun q h => by rw [← hAe]; exact Or.inr h
  have hG := gA_of hAe
  have hS : va_S A s.heap s.heap [] := va_S.rf
  have hF : gF (dC, dI) SKc G ([(5, 11), (5, 12), (5, 13), (6, 4), (13, 2), (13, 6), (13, 8), (13, 10), (13, 11), (26, 0), (29, 0), (30, 0), (31, 0), (32, 0), (33, 0), (34, 0), (35, 0)] : List (Nat × Nat)) s.heap s.heap := gF.rf
  have hl := lv_entry ([.ref o0]) (n := 3) (Nat.le_of_ble_eq_true rfl)
  rw [lg_entry_eq]
  generalize (lg_sl ([.ref o0]) ++ List.replicate (3 - (lg_sl ([.ref o0])).length) Slot.unset).toArray = ls at hl ⊢
  have hl : lv_has ls 3 [(0, .ref o0)] := hl
  refine lv_aload_n hx hb dX3_passHour_0 rfl (lv_at hl 0 rfl) ?_
  refine lv_dup hx hb dX3_passHour_1 rfl ?_
  refine tw_getM (v := .int ho) hx hb hts bF2_X3 hown hK hT hr_o0 shc_6 rfl 4 (by decide) (ht_at2 hts 0 rfl) (fun _ h9 => h9) hm_ho dX3_passHour_2 ?_
  refine lv_iconst (v := 1) hx hb dX3_passHour_5 (by decide) ?_
  refine lv_iadd hx hb dX3_passHour_6 ?_
  refine lv_topi (fun x1 ex1 => ?_)
  have t2 : x1.toInt = ho.toInt + 1 := ti_add ex1 rfl (by decide) (by omega) (by omega)
  refine tw_put (v := .int x1) (ty := .int) hx hb hts bF2_X3 tyX3 tyX3_ok nmX3 hown hK hT hG hS hr_o0 shc_6 rfl 4 (by decide) (ht_at2 hts 0 rfl) (fun _ h9 => h9) rfl (by decide +kernel) rfl rfl (gl_at rfl (gi_of (show x1.toInt = x1.toInt from rfl) (by omega) (by omega))) dX3_passHour_7 (fun H locs hT oq m3 oj hS => ?_)
  have hF := hF.put hr_o0 skc_6 oq oj (by decide)
  refine lv_aload_n hx hb dX3_passHour_10 rfl (lv_at hl 0 rfl) ?_
  refine tw_get hx hb hts bF2_X3 hown hK hT hr_o0 shc_6 rfl 0 (by decide) (ht_at2 hts 1 rfl) (fun _ h9 => h9) dX3_passHour_11 (fun v9 m4 h9 => ?_)
  obtain ⟨b5, rfl, hg6⟩ := h9 _ rfl
  refine lv_aload_n hx hb dX3_passHour_14 rfl (lv_at hl 0 rfl) ?_
  refine tw_getM (v := .int x1) hx hb hts bF2_X3 hown hK hT hr_o0 shc_6 rfl 4 (by decide) (ht_at2 hts 0 rfl) (fun _ h9 => h9) m3 dX3_passHour_15 ?_
  have hFc := gA_free hG hA hS
  refine va_calli (va_runV (As := [.int x1]) (rest := []) ⟨hx, hb, hml, hown, hts⟩ (c_outsideAt l dC dI kA adK adV G H nC nS b5 x1 hT hg6 (by have q8 := ti_all x1; omega) (by omega) (by omega)) (cwV 1 hts (goodIn_app (goodIn_r _ [13, 14, 15, 16] rfl (by decide +kernel)) (goodIn_ca (goodIn_r _ [3, 4, 5, 6, 7, 8, 9, 10, 11, 12] rfl (by decide +kernel)) (bs2_in _ _))) rfl rfl rfl (by decide +kernel) ⟨(Nat.le_of_ble_eq_true rfl), (Nat.le_of_ble_eq_true rfl)⟩) ⟨fun a U g mk q => by obtain ⟨q0, q1, qK, qE⟩ := q; exact ⟨q0, q1, va_K.moved (u := U) (U := U.calling g mk a) (Vm.Alike.refl U.vm) qK, EVC.blind g mk a qE⟩, gH_rc hK hT hg6 shc_11 rfl, fun U hU hW => ⟨rfl, hU, va_K.moved hW.alike hK, hE.call hS hFc hU hW⟩⟩ rfl rfl hl.1 rfl (lv_room (Nat.le_of_ble_eq_true rfl)) dX3_passHour_18 ⟨(Nat.le_of_ble_eq_true rfl), (Nat.le_of_ble_eq_true rfl)⟩) hS (fun q _ h => hFc q h) hFc (fun r7 u t H locs ht hvm hw8 hB _ _ hS => ?_)
  obtain ⟨hT, hF1⟩ := hB
  rw [ht] at hT hF1
  have m9 := (hF1.fld hr_o0 skc_6 (k := 4) (by decide) (by decide)).trans m3
  have m10 := (hF1.fld hr_o0 skc_6 (k := 0) (by decide) (by decide)).trans m4
  have hF := hF.more hF1 (by decide)
  try dsimp only at hw8
  refine lv_istore_n (lv' := [(1, .int r7), (0, .ref o0)]) hx hb dX3_passHour_21 rfl hl (by decide) rfl (fun ls hl => ?_)
  refine lv_aload_n hx hb dX3_passHour_22 rfl (lv_at hl 1 rfl) ?_
  refine tw_get hx hb hts bF2_X3 hown hK hT hr_o0 shc_6 rfl 1 (by decide) (ht_at2 hts 16 rfl) (fun _ h9 => h9) dX3_passHour_23 (fun v9 m11 h9 => ?_)
  obtain ⟨b12, rfl, hg13⟩ := h9 _ rfl
  refine lv_aload_n hx hb dX3_passHour_26 rfl (lv_at hl 1 rfl) ?_
  refine tw_getM (v := .ref b5) hx hb hts bF2_X3 hown hK hT hr_o0 shc_6 rfl 0 (by decide) (ht_at2 hts 1 rfl) (fun _ h9 => h9) m10 dX3_passHour_27 ?_
  refine lv_aload_n hx hb dX3_passHour_30 rfl (lv_at hl 1 rfl) ?_
  refine tw_getM (v := .int x1) hx hb hts bF2_X3 hown hK hT hr_o0 shc_6 rfl 4 (by decide) (ht_at2 hts 0 rfl) (fun _ h9 => h9) m9 dX3_passHour_31 ?_
  have hFc := gA_free hG hA hS
  refine va_calli (va_runV (As := [.int x1]) (rest := [.ref b12]) ⟨hx, hb, hml, hown, hts⟩ (c_rainAt l dC dI kA adK adV G H nC nS b5 x1 hT hg6 (by omega) (by omega)) (cwV 1 hts (goodIn_app (goodIn_r _ [27, 28, 29, 16] rfl (by decide +kernel)) (goodIn_ca (goodIn_r _ [18, 19, 20, 21, 22, 23, 24, 25, 26] rfl (by decide +kernel)) (bs2_in _ _))) rfl rfl rfl (by decide +kernel) ⟨(Nat.le_of_ble_eq_true rfl), (Nat.le_of_ble_eq_true rfl)⟩) ⟨fun a U g mk q => by obtain ⟨q0, q1, qK, qE⟩ := q; exact ⟨q0, q1, va_K.moved (u := U) (U := U.calling g mk a) (Vm.Alike.refl U.vm) qK, EVC.blind g mk a qE⟩, gH_rc hK hT hg6 shc_11 rfl, fun U hU hW => ⟨rfl, hU, va_K.moved hW.alike hK, hE.call hS hFc hU hW⟩⟩ rfl rfl hl.1 rfl (lv_room (Nat.le_of_ble_eq_true rfl)) dX3_passHour_34 ⟨(Nat.le_of_ble_eq_true rfl), (Nat.le_of_ble_eq_true rfl)⟩) hS (fun q _ h => hFc q h) hFc (fun r14 u t H locs ht hvm hw15 hB _ _ hS => ?_)
  obtain ⟨hT, hF1⟩ := hB
  rw [ht] at hT hF1
  have m16 := (hF1.fld hr_o0 skc_6 (k := 4) (by decide) (by decide)).trans m9
  have m17 := (hF1.fld hr_o0 skc_6 (k := 0) (by decide) (by decide)).trans m10
  have m18 := (hF1.fld hr_o0 skc_6 (k := 1) (by decide) (by decide)).trans m11
  have hF := hF.more hF1 (by decide)
  try dsimp only at hw15
  have hFc := gA_free hG hA hS
  refine va_callv (va_runV (As := [.int r14]) (rest := []) ⟨hx, hb, hml, hown, hts⟩ (c_rainOnLand l dC dI kA adK adV G H nC nS b12 r14 hT hg13 (by omega) (by omega)) (cwV 1 hts (goodIn_app (goodIn_r _ [34, 35, 36, 37] rfl (by decide +kernel)) (goodIn_ca (goodIn_r _ [30, 31, 32, 33] rfl (by decide +kernel)) (bs2_in _ _))) rfl rfl rfl (by decide +kernel) ⟨(Nat.le_of_ble_eq_true rfl), (Nat.le_of_ble_eq_true rfl)⟩) ⟨fun a U g mk q => by obtain ⟨q0, q1, qK, qE⟩ := q; exact ⟨q0, q1, va_K.moved (u := U) (U := U.calling g mk a) (Vm.Alike.refl U.vm) qK, EVC.blind g mk a qE⟩, gH_rc hK hT hg13 shc_5 rfl, fun U hU hW => ⟨rfl, hU, va_K.moved hW.alike hK, hE.call hS hFc hU hW⟩⟩ rfl rfl hl.1 rfl (lv_room (Nat.le_of_ble_eq_true rfl)) dX3_passHour_37 ⟨(Nat.le_of_ble_eq_true rfl), (Nat.le_of_ble_eq_true rfl)⟩) hS (fun q _ h => hFc q h) hFc (fun u t H locs ht hvm hw20 hB _ _ hS => ?_)
  obtain ⟨hT, hF1⟩ := hB
  rw [ht] at hT hF1
  have m21 := (hF1.fld hr_o0 skc_6 (k := 4) (by decide) (by decide)).trans m16
  have m22 := (hF1.fld hr_o0 skc_6 (k := 0) (by decide) (by decide)).trans m17
  have m23 := (hF1.fld hr_o0 skc_6 (k := 1) (by decide) (by decide)).trans m18
  have hF := hF.more hF1 (by decide)
  try dsimp only at hw20
  refine lv_iconst (v := 0) hx hb dX3_passHour_40 (by decide) ?_
  refine lv_istore_n (lv' := [(2, .int 0), (1, .int r7), (0, .ref o0)]) hx hb dX3_passHour_41 rfl hl (by decide) rfl (fun ls hl => ?_)
  have key243 : ∀ (n243 i24 : Nat), i24 + n243 = 30 → 0 ≤ i24 → ∀ (H : Heap) (locs : List Loc), gH (dC, dI) kA (SHc nC nS) G H → gF (dC, dI) SKc G ([(5, 11), (5, 12), (5, 13), (6, 4), (13, 2), (13, 6), (13, 8), (13, 10), (13, 11), (26, 0), (29, 0), (30, 0), (31, 0), (32, 0), (33, 0), (34, 0), (35, 0)] : List (Nat × Nat)) s.heap H → va_S A s.heap H locs → el H o0 (dI 6 4) = some (.int x1) → el H o0 (dI 6 0) = some (.ref b5) → el H o0 (dI 6 1) = some (.ref b12) → ∀ ls : Array Slot, lv_has ls 3 [(2, .int (nI i24)), (1, .int r7), (0, .ref o0)] → W p l e (headSpec w_c_passHour ({ frames := 6, cells := 0, slots := 0, locals := 136 })).room s m #[.ref o0] below meth c H locs 0 0 (MQ below (va_Qv (fun (u : Unit) => True) (fun (_ : Unit) (t : State) => gH (dC, dI) kA (SHc nC nS) G t.heap ∧ gF (dC, dI) SKc G ([(5, 11), (5, 12), (5, 13), (6, 4), (13, 2), (13, 6), (13, 8), (13, 10), (13, 11), (26, 0), (29, 0), (30, 0), (31, 0), (32, 0), (33, 0), (34, 0), (35, 0)] : List (Nat × Nat)) s.heap t.heap) A) #[.ref o0] s 0 0 A) (F0 m 42 ls []) := by
    intro n243
    induction n243 with
    | zero =>
      intro i24 hn243 hlo244  H locs hT hF hS m25 m26 m27 ls hl
      obtain rfl : 30 = i24 := by omega
      refine lv_iload_n hx hb dX3_passHour_42 rfl (lv_at hl 0 rfl) ?_
      refine lv_aload_n hx hb dX3_passHour_43 rfl (lv_at hl 2 rfl) ?_
      refine tw_get hx hb hts bF2_X3 hown hK hT hr_o0 shc_6 rfl 3 (by decide) (ht_at2 hts 37 rfl) (fun _ h9 => h9) dX3_passHour_44 (fun v9 m245 h9 => ?_)
      obtain ⟨x246, rfl, gx246, kx246⟩ := h9 _ rfl
      refine lv_icmp_ge (tgt := 79) hx hb dX3_passHour_47 (by decide) (fun c247 => ?_) (fun c247 => (by exfalso; have q9 : ((30 : Nat) : Int) < x246.toInt := ti_nle c247 rfl (nI_toInt (by omega)); omega))
      have t248 : x246.toInt ≤ ((30 : Nat) : Int) := ti_le c247 rfl (nI_toInt (by omega))
      refine lv_iconst (v := 0) hx hb dX3_passHour_79 (by decide) ?_
      refine lv_istore_n (lv' := [(2, .int 0), (1, .int r7), (0, .ref o0)]) hx hb dX3_passHour_80 rfl hl (by decide) rfl (fun ls hl => ?_)
      have jn369 : ∀ (z363 : Int32), ((0 ≤ z363.toInt ∧ z363.toInt ≤ 30)) → ∀ (H : Heap) (locs : List Loc), gH (dC, dI) kA (SHc nC nS) G H → gF (dC, dI) SKc G ([(5, 11), (5, 12), (5, 13), (6, 4), (13, 2), (13, 6), (13, 8), (13, 10), (13, 11), (26, 0), (29, 0), (30, 0), (31, 0), (32, 0), (33, 0), (34, 0), (35, 0)] : List (Nat × Nat)) s.heap H → va_S A s.heap H locs → el H o0 (dI 6 4) = some (.int x1) → el H o0 (dI 6 0) = some (.ref b5) → el H o0 (dI 6 1) = some (.ref b12) → el H o0 (dI 6 3) = some (.int x246) → ∀ ls : Array Slot, lv_has ls 3 [(2, .int z363), (1, .int r7), (0, .ref o0)] → W p l e (headSpec w_c_passHour ({ frames := 6, cells := 0, slots := 0, locals := 136 })).room s m #[.ref o0] below meth c H locs 0 0 (MQ below (va_Qv (fun (u : Unit) => True) (fun (_ : Unit) (t : State) => gH (dC, dI) kA (SHc nC nS) G t.heap ∧ gF (dC, dI) SKc G ([(5, 11), (5, 12), (5, 13), (6, 4), (13, 2), (13, 6), (13, 8), (13, 10), (13, 11), (26, 0), (29, 0), (30, 0), (31, 0), (32, 0), (33, 0), (34, 0), (35, 0)] : List (Nat × Nat)) s.heap t.heap) A) #[.ref o0] s 0 0 A) (F0 m 119 ls []) := by
        intro z363 h364 H locs hT hF hS m365 m366 m367 m368 ls hl
        refine lv_aload_n hx hb dX3_passHour_119 rfl (lv_at hl 2 rfl) ?_
        refine tw_getM (v := .ref b12) hx hb hts bF2_X3 hown hK hT hr_o0 shc_6 rfl 1 (by decide) (ht_at2 hts 16 rfl) (fun _ h9 => h9) m367 dX3_passHour_120 ?_
        have hFc := gA_free hG hA hS
        refine va_callv (va_runV (As := []) (rest := []) ⟨hx, hb, hml, hown, hts⟩ (c_runDitches l dC dI kA adK adV G H nC nS b12 hT hg13 (by omega) (by omega)) (cwV 0 hts (goodIn_app (goodIn_r _ [90, 91, 92, 37] rfl (by decide +kernel)) (goodIn_ca (goodIn_r _ [71, 72, 32, 73, 51, 74, 75, 76, 77, 78, 41, 42, 79, 44, 45, 37, 80, 81, 82, 83, 84, 85, 86, 47, 48, 49, 52, 53, 54, 55, 87, 88, 89] rfl (by decide +kernel)) (bs2_in _ _))) rfl rfl rfl (by decide +kernel) ⟨(Nat.le_of_ble_eq_true rfl), (Nat.le_of_ble_eq_true rfl)⟩) ⟨fun a U g mk q => by obtain ⟨q0, q1, qK, qE⟩ := q; exact ⟨q0, q1, va_K.moved (u := U) (U := U.calling g mk a) (Vm.Alike.refl U.vm) qK, EVC.blind g mk a qE⟩, gH_rc hK hT hg13 shc_5 rfl, fun U hU hW => ⟨rfl, hU, va_K.moved hW.alike hK, hE.call hS hFc hU hW⟩⟩ rfl rfl hl.1 rfl (lv_room (Nat.le_of_ble_eq_true rfl)) dX3_passHour_123 ⟨(Nat.le_of_ble_eq_true rfl), (Nat.le_of_ble_eq_true rfl)⟩) hS (fun q _ h => hFc q h) hFc (fun u t H locs ht hvm hw371 hB _ _ hS => ?_)
        obtain ⟨hT, hF1⟩ := hB
        rw [ht] at hT hF1
        have m372 := (hF1.fld hr_o0 skc_6 (k := 4) (by decide) (by decide)).trans m365
        have m373 := (hF1.fld hr_o0 skc_6 (k := 0) (by decide) (by decide)).trans m366
        have m374 := (hF1.fld hr_o0 skc_6 (k := 1) (by decide) (by decide)).trans m367
        have hF := hF.more hF1 (by decide)
        try dsimp only at hw371
        refine lv_aload_n hx hb dX3_passHour_126 rfl (lv_at hl 2 rfl) ?_
        refine lv_aload_n hx hb dX3_passHour_127 rfl (lv_at hl 2 rfl) ?_
        refine tw_getM (v := .ref b5) hx hb hts bF2_X3 hown hK hT hr_o0 shc_6 rfl 0 (by decide) (ht_at2 hts 1 rfl) (fun _ h9 => h9) m373 dX3_passHour_128 ?_
        refine lv_aload_n hx hb dX3_passHour_131 rfl (lv_at hl 2 rfl) ?_
        refine tw_getM (v := .int x1) hx hb hts bF2_X3 hown hK hT hr_o0 shc_6 rfl 4 (by decide) (ht_at2 hts 0 rfl) (fun _ h9 => h9) m372 dX3_passHour_132 ?_
        have hFc := gA_free hG hA hS
        refine va_calli (va_runV (As := [.int x1]) (rest := [.ref o0]) ⟨hx, hb, hml, hown, hts⟩ (c_windAt l dC dI kA adK adV G H nC nS b5 x1 hT hg6 (by omega) (by omega)) (cwV 1 hts (goodIn_app (goodIn_r _ [108, 109, 110, 16] rfl (by decide +kernel)) (goodIn_ca (goodIn_r _ [93, 94, 20, 21, 22, 23, 24, 25, 26, 95, 96, 97, 98, 99, 100, 101, 102, 103, 104, 105, 106, 48, 107] rfl (by decide +kernel)) (bs2_in _ _))) rfl rfl rfl (by decide +kernel) ⟨(Nat.le_of_ble_eq_true rfl), (Nat.le_of_ble_eq_true rfl)⟩) ⟨fun a U g mk q => by obtain ⟨q0, q1, qK, qE⟩ := q; exact ⟨q0, q1, va_K.moved (u := U) (U := U.calling g mk a) (Vm.Alike.refl U.vm) qK, EVC.blind g mk a qE⟩, gH_rc hK hT hg6 shc_11 rfl, fun U hU hW => ⟨rfl, hU, va_K.moved hW.alike hK, hE.call hS hFc hU hW⟩⟩ rfl rfl hl.1 rfl (lv_room (Nat.le_of_ble_eq_true rfl)) dX3_passHour_135 ⟨(Nat.le_of_ble_eq_true rfl), (Nat.le_of_ble_eq_true rfl)⟩) hS (fun q _ h => hFc q h) hFc (fun r376 u t H locs ht hvm hw377 hB _ _ hS => ?_)
        obtain ⟨hT, hF1⟩ := hB
        rw [ht] at hT hF1
        have m378 := (hF1.fld hr_o0 skc_6 (k := 4) (by decide) (by decide)).trans m372
        have m380 := (hF1.fld hr_o0 skc_6 (k := 1) (by decide) (by decide)).trans m374
        have hF := hF.more hF1 (by decide)
        try dsimp only at hw377
        have hFc := gA_free hG hA hS
        refine va_callv (va_runV (As := [.int r376]) (rest := []) ⟨hx, hb, hml, hown, hts⟩ (c_runMills l dC dI kA adK adV G H nC nS o0 r376 hT hr_o0 (by omega) (by omega)) (cwV 1 hts (goodIn_app (goodIn_r _ [125, 126, 127, 70] rfl (by decide +kernel)) (goodIn_ca (goodIn_r _ [111, 38, 39, 112, 113, 17, 46, 47, 48, 49, 114, 31, 52, 32, 51, 53, 54, 55, 37, 50, 56, 115, 58, 59, 116, 117, 118, 60, 61, 62, 63, 64, 65, 66, 119, 120, 121, 70, 122, 123, 124] rfl (by decide +kernel)) (bs2_in _ _))) rfl rfl rfl (by decide +kernel) ⟨(Nat.le_of_ble_eq_true rfl), (Nat.le_of_ble_eq_true rfl)⟩) ⟨fun a U g mk q => by obtain ⟨q0, q1, qK, qE⟩ := q; exact ⟨q0, q1, va_K.moved (u := U) (U := U.calling g mk a) (Vm.Alike.refl U.vm) qK, EVC.blind g mk a qE⟩, gH_rc hK hT hr_o0 shc_6 rfl, fun U hU hW => ⟨rfl, hU, va_K.moved hW.alike hK, hE.call hS hFc hU hW⟩⟩ rfl rfl hl.1 rfl (lv_room (Nat.le_of_ble_eq_true rfl)) dX3_passHour_138 ⟨(Nat.le_of_ble_eq_true rfl), (Nat.le_of_ble_eq_true rfl)⟩) hS (fun q _ h => hFc q h) hFc (fun u t H locs ht hvm hw383 hB _ _ hS => ?_)
        obtain ⟨hT, hF1⟩ := hB
        rw [ht] at hT hF1
        have m384 := (hF1.fld hr_o0 skc_6 (k := 4) (by decide) (by decide)).trans m378
        have m386 := (hF1.fld hr_o0 skc_6 (k := 1) (by decide) (by decide)).trans m380
        have hF := hF.more hF1 (by decide)
        try dsimp only at hw383
        refine lv_aload_n hx hb dX3_passHour_141 rfl (lv_at hl 2 rfl) ?_
        refine tw_getM (v := .int x1) hx hb hts bF2_X3 hown hK hT hr_o0 shc_6 rfl 4 (by decide) (ht_at2 hts 0 rfl) (fun _ h9 => h9) m384 dX3_passHour_142 ?_
        refine lv_bipush (v := 24) hx hb dX3_passHour_145 (by decide) ?_
        refine lv_irem hx hb dX3_passHour_147 (by decide) ?_
        refine lv_topi (fun x388 ex388 => ?_)
        have t389 : x388.toInt = x1.toInt % 24 := ti_rem ex388 rfl (by decide) (by omega) (by omega)
        refine lv_if_ne (tgt := 158) hx hb dX3_passHour_148 (by decide) (fun c390 => ?_) (fun c390 => ?_)
        · have t391 : x388.toInt ≠ 0 := ti_ne c390 rfl (by decide)
          exact W.vret hx hb hr (fun t ht hW => ⟨⟨(), rfl, (by exact trivial), by (try dsimp only); rw [ht]; exact ⟨hT, hF⟩⟩, hS.F ht⟩) hS.2.2 dX3_passHour_158
        · have t392 : x388.toInt = 0 := ti_eq c390 rfl (by decide)
          refine lv_aload_n hx hb dX3_passHour_151 rfl (lv_at hl 2 rfl) ?_
          refine tw_getM (v := .ref b12) hx hb hts bF2_X3 hown hK hT hr_o0 shc_6 rfl 1 (by decide) (ht_at2 hts 16 rfl) (fun _ h9 => h9) m386 dX3_passHour_152 ?_
          have hFc := gA_free hG hA hS
          refine va_callv (va_runV (As := []) (rest := []) ⟨hx, hb, hml, hown, hts⟩ (c_endDay l dC dI kA adK adV G H nC nS b12 hT hg13 (by omega) (by omega)) (cwV 0 hts (goodIn_app (goodIn_r _ [136, 137, 138, 37] rfl (by decide +kernel)) (goodIn_ca (goodIn_r _ [128, 31, 32, 129, 42, 130, 131, 132, 133, 134, 37, 51, 135] rfl (by decide +kernel)) (bs2_in _ _))) rfl rfl rfl (by decide +kernel) ⟨(Nat.le_of_ble_eq_true rfl), (Nat.le_of_ble_eq_true rfl)⟩) ⟨fun a U g mk q => by obtain ⟨q0, q1, qK, qE⟩ := q; exact ⟨q0, q1, va_K.moved (u := U) (U := U.calling g mk a) (Vm.Alike.refl U.vm) qK, EVC.blind g mk a qE⟩, gH_rc hK hT hg13 shc_5 rfl, fun U hU hW => ⟨rfl, hU, va_K.moved hW.alike hK, hE.call hS hFc hU hW⟩⟩ rfl rfl hl.1 rfl (lv_room (Nat.le_of_ble_eq_true rfl)) dX3_passHour_155 ⟨(Nat.le_of_ble_eq_true rfl), (Nat.le_of_ble_eq_true rfl)⟩) hS (fun q _ h => hFc q h) hFc (fun u t H locs ht hvm hw394 hB _ _ hS => ?_)
          obtain ⟨hT, hF1⟩ := hB
          rw [ht] at hT hF1
          have hF := hF.more hF1 (by decide)
          try dsimp only at hw394
          exact W.vret hx hb hr (fun t ht hW => ⟨⟨(), rfl, (by exact trivial), by (try dsimp only); rw [ht]; exact ⟨hT, hF⟩⟩, hS.F ht⟩) hS.2.2 dX3_passHour_158
      have key399 : ∀ (n399 i249 : Nat), i249 + n399 = 30 → 0 ≤ i249 → ∀ (H : Heap) (locs : List Loc), gH (dC, dI) kA (SHc nC nS) G H → gF (dC, dI) SKc G ([(5, 11), (5, 12), (5, 13), (6, 4), (13, 2), (13, 6), (13, 8), (13, 10), (13, 11), (26, 0), (29, 0), (30, 0), (31, 0), (32, 0), (33, 0), (34, 0), (35, 0)] : List (Nat × Nat)) s.heap H → va_S A s.heap H locs → el H o0 (dI 6 4) = some (.int x1) → el H o0 (dI 6 0) = some (.ref b5) → el H o0 (dI 6 1) = some (.ref b12) → el H o0 (dI 6 3) = some (.int x246) → ∀ ls : Array Slot, lv_has ls 3 [(2, .int (nI i249)), (1, .int r7), (0, .ref o0)] → W p l e (headSpec w_c_passHour ({ frames := 6, cells := 0, slots := 0, locals := 136 })).room s m #[.ref o0] below meth c H locs 0 0 (MQ below (va_Qv (fun (u : Unit) => True) (fun (_ : Unit) (t : State) => gH (dC, dI) kA (SHc nC nS) G t.heap ∧ gF (dC, dI) SKc G ([(5, 11), (5, 12), (5, 13), (6, 4), (13, 2), (13, 6), (13, 8), (13, 10), (13, 11), (26, 0), (29, 0), (30, 0), (31, 0), (32, 0), (33, 0), (34, 0), (35, 0)] : List (Nat × Nat)) s.heap t.heap) A) #[.ref o0] s 0 0 A) (F0 m 81 ls []) := by
        intro n399
        induction n399 with
        | zero =>
          intro i249 hn399 hlo400  H locs hT hF hS m250 m251 m252 m253 ls hl
          obtain rfl : 30 = i249 := by omega
          refine lv_iload_n hx hb dX3_passHour_81 rfl (lv_at hl 0 rfl) ?_
          refine lv_aload_n hx hb dX3_passHour_82 rfl (lv_at hl 2 rfl) ?_
          refine tw_getM (v := .int x246) hx hb hts bF2_X3 hown hK hT hr_o0 shc_6 rfl 3 (by decide) (ht_at2 hts 37 rfl) (fun _ h9 => h9) m253 dX3_passHour_83 ?_
          refine lv_icmp_ge (tgt := 119) hx hb dX3_passHour_86 (by decide) (fun c401 => ?_) (fun c401 => (by exfalso; have q9 : ((30 : Nat) : Int) < x246.toInt := ti_nle c401 rfl (nI_toInt (by omega)); omega))
          have t402 : x246.toInt ≤ ((30 : Nat) : Int) := ti_le c401 rfl (nI_toInt (by omega))
          exact jn369 (nI 30) (rg_t (a := ((30 : Nat) : Int)) (nI_toInt (by omega)) (by omega) (by omega)) _ _ hT hF hS m250 m251 m252 m253 ls (lv_sub hl [0, 1, 2] rfl)
        | succ n399 ih399 =>
          intro i249 hn399 hlo400  H locs hT hF hS m250 m251 m252 m253 ls hl
          have hlt402 : i249 < 30 := by omega
          refine lv_iload_n hx hb dX3_passHour_81 rfl (lv_at hl 0 rfl) ?_
          refine lv_aload_n hx hb dX3_passHour_82 rfl (lv_at hl 2 rfl) ?_
          refine tw_getM (v := .int x246) hx hb hts bF2_X3 hown hK hT hr_o0 shc_6 rfl 3 (by decide) (ht_at2 hts 37 rfl) (fun _ h9 => h9) m253 dX3_passHour_83 ?_
          refine lv_icmp_ge (tgt := 119) hx hb dX3_passHour_86 (by decide) (fun c403 => ?_) (fun c403 => ?_)
          · have t404 : x246.toInt ≤ ((i249 : Nat) : Int) := ti_le c403 rfl (nI_toInt (by omega))
            exact jn369 (nI i249) (rg_t (a := ((i249 : Nat) : Int)) (nI_toInt (by omega)) (by omega) (by omega)) _ _ hT hF hS m250 m251 m252 m253 ls (lv_sub hl [0, 1, 2] rfl)
          · have t405 : ((i249 : Nat) : Int) < x246.toInt := ti_nle c403 rfl (nI_toInt (by omega))
            refine lv_aload_n hx hb dX3_passHour_89 rfl (lv_at hl 2 rfl) ?_
            refine tw_get hx hb hts bF2_X3 hown hK hT hr_o0 shc_6 rfl 2 (by decide) (ht_at2 hts 38 rfl) (fun _ h9 => h9) dX3_passHour_90 (fun v9 m406 h9 => ?_)
            obtain ⟨b407, rfl, hg408⟩ := h9 _ rfl
            refine lv_iload_n hx hb dX3_passHour_93 rfl (lv_at hl 0 rfl) ?_
            refine tw_aald (i := (nI i249)) hx hb hK hT hg408 shc_18 rfl (vp_in_nI (by omega) (by decide)) dX3_passHour_94 (fun v9 m409 h9 => ?_)
            obtain ⟨b410, rfl, hg411⟩ := h9
            refine tw_getN hx hb hts bF2_X10 hown hK hT hg411 shc_13 rfl 2 (by decide) (hE.nw 79 rfl) (fun _ h9 => h9) dX3_passHour_95 (fun v9 m412 h9 => ?_)
            obtain ⟨x413, rfl, gx413, kx413⟩ := h9 _ rfl
            refine lv_iconst (v := 4) hx hb dX3_passHour_98 (by decide) ?_
            have t414 : -2147483648 ≤ x413.toInt ∧ x413.toInt ≤ 2147483647 := ti_all x413
            refine lv_icmp_ne (tgt := 113) hx hb dX3_passHour_99 (by decide) (fun c415 => ?_) (fun c415 => ?_)
            · have t416 : x413.toInt ≠ 4 := ti_ne c415 rfl (by decide)
              refine lv_iinc (v := nI (i249 + 1)) (lv' := [(2, .int (nI (i249 + 1))), (1, .int r7), (0, .ref o0)]) hx hb dX3_passHour_113 hl (k := 0) rfl (nI_add i249 1) (by decide) rfl (fun ls hl => ?_)
              refine lv_goto (tgt := 81) hx hb dX3_passHour_116 (by decide) ?_
              exact ih399 (i249 + 1) (by omega) (by omega) _ _ hT hF hS m250 m251 m252 m253 ls (lv_sub hl [0, 1, 2] rfl)
            · have t417 : x413.toInt = 4 := ti_eq c415 rfl (by decide)
              refine lv_aload_n hx hb dX3_passHour_102 rfl (lv_at hl 2 rfl) ?_
              refine lv_aload_n hx hb dX3_passHour_103 rfl (lv_at hl 2 rfl) ?_
              refine tw_getM (v := .ref b407) hx hb hts bF2_X3 hown hK hT hr_o0 shc_6 rfl 2 (by decide) (ht_at2 hts 38 rfl) (fun _ h9 => h9) m406 dX3_passHour_104 ?_
              refine lv_iload_n hx hb dX3_passHour_107 rfl (lv_at hl 0 rfl) ?_
              refine tw_aald (i := (nI i249)) hx hb hK hT hg408 shc_18 rfl (vp_in_nI (by omega) (by decide)) dX3_passHour_108 (fun v9 m418 h9 => ?_)
              obtain ⟨b419, rfl, hg420⟩ := h9
              obtain rfl : b410 = b419 := (el_sameR m418 m409 (show (nI i249).toInt = (nI i249).toInt from by have q9 := (show (nI i249).toInt = ((i249 : Nat) : Int) from (nI_toInt (by omega))); have q8 := (show (nI i249).toInt = ((i249 : Nat) : Int) from (nI_toInt (by omega))); omega)).symm
              refine lv_iload_n hx hb dX3_passHour_109 rfl (lv_at hl 1 rfl) ?_
              have hFc := gA_free hG hA hS
              refine va_callv (va_runV (As := [.ref b410, .int r7]) (rest := []) ⟨hx, hb, hml, hown, hts⟩ (c_runSluice l dC dI kA adK adV G H nC nS o0 b410 r7 hT hg411 hr_o0 (by omega) (by omega)) (cwV 2 hts (goodIn_app (goodIn_r _ [67, 68, 69, 70] rfl (by decide +kernel)) (goodIn_ca (goodIn_r _ [40, 17, 41, 42, 32, 43, 44, 45, 37, 46, 47, 48, 49, 50, 51, 52, 53, 54, 55, 56, 57, 58, 59, 60, 61, 62, 63, 64, 65, 66] rfl (by decide +kernel)) (bs2_in _ _))) rfl rfl rfl (by decide +kernel) ⟨(Nat.le_of_ble_eq_true rfl), (Nat.le_of_ble_eq_true rfl)⟩) ⟨fun a U g mk q => by obtain ⟨q0, q1, qK, qE⟩ := q; exact ⟨q0, q1, va_K.moved (u := U) (U := U.calling g mk a) (Vm.Alike.refl U.vm) qK, EVC.blind g mk a qE⟩, gH_rc hK hT hr_o0 shc_6 rfl, fun U hU hW => ⟨rfl, hU, va_K.moved hW.alike hK, hE.call hS hFc hU hW⟩⟩ rfl rfl hl.1 rfl (lv_room (Nat.le_of_ble_eq_true rfl)) dX3_passHour_110 ⟨(Nat.le_of_ble_eq_true rfl), (Nat.le_of_ble_eq_true rfl)⟩) hS (fun q _ h => hFc q h) hFc (fun u t H locs ht hvm hw422 hB _ _ hS => ?_)
              obtain ⟨hT, hF1⟩ := hB
              rw [ht] at hT hF1
              have m423 := (hF1.fld hr_o0 skc_6 (k := 4) (by decide) (by decide)).trans m250
              have m424 := (hF1.fld hr_o0 skc_6 (k := 0) (by decide) (by decide)).trans m251
              have m425 := (hF1.fld hr_o0 skc_6 (k := 1) (by decide) (by decide)).trans m252
              have m426 := (hF1.fld hr_o0 skc_6 (k := 3) (by decide) (by decide)).trans m253
              have hF := hF.more hF1 (by decide)
              try dsimp only at hw422
              refine lv_iinc (v := nI (i249 + 1)) (lv' := [(2, .int (nI (i249 + 1))), (1, .int r7), (0, .ref o0)]) hx hb dX3_passHour_113 hl (k := 0) rfl (nI_add i249 1) (by decide) rfl (fun ls hl => ?_)
              refine lv_goto (tgt := 81) hx hb dX3_passHour_116 (by decide) ?_
              exact ih399 (i249 + 1) (by omega) (by omega) _ _ hT hF hS m423 m424 m425 m426 ls (lv_sub hl [0, 1, 2] rfl)
      exact key399 (30 - 0) 0 (by omega) (Nat.le_refl _) _ _ hT hF hS m25 m26 m27 m245 ls (lv_sub hl [0, 1, 2] rfl)
    | succ n243 ih243 =>
      intro i24 hn243 hlo244  H locs hT hF hS m25 m26 m27 ls hl
      have hlt429 : i24 < 30 := by omega
      refine lv_iload_n hx hb dX3_passHour_42 rfl (lv_at hl 0 rfl) ?_
      refine lv_aload_n hx hb dX3_passHour_43 rfl (lv_at hl 2 rfl) ?_
      refine tw_get hx hb hts bF2_X3 hown hK hT hr_o0 shc_6 rfl 3 (by decide) (ht_at2 hts 37 rfl) (fun _ h9 => h9) dX3_passHour_44 (fun v9 m430 h9 => ?_)
      obtain ⟨x431, rfl, gx431, kx431⟩ := h9 _ rfl
      refine lv_icmp_ge (tgt := 79) hx hb dX3_passHour_47 (by decide) (fun c432 => ?_) (fun c432 => ?_)
      · have t433 : x431.toInt ≤ ((i24 : Nat) : Int) := ti_le c432 rfl (nI_toInt (by omega))
        refine lv_iconst (v := 0) hx hb dX3_passHour_79 (by decide) ?_
        refine lv_istore_n (lv' := [(2, .int 0), (1, .int r7), (0, .ref o0)]) hx hb dX3_passHour_80 rfl hl (by decide) rfl (fun ls hl => ?_)
        have jn554 : ∀ (z548 : Int32), ((0 ≤ z548.toInt ∧ z548.toInt ≤ 30)) → ∀ (H : Heap) (locs : List Loc), gH (dC, dI) kA (SHc nC nS) G H → gF (dC, dI) SKc G ([(5, 11), (5, 12), (5, 13), (6, 4), (13, 2), (13, 6), (13, 8), (13, 10), (13, 11), (26, 0), (29, 0), (30, 0), (31, 0), (32, 0), (33, 0), (34, 0), (35, 0)] : List (Nat × Nat)) s.heap H → va_S A s.heap H locs → el H o0 (dI 6 4) = some (.int x1) → el H o0 (dI 6 0) = some (.ref b5) → el H o0 (dI 6 1) = some (.ref b12) → el H o0 (dI 6 3) = some (.int x431) → ∀ ls : Array Slot, lv_has ls 3 [(2, .int z548), (1, .int r7), (0, .ref o0)] → W p l e (headSpec w_c_passHour ({ frames := 6, cells := 0, slots := 0, locals := 136 })).room s m #[.ref o0] below meth c H locs 0 0 (MQ below (va_Qv (fun (u : Unit) => True) (fun (_ : Unit) (t : State) => gH (dC, dI) kA (SHc nC nS) G t.heap ∧ gF (dC, dI) SKc G ([(5, 11), (5, 12), (5, 13), (6, 4), (13, 2), (13, 6), (13, 8), (13, 10), (13, 11), (26, 0), (29, 0), (30, 0), (31, 0), (32, 0), (33, 0), (34, 0), (35, 0)] : List (Nat × Nat)) s.heap t.heap) A) #[.ref o0] s 0 0 A) (F0 m 119 ls []) := by
          intro z548 h549 H locs hT hF hS m550 m551 m552 m553 ls hl
          refine lv_aload_n hx hb dX3_passHour_119 rfl (lv_at hl 2 rfl) ?_
          refine tw_getM (v := .ref b12) hx hb hts bF2_X3 hown hK hT hr_o0 shc_6 rfl 1 (by decide) (ht_at2 hts 16 rfl) (fun _ h9 => h9) m552 dX3_passHour_120 ?_
          have hFc := gA_free hG hA hS
          refine va_callv (va_runV (As := []) (rest := []) ⟨hx, hb, hml, hown, hts⟩ (c_runDitches l dC dI kA adK adV G H nC nS b12 hT hg13 (by omega) (by omega)) (cwV 0 hts (goodIn_app (goodIn_r _ [90, 91, 92, 37] rfl (by decide +kernel)) (goodIn_ca (goodIn_r _ [71, 72, 32, 73, 51, 74, 75, 76, 77, 78, 41, 42, 79, 44, 45, 37, 80, 81, 82, 83, 84, 85, 86, 47, 48, 49, 52, 53, 54, 55, 87, 88, 89] rfl (by decide +kernel)) (bs2_in _ _))) rfl rfl rfl (by decide +kernel) ⟨(Nat.le_of_ble_eq_true rfl), (Nat.le_of_ble_eq_true rfl)⟩) ⟨fun a U g mk q => by obtain ⟨q0, q1, qK, qE⟩ := q; exact ⟨q0, q1, va_K.moved (u := U) (U := U.calling g mk a) (Vm.Alike.refl U.vm) qK, EVC.blind g mk a qE⟩, gH_rc hK hT hg13 shc_5 rfl, fun U hU hW => ⟨rfl, hU, va_K.moved hW.alike hK, hE.call hS hFc hU hW⟩⟩ rfl rfl hl.1 rfl (lv_room (Nat.le_of_ble_eq_true rfl)) dX3_passHour_123 ⟨(Nat.le_of_ble_eq_true rfl), (Nat.le_of_ble_eq_true rfl)⟩) hS (fun q _ h => hFc q h) hFc (fun u t H locs ht hvm hw556 hB _ _ hS => ?_)
          obtain ⟨hT, hF1⟩ := hB
          rw [ht] at hT hF1
          have m557 := (hF1.fld hr_o0 skc_6 (k := 4) (by decide) (by decide)).trans m550
          have m558 := (hF1.fld hr_o0 skc_6 (k := 0) (by decide) (by decide)).trans m551
          have m559 := (hF1.fld hr_o0 skc_6 (k := 1) (by decide) (by decide)).trans m552
          have hF := hF.more hF1 (by decide)
          try dsimp only at hw556
          refine lv_aload_n hx hb dX3_passHour_126 rfl (lv_at hl 2 rfl) ?_
          refine lv_aload_n hx hb dX3_passHour_127 rfl (lv_at hl 2 rfl) ?_
          refine tw_getM (v := .ref b5) hx hb hts bF2_X3 hown hK hT hr_o0 shc_6 rfl 0 (by decide) (ht_at2 hts 1 rfl) (fun _ h9 => h9) m558 dX3_passHour_128 ?_
          refine lv_aload_n hx hb dX3_passHour_131 rfl (lv_at hl 2 rfl) ?_
          refine tw_getM (v := .int x1) hx hb hts bF2_X3 hown hK hT hr_o0 shc_6 rfl 4 (by decide) (ht_at2 hts 0 rfl) (fun _ h9 => h9) m557 dX3_passHour_132 ?_
          have hFc := gA_free hG hA hS
          refine va_calli (va_runV (As := [.int x1]) (rest := [.ref o0]) ⟨hx, hb, hml, hown, hts⟩ (c_windAt l dC dI kA adK adV G H nC nS b5 x1 hT hg6 (by omega) (by omega)) (cwV 1 hts (goodIn_app (goodIn_r _ [108, 109, 110, 16] rfl (by decide +kernel)) (goodIn_ca (goodIn_r _ [93, 94, 20, 21, 22, 23, 24, 25, 26, 95, 96, 97, 98, 99, 100, 101, 102, 103, 104, 105, 106, 48, 107] rfl (by decide +kernel)) (bs2_in _ _))) rfl rfl rfl (by decide +kernel) ⟨(Nat.le_of_ble_eq_true rfl), (Nat.le_of_ble_eq_true rfl)⟩) ⟨fun a U g mk q => by obtain ⟨q0, q1, qK, qE⟩ := q; exact ⟨q0, q1, va_K.moved (u := U) (U := U.calling g mk a) (Vm.Alike.refl U.vm) qK, EVC.blind g mk a qE⟩, gH_rc hK hT hg6 shc_11 rfl, fun U hU hW => ⟨rfl, hU, va_K.moved hW.alike hK, hE.call hS hFc hU hW⟩⟩ rfl rfl hl.1 rfl (lv_room (Nat.le_of_ble_eq_true rfl)) dX3_passHour_135 ⟨(Nat.le_of_ble_eq_true rfl), (Nat.le_of_ble_eq_true rfl)⟩) hS (fun q _ h => hFc q h) hFc (fun r561 u t H locs ht hvm hw562 hB _ _ hS => ?_)
          obtain ⟨hT, hF1⟩ := hB
          rw [ht] at hT hF1
          have m563 := (hF1.fld hr_o0 skc_6 (k := 4) (by decide) (by decide)).trans m557
          have m565 := (hF1.fld hr_o0 skc_6 (k := 1) (by decide) (by decide)).trans m559
          have hF := hF.more hF1 (by decide)
          try dsimp only at hw562
          have hFc := gA_free hG hA hS
          refine va_callv (va_runV (As := [.int r561]) (rest := []) ⟨hx, hb, hml, hown, hts⟩ (c_runMills l dC dI kA adK adV G H nC nS o0 r561 hT hr_o0 (by omega) (by omega)) (cwV 1 hts (goodIn_app (goodIn_r _ [125, 126, 127, 70] rfl (by decide +kernel)) (goodIn_ca (goodIn_r _ [111, 38, 39, 112, 113, 17, 46, 47, 48, 49, 114, 31, 52, 32, 51, 53, 54, 55, 37, 50, 56, 115, 58, 59, 116, 117, 118, 60, 61, 62, 63, 64, 65, 66, 119, 120, 121, 70, 122, 123, 124] rfl (by decide +kernel)) (bs2_in _ _))) rfl rfl rfl (by decide +kernel) ⟨(Nat.le_of_ble_eq_true rfl), (Nat.le_of_ble_eq_true rfl)⟩) ⟨fun a U g mk q => by obtain ⟨q0, q1, qK, qE⟩ := q; exact ⟨q0, q1, va_K.moved (u := U) (U := U.calling g mk a) (Vm.Alike.refl U.vm) qK, EVC.blind g mk a qE⟩, gH_rc hK hT hr_o0 shc_6 rfl, fun U hU hW => ⟨rfl, hU, va_K.moved hW.alike hK, hE.call hS hFc hU hW⟩⟩ rfl rfl hl.1 rfl (lv_room (Nat.le_of_ble_eq_true rfl)) dX3_passHour_138 ⟨(Nat.le_of_ble_eq_true rfl), (Nat.le_of_ble_eq_true rfl)⟩) hS (fun q _ h => hFc q h) hFc (fun u t H locs ht hvm hw568 hB _ _ hS => ?_)
          obtain ⟨hT, hF1⟩ := hB
          rw [ht] at hT hF1
          have m569 := (hF1.fld hr_o0 skc_6 (k := 4) (by decide) (by decide)).trans m563
          have m571 := (hF1.fld hr_o0 skc_6 (k := 1) (by decide) (by decide)).trans m565
          have hF := hF.more hF1 (by decide)
          try dsimp only at hw568
          refine lv_aload_n hx hb dX3_passHour_141 rfl (lv_at hl 2 rfl) ?_
          refine tw_getM (v := .int x1) hx hb hts bF2_X3 hown hK hT hr_o0 shc_6 rfl 4 (by decide) (ht_at2 hts 0 rfl) (fun _ h9 => h9) m569 dX3_passHour_142 ?_
          refine lv_bipush (v := 24) hx hb dX3_passHour_145 (by decide) ?_
          refine lv_irem hx hb dX3_passHour_147 (by decide) ?_
          refine lv_topi (fun x573 ex573 => ?_)
          have t574 : x573.toInt = x1.toInt % 24 := ti_rem ex573 rfl (by decide) (by omega) (by omega)
          refine lv_if_ne (tgt := 158) hx hb dX3_passHour_148 (by decide) (fun c575 => ?_) (fun c575 => ?_)
          · have t576 : x573.toInt ≠ 0 := ti_ne c575 rfl (by decide)
            exact W.vret hx hb hr (fun t ht hW => ⟨⟨(), rfl, (by exact trivial), by (try dsimp only); rw [ht]; exact ⟨hT, hF⟩⟩, hS.F ht⟩) hS.2.2 dX3_passHour_158
          · have t577 : x573.toInt = 0 := ti_eq c575 rfl (by decide)
            refine lv_aload_n hx hb dX3_passHour_151 rfl (lv_at hl 2 rfl) ?_
            refine tw_getM (v := .ref b12) hx hb hts bF2_X3 hown hK hT hr_o0 shc_6 rfl 1 (by decide) (ht_at2 hts 16 rfl) (fun _ h9 => h9) m571 dX3_passHour_152 ?_
            have hFc := gA_free hG hA hS
            refine va_callv (va_runV (As := []) (rest := []) ⟨hx, hb, hml, hown, hts⟩ (c_endDay l dC dI kA adK adV G H nC nS b12 hT hg13 (by omega) (by omega)) (cwV 0 hts (goodIn_app (goodIn_r _ [136, 137, 138, 37] rfl (by decide +kernel)) (goodIn_ca (goodIn_r _ [128, 31, 32, 129, 42, 130, 131, 132, 133, 134, 37, 51, 135] rfl (by decide +kernel)) (bs2_in _ _))) rfl rfl rfl (by decide +kernel) ⟨(Nat.le_of_ble_eq_true rfl), (Nat.le_of_ble_eq_true rfl)⟩) ⟨fun a U g mk q => by obtain ⟨q0, q1, qK, qE⟩ := q; exact ⟨q0, q1, va_K.moved (u := U) (U := U.calling g mk a) (Vm.Alike.refl U.vm) qK, EVC.blind g mk a qE⟩, gH_rc hK hT hg13 shc_5 rfl, fun U hU hW => ⟨rfl, hU, va_K.moved hW.alike hK, hE.call hS hFc hU hW⟩⟩ rfl rfl hl.1 rfl (lv_room (Nat.le_of_ble_eq_true rfl)) dX3_passHour_155 ⟨(Nat.le_of_ble_eq_true rfl), (Nat.le_of_ble_eq_true rfl)⟩) hS (fun q _ h => hFc q h) hFc (fun u t H locs ht hvm hw579 hB _ _ hS => ?_)
            obtain ⟨hT, hF1⟩ := hB
            rw [ht] at hT hF1
            have hF := hF.more hF1 (by decide)
            try dsimp only at hw579
            exact W.vret hx hb hr (fun t ht hW => ⟨⟨(), rfl, (by exact trivial), by (try dsimp only); rw [ht]; exact ⟨hT, hF⟩⟩, hS.F ht⟩) hS.2.2 dX3_passHour_158
        have key584 : ∀ (n584 i434 : Nat), i434 + n584 = 30 → 0 ≤ i434 → ∀ (H : Heap) (locs : List Loc), gH (dC, dI) kA (SHc nC nS) G H → gF (dC, dI) SKc G ([(5, 11), (5, 12), (5, 13), (6, 4), (13, 2), (13, 6), (13, 8), (13, 10), (13, 11), (26, 0), (29, 0), (30, 0), (31, 0), (32, 0), (33, 0), (34, 0), (35, 0)] : List (Nat × Nat)) s.heap H → va_S A s.heap H locs → el H o0 (dI 6 4) = some (.int x1) → el H o0 (dI 6 0) = some (.ref b5) → el H o0 (dI 6 1) = some (.ref b12) → el H o0 (dI 6 3) = some (.int x431) → ∀ ls : Array Slot, lv_has ls 3 [(2, .int (nI i434)), (1, .int r7), (0, .ref o0)] → W p l e (headSpec w_c_passHour ({ frames := 6, cells := 0, slots := 0, locals := 136 })).room s m #[.ref o0] below meth c H locs 0 0 (MQ below (va_Qv (fun (u : Unit) => True) (fun (_ : Unit) (t : State) => gH (dC, dI) kA (SHc nC nS) G t.heap ∧ gF (dC, dI) SKc G ([(5, 11), (5, 12), (5, 13), (6, 4), (13, 2), (13, 6), (13, 8), (13, 10), (13, 11), (26, 0), (29, 0), (30, 0), (31, 0), (32, 0), (33, 0), (34, 0), (35, 0)] : List (Nat × Nat)) s.heap t.heap) A) #[.ref o0] s 0 0 A) (F0 m 81 ls []) := by
          intro n584
          induction n584 with
          | zero =>
            intro i434 hn584 hlo585  H locs hT hF hS m435 m436 m437 m438 ls hl
            obtain rfl : 30 = i434 := by omega
            refine lv_iload_n hx hb dX3_passHour_81 rfl (lv_at hl 0 rfl) ?_
            refine lv_aload_n hx hb dX3_passHour_82 rfl (lv_at hl 2 rfl) ?_
            refine tw_getM (v := .int x431) hx hb hts bF2_X3 hown hK hT hr_o0 shc_6 rfl 3 (by decide) (ht_at2 hts 37 rfl) (fun _ h9 => h9) m438 dX3_passHour_83 ?_
            refine lv_icmp_ge (tgt := 119) hx hb dX3_passHour_86 (by decide) (fun c586 => ?_) (fun c586 => (by exfalso; have q9 : ((30 : Nat) : Int) < x431.toInt := ti_nle c586 rfl (nI_toInt (by omega)); omega))
            have t587 : x431.toInt ≤ ((30 : Nat) : Int) := ti_le c586 rfl (nI_toInt (by omega))
            exact jn554 (nI 30) (rg_t (a := ((30 : Nat) : Int)) (nI_toInt (by omega)) (by omega) (by omega)) _ _ hT hF hS m435 m436 m437 m438 ls (lv_sub hl [0, 1, 2] rfl)
          | succ n584 ih584 =>
            intro i434 hn584 hlo585  H locs hT hF hS m435 m436 m437 m438 ls hl
            have hlt587 : i434 < 30 := by omega
            refine lv_iload_n hx hb dX3_passHour_81 rfl (lv_at hl 0 rfl) ?_
            refine lv_aload_n hx hb dX3_passHour_82 rfl (lv_at hl 2 rfl) ?_
            refine tw_getM (v := .int x431) hx hb hts bF2_X3 hown hK hT hr_o0 shc_6 rfl 3 (by decide) (ht_at2 hts 37 rfl) (fun _ h9 => h9) m438 dX3_passHour_83 ?_
            refine lv_icmp_ge (tgt := 119) hx hb dX3_passHour_86 (by decide) (fun c588 => ?_) (fun c588 => ?_)
            · have t589 : x431.toInt ≤ ((i434 : Nat) : Int) := ti_le c588 rfl (nI_toInt (by omega))
              exact jn554 (nI i434) (rg_t (a := ((i434 : Nat) : Int)) (nI_toInt (by omega)) (by omega) (by omega)) _ _ hT hF hS m435 m436 m437 m438 ls (lv_sub hl [0, 1, 2] rfl)
            · have t590 : ((i434 : Nat) : Int) < x431.toInt := ti_nle c588 rfl (nI_toInt (by omega))
              refine lv_aload_n hx hb dX3_passHour_89 rfl (lv_at hl 2 rfl) ?_
              refine tw_get hx hb hts bF2_X3 hown hK hT hr_o0 shc_6 rfl 2 (by decide) (ht_at2 hts 38 rfl) (fun _ h9 => h9) dX3_passHour_90 (fun v9 m591 h9 => ?_)
              obtain ⟨b592, rfl, hg593⟩ := h9 _ rfl
              refine lv_iload_n hx hb dX3_passHour_93 rfl (lv_at hl 0 rfl) ?_
              refine tw_aald (i := (nI i434)) hx hb hK hT hg593 shc_18 rfl (vp_in_nI (by omega) (by decide)) dX3_passHour_94 (fun v9 m594 h9 => ?_)
              obtain ⟨b595, rfl, hg596⟩ := h9
              refine tw_getN hx hb hts bF2_X10 hown hK hT hg596 shc_13 rfl 2 (by decide) (hE.nw 79 rfl) (fun _ h9 => h9) dX3_passHour_95 (fun v9 m597 h9 => ?_)
              obtain ⟨x598, rfl, gx598, kx598⟩ := h9 _ rfl
              refine lv_iconst (v := 4) hx hb dX3_passHour_98 (by decide) ?_
              have t599 : -2147483648 ≤ x598.toInt ∧ x598.toInt ≤ 2147483647 := ti_all x598
              refine lv_icmp_ne (tgt := 113) hx hb dX3_passHour_99 (by decide) (fun c600 => ?_) (fun c600 => ?_)
              · have t601 : x598.toInt ≠ 4 := ti_ne c600 rfl (by decide)
                refine lv_iinc (v := nI (i434 + 1)) (lv' := [(2, .int (nI (i434 + 1))), (1, .int r7), (0, .ref o0)]) hx hb dX3_passHour_113 hl (k := 0) rfl (nI_add i434 1) (by decide) rfl (fun ls hl => ?_)
                refine lv_goto (tgt := 81) hx hb dX3_passHour_116 (by decide) ?_
                exact ih584 (i434 + 1) (by omega) (by omega) _ _ hT hF hS m435 m436 m437 m438 ls (lv_sub hl [0, 1, 2] rfl)
              · have t602 : x598.toInt = 4 := ti_eq c600 rfl (by decide)
                refine lv_aload_n hx hb dX3_passHour_102 rfl (lv_at hl 2 rfl) ?_
                refine lv_aload_n hx hb dX3_passHour_103 rfl (lv_at hl 2 rfl) ?_
                refine tw_getM (v := .ref b592) hx hb hts bF2_X3 hown hK hT hr_o0 shc_6 rfl 2 (by decide) (ht_at2 hts 38 rfl) (fun _ h9 => h9) m591 dX3_passHour_104 ?_
                refine lv_iload_n hx hb dX3_passHour_107 rfl (lv_at hl 0 rfl) ?_
                refine tw_aald (i := (nI i434)) hx hb hK hT hg593 shc_18 rfl (vp_in_nI (by omega) (by decide)) dX3_passHour_108 (fun v9 m603 h9 => ?_)
                obtain ⟨b604, rfl, hg605⟩ := h9
                obtain rfl : b595 = b604 := (el_sameR m603 m594 (show (nI i434).toInt = (nI i434).toInt from by have q9 := (show (nI i434).toInt = ((i434 : Nat) : Int) from (nI_toInt (by omega))); have q8 := (show (nI i434).toInt = ((i434 : Nat) : Int) from (nI_toInt (by omega))); omega)).symm
                refine lv_iload_n hx hb dX3_passHour_109 rfl (lv_at hl 1 rfl) ?_
                have hFc := gA_free hG hA hS
                refine va_callv (va_runV (As := [.ref b595, .int r7]) (rest := []) ⟨hx, hb, hml, hown, hts⟩ (c_runSluice l dC dI kA adK adV G H nC nS o0 b595 r7 hT hg596 hr_o0 (by omega) (by omega)) (cwV 2 hts (goodIn_app (goodIn_r _ [67, 68, 69, 70] rfl (by decide +kernel)) (goodIn_ca (goodIn_r _ [40, 17, 41, 42, 32, 43, 44, 45, 37, 46, 47, 48, 49, 50, 51, 52, 53, 54, 55, 56, 57, 58, 59, 60, 61, 62, 63, 64, 65, 66] rfl (by decide +kernel)) (bs2_in _ _))) rfl rfl rfl (by decide +kernel) ⟨(Nat.le_of_ble_eq_true rfl), (Nat.le_of_ble_eq_true rfl)⟩) ⟨fun a U g mk q => by obtain ⟨q0, q1, qK, qE⟩ := q; exact ⟨q0, q1, va_K.moved (u := U) (U := U.calling g mk a) (Vm.Alike.refl U.vm) qK, EVC.blind g mk a qE⟩, gH_rc hK hT hr_o0 shc_6 rfl, fun U hU hW => ⟨rfl, hU, va_K.moved hW.alike hK, hE.call hS hFc hU hW⟩⟩ rfl rfl hl.1 rfl (lv_room (Nat.le_of_ble_eq_true rfl)) dX3_passHour_110 ⟨(Nat.le_of_ble_eq_true rfl), (Nat.le_of_ble_eq_true rfl)⟩) hS (fun q _ h => hFc q h) hFc (fun u t H locs ht hvm hw607 hB _ _ hS => ?_)
                obtain ⟨hT, hF1⟩ := hB
                rw [ht] at hT hF1
                have m608 := (hF1.fld hr_o0 skc_6 (k := 4) (by decide) (by decide)).trans m435
                have m609 := (hF1.fld hr_o0 skc_6 (k := 0) (by decide) (by decide)).trans m436
                have m610 := (hF1.fld hr_o0 skc_6 (k := 1) (by decide) (by decide)).trans m437
                have m611 := (hF1.fld hr_o0 skc_6 (k := 3) (by decide) (by decide)).trans m438
                have hF := hF.more hF1 (by decide)
                try dsimp only at hw607
                refine lv_iinc (v := nI (i434 + 1)) (lv' := [(2, .int (nI (i434 + 1))), (1, .int r7), (0, .ref o0)]) hx hb dX3_passHour_113 hl (k := 0) rfl (nI_add i434 1) (by decide) rfl (fun ls hl => ?_)
                refine lv_goto (tgt := 81) hx hb dX3_passHour_116 (by decide) ?_
                exact ih584 (i434 + 1) (by omega) (by omega) _ _ hT hF hS m608 m609 m610 m611 ls (lv_sub hl [0, 1, 2] rfl)
        exact key584 (30 - 0) 0 (by omega) (Nat.le_refl _) _ _ hT hF hS m25 m26 m27 m430 ls (lv_sub hl [0, 1, 2] rfl)
      · have t615 : ((i24 : Nat) : Int) < x431.toInt := ti_nle c432 rfl (nI_toInt (by omega))
        refine lv_aload_n hx hb dX3_passHour_50 rfl (lv_at hl 2 rfl) ?_
        refine tw_get hx hb hts bF2_X3 hown hK hT hr_o0 shc_6 rfl 2 (by decide) (ht_at2 hts 38 rfl) (fun _ h9 => h9) dX3_passHour_51 (fun v9 m616 h9 => ?_)
        obtain ⟨b617, rfl, hg618⟩ := h9 _ rfl
        refine lv_iload_n hx hb dX3_passHour_54 rfl (lv_at hl 0 rfl) ?_
        refine tw_aald (i := (nI i24)) hx hb hK hT hg618 shc_18 rfl (vp_in_nI (by omega) (by decide)) dX3_passHour_55 (fun v9 m619 h9 => ?_)
        obtain ⟨b620, rfl, hg621⟩ := h9
        have hFc := gA_free hG hA hS
        refine va_calli (va_runV (As := []) (rest := []) ⟨hx, hb, hml, hown, hts⟩ (c_isBank l dC dI kA adK adV G H nC nS b620 hT hg621 (by omega) (by omega)) (cwV 0 hts (goodIn_app (goodIn_r _ [141, 142, 143, 66] rfl (by decide +kernel)) (goodIn_ca (goodIn_r _ [139, 140] rfl (by decide +kernel)) (bs2_in _ _))) rfl rfl rfl (by decide +kernel) ⟨(Nat.le_of_ble_eq_true rfl), (Nat.le_of_ble_eq_true rfl)⟩) ⟨fun a U g mk q => by obtain ⟨q0, q1, qK, qE⟩ := q; exact ⟨q0, q1, va_K.moved (u := U) (U := U.calling g mk a) (Vm.Alike.refl U.vm) qK, EVC.blind g mk a qE⟩, gH_rc hK hT hg621 shc_13 rfl, fun U hU hW => ⟨rfl, hU, va_K.moved hW.alike hK, hE.call hS hFc hU hW⟩⟩ rfl rfl hl.1 rfl (lv_room (Nat.le_of_ble_eq_true rfl)) dX3_passHour_56 ⟨(Nat.le_of_ble_eq_true rfl), (Nat.le_of_ble_eq_true rfl)⟩) hS (fun q _ h => hFc q h) hFc (fun r622 u t H locs ht hvm hw623 hB _ _ hS => ?_)
        obtain ⟨hT, hF1⟩ := hB
        rw [ht] at hT hF1
        have m624 := (hF1.fld hr_o0 skc_6 (k := 4) (by decide) (by decide)).trans m25
        have m625 := (hF1.fld hr_o0 skc_6 (k := 0) (by decide) (by decide)).trans m26
        have m626 := (hF1.fld hr_o0 skc_6 (k := 1) (by decide) (by decide)).trans m27
        have m628 := (hF1.fld hr_o0 skc_6 (k := 2) (by decide) (by decide)).trans m616
        have m629 := (el_kept (hF1.arr hg618 skc_18 (by decide))).trans m619
        have hF := hF.more hF1 (by decide)
        try dsimp only at hw623
        have h630 := hw623
        refine lv_if_eq (tgt := 73) hx hb dX3_passHour_59 (by decide) (fun c631 => ?_) (fun c631 => ?_)
        · have t632 : r622.toInt = 0 := ti_eq c631 rfl (by decide)
          refine lv_iinc (v := nI (i24 + 1)) (lv' := [(2, .int (nI (i24 + 1))), (1, .int r7), (0, .ref o0)]) hx hb dX3_passHour_73 hl (k := 0) rfl (nI_add i24 1) (by decide) rfl (fun ls hl => ?_)
          refine lv_goto (tgt := 42) hx hb dX3_passHour_76 (by decide) ?_
          exact ih243 (i24 + 1) (by omega) (by omega) _ _ hT hF hS m624 m625 m626 ls (lv_sub hl [0, 1, 2] rfl)
        · have t633 : r622.toInt ≠ 0 := ti_ne c631 rfl (by decide)
          refine lv_aload_n hx hb dX3_passHour_62 rfl (lv_at hl 2 rfl) ?_
          refine lv_aload_n hx hb dX3_passHour_63 rfl (lv_at hl 2 rfl) ?_
          refine tw_getM (v := .ref b617) hx hb hts bF2_X3 hown hK hT hr_o0 shc_6 rfl 2 (by decide) (ht_at2 hts 38 rfl) (fun _ h9 => h9) m628 dX3_passHour_64 ?_
          refine lv_iload_n hx hb dX3_passHour_67 rfl (lv_at hl 0 rfl) ?_
          refine tw_aald (i := (nI i24)) hx hb hK hT hg618 shc_18 rfl (vp_in_nI (by omega) (by decide)) dX3_passHour_68 (fun v9 m634 h9 => ?_)
          obtain ⟨b635, rfl, hg636⟩ := h9
          obtain rfl : b620 = b635 := (el_sameR m634 m629 (show (nI i24).toInt = (nI i24).toInt from by have q9 := (show (nI i24).toInt = ((i24 : Nat) : Int) from (nI_toInt (by omega))); have q8 := (show (nI i24).toInt = ((i24 : Nat) : Int) from (nI_toInt (by omega))); omega)).symm
          refine lv_iload_n hx hb dX3_passHour_69 rfl (lv_at hl 1 rfl) ?_
          have hFc := gA_free hG hA hS
          refine va_callv (va_runV (As := [.ref b620, .int r7]) (rest := []) ⟨hx, hb, hml, hown, hts⟩ (c_runBank l dC dI kA adK adV G H nC nS o0 b620 r7 hT hg621 hr_o0 (by omega) (by omega)) (cwV 2 hts (goodIn_app (goodIn_r _ [188, 189, 190, 70] rfl (by decide +kernel)) (goodIn_ca (goodIn_r _ [144, 145, 17, 41, 42, 32, 43, 44, 45, 37, 146, 106, 48, 107, 147, 148, 149, 150, 151, 152, 153, 66, 154, 155, 156, 70, 157, 140, 158, 159, 160, 161, 162, 163, 46, 47, 49, 50, 51, 52, 53, 54, 55, 56, 57, 58, 59, 164, 165, 166, 167, 168, 60, 61, 62, 63, 64, 65, 169, 170, 171, 172, 173, 174, 175, 176, 177, 178, 179, 180, 181, 182, 183, 184, 185, 186, 187] rfl (by decide +kernel)) (bs2_in _ _))) rfl rfl rfl (by decide +kernel) ⟨(Nat.le_of_ble_eq_true rfl), (Nat.le_of_ble_eq_true rfl)⟩) ⟨fun a U g mk q => by obtain ⟨q0, q1, qK, qE⟩ := q; exact ⟨q0, q1, va_K.moved (u := U) (U := U.calling g mk a) (Vm.Alike.refl U.vm) qK, EVC.blind g mk a qE⟩, gH_rc hK hT hr_o0 shc_6 rfl, fun U hU hW => ⟨rfl, hU, va_K.moved hW.alike hK, hE.call hS hFc hU hW⟩⟩ rfl rfl hl.1 rfl (lv_room (Nat.le_of_ble_eq_true rfl)) dX3_passHour_70 ⟨(Nat.le_of_ble_eq_true rfl), (Nat.le_of_ble_eq_true rfl)⟩) hS (fun q _ h => hFc q h) hFc (fun u t H locs ht hvm hw638 hB _ _ hS => ?_)
          obtain ⟨hT, hF1⟩ := hB
          rw [ht] at hT hF1
          have m639 := (hF1.fld hr_o0 skc_6 (k := 4) (by decide) (by decide)).trans m624
          have m640 := (hF1.fld hr_o0 skc_6 (k := 0) (by decide) (by decide)).trans m625
          have m641 := (hF1.fld hr_o0 skc_6 (k := 1) (by decide) (by decide)).trans m626
          have hF := hF.more hF1 (by decide)
          try dsimp only at hw638
          refine lv_iinc (v := nI (i24 + 1)) (lv' := [(2, .int (nI (i24 + 1))), (1, .int r7), (0, .ref o0)]) hx hb dX3_passHour_73 hl (k := 0) rfl (nI_add i24 1) (by decide) rfl (fun ls hl => ?_)
          refine lv_goto (tgt := 42) hx hb dX3_passHour_76 (by decide) ?_
          exact ih243 (i24 + 1) (by omega) (by omega) _ _ hT hF hS m639 m640 m641 ls (lv_sub hl [0, 1, 2] rfl)
  exact key243 (30 - 0) 0 (by omega) (Nat.le_refl _) _ _ hT hF hS m21 m22 m23 ls (lv_sub hl [0, 1, 2] rfl)
def w_c_copyL_i : List Cond := .code yX3_copyFrom cX3_copyFrom 3 none :: (HAppend.hAppend (α := List Cond) (β := List Cond) (γ := List Cond) [.fieldLink RX3 12 "SeaLand$Lake" "sky" "LSeaLand$Sky;", .code yX8_copyFrom cX8_copyFrom 2 none, .fieldLink RX8 9 "SeaLand$Sky" "tides" "[I", .methodLink RX8 63 arraycopyName, .native arraycopyName, .static arraycopyName, .initialized "java/lang/System", .fieldLink RX8 15 "SeaLand$Sky" "stormFrom" "[I", .fieldLink RX8 18 "SeaLand$Sky" "stormTo" "[I", .fieldLink RX8 21 "SeaLand$Sky" "stormMore" "[I", .fieldLink RX8 27 "SeaLand$Sky" "wind" "LSeaLand$Tellings;", .code yX9_copyFrom cX9_copyFrom 2 none, .fieldLink RX9 9 "SeaLand$Tellings" "hours" "[I", .methodLink RX9 23 arraycopyName, .fieldLink RX9 15 "SeaLand$Tellings" "numbers" "[I", .fieldLink RX9 18 "SeaLand$Tellings" "told" "I", .methodLink RX8 69 yX9_copyFrom, .instanceMethod yX9_copyFrom, .selects RX9 yX9_copyFrom yX9_copyFrom, .initialized RX9, .fieldLink RX8 31 "SeaLand$Sky" "rain" "LSeaLand$Tellings;", .fieldLink RX8 34 "SeaLand$Sky" "storms" "I", .methodLink RX3 175 yX8_copyFrom, .instanceMethod yX8_copyFrom, .selects RX8 yX8_copyFrom yX8_copyFrom, .initialized RX8, .fieldLink RX3 21 "SeaLand$Lake" "ground" "LSeaLand$Ground;", .code yX2_copyFrom cX2_copyFrom 2 none, .fieldLink RX2 9 "SeaLand$Ground" "isLand" "[Z", .methodLink RX2 95 arraycopyName, .fieldLink RX2 15 "SeaLand$Ground" "height" "[I", .fieldLink RX2 19 "SeaLand$Ground" "soil" "[I", .fieldLink RX2 22 "SeaLand$Ground" "ditch" "[I", .fieldLink RX2 25 "SeaLand$Ground" "water" "[I", .fieldLink RX2 28 "SeaLand$Ground" "salt" "[I", .fieldLink RX2 31 "SeaLand$Ground" "dry" "[I", .fieldLink RX2 34 "SeaLand$Ground" "wet" "[I", .fieldLink RX2 54 "SeaLand$Ground" "rained" "I", .fieldLink RX2 57 "SeaLand$Ground" "cameIn" "I", .fieldLink RX2 64 "SeaLand$Ground" "wentOut" "I", .fieldLink RX2 50 "SeaLand$Ground" "toldMore" "I", .methodLink RX3 179 yX2_copyFrom, .instanceMethod yX2_copyFrom, .selects RX2 yX2_copyFrom yX2_copyFrom, .initialized RX2, .fieldLink RX3 47 "SeaLand$Lake" "built" "I", .fieldLink RX3 32 "SeaLand$Lake" "hour" "I", .fieldLink RX3 27 "SeaLand$Lake" "works" "[LSeaLand$Work;", .code yX10_copyFrom cX10_copyFrom 2 none, .fieldLink RX10 9 "SeaLand$Work" "thick" "[I", .methodLink RX10 60 arraycopyName, .fieldLink RX10 15 "SeaLand$Work" "clay" "[I", .fieldLink RX10 18 "SeaLand$Work" "kind" "I", .fieldLink RX10 22 "SeaLand$Work" "square" "I", .fieldLink RX10 25 "SeaLand$Work" "to" "I", .fieldLink RX10 28 "SeaLand$Work" "size" "I", .fieldLink RX10 31 "SeaLand$Work" "width" "I", .fieldLink RX10 34 "SeaLand$Work" "layers" "I", .fieldLink RX10 37 "SeaLand$Work" "coal" "I", .fieldLink RX10 40 "SeaLand$Work" "on" "Z", .fieldLink RX10 44 "SeaLand$Work" "latest" "I", .fieldLink RX10 47 "SeaLand$Work" "total" "I", .methodLink RX3 182 yX10_copyFrom, .instanceMethod yX10_copyFrom, .selects RX10 yX10_copyFrom yX10_copyFrom, .initialized RX10] bs2)
set_option maxHeartbeats 4000000 in
set_option maxRecDepth 100000 in
theorem c_copyL_i (l : Launch) (dC : Nat → ClassId) (dI : Nat → Nat → Nat) (kA : Nat → ClassId) (adK adV : Nat → Nat) (G : gT) (H0 : Heap) (nC nS : Int) (o0 : Nat) (p0 : Nat)  (hT : gH (dC, dI) kA (SHc nC nS) G H0) (hr_o0 : G o0 = some 90) (hr_p0 : G p0 = some 6) (hgC : 0 ≤ nC ∧ nC ≤ 40) (hgS : 0 ≤ nS ∧ nS ≤ 60) : Met l yX3_copyFrom w_c_copyL_i ({ frames := 4, cells := 0, slots := 0, locals := 102 }) (va_Pc [.ref o0, .ref p0] (fun U => U.heap = H0 ∧ va_K (dC, dI) vwCl (tyl kA) U ∧ EVC adK adV (gA G H0.size) U U.heap)) (va_Qv (fun (u : Unit) => True) (fun (_ : Unit) (t : State) => gH (dC, dI) kA (SHc nC nS) G t.heap ∧ gF (dC, dI) SKc G ([(71, 0), (72, 0), (73, 0), (74, 0), (75, 0), (76, 0), (77, 0), (78, 0), (79, 0), (80, 0), (81, 0), (82, 0), (83, 0), (84, 0), (88, 0), (89, 0), (90, 3), (90, 4), (91, 6), (92, 2), (93, 11), (93, 12), (93, 13), (93, 14), (94, 2), (94, 3), (94, 4), (94, 5), (94, 6), (94, 7), (94, 8), (94, 9), (94, 10), (94, 11)] : List (Nat × Nat)) H0 t.heap) (gA G H0.size)) 0 0 (gA G H0.size) := by
  refine Met.ofW (cc := cX3_copyFrom) (maxL := 3) (ret := none) (by decide) rfl ?_
  intro p e s m args below meth c s₁ B hml hv
  obtain ⟨rfl, hH0, hK, hE⟩ := hv
  have hx := B.exec
  have hb := B.bytes
  have hr := B.returns
  have hts := atoms_spec (ws := w_c_copyL_i) B.pre
  have hown : s.vm.findClass RX3 = some m.cls := findClass_of_methodNamed B.named
  have hlocks := B.notSynchronized
  subst hH0
  generalize hAe : gA G s.heap.size = A at hE ⊢
  have hA : ∀ q : Nat, s.heap.size ≤ q → A q := fun q h => by rw [← hAe]; exact Or.inr h
  have hG := gA_of hAe
  have hS : va_S A s.heap s.heap [] := va_S.rf
  have hF : gF (dC, dI) SKc G ([(71, 0), (72, 0), (73, 0), (74, 0), (75, 0), (76, 0), (77, 0), (78, 0), (79, 0), (80, 0), (81, 0), (82, 0), (83, 0), (84, 0), (88, 0), (89, 0), (90, 3), (90, 4), (91, 6), (92, 2), (93, 11), (93, 12), (93, 13), (93, 14), (94, 2), (94, 3), (94, 4), (94, 5), (94, 6), (94, 7), (94, 8), (94, 9), (94, 10), (94, 11)] : List (Nat × Nat)) s.heap s.heap := gF.rf
  have hl := lv_entry ([.ref o0, .ref p0]) (n := 3) (Nat.le_of_ble_eq_true rfl)
  rw [lg_entry_eq]
  generalize (lg_sl ([.ref o0, .ref p0]) ++ List.replicate (3 - (lg_sl ([.ref o0, .ref p0])).length) Slot.unset).toArray = ls at hl ⊢
  have hl : lv_has ls 3 [(0, .ref o0), (1, .ref p0)] := hl
  refine lv_aload_n hx hb dX3_copyFrom_0 rfl (lv_at hl 0 rfl) ?_
  refine tw_get hx hb hts bF2_X3 hown hK hT hr_o0 shc_90 rfl 0 (by decide) (ht_at2 hts 0 rfl) (fun _ h9 => h9) dX3_copyFrom_1 (fun v9 m1 h9 => ?_)
  obtain ⟨b2, rfl, hg3⟩ := h9 _ rfl
  refine lv_aload_n hx hb dX3_copyFrom_4 rfl (lv_at hl 1 rfl) ?_
  refine tw_get hx hb hts bF2_X3 hown hK hT hr_p0 shc_6 rfl 0 (by decide) (ht_at2 hts 0 rfl) (fun _ h9 => h9) dX3_copyFrom_5 (fun v9 m4 h9 => ?_)
  obtain ⟨b5, rfl, hg6⟩ := h9 _ rfl
  have hFc := gA_free hG hA hS
  refine va_callv (va_runV (As := [.ref b5]) (rest := []) ⟨hx, hb, hml, hown, hts⟩ (c_copyS_i l dC dI kA adK adV G s.heap nC nS b2 b5 hT hg3 hg6 (by omega) (by omega)) (cwV 1 hts (goodIn_app (goodIn_r _ [23, 24, 25, 26] rfl (by decide +kernel)) (goodIn_ca (goodIn_r _ [2, 3, 4, 5, 6, 7, 8, 9, 10, 11, 12, 13, 14, 15, 16, 17, 18, 19, 20, 21, 22] rfl (by decide +kernel)) (bs2_in _ _))) rfl rfl rfl (by decide +kernel) ⟨(Nat.le_of_ble_eq_true rfl), (Nat.le_of_ble_eq_true rfl)⟩) ⟨fun a U g mk q => by obtain ⟨q0, q1, qK, qE⟩ := q; exact ⟨q0, q1, va_K.moved (u := U) (U := U.calling g mk a) (Vm.Alike.refl U.vm) qK, EVC.blind g mk a qE⟩, gH_rc hK hT hg3 shc_91 rfl, fun U hU hW => ⟨rfl, hU, va_K.moved hW.alike hK, hE.call hS hFc hU hW⟩⟩ rfl rfl hl.1 rfl (lv_room (Nat.le_of_ble_eq_true rfl)) dX3_copyFrom_8 ⟨(Nat.le_of_ble_eq_true rfl), (Nat.le_of_ble_eq_true rfl)⟩) hS (fun q _ h => hFc q h) hFc (fun u t H locs ht hvm hw8 hB _ _ hS => ?_)
  obtain ⟨hT, hF1⟩ := hB
  rw [ht] at hT hF1
  have m9 := (hF1.fld hr_o0 skc_90 (k := 0) (by decide) (by decide)).trans m1
  have m10 := (hF1.fld hr_p0 skc_6 (k := 0) (by decide) (by decide)).trans m4
  have hF := hF.more hF1 (by decide)
  try dsimp only at hw8
  refine lv_aload_n hx hb dX3_copyFrom_11 rfl (lv_at hl 0 rfl) ?_
  refine tw_get hx hb hts bF2_X3 hown hK hT hr_o0 shc_90 rfl 1 (by decide) (ht_at2 hts 26 rfl) (fun _ h9 => h9) dX3_copyFrom_12 (fun v9 m11 h9 => ?_)
  obtain ⟨b12, rfl, hg13⟩ := h9 _ rfl
  refine lv_aload_n hx hb dX3_copyFrom_15 rfl (lv_at hl 1 rfl) ?_
  refine tw_get hx hb hts bF2_X3 hown hK hT hr_p0 shc_6 rfl 1 (by decide) (ht_at2 hts 26 rfl) (fun _ h9 => h9) dX3_copyFrom_16 (fun v9 m14 h9 => ?_)
  obtain ⟨b15, rfl, hg16⟩ := h9 _ rfl
  have hFc := gA_free hG hA hS
  refine va_callv (va_runV (As := [.ref b15]) (rest := []) ⟨hx, hb, hml, hown, hts⟩ (c_copyG_i l dC dI kA adK adV G H nC nS b12 b15 hT hg13 hg16 (by omega) (by omega)) (cwV 1 hts (goodIn_app (goodIn_r _ [42, 43, 44, 45] rfl (by decide +kernel)) (goodIn_ca (goodIn_r _ [28, 29, 30, 5, 6, 7, 31, 32, 33, 34, 35, 36, 37, 38, 39, 40, 41] rfl (by decide +kernel)) (bs2_in _ _))) rfl rfl rfl (by decide +kernel) ⟨(Nat.le_of_ble_eq_true rfl), (Nat.le_of_ble_eq_true rfl)⟩) ⟨fun a U g mk q => by obtain ⟨q0, q1, qK, qE⟩ := q; exact ⟨q0, q1, va_K.moved (u := U) (U := U.calling g mk a) (Vm.Alike.refl U.vm) qK, EVC.blind g mk a qE⟩, gH_rc hK hT hg13 shc_93 rfl, fun U hU hW => ⟨rfl, hU, va_K.moved hW.alike hK, hE.call hS hFc hU hW⟩⟩ rfl rfl hl.1 rfl (lv_room (Nat.le_of_ble_eq_true rfl)) dX3_copyFrom_19 ⟨(Nat.le_of_ble_eq_true rfl), (Nat.le_of_ble_eq_true rfl)⟩) hS (fun q _ h => hFc q h) hFc (fun u t H locs ht hvm hw18 hB _ _ hS => ?_)
  obtain ⟨hT, hF1⟩ := hB
  rw [ht] at hT hF1
  have m19 := (hF1.fld hr_o0 skc_90 (k := 0) (by decide) (by decide)).trans m9
  have m20 := (hF1.fld hr_p0 skc_6 (k := 0) (by decide) (by decide)).trans m10
  have m21 := (hF1.fld hr_o0 skc_90 (k := 1) (by decide) (by decide)).trans m11
  have m22 := (hF1.fld hr_p0 skc_6 (k := 1) (by decide) (by decide)).trans m14
  have hF := hF.more hF1 (by decide)
  try dsimp only at hw18
  refine lv_iconst (v := 0) hx hb dX3_copyFrom_22 (by decide) ?_
  refine lv_istore_n (lv' := [(2, .int 0), (0, .ref o0), (1, .ref p0)]) hx hb dX3_copyFrom_23 rfl hl (by decide) rfl (fun ls hl => ?_)
  have jn113 : ∀ (z104 : Int32), ∀ (z110 : Int32), ((0 ≤ z104.toInt ∧ z104.toInt ≤ 30) ∧ (0 ≤ z110.toInt ∧ z110.toInt ≤ 30)) → ∀ (H : Heap) (locs : List Loc), gH (dC, dI) kA (SHc nC nS) G H → gF (dC, dI) SKc G ([(71, 0), (72, 0), (73, 0), (74, 0), (75, 0), (76, 0), (77, 0), (78, 0), (79, 0), (80, 0), (81, 0), (82, 0), (83, 0), (84, 0), (88, 0), (89, 0), (90, 3), (90, 4), (91, 6), (92, 2), (93, 11), (93, 12), (93, 13), (93, 14), (94, 2), (94, 3), (94, 4), (94, 5), (94, 6), (94, 7), (94, 8), (94, 9), (94, 10), (94, 11)] : List (Nat × Nat)) s.heap H → va_S A s.heap H locs → el H o0 (dI 6 0) = some (.ref b2) → el H p0 (dI 6 0) = some (.ref b5) → el H o0 (dI 6 1) = some (.ref b12) → el H p0 (dI 6 1) = some (.ref b15) → el H p0 (dI 6 3) = some (.int z110) → ∀ ls : Array Slot, lv_has ls 3 [(2, .int z104), (0, .ref o0), (1, .ref p0)] → W p l e (headSpec w_c_copyL_i ({ frames := 4, cells := 0, slots := 0, locals := 102 })).room s m #[.ref o0, .ref p0] below meth c H locs 0 0 (MQ below (va_Qv (fun (u : Unit) => True) (fun (_ : Unit) (t : State) => gH (dC, dI) kA (SHc nC nS) G t.heap ∧ gF (dC, dI) SKc G ([(71, 0), (72, 0), (73, 0), (74, 0), (75, 0), (76, 0), (77, 0), (78, 0), (79, 0), (80, 0), (81, 0), (82, 0), (83, 0), (84, 0), (88, 0), (89, 0), (90, 3), (90, 4), (91, 6), (92, 2), (93, 11), (93, 12), (93, 13), (93, 14), (94, 2), (94, 3), (94, 4), (94, 5), (94, 6), (94, 7), (94, 8), (94, 9), (94, 10), (94, 11)] : List (Nat × Nat)) s.heap t.heap) A) #[.ref o0, .ref p0] s 0 0 A) (F0 m 53 ls []) := by
    intro z104 z110 ⟨h105, h111⟩ H locs hT hF hS m106 m107 m108 m109 m112 ls hl
    refine lv_aload_n hx hb dX3_copyFrom_53 rfl (lv_at hl 1 rfl) ?_
    refine lv_aload_n hx hb dX3_copyFrom_54 rfl (lv_at hl 2 rfl) ?_
    refine tw_getM (v := .int z110) hx hb hts bF2_X3 hown hK hT hr_p0 shc_6 rfl 3 (by decide) (ht_at2 hts 45 rfl) (fun _ h9 => h9) m112 dX3_copyFrom_55 ?_
    refine tw_put (v := .int z110) (ty := .int) hx hb hts bF2_X3 tyX3 tyX3_ok nmX3 hown hK hT hG hS hr_o0 shc_90 rfl 3 (by decide) (ht_at2 hts 45 rfl) (fun _ h9 => h9) rfl (by decide +kernel) rfl rfl (gl_at rfl (gi_of (show z110.toInt = z110.toInt from rfl) (by omega) (by omega))) dX3_copyFrom_58 (fun H locs hT oq m114 oj hS => ?_)
    have hF := hF.put hr_o0 skc_90 oq oj (by decide)
    refine lv_aload_n hx hb dX3_copyFrom_61 rfl (lv_at hl 1 rfl) ?_
    refine lv_aload_n hx hb dX3_copyFrom_62 rfl (lv_at hl 2 rfl) ?_
    refine tw_get hx hb hts bF2_X3 hown hK hT hr_p0 shc_6 rfl 4 (by decide) (ht_at2 hts 46 rfl) (fun _ h9 => h9) dX3_copyFrom_63 (fun v9 m120 h9 => ?_)
    obtain ⟨x121, rfl, gx121, kx121⟩ := h9 _ rfl
    refine tw_put (v := .int x121) (ty := .int) hx hb hts bF2_X3 tyX3 tyX3_ok nmX3 hown hK hT hG hS hr_o0 shc_90 rfl 4 (by decide) (ht_at2 hts 46 rfl) (fun _ h9 => h9) rfl (by decide +kernel) rfl rfl (gl_at rfl (gi_of (show x121.toInt = x121.toInt from rfl) (by omega) (by omega))) dX3_copyFrom_66 (fun H locs hT oq m122 oj hS => ?_)
    have hF := hF.put hr_o0 skc_90 oq oj (by decide)
    exact W.vret hx hb hr (fun t ht hW => ⟨⟨(), rfl, (by exact trivial), by (try dsimp only); rw [ht]; exact ⟨hT, hF⟩⟩, hS.F ht⟩) hS.2.2 dX3_copyFrom_69
  have key130 : ∀ (n130 i23 : Nat), i23 + n130 = 30 → 0 ≤ i23 → ∀ (H : Heap) (locs : List Loc), gH (dC, dI) kA (SHc nC nS) G H → gF (dC, dI) SKc G ([(71, 0), (72, 0), (73, 0), (74, 0), (75, 0), (76, 0), (77, 0), (78, 0), (79, 0), (80, 0), (81, 0), (82, 0), (83, 0), (84, 0), (88, 0), (89, 0), (90, 3), (90, 4), (91, 6), (92, 2), (93, 11), (93, 12), (93, 13), (93, 14), (94, 2), (94, 3), (94, 4), (94, 5), (94, 6), (94, 7), (94, 8), (94, 9), (94, 10), (94, 11)] : List (Nat × Nat)) s.heap H → va_S A s.heap H locs → el H o0 (dI 6 0) = some (.ref b2) → el H p0 (dI 6 0) = some (.ref b5) → el H o0 (dI 6 1) = some (.ref b12) → el H p0 (dI 6 1) = some (.ref b15) → ∀ ls : Array Slot, lv_has ls 3 [(2, .int (nI i23)), (0, .ref o0), (1, .ref p0)] → W p l e (headSpec w_c_copyL_i ({ frames := 4, cells := 0, slots := 0, locals := 102 })).room s m #[.ref o0, .ref p0] below meth c H locs 0 0 (MQ below (va_Qv (fun (u : Unit) => True) (fun (_ : Unit) (t : State) => gH (dC, dI) kA (SHc nC nS) G t.heap ∧ gF (dC, dI) SKc G ([(71, 0), (72, 0), (73, 0), (74, 0), (75, 0), (76, 0), (77, 0), (78, 0), (79, 0), (80, 0), (81, 0), (82, 0), (83, 0), (84, 0), (88, 0), (89, 0), (90, 3), (90, 4), (91, 6), (92, 2), (93, 11), (93, 12), (93, 13), (93, 14), (94, 2), (94, 3), (94, 4), (94, 5), (94, 6), (94, 7), (94, 8), (94, 9), (94, 10), (94, 11)] : List (Nat × Nat)) s.heap t.heap) A) #[.ref o0, .ref p0] s 0 0 A) (F0 m 24 ls []) := by
    intro n130
    induction n130 with
    | zero =>
      intro i23 hn130 hlo131  H locs hT hF hS m24 m25 m26 m27 ls hl
      obtain rfl : 30 = i23 := by omega
      refine lv_iload_n hx hb dX3_copyFrom_24 rfl (lv_at hl 0 rfl) ?_
      refine lv_aload_n hx hb dX3_copyFrom_25 rfl (lv_at hl 2 rfl) ?_
      refine tw_get hx hb hts bF2_X3 hown hK hT hr_p0 shc_6 rfl 3 (by decide) (ht_at2 hts 45 rfl) (fun _ h9 => h9) dX3_copyFrom_26 (fun v9 m132 h9 => ?_)
      obtain ⟨x133, rfl, gx133, kx133⟩ := h9 _ rfl
      refine lv_icmp_ge (tgt := 53) hx hb dX3_copyFrom_29 (by decide) (fun c134 => ?_) (fun c134 => (by exfalso; have q9 : ((30 : Nat) : Int) < x133.toInt := ti_nle c134 rfl (nI_toInt (by omega)); omega))
      have t135 : x133.toInt ≤ ((30 : Nat) : Int) := ti_le c134 rfl (nI_toInt (by omega))
      exact jn113 (nI 30) x133 ⟨(rg_t (a := ((30 : Nat) : Int)) (nI_toInt (by omega)) (by omega) (by omega)), (by have q8 := ti_all x133; omega)⟩ _ _ hT hF hS m24 m25 m26 m27 m132 ls (lv_sub hl [0, 1, 2] rfl)
    | succ n130 ih130 =>
      intro i23 hn130 hlo131  H locs hT hF hS m24 m25 m26 m27 ls hl
      have hlt135 : i23 < 30 := by omega
      refine lv_iload_n hx hb dX3_copyFrom_24 rfl (lv_at hl 0 rfl) ?_
      refine lv_aload_n hx hb dX3_copyFrom_25 rfl (lv_at hl 2 rfl) ?_
      refine tw_get hx hb hts bF2_X3 hown hK hT hr_p0 shc_6 rfl 3 (by decide) (ht_at2 hts 45 rfl) (fun _ h9 => h9) dX3_copyFrom_26 (fun v9 m136 h9 => ?_)
      obtain ⟨x137, rfl, gx137, kx137⟩ := h9 _ rfl
      refine lv_icmp_ge (tgt := 53) hx hb dX3_copyFrom_29 (by decide) (fun c138 => ?_) (fun c138 => ?_)
      · have t139 : x137.toInt ≤ ((i23 : Nat) : Int) := ti_le c138 rfl (nI_toInt (by omega))
        exact jn113 (nI i23) x137 ⟨(rg_t (a := ((i23 : Nat) : Int)) (nI_toInt (by omega)) (by omega) (by omega)), (by have q8 := ti_all x137; omega)⟩ _ _ hT hF hS m24 m25 m26 m27 m136 ls (lv_sub hl [0, 1, 2] rfl)
      · have t140 : ((i23 : Nat) : Int) < x137.toInt := ti_nle c138 rfl (nI_toInt (by omega))
        refine lv_aload_n hx hb dX3_copyFrom_32 rfl (lv_at hl 1 rfl) ?_
        refine tw_get hx hb hts bF2_X3 hown hK hT hr_o0 shc_90 rfl 2 (by decide) (ht_at2 hts 47 rfl) (fun _ h9 => h9) dX3_copyFrom_33 (fun v9 m141 h9 => ?_)
        obtain ⟨b142, rfl, hg143⟩ := h9 _ rfl
        refine lv_iload_n hx hb dX3_copyFrom_36 rfl (lv_at hl 0 rfl) ?_
        refine tw_aald (i := (nI i23)) hx hb hK hT hg143 shc_70 rfl (vp_in_nI (by omega) (by decide)) dX3_copyFrom_37 (fun v9 m144 h9 => ?_)
        obtain ⟨b145, rfl, hg146⟩ := h9
        refine lv_aload_n hx hb dX3_copyFrom_38 rfl (lv_at hl 2 rfl) ?_
        refine tw_get hx hb hts bF2_X3 hown hK hT hr_p0 shc_6 rfl 2 (by decide) (ht_at2 hts 47 rfl) (fun _ h9 => h9) dX3_copyFrom_39 (fun v9 m147 h9 => ?_)
        obtain ⟨b148, rfl, hg149⟩ := h9 _ rfl
        refine lv_iload_n hx hb dX3_copyFrom_42 rfl (lv_at hl 0 rfl) ?_
        refine tw_aald (i := (nI i23)) hx hb hK hT hg149 shc_18 rfl (vp_in_nI (by omega) (by decide)) dX3_copyFrom_43 (fun v9 m150 h9 => ?_)
        obtain ⟨b151, rfl, hg152⟩ := h9
        have hFc := gA_free hG hA hS
        refine va_callv (va_runV (As := [.ref b151]) (rest := []) ⟨hx, hb, hml, hown, hts⟩ (c_copyW_i l dC dI kA adK adV G H nC nS b145 b151 hT hg146 hg152 (by omega) (by omega)) (cwV 1 hts (goodIn_app (goodIn_r _ [63, 64, 65, 66] rfl (by decide +kernel)) (goodIn_ca (goodIn_r _ [49, 50, 51, 5, 6, 7, 52, 53, 54, 55, 56, 57, 58, 59, 60, 61, 62] rfl (by decide +kernel)) (bs2_in _ _))) rfl rfl rfl (by decide +kernel) ⟨(Nat.le_of_ble_eq_true rfl), (Nat.le_of_ble_eq_true rfl)⟩) ⟨fun a U g mk q => by obtain ⟨q0, q1, qK, qE⟩ := q; exact ⟨q0, q1, va_K.moved (u := U) (U := U.calling g mk a) (Vm.Alike.refl U.vm) qK, EVC.blind g mk a qE⟩, gH_rc hK hT hg146 shc_94 rfl, fun U hU hW => ⟨rfl, hU, va_K.moved hW.alike hK, hE.call hS hFc hU hW⟩⟩ rfl rfl hl.1 rfl (lv_room (Nat.le_of_ble_eq_true rfl)) dX3_copyFrom_44 ⟨(Nat.le_of_ble_eq_true rfl), (Nat.le_of_ble_eq_true rfl)⟩) hS (fun q _ h => hFc q h) hFc (fun u t H locs ht hvm hw154 hB _ _ hS => ?_)
        obtain ⟨hT, hF1⟩ := hB
        rw [ht] at hT hF1
        have m155 := (hF1.fld hr_o0 skc_90 (k := 0) (by decide) (by decide)).trans m24
        have m156 := (hF1.fld hr_p0 skc_6 (k := 0) (by decide) (by decide)).trans m25
        have m157 := (hF1.fld hr_o0 skc_90 (k := 1) (by decide) (by decide)).trans m26
        have m158 := (hF1.fld hr_p0 skc_6 (k := 1) (by decide) (by decide)).trans m27
        have hF := hF.more hF1 (by decide)
        try dsimp only at hw154
        refine lv_iinc (v := nI (i23 + 1)) (lv' := [(2, .int (nI (i23 + 1))), (0, .ref o0), (1, .ref p0)]) hx hb dX3_copyFrom_47 hl (k := 0) rfl (nI_add i23 1) (by decide) rfl (fun ls hl => ?_)
        refine lv_goto (tgt := 24) hx hb dX3_copyFrom_50 (by decide) ?_
        exact ih130 (i23 + 1) (by omega) (by omega) _ _ hT hF hS m155 m156 m157 m158 ls (lv_sub hl [0, 1, 2] rfl)
  exact key130 (30 - 0) 0 (by omega) (Nat.le_refl _) _ _ hT hF hS m19 m20 m21 m22 ls (lv_sub hl [0, 1, 2] rfl)
def w_c_copyL_l : List Cond := .code yX3_copyFrom cX3_copyFrom 3 none :: (HAppend.hAppend (α := List Cond) (β := List Cond) (γ := List Cond) [.fieldLink RX3 12 "SeaLand$Lake" "sky" "LSeaLand$Sky;", .code yX8_copyFrom cX8_copyFrom 2 none, .fieldLink RX8 9 "SeaLand$Sky" "tides" "[I", .methodLink RX8 63 arraycopyName, .native arraycopyName, .static arraycopyName, .initialized "java/lang/System", .fieldLink RX8 15 "SeaLand$Sky" "stormFrom" "[I", .fieldLink RX8 18 "SeaLand$Sky" "stormTo" "[I", .fieldLink RX8 21 "SeaLand$Sky" "stormMore" "[I", .fieldLink RX8 27 "SeaLand$Sky" "wind" "LSeaLand$Tellings;", .code yX9_copyFrom cX9_copyFrom 2 none, .fieldLink RX9 9 "SeaLand$Tellings" "hours" "[I", .methodLink RX9 23 arraycopyName, .fieldLink RX9 15 "SeaLand$Tellings" "numbers" "[I", .fieldLink RX9 18 "SeaLand$Tellings" "told" "I", .methodLink RX8 69 yX9_copyFrom, .instanceMethod yX9_copyFrom, .selects RX9 yX9_copyFrom yX9_copyFrom, .initialized RX9, .fieldLink RX8 31 "SeaLand$Sky" "rain" "LSeaLand$Tellings;", .fieldLink RX8 34 "SeaLand$Sky" "storms" "I", .methodLink RX3 175 yX8_copyFrom, .instanceMethod yX8_copyFrom, .selects RX8 yX8_copyFrom yX8_copyFrom, .initialized RX8, .fieldLink RX3 21 "SeaLand$Lake" "ground" "LSeaLand$Ground;", .code yX2_copyFrom cX2_copyFrom 2 none, .fieldLink RX2 9 "SeaLand$Ground" "isLand" "[Z", .methodLink RX2 95 arraycopyName, .fieldLink RX2 15 "SeaLand$Ground" "height" "[I", .fieldLink RX2 19 "SeaLand$Ground" "soil" "[I", .fieldLink RX2 22 "SeaLand$Ground" "ditch" "[I", .fieldLink RX2 25 "SeaLand$Ground" "water" "[I", .fieldLink RX2 28 "SeaLand$Ground" "salt" "[I", .fieldLink RX2 31 "SeaLand$Ground" "dry" "[I", .fieldLink RX2 34 "SeaLand$Ground" "wet" "[I", .fieldLink RX2 54 "SeaLand$Ground" "rained" "I", .fieldLink RX2 57 "SeaLand$Ground" "cameIn" "I", .fieldLink RX2 64 "SeaLand$Ground" "wentOut" "I", .fieldLink RX2 50 "SeaLand$Ground" "toldMore" "I", .methodLink RX3 179 yX2_copyFrom, .instanceMethod yX2_copyFrom, .selects RX2 yX2_copyFrom yX2_copyFrom, .initialized RX2, .fieldLink RX3 47 "SeaLand$Lake" "built" "I", .fieldLink RX3 32 "SeaLand$Lake" "hour" "I", .fieldLink RX3 27 "SeaLand$Lake" "works" "[LSeaLand$Work;", .code yX10_copyFrom cX10_copyFrom 2 none, .fieldLink RX10 9 "SeaLand$Work" "thick" "[I", .methodLink RX10 60 arraycopyName, .fieldLink RX10 15 "SeaLand$Work" "clay" "[I", .fieldLink RX10 18 "SeaLand$Work" "kind" "I", .fieldLink RX10 22 "SeaLand$Work" "square" "I", .fieldLink RX10 25 "SeaLand$Work" "to" "I", .fieldLink RX10 28 "SeaLand$Work" "size" "I", .fieldLink RX10 31 "SeaLand$Work" "width" "I", .fieldLink RX10 34 "SeaLand$Work" "layers" "I", .fieldLink RX10 37 "SeaLand$Work" "coal" "I", .fieldLink RX10 40 "SeaLand$Work" "on" "Z", .fieldLink RX10 44 "SeaLand$Work" "latest" "I", .fieldLink RX10 47 "SeaLand$Work" "total" "I", .methodLink RX3 182 yX10_copyFrom, .instanceMethod yX10_copyFrom, .selects RX10 yX10_copyFrom yX10_copyFrom, .initialized RX10] bs2)
set_option maxHeartbeats 4000000 in
set_option maxRecDepth 100000 in
theorem c_copyL_l (l : Launch) (dC : Nat → ClassId) (dI : Nat → Nat → Nat) (kA : Nat → ClassId) (adK adV : Nat → Nat) (G : gT) (H0 : Heap) (nC nS : Int) (o0 : Nat) (p0 : Nat)  (hT : gH (dC, dI) kA (SHc nC nS) G H0) (hr_o0 : G o0 = some 6) (hr_p0 : G p0 = some 90) (hgC : 0 ≤ nC ∧ nC ≤ 40) (hgS : 0 ≤ nS ∧ nS ≤ 60) : Met l yX3_copyFrom w_c_copyL_l ({ frames := 4, cells := 0, slots := 0, locals := 102 }) (va_Pc [.ref o0, .ref p0] (fun U => U.heap = H0 ∧ va_K (dC, dI) vwCl (tyl kA) U ∧ EVC adK adV (gA G H0.size) U U.heap)) (va_Qv (fun (u : Unit) => True) (fun (_ : Unit) (t : State) => gH (dC, dI) kA (SHc nC nS) G t.heap ∧ gF (dC, dI) SKc G ([(5, 11), (5, 12), (5, 13), (5, 14), (6, 3), (6, 4), (11, 6), (12, 2), (13, 2), (13, 3), (13, 4), (13, 5), (13, 6), (13, 7), (13, 8), (13, 9), (13, 10), (13, 11), (19, 0), (20, 0), (21, 0), (22, 0), (23, 0), (24, 0), (25, 0), (26, 0), (27, 0), (28, 0), (29, 0), (30, 0), (31, 0), (32, 0), (36, 0), (37, 0)] : List (Nat × Nat)) H0 t.heap) (gA G H0.size)) 0 0 (gA G H0.size) := by
  refine Met.ofW (cc := cX3_copyFrom) (maxL := 3) (ret := none) (by decide) rfl ?_
  intro p e s m args below meth c s₁ B hml hv
  obtain ⟨rfl, hH0, hK, hE⟩ := hv
  have hx := B.exec
  have hb := B.bytes
  have hr := B.returns
  have hts := atoms_spec (ws := w_c_copyL_l) B.pre
  have hown : s.vm.findClass RX3 = some m.cls := findClass_of_methodNamed B.named
  have hlocks := B.notSynchronized
  subst hH0
  generalize hAe : gA G s.heap.size = A at hE ⊢
  have hA : ∀ q : Nat, s.heap.size ≤ q → A q := fun q h => by rw [← hAe]; exact Or.inr h
  have hG := gA_of hAe
  have hS : va_S A s.heap s.heap [] := va_S.rf
  have hF : gF (dC, dI) SKc G ([(5, 11), (5, 12), (5, 13), (5, 14), (6, 3), (6, 4), (11, 6), (12, 2), (13, 2), (13, 3), (13, 4), (13, 5), (13, 6), (13, 7), (13, 8), (13, 9), (13, 10), (13, 11), (19, 0), (20, 0), (21, 0), (22, 0), (23, 0), (24, 0), (25, 0), (26, 0), (27, 0), (28, 0), (29, 0), (30, 0), (31, 0), (32, 0), (36, 0), (37, 0)] : List (Nat × Nat)) s.heap s.heap := gF.rf
  have hl := lv_entry ([.ref o0, .ref p0]) (n := 3) (Nat.le_of_ble_eq_true rfl)
  rw [lg_entry_eq]
  generalize (lg_sl ([.ref o0, .ref p0]) ++ List.replicate (3 - (lg_sl ([.ref o0, .ref p0])).length) Slot.unset).toArray = ls at hl ⊢
  have hl : lv_has ls 3 [(0, .ref o0), (1, .ref p0)] := hl
  refine lv_aload_n hx hb dX3_copyFrom_0 rfl (lv_at hl 0 rfl) ?_
  refine tw_get hx hb hts bF2_X3 hown hK hT hr_o0 shc_6 rfl 0 (by decide) (ht_at2 hts 0 rfl) (fun _ h9 => h9) dX3_copyFrom_1 (fun v9 m1 h9 => ?_)
  obtain ⟨b2, rfl, hg3⟩ := h9 _ rfl
  refine lv_aload_n hx hb dX3_copyFrom_4 rfl (lv_at hl 1 rfl) ?_
  refine tw_get hx hb hts bF2_X3 hown hK hT hr_p0 shc_90 rfl 0 (by decide) (ht_at2 hts 0 rfl) (fun _ h9 => h9) dX3_copyFrom_5 (fun v9 m4 h9 => ?_)
  obtain ⟨b5, rfl, hg6⟩ := h9 _ rfl
  have hFc := gA_free hG hA hS
  refine va_callv (va_runV (As := [.ref b5]) (rest := []) ⟨hx, hb, hml, hown, hts⟩ (c_copyS_l l dC dI kA adK adV G s.heap nC nS b2 b5 hT hg3 hg6 (by omega) (by omega)) (cwV 1 hts (goodIn_app (goodIn_r _ [23, 24, 25, 26] rfl (by decide +kernel)) (goodIn_ca (goodIn_r _ [2, 3, 4, 5, 6, 7, 8, 9, 10, 11, 12, 13, 14, 15, 16, 17, 18, 19, 20, 21, 22] rfl (by decide +kernel)) (bs2_in _ _))) rfl rfl rfl (by decide +kernel) ⟨(Nat.le_of_ble_eq_true rfl), (Nat.le_of_ble_eq_true rfl)⟩) ⟨fun a U g mk q => by obtain ⟨q0, q1, qK, qE⟩ := q; exact ⟨q0, q1, va_K.moved (u := U) (U := U.calling g mk a) (Vm.Alike.refl U.vm) qK, EVC.blind g mk a qE⟩, gH_rc hK hT hg3 shc_11 rfl, fun U hU hW => ⟨rfl, hU, va_K.moved hW.alike hK, hE.call hS hFc hU hW⟩⟩ rfl rfl hl.1 rfl (lv_room (Nat.le_of_ble_eq_true rfl)) dX3_copyFrom_8 ⟨(Nat.le_of_ble_eq_true rfl), (Nat.le_of_ble_eq_true rfl)⟩) hS (fun q _ h => hFc q h) hFc (fun u t H locs ht hvm hw8 hB _ _ hS => ?_)
  obtain ⟨hT, hF1⟩ := hB
  rw [ht] at hT hF1
  have m9 := (hF1.fld hr_o0 skc_6 (k := 0) (by decide) (by decide)).trans m1
  have m10 := (hF1.fld hr_p0 skc_90 (k := 0) (by decide) (by decide)).trans m4
  have hF := hF.more hF1 (by decide)
  try dsimp only at hw8
  refine lv_aload_n hx hb dX3_copyFrom_11 rfl (lv_at hl 0 rfl) ?_
  refine tw_get hx hb hts bF2_X3 hown hK hT hr_o0 shc_6 rfl 1 (by decide) (ht_at2 hts 26 rfl) (fun _ h9 => h9) dX3_copyFrom_12 (fun v9 m11 h9 => ?_)
  obtain ⟨b12, rfl, hg13⟩ := h9 _ rfl
  refine lv_aload_n hx hb dX3_copyFrom_15 rfl (lv_at hl 1 rfl) ?_
  refine tw_get hx hb hts bF2_X3 hown hK hT hr_p0 shc_90 rfl 1 (by decide) (ht_at2 hts 26 rfl) (fun _ h9 => h9) dX3_copyFrom_16 (fun v9 m14 h9 => ?_)
  obtain ⟨b15, rfl, hg16⟩ := h9 _ rfl
  have hFc := gA_free hG hA hS
  refine va_callv (va_runV (As := [.ref b15]) (rest := []) ⟨hx, hb, hml, hown, hts⟩ (c_copyG_l l dC dI kA adK adV G H nC nS b12 b15 hT hg13 hg16 (by omega) (by omega)) (cwV 1 hts (goodIn_app (goodIn_r _ [42, 43, 44, 45] rfl (by decide +kernel)) (goodIn_ca (goodIn_r _ [28, 29, 30, 5, 6, 7, 31, 32, 33, 34, 35, 36, 37, 38, 39, 40, 41] rfl (by decide +kernel)) (bs2_in _ _))) rfl rfl rfl (by decide +kernel) ⟨(Nat.le_of_ble_eq_true rfl), (Nat.le_of_ble_eq_true rfl)⟩) ⟨fun a U g mk q => by obtain ⟨q0, q1, qK, qE⟩ := q; exact ⟨q0, q1, va_K.moved (u := U) (U := U.calling g mk a) (Vm.Alike.refl U.vm) qK, EVC.blind g mk a qE⟩, gH_rc hK hT hg13 shc_5 rfl, fun U hU hW => ⟨rfl, hU, va_K.moved hW.alike hK, hE.call hS hFc hU hW⟩⟩ rfl rfl hl.1 rfl (lv_room (Nat.le_of_ble_eq_true rfl)) dX3_copyFrom_19 ⟨(Nat.le_of_ble_eq_true rfl), (Nat.le_of_ble_eq_true rfl)⟩) hS (fun q _ h => hFc q h) hFc (fun u t H locs ht hvm hw18 hB _ _ hS => ?_)
  obtain ⟨hT, hF1⟩ := hB
  rw [ht] at hT hF1
  have m19 := (hF1.fld hr_o0 skc_6 (k := 0) (by decide) (by decide)).trans m9
  have m20 := (hF1.fld hr_p0 skc_90 (k := 0) (by decide) (by decide)).trans m10
  have m21 := (hF1.fld hr_o0 skc_6 (k := 1) (by decide) (by decide)).trans m11
  have m22 := (hF1.fld hr_p0 skc_90 (k := 1) (by decide) (by decide)).trans m14
  have hF := hF.more hF1 (by decide)
  try dsimp only at hw18
  refine lv_iconst (v := 0) hx hb dX3_copyFrom_22 (by decide) ?_
  refine lv_istore_n (lv' := [(2, .int 0), (0, .ref o0), (1, .ref p0)]) hx hb dX3_copyFrom_23 rfl hl (by decide) rfl (fun ls hl => ?_)
  have jn113 : ∀ (z104 : Int32), ∀ (z110 : Int32), ((0 ≤ z104.toInt ∧ z104.toInt ≤ 30) ∧ (0 ≤ z110.toInt ∧ z110.toInt ≤ 30)) → ∀ (H : Heap) (locs : List Loc), gH (dC, dI) kA (SHc nC nS) G H → gF (dC, dI) SKc G ([(5, 11), (5, 12), (5, 13), (5, 14), (6, 3), (6, 4), (11, 6), (12, 2), (13, 2), (13, 3), (13, 4), (13, 5), (13, 6), (13, 7), (13, 8), (13, 9), (13, 10), (13, 11), (19, 0), (20, 0), (21, 0), (22, 0), (23, 0), (24, 0), (25, 0), (26, 0), (27, 0), (28, 0), (29, 0), (30, 0), (31, 0), (32, 0), (36, 0), (37, 0)] : List (Nat × Nat)) s.heap H → va_S A s.heap H locs → el H o0 (dI 6 0) = some (.ref b2) → el H p0 (dI 6 0) = some (.ref b5) → el H o0 (dI 6 1) = some (.ref b12) → el H p0 (dI 6 1) = some (.ref b15) → el H p0 (dI 6 3) = some (.int z110) → ∀ ls : Array Slot, lv_has ls 3 [(2, .int z104), (0, .ref o0), (1, .ref p0)] → W p l e (headSpec w_c_copyL_l ({ frames := 4, cells := 0, slots := 0, locals := 102 })).room s m #[.ref o0, .ref p0] below meth c H locs 0 0 (MQ below (va_Qv (fun (u : Unit) => True) (fun (_ : Unit) (t : State) => gH (dC, dI) kA (SHc nC nS) G t.heap ∧ gF (dC, dI) SKc G ([(5, 11), (5, 12), (5, 13), (5, 14), (6, 3), (6, 4), (11, 6), (12, 2), (13, 2), (13, 3), (13, 4), (13, 5), (13, 6), (13, 7), (13, 8), (13, 9), (13, 10), (13, 11), (19, 0), (20, 0), (21, 0), (22, 0), (23, 0), (24, 0), (25, 0), (26, 0), (27, 0), (28, 0), (29, 0), (30, 0), (31, 0), (32, 0), (36, 0), (37, 0)] : List (Nat × Nat)) s.heap t.heap) A) #[.ref o0, .ref p0] s 0 0 A) (F0 m 53 ls []) := by
    intro z104 z110 ⟨h105, h111⟩ H locs hT hF hS m106 m107 m108 m109 m112 ls hl
    refine lv_aload_n hx hb dX3_copyFrom_53 rfl (lv_at hl 1 rfl) ?_
    refine lv_aload_n hx hb dX3_copyFrom_54 rfl (lv_at hl 2 rfl) ?_
    refine tw_getM (v := .int z110) hx hb hts bF2_X3 hown hK hT hr_p0 shc_90 rfl 3 (by decide) (ht_at2 hts 45 rfl) (fun _ h9 => h9) m112 dX3_copyFrom_55 ?_
    refine tw_put (v := .int z110) (ty := .int) hx hb hts bF2_X3 tyX3 tyX3_ok nmX3 hown hK hT hG hS hr_o0 shc_6 rfl 3 (by decide) (ht_at2 hts 45 rfl) (fun _ h9 => h9) rfl (by decide +kernel) rfl rfl (gl_at rfl (gi_of (show z110.toInt = z110.toInt from rfl) (by omega) (by omega))) dX3_copyFrom_58 (fun H locs hT oq m114 oj hS => ?_)
    have hF := hF.put hr_o0 skc_6 oq oj (by decide)
    refine lv_aload_n hx hb dX3_copyFrom_61 rfl (lv_at hl 1 rfl) ?_
    refine lv_aload_n hx hb dX3_copyFrom_62 rfl (lv_at hl 2 rfl) ?_
    refine tw_get hx hb hts bF2_X3 hown hK hT hr_p0 shc_90 rfl 4 (by decide) (ht_at2 hts 46 rfl) (fun _ h9 => h9) dX3_copyFrom_63 (fun v9 m120 h9 => ?_)
    obtain ⟨x121, rfl, gx121, kx121⟩ := h9 _ rfl
    refine tw_put (v := .int x121) (ty := .int) hx hb hts bF2_X3 tyX3 tyX3_ok nmX3 hown hK hT hG hS hr_o0 shc_6 rfl 4 (by decide) (ht_at2 hts 46 rfl) (fun _ h9 => h9) rfl (by decide +kernel) rfl rfl (gl_at rfl (gi_of (show x121.toInt = x121.toInt from rfl) (by omega) (by omega))) dX3_copyFrom_66 (fun H locs hT oq m122 oj hS => ?_)
    have hF := hF.put hr_o0 skc_6 oq oj (by decide)
    exact W.vret hx hb hr (fun t ht hW => ⟨⟨(), rfl, (by exact trivial), by (try dsimp only); rw [ht]; exact ⟨hT, hF⟩⟩, hS.F ht⟩) hS.2.2 dX3_copyFrom_69
  have key130 : ∀ (n130 i23 : Nat), i23 + n130 = 30 → 0 ≤ i23 → ∀ (H : Heap) (locs : List Loc), gH (dC, dI) kA (SHc nC nS) G H → gF (dC, dI) SKc G ([(5, 11), (5, 12), (5, 13), (5, 14), (6, 3), (6, 4), (11, 6), (12, 2), (13, 2), (13, 3), (13, 4), (13, 5), (13, 6), (13, 7), (13, 8), (13, 9), (13, 10), (13, 11), (19, 0), (20, 0), (21, 0), (22, 0), (23, 0), (24, 0), (25, 0), (26, 0), (27, 0), (28, 0), (29, 0), (30, 0), (31, 0), (32, 0), (36, 0), (37, 0)] : List (Nat × Nat)) s.heap H → va_S A s.heap H locs → el H o0 (dI 6 0) = some (.ref b2) → el H p0 (dI 6 0) = some (.ref b5) → el H o0 (dI 6 1) = some (.ref b12) → el H p0 (dI 6 1) = some (.ref b15) → ∀ ls : Array Slot, lv_has ls 3 [(2, .int (nI i23)), (0, .ref o0), (1, .ref p0)] → W p l e (headSpec w_c_copyL_l ({ frames := 4, cells := 0, slots := 0, locals := 102 })).room s m #[.ref o0, .ref p0] below meth c H locs 0 0 (MQ below (va_Qv (fun (u : Unit) => True) (fun (_ : Unit) (t : State) => gH (dC, dI) kA (SHc nC nS) G t.heap ∧ gF (dC, dI) SKc G ([(5, 11), (5, 12), (5, 13), (5, 14), (6, 3), (6, 4), (11, 6), (12, 2), (13, 2), (13, 3), (13, 4), (13, 5), (13, 6), (13, 7), (13, 8), (13, 9), (13, 10), (13, 11), (19, 0), (20, 0), (21, 0), (22, 0), (23, 0), (24, 0), (25, 0), (26, 0), (27, 0), (28, 0), (29, 0), (30, 0), (31, 0), (32, 0), (36, 0), (37, 0)] : List (Nat × Nat)) s.heap t.heap) A) #[.ref o0, .ref p0] s 0 0 A) (F0 m 24 ls []) := by
    intro n130
    induction n130 with
    | zero =>
      intro i23 hn130 hlo131  H locs hT hF hS m24 m25 m26 m27 ls hl
      obtain rfl : 30 = i23 := by omega
      refine lv_iload_n hx hb dX3_copyFrom_24 rfl (lv_at hl 0 rfl) ?_
      refine lv_aload_n hx hb dX3_copyFrom_25 rfl (lv_at hl 2 rfl) ?_
      refine tw_get hx hb hts bF2_X3 hown hK hT hr_p0 shc_90 rfl 3 (by decide) (ht_at2 hts 45 rfl) (fun _ h9 => h9) dX3_copyFrom_26 (fun v9 m132 h9 => ?_)
      obtain ⟨x133, rfl, gx133, kx133⟩ := h9 _ rfl
      refine lv_icmp_ge (tgt := 53) hx hb dX3_copyFrom_29 (by decide) (fun c134 => ?_) (fun c134 => (by exfalso; have q9 : ((30 : Nat) : Int) < x133.toInt := ti_nle c134 rfl (nI_toInt (by omega)); omega))
      have t135 : x133.toInt ≤ ((30 : Nat) : Int) := ti_le c134 rfl (nI_toInt (by omega))
      exact jn113 (nI 30) x133 ⟨(rg_t (a := ((30 : Nat) : Int)) (nI_toInt (by omega)) (by omega) (by omega)), (by have q8 := ti_all x133; omega)⟩ _ _ hT hF hS m24 m25 m26 m27 m132 ls (lv_sub hl [0, 1, 2] rfl)
    | succ n130 ih130 =>
      intro i23 hn130 hlo131  H locs hT hF hS m24 m25 m26 m27 ls hl
      have hlt135 : i23 < 30 := by omega
      refine lv_iload_n hx hb dX3_copyFrom_24 rfl (lv_at hl 0 rfl) ?_
      refine lv_aload_n hx hb dX3_copyFrom_25 rfl (lv_at hl 2 rfl) ?_
      refine tw_get hx hb hts bF2_X3 hown hK hT hr_p0 shc_90 rfl 3 (by decide) (ht_at2 hts 45 rfl) (fun _ h9 => h9) dX3_copyFrom_26 (fun v9 m136 h9 => ?_)
      obtain ⟨x137, rfl, gx137, kx137⟩ := h9 _ rfl
      refine lv_icmp_ge (tgt := 53) hx hb dX3_copyFrom_29 (by decide) (fun c138 => ?_) (fun c138 => ?_)
      · have t139 : x137.toInt ≤ ((i23 : Nat) : Int) := ti_le c138 rfl (nI_toInt (by omega))
        exact jn113 (nI i23) x137 ⟨(rg_t (a := ((i23 : Nat) : Int)) (nI_toInt (by omega)) (by omega) (by omega)), (by have q8 := ti_all x137; omega)⟩ _ _ hT hF hS m24 m25 m26 m27 m136 ls (lv_sub hl [0, 1, 2] rfl)
      · have t140 : ((i23 : Nat) : Int) < x137.toInt := ti_nle c138 rfl (nI_toInt (by omega))
        refine lv_aload_n hx hb dX3_copyFrom_32 rfl (lv_at hl 1 rfl) ?_
        refine tw_get hx hb hts bF2_X3 hown hK hT hr_o0 shc_6 rfl 2 (by decide) (ht_at2 hts 47 rfl) (fun _ h9 => h9) dX3_copyFrom_33 (fun v9 m141 h9 => ?_)
        obtain ⟨b142, rfl, hg143⟩ := h9 _ rfl
        refine lv_iload_n hx hb dX3_copyFrom_36 rfl (lv_at hl 0 rfl) ?_
        refine tw_aald (i := (nI i23)) hx hb hK hT hg143 shc_18 rfl (vp_in_nI (by omega) (by decide)) dX3_copyFrom_37 (fun v9 m144 h9 => ?_)
        obtain ⟨b145, rfl, hg146⟩ := h9
        refine lv_aload_n hx hb dX3_copyFrom_38 rfl (lv_at hl 2 rfl) ?_
        refine tw_get hx hb hts bF2_X3 hown hK hT hr_p0 shc_90 rfl 2 (by decide) (ht_at2 hts 47 rfl) (fun _ h9 => h9) dX3_copyFrom_39 (fun v9 m147 h9 => ?_)
        obtain ⟨b148, rfl, hg149⟩ := h9 _ rfl
        refine lv_iload_n hx hb dX3_copyFrom_42 rfl (lv_at hl 0 rfl) ?_
        refine tw_aald (i := (nI i23)) hx hb hK hT hg149 shc_70 rfl (vp_in_nI (by omega) (by decide)) dX3_copyFrom_43 (fun v9 m150 h9 => ?_)
        obtain ⟨b151, rfl, hg152⟩ := h9
        have hFc := gA_free hG hA hS
        refine va_callv (va_runV (As := [.ref b151]) (rest := []) ⟨hx, hb, hml, hown, hts⟩ (c_copyW_l l dC dI kA adK adV G H nC nS b145 b151 hT hg146 hg152 (by omega) (by omega)) (cwV 1 hts (goodIn_app (goodIn_r _ [63, 64, 65, 66] rfl (by decide +kernel)) (goodIn_ca (goodIn_r _ [49, 50, 51, 5, 6, 7, 52, 53, 54, 55, 56, 57, 58, 59, 60, 61, 62] rfl (by decide +kernel)) (bs2_in _ _))) rfl rfl rfl (by decide +kernel) ⟨(Nat.le_of_ble_eq_true rfl), (Nat.le_of_ble_eq_true rfl)⟩) ⟨fun a U g mk q => by obtain ⟨q0, q1, qK, qE⟩ := q; exact ⟨q0, q1, va_K.moved (u := U) (U := U.calling g mk a) (Vm.Alike.refl U.vm) qK, EVC.blind g mk a qE⟩, gH_rc hK hT hg146 shc_13 rfl, fun U hU hW => ⟨rfl, hU, va_K.moved hW.alike hK, hE.call hS hFc hU hW⟩⟩ rfl rfl hl.1 rfl (lv_room (Nat.le_of_ble_eq_true rfl)) dX3_copyFrom_44 ⟨(Nat.le_of_ble_eq_true rfl), (Nat.le_of_ble_eq_true rfl)⟩) hS (fun q _ h => hFc q h) hFc (fun u t H locs ht hvm hw154 hB _ _ hS => ?_)
        obtain ⟨hT, hF1⟩ := hB
        rw [ht] at hT hF1
        have m155 := (hF1.fld hr_o0 skc_6 (k := 0) (by decide) (by decide)).trans m24
        have m156 := (hF1.fld hr_p0 skc_90 (k := 0) (by decide) (by decide)).trans m25
        have m157 := (hF1.fld hr_o0 skc_6 (k := 1) (by decide) (by decide)).trans m26
        have m158 := (hF1.fld hr_p0 skc_90 (k := 1) (by decide) (by decide)).trans m27
        have hF := hF.more hF1 (by decide)
        try dsimp only at hw154
        refine lv_iinc (v := nI (i23 + 1)) (lv' := [(2, .int (nI (i23 + 1))), (0, .ref o0), (1, .ref p0)]) hx hb dX3_copyFrom_47 hl (k := 0) rfl (nI_add i23 1) (by decide) rfl (fun ls hl => ?_)
        refine lv_goto (tgt := 24) hx hb dX3_copyFrom_50 (by decide) ?_
        exact ih130 (i23 + 1) (by omega) (by omega) _ _ hT hF hS m155 m156 m157 m158 ls (lv_sub hl [0, 1, 2] rfl)
  exact key130 (30 - 0) 0 (by omega) (Nat.le_refl _) _ _ hT hF hS m19 m20 m21 m22 ls (lv_sub hl [0, 1, 2] rfl)
