def w_c_tellWater : List Cond := .code yX2_tellWater cX2_tellWater 4 none :: (HAppend.hAppend (α := List Cond) (β := List Cond) (γ := List Cond) [.fieldLink RX2 50 "SeaLand$Ground" "toldMore" "I", .fieldLink RX2 25 "SeaLand$Ground" "water" "[I", .fieldLink RX2 28 "SeaLand$Ground" "salt" "[I"] bs2)
set_option maxHeartbeats 4000000 in
set_option maxRecDepth 100000 in
theorem c_tellWater (l : Launch) (dC : Nat → ClassId) (dI : Nat → Nat → Nat) (kA : Nat → ClassId) (adK adV : Nat → Nat) (G : gT) (H0 : Heap) (nC nS : Int) (o0 : Nat) (p0 : Int32) (p1 : Int32) (p2 : Int32)  (hT : gH (dC, dI) kA (SHc nC nS) G H0) (hr_o0 : G o0 = some 5) (hq0 : 0 ≤ p0.toInt ∧ p0.toInt ≤ 95) (hgC : 0 ≤ nC ∧ nC ≤ 40) (hgS : 0 ≤ nS ∧ nS ≤ 60) : Met l yX2_tellWater w_c_tellWater ({ frames := 0, cells := 0, slots := 0, locals := 0 }) (va_Pc [.ref o0, .int p0, .int p1, .int p2] (fun U => U.heap = H0 ∧ va_K (dC, dI) vwCl (tyl kA) U ∧ EVC adK adV (gA G H0.size) U U.heap)) (va_Qv (fun (u : Unit) => True) (fun (_ : Unit) (t : State) => gH (dC, dI) kA (SHc nC nS) G t.heap ∧ gF (dC, dI) SKc G ([(5, 14), (29, 0), (30, 0)] : List (Nat × Nat)) H0 t.heap) (gA G H0.size)) 0 0 (gA G H0.size) := by
  refine Met.ofW (cc := cX2_tellWater) (maxL := 4) (ret := none) (by decide) rfl ?_
  intro p e s m args below meth c s₁ B hml hv
  obtain ⟨rfl, hH0, hK, hE⟩ := hv
  have hx := B.exec
  have hb := B.bytes
  have hr := B.returns
  have hts := atoms_spec (ws := w_c_tellWater) B.pre
  have hown : s.vm.findClass RX2 = some m.cls := findClass_of_methodNamed B.named
  have hlocks := B.notSynchronized
  subst hH0
  generalize hAe : gA G s.heap.size = A at hE ⊢
  have hA : ∀ q : Nat, s.heap.size ≤ q → A q := fun q h => by rw [← hAe]; exact Or.inr h
  have hG := gA_of hAe
  have hS : va_S A s.heap s.heap [] := va_S.rf
  have hF : gF (dC, dI) SKc G ([(5, 14), (29, 0), (30, 0)] : List (Nat × Nat)) s.heap s.heap := gF.rf
  have hl := lv_entry ([.ref o0, .int p0, .int p1, .int p2]) (n := 4) (Nat.le_of_ble_eq_true rfl)
  rw [lg_entry_eq]
  generalize (lg_sl ([.ref o0, .int p0, .int p1, .int p2]) ++ List.replicate (4 - (lg_sl ([.ref o0, .int p0, .int p1, .int p2])).length) Slot.unset).toArray = ls at hl ⊢
  have hl : lv_has ls 4 [(0, .ref o0), (1, .int p0), (2, .int p1), (3, .int p2)] := hl
  refine lv_aload_n hx hb dX2_tellWater_0 rfl (lv_at hl 0 rfl) ?_
  refine lv_dup hx hb dX2_tellWater_1 rfl ?_
  refine tw_get hx hb hts bF2_X2 hown hK hT hr_o0 shc_5 rfl 14 (by decide) (ht_at2 hts 0 rfl) (fun _ h9 => h9) dX2_tellWater_2 (fun v9 m1 h9 => ?_)
  obtain ⟨x2, rfl, gx2, kx2⟩ := h9 _ rfl
  refine lv_iload_n hx hb dX2_tellWater_5 rfl (lv_at hl 2 rfl) ?_
  refine lv_aload_n hx hb dX2_tellWater_6 rfl (lv_at hl 0 rfl) ?_
  refine tw_get hx hb hts bF2_X2 hown hK hT hr_o0 shc_5 rfl 4 (by decide) (ht_at2 hts 1 rfl) (fun _ h9 => h9) dX2_tellWater_7 (fun v9 m3 h9 => ?_)
  obtain ⟨b4, rfl, hg5⟩ := h9 _ rfl
  refine lv_iload_n hx hb dX2_tellWater_10 rfl (lv_at hl 1 rfl) ?_
  refine tw_iald (i := p0) hx hb hK hT hg5 shc_29 rfl (vin_t (a := p0.toInt) rfl (by omega) (by omega)) dX2_tellWater_11 (fun v9 m6 h9 => ?_)
  obtain ⟨x7, rfl, gx7, kx7⟩ := h9
  refine lv_isub hx hb dX2_tellWater_12 ?_
  refine lv_topi (fun x8 ex8 => ?_)
  refine lv_iadd hx hb dX2_tellWater_13 ?_
  refine lv_topi (fun x9 ex9 => ?_)
  refine tw_put (v := .int x9) (ty := .int) hx hb hts bF2_X2 tyX2 tyX2_ok nmX2 hown hK hT hG hS hr_o0 shc_5 rfl 14 (by decide) (ht_at2 hts 0 rfl) (fun _ h9 => h9) rfl (by decide +kernel) rfl rfl (gl_at rfl (gi_all _)) dX2_tellWater_14 (fun H locs hT oq m10 oj hS => ?_)
  have hF := hF.put hr_o0 skc_5 oq oj (by decide)
  have m11 := (oj 4 (by decide) (by decide)).trans m3
  refine lv_aload_n hx hb dX2_tellWater_17 rfl (lv_at hl 0 rfl) ?_
  refine tw_getM (v := .ref b4) hx hb hts bF2_X2 hown hK hT hr_o0 shc_5 rfl 4 (by decide) (ht_at2 hts 1 rfl) (fun _ h9 => h9) m11 dX2_tellWater_18 ?_
  refine lv_iload_n hx hb dX2_tellWater_21 rfl (lv_at hl 1 rfl) ?_
  refine lv_iload_n hx hb dX2_tellWater_22 rfl (lv_at hl 2 rfl) ?_
  refine tw_iast (i := p0) (x := p1) hx hb hK hT hG hS hg5 shc_29 rfl (vin_t (a := p0.toInt) rfl (by omega) (by omega)) (gi_all _) dX2_tellWater_23 (fun H locs hT oq m13 oi hS => ?_)
  have hF := hF.ast hg5 skc_29 oq (by decide)
  refine lv_aload_n hx hb dX2_tellWater_24 rfl (lv_at hl 0 rfl) ?_
  refine tw_get hx hb hts bF2_X2 hown hK hT hr_o0 shc_5 rfl 5 (by decide) (ht_at2 hts 2 rfl) (fun _ h9 => h9) dX2_tellWater_25 (fun v9 m16 h9 => ?_)
  obtain ⟨b17, rfl, hg18⟩ := h9 _ rfl
  refine lv_iload_n hx hb dX2_tellWater_28 rfl (lv_at hl 1 rfl) ?_
  refine lv_iload_n hx hb dX2_tellWater_29 rfl (lv_at hl 3 rfl) ?_
  refine tw_iast (i := p0) (x := p2) hx hb hK hT hG hS hg18 shc_30 rfl (vin_t (a := p0.toInt) rfl (by omega) (by omega)) (gi_all _) dX2_tellWater_30 (fun H locs hT oq m19 oi hS => ?_)
  have hF := hF.ast hg18 skc_30 oq (by decide)
  exact W.vret hx hb hr (fun t ht hW => ⟨⟨(), rfl, (by exact trivial), by (try dsimp only); rw [ht]; exact ⟨hT, hF⟩⟩, hS.F ht⟩) hS.2.2 dX2_tellWater_31
def w_c_tellLand : List Cond := .code yX2_tellLand cX2_tellLand 5 none :: (HAppend.hAppend (α := List Cond) (β := List Cond) (γ := List Cond) [.fieldLink RX2 9 "SeaLand$Ground" "isLand" "[Z", .fieldLink RX2 15 "SeaLand$Ground" "height" "[I", .fieldLink RX2 19 "SeaLand$Ground" "soil" "[I", .fieldLink RX2 22 "SeaLand$Ground" "ditch" "[I", .code yX2_tellWater cX2_tellWater 4 none, .fieldLink RX2 50 "SeaLand$Ground" "toldMore" "I", .fieldLink RX2 25 "SeaLand$Ground" "water" "[I", .fieldLink RX2 28 "SeaLand$Ground" "salt" "[I", .methodLink RX2 46 yX2_tellWater, .instanceMethod yX2_tellWater, .selects RX2 yX2_tellWater yX2_tellWater, .initialized RX2] bs2)
set_option maxHeartbeats 4000000 in
set_option maxRecDepth 100000 in
theorem c_tellLand (l : Launch) (dC : Nat → ClassId) (dI : Nat → Nat → Nat) (kA : Nat → ClassId) (adK adV : Nat → Nat) (G : gT) (H0 : Heap) (nC nS : Int) (o0 : Nat) (p0 : Int32) (p1 : Int32) (p2 : Int32) (p3 : Int32)  (hT : gH (dC, dI) kA (SHc nC nS) G H0) (hr_o0 : G o0 = some 5) (hq0 : 0 ≤ p0.toInt ∧ p0.toInt ≤ 95) (hgC : 0 ≤ nC ∧ nC ≤ 40) (hgS : 0 ≤ nS ∧ nS ≤ 60) : Met l yX2_tellLand w_c_tellLand ({ frames := 1, cells := 0, slots := 0, locals := 23 }) (va_Pc [.ref o0, .int p0, .int p1, .int p2, .int p3] (fun U => U.heap = H0 ∧ va_K (dC, dI) vwCl (tyl kA) U ∧ EVC adK adV (gA G H0.size) U U.heap)) (va_Qv (fun (u : Unit) => True) (fun (_ : Unit) (t : State) => gH (dC, dI) kA (SHc nC nS) G t.heap ∧ gF (dC, dI) SKc G ([(5, 14), (25, 0), (26, 0), (27, 0), (28, 0), (29, 0), (30, 0)] : List (Nat × Nat)) H0 t.heap) (gA G H0.size)) 0 0 (gA G H0.size) := by
  refine Met.ofW (cc := cX2_tellLand) (maxL := 5) (ret := none) (by decide) rfl ?_
  intro p e s m args below meth c s₁ B hml hv
  obtain ⟨rfl, hH0, hK, hE⟩ := hv
  have hx := B.exec
  have hb := B.bytes
  have hr := B.returns
  have hts := atoms_spec (ws := w_c_tellLand) B.pre
  have hown : s.vm.findClass RX2 = some m.cls := findClass_of_methodNamed B.named
  have hlocks := B.notSynchronized
  subst hH0
  generalize hAe : gA G s.heap.size = A at hE ⊢
  have hA : ∀ q : Nat, s.heap.size ≤ q → A q := fun q h => by rw [← hAe]; exact Or.inr h
  have hG := gA_of hAe
  have hS : va_S A s.heap s.heap [] := va_S.rf
  have hF : gF (dC, dI) SKc G ([(5, 14), (25, 0), (26, 0), (27, 0), (28, 0), (29, 0), (30, 0)] : List (Nat × Nat)) s.heap s.heap := gF.rf
  have hl := lv_entry ([.ref o0, .int p0, .int p1, .int p2, .int p3]) (n := 5) (Nat.le_of_ble_eq_true rfl)
  rw [lg_entry_eq]
  generalize (lg_sl ([.ref o0, .int p0, .int p1, .int p2, .int p3]) ++ List.replicate (5 - (lg_sl ([.ref o0, .int p0, .int p1, .int p2, .int p3])).length) Slot.unset).toArray = ls at hl ⊢
  have hl : lv_has ls 5 [(0, .ref o0), (1, .int p0), (2, .int p1), (3, .int p2), (4, .int p3)] := hl
  refine lv_aload_n hx hb dX2_tellLand_0 rfl (lv_at hl 0 rfl) ?_
  refine tw_get hx hb hts bF2_X2 hown hK hT hr_o0 shc_5 rfl 0 (by decide) (ht_at2 hts 0 rfl) (fun _ h9 => h9) dX2_tellLand_1 (fun v9 m1 h9 => ?_)
  obtain ⟨b2, rfl, hg3⟩ := h9 _ rfl
  refine lv_iload_n hx hb dX2_tellLand_4 rfl (lv_at hl 1 rfl) ?_
  refine lv_iconst (v := 1) hx hb dX2_tellLand_5 (by decide) ?_
  refine tw_zast (i := p0) (x := 1) hx hb hK hT hG hS hg3 shc_25 rfl (vin_t (a := p0.toInt) rfl (by omega) (by omega)) (gi_z (rg_t (a := 1) (by decide) (by first | decide | omega) (by first | decide | omega)) (by decide) (by decide)) dX2_tellLand_6 (fun H locs hT oq m4 oi hS => ?_)
  have hF := hF.ast hg3 skc_25 oq (by decide)
  refine lv_aload_n hx hb dX2_tellLand_7 rfl (lv_at hl 0 rfl) ?_
  refine tw_get hx hb hts bF2_X2 hown hK hT hr_o0 shc_5 rfl 1 (by decide) (ht_at2 hts 1 rfl) (fun _ h9 => h9) dX2_tellLand_8 (fun v9 m6 h9 => ?_)
  obtain ⟨b7, rfl, hg8⟩ := h9 _ rfl
  refine lv_iload_n hx hb dX2_tellLand_11 rfl (lv_at hl 1 rfl) ?_
  refine lv_iload_n hx hb dX2_tellLand_12 rfl (lv_at hl 2 rfl) ?_
  refine tw_iast (i := p0) (x := p1) hx hb hK hT hG hS hg8 shc_26 rfl (vin_t (a := p0.toInt) rfl (by omega) (by omega)) (gi_all _) dX2_tellLand_13 (fun H locs hT oq m9 oi hS => ?_)
  have hF := hF.ast hg8 skc_26 oq (by decide)
  refine lv_aload_n hx hb dX2_tellLand_14 rfl (lv_at hl 0 rfl) ?_
  refine tw_get hx hb hts bF2_X2 hown hK hT hr_o0 shc_5 rfl 2 (by decide) (ht_at2 hts 2 rfl) (fun _ h9 => h9) dX2_tellLand_15 (fun v9 m12 h9 => ?_)
  obtain ⟨b13, rfl, hg14⟩ := h9 _ rfl
  refine lv_iload_n hx hb dX2_tellLand_18 rfl (lv_at hl 1 rfl) ?_
  refine lv_iload_n hx hb dX2_tellLand_19 rfl (lv_at hl 3 rfl) ?_
  refine tw_iast (i := p0) (x := p2) hx hb hK hT hG hS hg14 shc_27 rfl (vin_t (a := p0.toInt) rfl (by omega) (by omega)) (gi_all _) dX2_tellLand_20 (fun H locs hT oq m15 oi hS => ?_)
  have hF := hF.ast hg14 skc_27 oq (by decide)
  refine lv_aload_n hx hb dX2_tellLand_21 rfl (lv_at hl 0 rfl) ?_
  refine tw_get hx hb hts bF2_X2 hown hK hT hr_o0 shc_5 rfl 3 (by decide) (ht_at2 hts 3 rfl) (fun _ h9 => h9) dX2_tellLand_22 (fun v9 m20 h9 => ?_)
  obtain ⟨b21, rfl, hg22⟩ := h9 _ rfl
  refine lv_iload_n hx hb dX2_tellLand_25 rfl (lv_at hl 1 rfl) ?_
  refine lv_iload hx hb dX2_tellLand_26 (lv_at hl 4 rfl) ?_
  refine tw_iast (i := p0) (x := p3) hx hb hK hT hG hS hg22 shc_28 rfl (vin_t (a := p0.toInt) rfl (by omega) (by omega)) (gi_all _) dX2_tellLand_28 (fun H locs hT oq m23 oi hS => ?_)
  have hF := hF.ast hg22 skc_28 oq (by decide)
  refine lv_aload_n hx hb dX2_tellLand_29 rfl (lv_at hl 0 rfl) ?_
  refine lv_iload_n hx hb dX2_tellLand_30 rfl (lv_at hl 1 rfl) ?_
  refine lv_iconst (v := 0) hx hb dX2_tellLand_31 (by decide) ?_
  refine lv_iconst (v := 0) hx hb dX2_tellLand_32 (by decide) ?_
  have hFc := gA_free hG hA hS
  refine va_callv (va_runV (As := [.int p0, .int 0, .int 0]) (rest := []) ⟨hx, hb, hml, hown, hts⟩ (c_tellWater l dC dI kA adK adV G H nC nS o0 p0 0 0 hT hr_o0 (by have q8 := ti_all p0; omega) (by omega) (by omega)) (cwV 3 hts (goodIn_app (goodIn_r _ [9, 10, 11, 12] rfl (by decide +kernel)) (goodIn_ca (goodIn_r _ [5, 6, 7, 8] rfl (by decide +kernel)) (bs2_in _ _))) rfl rfl rfl (by decide +kernel) ⟨(Nat.le_of_ble_eq_true rfl), (Nat.le_of_ble_eq_true rfl)⟩) ⟨fun a U g mk q => by obtain ⟨q0, q1, qK, qE⟩ := q; exact ⟨q0, q1, va_K.moved (u := U) (U := U.calling g mk a) (Vm.Alike.refl U.vm) qK, EVC.blind g mk a qE⟩, gH_rc hK hT hr_o0 shc_5 rfl, fun U hU hW => ⟨rfl, hU, va_K.moved hW.alike hK, hE.call hS hFc hU hW⟩⟩ rfl rfl hl.1 rfl (lv_room (Nat.le_of_ble_eq_true rfl)) dX2_tellLand_33 ⟨(Nat.le_of_ble_eq_true rfl), (Nat.le_of_ble_eq_true rfl)⟩) hS (fun q _ h => hFc q h) hFc (fun u t H locs ht hvm hw31 hB _ _ hS => ?_)
  obtain ⟨hT, hF1⟩ := hB
  rw [ht] at hT hF1
  have hF := hF.more hF1 (by decide)
  try dsimp only at hw31
  exact W.vret hx hb hr (fun t ht hW => ⟨⟨(), rfl, (by exact trivial), by (try dsimp only); rw [ht]; exact ⟨hT, hF⟩⟩, hS.F ht⟩) hS.2.2 dX2_tellLand_36
def w_c_levelOf : List Cond := .code yX2_levelOf cX2_levelOf 2 (some .int) :: (HAppend.hAppend (α := List Cond) (β := List Cond) (γ := List Cond) [.fieldLink RX2 15 "SeaLand$Ground" "height" "[I", .fieldLink RX2 25 "SeaLand$Ground" "water" "[I"] bs2)
set_option maxHeartbeats 4000000 in
set_option maxRecDepth 100000 in
theorem c_levelOf (l : Launch) (dC : Nat → ClassId) (dI : Nat → Nat → Nat) (kA : Nat → ClassId) (adK adV : Nat → Nat) (G : gT) (H0 : Heap) (nC nS : Int) (o0 : Nat) (p0 : Int32)  (hT : gH (dC, dI) kA (SHc nC nS) G H0) (hr_o0 : G o0 = some 5) (hq0 : 0 ≤ p0.toInt ∧ p0.toInt ≤ 95) (hgC : 0 ≤ nC ∧ nC ≤ 40) (hgS : 0 ≤ nS ∧ nS ≤ 60) : Met l yX2_levelOf w_c_levelOf ({ frames := 0, cells := 0, slots := 0, locals := 0 }) (va_Pc [.ref o0, .int p0] (fun U => U.heap = H0 ∧ va_K (dC, dI) vwCl (tyl kA) U ∧ EVC adK adV (gA G H0.size) U U.heap)) (va_Qi (fun (r : Int32) (u : Unit) => True) (fun (_ : Unit) (t : State) => gH (dC, dI) kA (SHc nC nS) G t.heap ∧ gF (dC, dI) SKc G ([] : List (Nat × Nat)) H0 t.heap) (gA G H0.size)) 0 0 (gA G H0.size) := by
  refine Met.ofW (cc := cX2_levelOf) (maxL := 2) (ret := (some .int)) (by decide) rfl ?_
  intro p e s m args below meth c s₁ B hml hv
  obtain ⟨rfl, hH0, hK, hE⟩ := hv
  have hx := B.exec
  have hb := B.bytes
  have hr := B.returns
  have hts := atoms_spec (ws := w_c_levelOf) B.pre
  have hown : s.vm.findClass RX2 = some m.cls := findClass_of_methodNamed B.named
  have hlocks := B.notSynchronized
  subst hH0
  generalize hAe : gA G s.heap.size = A at hE ⊢
  have hA : ∀ q : Nat, s.heap.size ≤ q → A q := fun q h => by rw [← hAe]; exact Or.inr h
  have hG := gA_of hAe
  have hS : va_S A s.heap s.heap [] := va_S.rf
  have hF : gF (dC, dI) SKc G ([] : List (Nat × Nat)) s.heap s.heap := gF.rf
  have hl := lv_entry ([.ref o0, .int p0]) (n := 2) (Nat.le_of_ble_eq_true rfl)
  rw [lg_entry_eq]
  generalize (lg_sl ([.ref o0, .int p0]) ++ List.replicate (2 - (lg_sl ([.ref o0, .int p0])).length) Slot.unset).toArray = ls at hl ⊢
  have hl : lv_has ls 2 [(0, .ref o0), (1, .int p0)] := hl
  refine lv_aload_n hx hb dX2_levelOf_0 rfl (lv_at hl 0 rfl) ?_
  refine tw_get hx hb hts bF2_X2 hown hK hT hr_o0 shc_5 rfl 1 (by decide) (ht_at2 hts 0 rfl) (fun _ h9 => h9) dX2_levelOf_1 (fun v9 m1 h9 => ?_)
  obtain ⟨b2, rfl, hg3⟩ := h9 _ rfl
  refine lv_iload_n hx hb dX2_levelOf_4 rfl (lv_at hl 1 rfl) ?_
  refine tw_iald (i := p0) hx hb hK hT hg3 shc_26 rfl (vin_t (a := p0.toInt) rfl (by omega) (by omega)) dX2_levelOf_5 (fun v9 m4 h9 => ?_)
  obtain ⟨x5, rfl, gx5, kx5⟩ := h9
  refine lv_aload_n hx hb dX2_levelOf_6 rfl (lv_at hl 0 rfl) ?_
  refine tw_get hx hb hts bF2_X2 hown hK hT hr_o0 shc_5 rfl 4 (by decide) (ht_at2 hts 1 rfl) (fun _ h9 => h9) dX2_levelOf_7 (fun v9 m6 h9 => ?_)
  obtain ⟨b7, rfl, hg8⟩ := h9 _ rfl
  refine lv_iload_n hx hb dX2_levelOf_10 rfl (lv_at hl 1 rfl) ?_
  refine tw_iald (i := p0) hx hb hK hT hg8 shc_29 rfl (vin_t (a := p0.toInt) rfl (by omega) (by omega)) dX2_levelOf_11 (fun v9 m9 h9 => ?_)
  obtain ⟨x10, rfl, gx10, kx10⟩ := h9
  refine lv_iadd hx hb dX2_levelOf_12 ?_
  refine lv_topi (fun x11 ex11 => ?_)
  exact W.iret (v := x11) hx hb hr (fun t ht hW => ⟨⟨x11, (), rfl, (by exact trivial), by (try dsimp only); rw [ht]; exact ⟨hT, hF⟩⟩, hS.F ht⟩) hS.2.2 dX2_levelOf_13
def w_c_rainOnLand : List Cond := .code yX2_rainOnLand cX2_rainOnLand 3 none :: (HAppend.hAppend (α := List Cond) (β := List Cond) (γ := List Cond) [.fieldLink RX2 9 "SeaLand$Ground" "isLand" "[Z", .fieldLink RX2 25 "SeaLand$Ground" "water" "[I", .fieldLink RX2 54 "SeaLand$Ground" "rained" "I"] bs2)
set_option maxHeartbeats 4000000 in
set_option maxRecDepth 100000 in
theorem c_rainOnLand (l : Launch) (dC : Nat → ClassId) (dI : Nat → Nat → Nat) (kA : Nat → ClassId) (adK adV : Nat → Nat) (G : gT) (H0 : Heap) (nC nS : Int) (o0 : Nat) (p0 : Int32)  (hT : gH (dC, dI) kA (SHc nC nS) G H0) (hr_o0 : G o0 = some 5) (hgC : 0 ≤ nC ∧ nC ≤ 40) (hgS : 0 ≤ nS ∧ nS ≤ 60) : Met l yX2_rainOnLand w_c_rainOnLand ({ frames := 0, cells := 0, slots := 0, locals := 0 }) (va_Pc [.ref o0, .int p0] (fun U => U.heap = H0 ∧ va_K (dC, dI) vwCl (tyl kA) U ∧ EVC adK adV (gA G H0.size) U U.heap)) (va_Qv (fun (u : Unit) => True) (fun (_ : Unit) (t : State) => gH (dC, dI) kA (SHc nC nS) G t.heap ∧ gF (dC, dI) SKc G ([(5, 11), (29, 0)] : List (Nat × Nat)) H0 t.heap) (gA G H0.size)) 0 0 (gA G H0.size) := by
  refine Met.ofW (cc := cX2_rainOnLand) (maxL := 3) (ret := none) (by decide) rfl ?_
  intro p e s m args below meth c s₁ B hml hv
  obtain ⟨rfl, hH0, hK, hE⟩ := hv
  have hx := B.exec
  have hb := B.bytes
  have hr := B.returns
  have hts := atoms_spec (ws := w_c_rainOnLand) B.pre
  have hown : s.vm.findClass RX2 = some m.cls := findClass_of_methodNamed B.named
  have hlocks := B.notSynchronized
  subst hH0
  generalize hAe : gA G s.heap.size = A at hE ⊢
  have hA : ∀ q : Nat, s.heap.size ≤ q → A q := fun q h => by rw [← hAe]; exact Or.inr h
  have hG := gA_of hAe
  have hS : va_S A s.heap s.heap [] := va_S.rf
  have hF : gF (dC, dI) SKc G ([(5, 11), (29, 0)] : List (Nat × Nat)) s.heap s.heap := gF.rf
  have hl := lv_entry ([.ref o0, .int p0]) (n := 3) (Nat.le_of_ble_eq_true rfl)
  rw [lg_entry_eq]
  generalize (lg_sl ([.ref o0, .int p0]) ++ List.replicate (3 - (lg_sl ([.ref o0, .int p0])).length) Slot.unset).toArray = ls at hl ⊢
  have hl : lv_has ls 3 [(0, .ref o0), (1, .int p0)] := hl
  refine lv_iconst (v := 0) hx hb dX2_rainOnLand_0 (by decide) ?_
  refine lv_istore_n (lv' := [(2, .int 0), (0, .ref o0), (1, .int p0)]) hx hb dX2_rainOnLand_1 rfl hl (by decide) rfl (fun ls hl => ?_)
  have key30 : ∀ (n30 i1 : Nat), i1 + n30 = 96 → 0 ≤ i1 → ∀ (H : Heap) (locs : List Loc), gH (dC, dI) kA (SHc nC nS) G H → gF (dC, dI) SKc G ([(5, 11), (29, 0)] : List (Nat × Nat)) s.heap H → va_S A s.heap H locs → ∀ ls : Array Slot, lv_has ls 3 [(2, .int (nI i1)), (0, .ref o0), (1, .int p0)] → W p l e (headSpec w_c_rainOnLand ({ frames := 0, cells := 0, slots := 0, locals := 0 })).room s m #[.ref o0, .int p0] below meth c H locs 0 0 (MQ below (va_Qv (fun (u : Unit) => True) (fun (_ : Unit) (t : State) => gH (dC, dI) kA (SHc nC nS) G t.heap ∧ gF (dC, dI) SKc G ([(5, 11), (29, 0)] : List (Nat × Nat)) s.heap t.heap) A) #[.ref o0, .int p0] s 0 0 A) (F0 m 2 ls []) := by
    intro n30
    induction n30 with
    | zero =>
      intro i1 hn30 hlo31  H locs hT hF hS  ls hl
      obtain rfl : 96 = i1 := by omega
      refine lv_iload_n hx hb dX2_rainOnLand_2 rfl (lv_at hl 0 rfl) ?_
      refine lv_bipush (v := 96) hx hb dX2_rainOnLand_3 (by decide) ?_
      refine lv_icmp_ge (tgt := 43) hx hb dX2_rainOnLand_5 (by decide) (fun c32 => ?_) (fun c32 => (by exfalso; have q9 : ((96 : Nat) : Int) < 96 := ti_nle c32 (by decide) (nI_toInt (by omega)); omega))
      have t33 : 96 ≤ ((96 : Nat) : Int) := ti_le c32 (by decide) (nI_toInt (by omega))
      exact W.vret hx hb hr (fun t ht hW => ⟨⟨(), rfl, (by exact trivial), by (try dsimp only); rw [ht]; exact ⟨hT, hF⟩⟩, hS.F ht⟩) hS.2.2 dX2_rainOnLand_43
    | succ n30 ih30 =>
      intro i1 hn30 hlo31  H locs hT hF hS  ls hl
      have hlt33 : i1 < 96 := by omega
      refine lv_iload_n hx hb dX2_rainOnLand_2 rfl (lv_at hl 0 rfl) ?_
      refine lv_bipush (v := 96) hx hb dX2_rainOnLand_3 (by decide) ?_
      refine lv_icmp_ge (tgt := 43) hx hb dX2_rainOnLand_5 (by decide) (fun c34 => (by exfalso; have q9 : 96 ≤ ((i1 : Nat) : Int) := ti_le c34 (by decide) (nI_toInt (by omega)); omega)) (fun c34 => ?_)
      have t35 : ((i1 : Nat) : Int) < 96 := ti_nle c34 (by decide) (nI_toInt (by omega))
      refine lv_aload_n hx hb dX2_rainOnLand_8 rfl (lv_at hl 1 rfl) ?_
      refine tw_get hx hb hts bF2_X2 hown hK hT hr_o0 shc_5 rfl 0 (by decide) (ht_at2 hts 0 rfl) (fun _ h9 => h9) dX2_rainOnLand_9 (fun v9 m36 h9 => ?_)
      obtain ⟨b37, rfl, hg38⟩ := h9 _ rfl
      refine lv_iload_n hx hb dX2_rainOnLand_12 rfl (lv_at hl 0 rfl) ?_
      refine tw_zald (i := (nI i1)) hx hb hK hT hg38 shc_25 rfl (vp_in_nI (by omega) (by decide)) dX2_rainOnLand_13 (fun v9 m39 h9 => ?_)
      obtain ⟨x40, rfl, gx40, kx40⟩ := h9
      refine lv_if_eq (tgt := 37) hx hb dX2_rainOnLand_14 (by decide) (fun c41 => ?_) (fun c41 => ?_)
      · have t42 : x40.toInt = 0 := ti_eq c41 rfl (by decide)
        refine lv_iinc (v := nI (i1 + 1)) (lv' := [(2, .int (nI (i1 + 1))), (0, .ref o0), (1, .int p0)]) hx hb dX2_rainOnLand_37 hl (k := 0) rfl (nI_add i1 1) (by decide) rfl (fun ls hl => ?_)
        refine lv_goto (tgt := 2) hx hb dX2_rainOnLand_40 (by decide) ?_
        exact ih30 (i1 + 1) (by omega) (by omega) _ _ hT hF hS ls (lv_sub hl [0, 1, 2] rfl)
      · have t43 : x40.toInt ≠ 0 := ti_ne c41 rfl (by decide)
        refine lv_aload_n hx hb dX2_rainOnLand_17 rfl (lv_at hl 1 rfl) ?_
        refine tw_get hx hb hts bF2_X2 hown hK hT hr_o0 shc_5 rfl 4 (by decide) (ht_at2 hts 1 rfl) (fun _ h9 => h9) dX2_rainOnLand_18 (fun v9 m44 h9 => ?_)
        obtain ⟨b45, rfl, hg46⟩ := h9 _ rfl
        refine lv_iload_n hx hb dX2_rainOnLand_21 rfl (lv_at hl 0 rfl) ?_
        refine lv_dup2_11 hx hb dX2_rainOnLand_22 rfl rfl ?_
        refine tw_iald (i := (nI i1)) hx hb hK hT hg46 shc_29 rfl (vp_in_nI (by omega) (by decide)) dX2_rainOnLand_23 (fun v9 m47 h9 => ?_)
        obtain ⟨x48, rfl, gx48, kx48⟩ := h9
        refine lv_iload_n hx hb dX2_rainOnLand_24 rfl (lv_at hl 2 rfl) ?_
        refine lv_iadd hx hb dX2_rainOnLand_25 ?_
        refine lv_topi (fun x49 ex49 => ?_)
        refine tw_iast (i := (nI i1)) (x := x49) hx hb hK hT hG hS hg46 shc_29 rfl (vp_in_nI (by omega) (by decide)) (gi_all _) dX2_rainOnLand_26 (fun H locs hT oq m50 oi hS => ?_)
        have hF := hF.ast hg46 skc_29 oq (by decide)
        refine lv_aload_n hx hb dX2_rainOnLand_27 rfl (lv_at hl 1 rfl) ?_
        refine lv_dup hx hb dX2_rainOnLand_28 rfl ?_
        refine tw_get hx hb hts bF2_X2 hown hK hT hr_o0 shc_5 rfl 11 (by decide) (ht_at2 hts 2 rfl) (fun _ h9 => h9) dX2_rainOnLand_29 (fun v9 m54 h9 => ?_)
        obtain ⟨x55, rfl, gx55, kx55⟩ := h9 _ rfl
        refine lv_iload_n hx hb dX2_rainOnLand_32 rfl (lv_at hl 2 rfl) ?_
        refine lv_iadd hx hb dX2_rainOnLand_33 ?_
        refine lv_topi (fun x56 ex56 => ?_)
        refine tw_put (v := .int x56) (ty := .int) hx hb hts bF2_X2 tyX2 tyX2_ok nmX2 hown hK hT hG hS hr_o0 shc_5 rfl 11 (by decide) (ht_at2 hts 2 rfl) (fun _ h9 => h9) rfl (by decide +kernel) rfl rfl (gl_at rfl (gi_all _)) dX2_rainOnLand_34 (fun H locs hT oq m57 oj hS => ?_)
        have hF := hF.put hr_o0 skc_5 oq oj (by decide)
        refine lv_iinc (v := nI (i1 + 1)) (lv' := [(2, .int (nI (i1 + 1))), (0, .ref o0), (1, .int p0)]) hx hb dX2_rainOnLand_37 hl (k := 0) rfl (nI_add i1 1) (by decide) rfl (fun ls hl => ?_)
        refine lv_goto (tgt := 2) hx hb dX2_rainOnLand_40 (by decide) ?_
        exact ih30 (i1 + 1) (by omega) (by omega) _ _ hT hF hS ls (lv_sub hl [0, 1, 2] rfl)
  exact key30 (96 - 0) 0 (by omega) (Nat.le_refl _) _ _ hT hF hS ls (lv_sub hl [0, 1, 2] rfl)
def w_c_takeFromSea : List Cond := .code yX2_takeFromSea cX2_takeFromSea 3 none :: (HAppend.hAppend (α := List Cond) (β := List Cond) (γ := List Cond) [.fieldLink RX2 25 "SeaLand$Ground" "water" "[I", .fieldLink RX2 28 "SeaLand$Ground" "salt" "[I", .fieldLink RX2 57 "SeaLand$Ground" "cameIn" "I"] bs2)
set_option maxHeartbeats 4000000 in
set_option maxRecDepth 100000 in
theorem c_takeFromSea (l : Launch) (dC : Nat → ClassId) (dI : Nat → Nat → Nat) (kA : Nat → ClassId) (adK adV : Nat → Nat) (G : gT) (H0 : Heap) (nC nS : Int) (o0 : Nat) (p0 : Int32) (p1 : Int32)  (hT : gH (dC, dI) kA (SHc nC nS) G H0) (hr_o0 : G o0 = some 5) (hq0 : 0 ≤ p0.toInt ∧ p0.toInt ≤ 95) (hgC : 0 ≤ nC ∧ nC ≤ 40) (hgS : 0 ≤ nS ∧ nS ≤ 60) : Met l yX2_takeFromSea w_c_takeFromSea ({ frames := 0, cells := 0, slots := 0, locals := 0 }) (va_Pc [.ref o0, .int p0, .int p1] (fun U => U.heap = H0 ∧ va_K (dC, dI) vwCl (tyl kA) U ∧ EVC adK adV (gA G H0.size) U U.heap)) (va_Qv (fun (u : Unit) => True) (fun (_ : Unit) (t : State) => gH (dC, dI) kA (SHc nC nS) G t.heap ∧ gF (dC, dI) SKc G ([(5, 12), (29, 0), (30, 0)] : List (Nat × Nat)) H0 t.heap) (gA G H0.size)) 0 0 (gA G H0.size) := by
  refine Met.ofW (cc := cX2_takeFromSea) (maxL := 3) (ret := none) (by decide) rfl ?_
  intro p e s m args below meth c s₁ B hml hv
  obtain ⟨rfl, hH0, hK, hE⟩ := hv
  have hx := B.exec
  have hb := B.bytes
  have hr := B.returns
  have hts := atoms_spec (ws := w_c_takeFromSea) B.pre
  have hown : s.vm.findClass RX2 = some m.cls := findClass_of_methodNamed B.named
  have hlocks := B.notSynchronized
  subst hH0
  generalize hAe : gA G s.heap.size = A at hE ⊢
  have hA : ∀ q : Nat, s.heap.size ≤ q → A q := fun q h => by rw [← hAe]; exact Or.inr h
  have hG := gA_of hAe
  have hS : va_S A s.heap s.heap [] := va_S.rf
  have hF : gF (dC, dI) SKc G ([(5, 12), (29, 0), (30, 0)] : List (Nat × Nat)) s.heap s.heap := gF.rf
  have hl := lv_entry ([.ref o0, .int p0, .int p1]) (n := 3) (Nat.le_of_ble_eq_true rfl)
  rw [lg_entry_eq]
  generalize (lg_sl ([.ref o0, .int p0, .int p1]) ++ List.replicate (3 - (lg_sl ([.ref o0, .int p0, .int p1])).length) Slot.unset).toArray = ls at hl ⊢
  have hl : lv_has ls 3 [(0, .ref o0), (1, .int p0), (2, .int p1)] := hl
  refine lv_aload_n hx hb dX2_takeFromSea_0 rfl (lv_at hl 0 rfl) ?_
  refine tw_get hx hb hts bF2_X2 hown hK hT hr_o0 shc_5 rfl 4 (by decide) (ht_at2 hts 0 rfl) (fun _ h9 => h9) dX2_takeFromSea_1 (fun v9 m1 h9 => ?_)
  obtain ⟨b2, rfl, hg3⟩ := h9 _ rfl
  refine lv_iload_n hx hb dX2_takeFromSea_4 rfl (lv_at hl 1 rfl) ?_
  refine lv_dup2_11 hx hb dX2_takeFromSea_5 rfl rfl ?_
  refine tw_iald (i := p0) hx hb hK hT hg3 shc_29 rfl (vin_t (a := p0.toInt) rfl (by omega) (by omega)) dX2_takeFromSea_6 (fun v9 m4 h9 => ?_)
  obtain ⟨x5, rfl, gx5, kx5⟩ := h9
  refine lv_iload_n hx hb dX2_takeFromSea_7 rfl (lv_at hl 2 rfl) ?_
  refine lv_iadd hx hb dX2_takeFromSea_8 ?_
  refine lv_topi (fun x6 ex6 => ?_)
  refine tw_iast (i := p0) (x := x6) hx hb hK hT hG hS hg3 shc_29 rfl (vin_t (a := p0.toInt) rfl (by omega) (by omega)) (gi_all _) dX2_takeFromSea_9 (fun H locs hT oq m7 oi hS => ?_)
  have hF := hF.ast hg3 skc_29 oq (by decide)
  refine lv_aload_n hx hb dX2_takeFromSea_10 rfl (lv_at hl 0 rfl) ?_
  refine tw_get hx hb hts bF2_X2 hown hK hT hr_o0 shc_5 rfl 5 (by decide) (ht_at2 hts 1 rfl) (fun _ h9 => h9) dX2_takeFromSea_11 (fun v9 m9 h9 => ?_)
  obtain ⟨b10, rfl, hg11⟩ := h9 _ rfl
  refine lv_iload_n hx hb dX2_takeFromSea_14 rfl (lv_at hl 1 rfl) ?_
  refine lv_dup2_11 hx hb dX2_takeFromSea_15 rfl rfl ?_
  refine tw_iald (i := p0) hx hb hK hT hg11 shc_30 rfl (vin_t (a := p0.toInt) rfl (by omega) (by omega)) dX2_takeFromSea_16 (fun v9 m12 h9 => ?_)
  obtain ⟨x13, rfl, gx13, kx13⟩ := h9
  refine lv_bipush (v := 30) hx hb dX2_takeFromSea_17 (by decide) ?_
  refine lv_iload_n hx hb dX2_takeFromSea_19 rfl (lv_at hl 2 rfl) ?_
  refine lv_imul hx hb dX2_takeFromSea_20 ?_
  refine lv_topi (fun x14 ex14 => ?_)
  refine lv_iadd hx hb dX2_takeFromSea_21 ?_
  refine lv_topi (fun x15 ex15 => ?_)
  refine tw_iast (i := p0) (x := x15) hx hb hK hT hG hS hg11 shc_30 rfl (vin_t (a := p0.toInt) rfl (by omega) (by omega)) (gi_all _) dX2_takeFromSea_22 (fun H locs hT oq m16 oi hS => ?_)
  have hF := hF.ast hg11 skc_30 oq (by decide)
  refine lv_aload_n hx hb dX2_takeFromSea_23 rfl (lv_at hl 0 rfl) ?_
  refine lv_dup hx hb dX2_takeFromSea_24 rfl ?_
  refine tw_get hx hb hts bF2_X2 hown hK hT hr_o0 shc_5 rfl 12 (by decide) (ht_at2 hts 2 rfl) (fun _ h9 => h9) dX2_takeFromSea_25 (fun v9 m20 h9 => ?_)
  obtain ⟨x21, rfl, gx21, kx21⟩ := h9 _ rfl
  refine lv_iload_n hx hb dX2_takeFromSea_28 rfl (lv_at hl 2 rfl) ?_
  refine lv_iadd hx hb dX2_takeFromSea_29 ?_
  refine lv_topi (fun x22 ex22 => ?_)
  refine tw_put (v := .int x22) (ty := .int) hx hb hts bF2_X2 tyX2 tyX2_ok nmX2 hown hK hT hG hS hr_o0 shc_5 rfl 12 (by decide) (ht_at2 hts 2 rfl) (fun _ h9 => h9) rfl (by decide +kernel) rfl rfl (gl_at rfl (gi_all _)) dX2_takeFromSea_30 (fun H locs hT oq m23 oj hS => ?_)
  have hF := hF.put hr_o0 skc_5 oq oj (by decide)
  exact W.vret hx hb hr (fun t ht hW => ⟨⟨(), rfl, (by exact trivial), by (try dsimp only); rw [ht]; exact ⟨hT, hF⟩⟩, hS.F ht⟩) hS.2.2 dX2_takeFromSea_33
def w_c_saltGoingWith : List Cond := .code yX2_saltGoingWith cX2_saltGoingWith 4 (some .int) :: (HAppend.hAppend (α := List Cond) (β := List Cond) (γ := List Cond) [.fieldLink RX2 25 "SeaLand$Ground" "water" "[I", .fieldLink RX2 28 "SeaLand$Ground" "salt" "[I"] bs2)
set_option maxHeartbeats 4000000 in
set_option maxRecDepth 100000 in
theorem c_saltGoingWith (l : Launch) (dC : Nat → ClassId) (dI : Nat → Nat → Nat) (kA : Nat → ClassId) (adK adV : Nat → Nat) (G : gT) (H0 : Heap) (nC nS : Int) (o0 : Nat) (p0 : Int32) (p1 : Int32)  (hT : gH (dC, dI) kA (SHc nC nS) G H0) (hr_o0 : G o0 = some 5) (hq0 : 0 ≤ p0.toInt ∧ p0.toInt ≤ 95) (hgC : 0 ≤ nC ∧ nC ≤ 40) (hgS : 0 ≤ nS ∧ nS ≤ 60) : Met l yX2_saltGoingWith w_c_saltGoingWith ({ frames := 0, cells := 0, slots := 0, locals := 0 }) (va_Pc [.ref o0, .int p0, .int p1] (fun U => U.heap = H0 ∧ va_K (dC, dI) vwCl (tyl kA) U ∧ EVC adK adV (gA G H0.size) U U.heap)) (va_Qi (fun (r : Int32) (u : Unit) => True) (fun (_ : Unit) (t : State) => gH (dC, dI) kA (SHc nC nS) G t.heap ∧ gF (dC, dI) SKc G ([] : List (Nat × Nat)) H0 t.heap) (gA G H0.size)) 0 0 (gA G H0.size) := by
  refine Met.ofW (cc := cX2_saltGoingWith) (maxL := 4) (ret := (some .int)) (by decide) rfl ?_
  intro p e s m args below meth c s₁ B hml hv
  obtain ⟨rfl, hH0, hK, hE⟩ := hv
  have hx := B.exec
  have hb := B.bytes
  have hr := B.returns
  have hts := atoms_spec (ws := w_c_saltGoingWith) B.pre
  have hown : s.vm.findClass RX2 = some m.cls := findClass_of_methodNamed B.named
  have hlocks := B.notSynchronized
  subst hH0
  generalize hAe : gA G s.heap.size = A at hE ⊢
  have hA : ∀ q : Nat, s.heap.size ≤ q → A q := fun q h => by rw [← hAe]; exact Or.inr h
  have hG := gA_of hAe
  have hS : va_S A s.heap s.heap [] := va_S.rf
  have hF : gF (dC, dI) SKc G ([] : List (Nat × Nat)) s.heap s.heap := gF.rf
  have hl := lv_entry ([.ref o0, .int p0, .int p1]) (n := 4) (Nat.le_of_ble_eq_true rfl)
  rw [lg_entry_eq]
  generalize (lg_sl ([.ref o0, .int p0, .int p1]) ++ List.replicate (4 - (lg_sl ([.ref o0, .int p0, .int p1])).length) Slot.unset).toArray = ls at hl ⊢
  have hl : lv_has ls 4 [(0, .ref o0), (1, .int p0), (2, .int p1)] := hl
  refine lv_aload_n hx hb dX2_saltGoingWith_0 rfl (lv_at hl 0 rfl) ?_
  refine tw_get hx hb hts bF2_X2 hown hK hT hr_o0 shc_5 rfl 4 (by decide) (ht_at2 hts 0 rfl) (fun _ h9 => h9) dX2_saltGoingWith_1 (fun v9 m1 h9 => ?_)
  obtain ⟨b2, rfl, hg3⟩ := h9 _ rfl
  refine lv_iload_n hx hb dX2_saltGoingWith_4 rfl (lv_at hl 1 rfl) ?_
  refine tw_iald (i := p0) hx hb hK hT hg3 shc_29 rfl (vin_t (a := p0.toInt) rfl (by omega) (by omega)) dX2_saltGoingWith_5 (fun v9 m4 h9 => ?_)
  obtain ⟨x5, rfl, gx5, kx5⟩ := h9
  refine lv_bipush (v := 10) hx hb dX2_saltGoingWith_6 (by decide) ?_
  refine lv_iadd hx hb dX2_saltGoingWith_8 ?_
  refine lv_topi (fun x6 ex6 => ?_)
  refine lv_istore_n (lv' := [(3, .int x6), (0, .ref o0), (1, .int p0), (2, .int p1)]) hx hb dX2_saltGoingWith_9 rfl hl (by decide) rfl (fun ls hl => ?_)
  refine lv_iload_n hx hb dX2_saltGoingWith_10 rfl (lv_at hl 0 rfl) ?_
  have t7 : -2147483648 ≤ x6.toInt ∧ x6.toInt ≤ 2147483647 := ti_all x6
  refine lv_if_gt (tgt := 18) hx hb dX2_saltGoingWith_11 (by decide) (fun c8 => ?_) (fun c8 => ?_)
  · have t9 : 0 < x6.toInt := ti_lt c8 (by decide) rfl
    refine lv_aload_n hx hb dX2_saltGoingWith_18 rfl (lv_at hl 1 rfl) ?_
    refine tw_get hx hb hts bF2_X2 hown hK hT hr_o0 shc_5 rfl 5 (by decide) (ht_at2 hts 1 rfl) (fun _ h9 => h9) dX2_saltGoingWith_19 (fun v9 m10 h9 => ?_)
    obtain ⟨b11, rfl, hg12⟩ := h9 _ rfl
    refine lv_iload_n hx hb dX2_saltGoingWith_22 rfl (lv_at hl 2 rfl) ?_
    refine tw_iald (i := p0) hx hb hK hT hg12 shc_30 rfl (vin_t (a := p0.toInt) rfl (by omega) (by omega)) dX2_saltGoingWith_23 (fun v9 m13 h9 => ?_)
    obtain ⟨x14, rfl, gx14, kx14⟩ := h9
    refine lv_i2l (v := x14.toInt64) hx hb dX2_saltGoingWith_24 rfl ?_
    refine lv_iload_n hx hb dX2_saltGoingWith_25 rfl (lv_at hl 3 rfl) ?_
    refine lv_i2l (v := p1.toInt64) hx hb dX2_saltGoingWith_26 rfl ?_
    refine lv_lmul hx hb dX2_saltGoingWith_27 ?_
    refine lv_topl (fun y15 _ => ?_)
    refine lv_iload_n hx hb dX2_saltGoingWith_28 rfl (lv_at hl 0 rfl) ?_
    refine lv_i2l (v := x6.toInt64) hx hb dX2_saltGoingWith_29 rfl ?_
    refine lv_ldiv hx hb dX2_saltGoingWith_30 (i2l_ne rfl (by omega)) ?_
    refine lv_topl (fun y16 _ => ?_)
    refine lv_l2i (v := y16.toInt32) hx hb dX2_saltGoingWith_31 rfl ?_
    refine lv_topi (fun x17 _ => ?_)
    exact W.iret (v := x17) hx hb hr (fun t ht hW => ⟨⟨x17, (), rfl, (by exact trivial), by (try dsimp only); rw [ht]; exact ⟨hT, hF⟩⟩, hS.F ht⟩) hS.2.2 dX2_saltGoingWith_32
  · have t18 : x6.toInt ≤ 0 := ti_nlt c8 (by decide) rfl
    refine lv_iconst (v := 0) hx hb dX2_saltGoingWith_14 (by decide) ?_
    refine lv_goto (tgt := 32) hx hb dX2_saltGoingWith_15 (by decide) ?_
    exact W.iret (v := 0) hx hb hr (fun t ht hW => ⟨⟨0, (), rfl, (by exact trivial), by (try dsimp only); rw [ht]; exact ⟨hT, hF⟩⟩, hS.F ht⟩) hS.2.2 dX2_saltGoingWith_32
def w_c_giveToSea : List Cond := .code yX2_giveToSea cX2_giveToSea 3 none :: (HAppend.hAppend (α := List Cond) (β := List Cond) (γ := List Cond) [.fieldLink RX2 28 "SeaLand$Ground" "salt" "[I", .code yX2_saltGoingWith cX2_saltGoingWith 4 (some .int), .fieldLink RX2 25 "SeaLand$Ground" "water" "[I", .methodLink RX2 60 yX2_saltGoingWith, .instanceMethod yX2_saltGoingWith, .selects RX2 yX2_saltGoingWith yX2_saltGoingWith, .initialized RX2, .fieldLink RX2 64 "SeaLand$Ground" "wentOut" "I"] bs2)
set_option maxHeartbeats 4000000 in
set_option maxRecDepth 100000 in
theorem c_giveToSea (l : Launch) (dC : Nat → ClassId) (dI : Nat → Nat → Nat) (kA : Nat → ClassId) (adK adV : Nat → Nat) (G : gT) (H0 : Heap) (nC nS : Int) (o0 : Nat) (p0 : Int32) (p1 : Int32)  (hT : gH (dC, dI) kA (SHc nC nS) G H0) (hr_o0 : G o0 = some 5) (hq0 : 0 ≤ p0.toInt ∧ p0.toInt ≤ 95) (hgC : 0 ≤ nC ∧ nC ≤ 40) (hgS : 0 ≤ nS ∧ nS ≤ 60) : Met l yX2_giveToSea w_c_giveToSea ({ frames := 1, cells := 0, slots := 0, locals := 23 }) (va_Pc [.ref o0, .int p0, .int p1] (fun U => U.heap = H0 ∧ va_K (dC, dI) vwCl (tyl kA) U ∧ EVC adK adV (gA G H0.size) U U.heap)) (va_Qv (fun (u : Unit) => True) (fun (_ : Unit) (t : State) => gH (dC, dI) kA (SHc nC nS) G t.heap ∧ gF (dC, dI) SKc G ([(5, 13), (29, 0), (30, 0)] : List (Nat × Nat)) H0 t.heap) (gA G H0.size)) 0 0 (gA G H0.size) := by
  refine Met.ofW (cc := cX2_giveToSea) (maxL := 3) (ret := none) (by decide) rfl ?_
  intro p e s m args below meth c s₁ B hml hv
  obtain ⟨rfl, hH0, hK, hE⟩ := hv
  have hx := B.exec
  have hb := B.bytes
  have hr := B.returns
  have hts := atoms_spec (ws := w_c_giveToSea) B.pre
  have hown : s.vm.findClass RX2 = some m.cls := findClass_of_methodNamed B.named
  have hlocks := B.notSynchronized
  subst hH0
  generalize hAe : gA G s.heap.size = A at hE ⊢
  have hA : ∀ q : Nat, s.heap.size ≤ q → A q := fun q h => by rw [← hAe]; exact Or.inr h
  have hG := gA_of hAe
  have hS : va_S A s.heap s.heap [] := va_S.rf
  have hF : gF (dC, dI) SKc G ([(5, 13), (29, 0), (30, 0)] : List (Nat × Nat)) s.heap s.heap := gF.rf
  have hl := lv_entry ([.ref o0, .int p0, .int p1]) (n := 3) (Nat.le_of_ble_eq_true rfl)
  rw [lg_entry_eq]
  generalize (lg_sl ([.ref o0, .int p0, .int p1]) ++ List.replicate (3 - (lg_sl ([.ref o0, .int p0, .int p1])).length) Slot.unset).toArray = ls at hl ⊢
  have hl : lv_has ls 3 [(0, .ref o0), (1, .int p0), (2, .int p1)] := hl
  refine lv_aload_n hx hb dX2_giveToSea_0 rfl (lv_at hl 0 rfl) ?_
  refine tw_get hx hb hts bF2_X2 hown hK hT hr_o0 shc_5 rfl 5 (by decide) (ht_at2 hts 0 rfl) (fun _ h9 => h9) dX2_giveToSea_1 (fun v9 m1 h9 => ?_)
  obtain ⟨b2, rfl, hg3⟩ := h9 _ rfl
  refine lv_iload_n hx hb dX2_giveToSea_4 rfl (lv_at hl 1 rfl) ?_
  refine lv_dup2_11 hx hb dX2_giveToSea_5 rfl rfl ?_
  refine tw_iald (i := p0) hx hb hK hT hg3 shc_30 rfl (vin_t (a := p0.toInt) rfl (by omega) (by omega)) dX2_giveToSea_6 (fun v9 m4 h9 => ?_)
  obtain ⟨x5, rfl, gx5, kx5⟩ := h9
  refine lv_aload_n hx hb dX2_giveToSea_7 rfl (lv_at hl 0 rfl) ?_
  refine lv_iload_n hx hb dX2_giveToSea_8 rfl (lv_at hl 1 rfl) ?_
  refine lv_iload_n hx hb dX2_giveToSea_9 rfl (lv_at hl 2 rfl) ?_
  have hFc := gA_free hG hA hS
  refine va_calli (va_runV (As := [.int p0, .int p1]) (rest := [.int x5, .int p0, .ref b2]) ⟨hx, hb, hml, hown, hts⟩ (c_saltGoingWith l dC dI kA adK adV G s.heap nC nS o0 p0 p1 hT hr_o0 (by have q8 := ti_all p0; omega) (by omega) (by omega)) (cwV 2 hts (goodIn_app (goodIn_r _ [4, 5, 6, 7] rfl (by decide +kernel)) (goodIn_ca (goodIn_r _ [2, 3, 1] rfl (by decide +kernel)) (bs2_in _ _))) rfl rfl rfl (by decide +kernel) ⟨(Nat.le_of_ble_eq_true rfl), (Nat.le_of_ble_eq_true rfl)⟩) ⟨fun a U g mk q => by obtain ⟨q0, q1, qK, qE⟩ := q; exact ⟨q0, q1, va_K.moved (u := U) (U := U.calling g mk a) (Vm.Alike.refl U.vm) qK, EVC.blind g mk a qE⟩, gH_rc hK hT hr_o0 shc_5 rfl, fun U hU hW => ⟨rfl, hU, va_K.moved hW.alike hK, hE.call hS hFc hU hW⟩⟩ rfl rfl hl.1 rfl (lv_room (Nat.le_of_ble_eq_true rfl)) dX2_giveToSea_10 ⟨(Nat.le_of_ble_eq_true rfl), (Nat.le_of_ble_eq_true rfl)⟩) hS (fun q _ h => hFc q h) hFc (fun r6 u t H locs ht hvm hw7 hB _ _ hS => ?_)
  obtain ⟨hT, hF1⟩ := hB
  rw [ht] at hT hF1
  have hF := hF.more hF1 (by decide)
  try dsimp only at hw7
  refine lv_isub hx hb dX2_giveToSea_13 ?_
  refine lv_topi (fun x10 ex10 => ?_)
  refine tw_iast (i := p0) (x := x10) hx hb hK hT hG hS hg3 shc_30 rfl (vin_t (a := p0.toInt) rfl (by omega) (by omega)) (gi_all _) dX2_giveToSea_14 (fun H locs hT oq m11 oi hS => ?_)
  have hF := hF.ast hg3 skc_30 oq (by decide)
  refine lv_aload_n hx hb dX2_giveToSea_15 rfl (lv_at hl 0 rfl) ?_
  refine tw_get hx hb hts bF2_X2 hown hK hT hr_o0 shc_5 rfl 4 (by decide) (ht_at2 hts 2 rfl) (fun _ h9 => h9) dX2_giveToSea_16 (fun v9 m13 h9 => ?_)
  obtain ⟨b14, rfl, hg15⟩ := h9 _ rfl
  refine lv_iload_n hx hb dX2_giveToSea_19 rfl (lv_at hl 1 rfl) ?_
  refine lv_dup2_11 hx hb dX2_giveToSea_20 rfl rfl ?_
  refine tw_iald (i := p0) hx hb hK hT hg15 shc_29 rfl (vin_t (a := p0.toInt) rfl (by omega) (by omega)) dX2_giveToSea_21 (fun v9 m16 h9 => ?_)
  obtain ⟨x17, rfl, gx17, kx17⟩ := h9
  refine lv_iload_n hx hb dX2_giveToSea_22 rfl (lv_at hl 2 rfl) ?_
  refine lv_isub hx hb dX2_giveToSea_23 ?_
  refine lv_topi (fun x18 ex18 => ?_)
  refine tw_iast (i := p0) (x := x18) hx hb hK hT hG hS hg15 shc_29 rfl (vin_t (a := p0.toInt) rfl (by omega) (by omega)) (gi_all _) dX2_giveToSea_24 (fun H locs hT oq m19 oi hS => ?_)
  have hF := hF.ast hg15 skc_29 oq (by decide)
  refine lv_aload_n hx hb dX2_giveToSea_25 rfl (lv_at hl 0 rfl) ?_
  refine lv_dup hx hb dX2_giveToSea_26 rfl ?_
  refine tw_get hx hb hts bF2_X2 hown hK hT hr_o0 shc_5 rfl 13 (by decide) (ht_at2 hts 7 rfl) (fun _ h9 => h9) dX2_giveToSea_27 (fun v9 m23 h9 => ?_)
  obtain ⟨x24, rfl, gx24, kx24⟩ := h9 _ rfl
  refine lv_iload_n hx hb dX2_giveToSea_30 rfl (lv_at hl 2 rfl) ?_
  refine lv_iadd hx hb dX2_giveToSea_31 ?_
  refine lv_topi (fun x25 ex25 => ?_)
  refine tw_put (v := .int x25) (ty := .int) hx hb hts bF2_X2 tyX2 tyX2_ok nmX2 hown hK hT hG hS hr_o0 shc_5 rfl 13 (by decide) (ht_at2 hts 7 rfl) (fun _ h9 => h9) rfl (by decide +kernel) rfl rfl (gl_at rfl (gi_all _)) dX2_giveToSea_32 (fun H locs hT oq m26 oj hS => ?_)
  have hF := hF.put hr_o0 skc_5 oq oj (by decide)
  exact W.vret hx hb hr (fun t ht hW => ⟨⟨(), rfl, (by exact trivial), by (try dsimp only); rw [ht]; exact ⟨hT, hF⟩⟩, hS.F ht⟩) hS.2.2 dX2_giveToSea_35
def w_c_giveTo : List Cond := .code yX2_giveTo cX2_giveTo 5 none :: (HAppend.hAppend (α := List Cond) (β := List Cond) (γ := List Cond) [.fieldLink RX2 9 "SeaLand$Ground" "isLand" "[Z", .code yX2_saltGoingWith cX2_saltGoingWith 4 (some .int), .fieldLink RX2 25 "SeaLand$Ground" "water" "[I", .fieldLink RX2 28 "SeaLand$Ground" "salt" "[I", .methodLink RX2 60 yX2_saltGoingWith, .instanceMethod yX2_saltGoingWith, .selects RX2 yX2_saltGoingWith yX2_saltGoingWith, .initialized RX2, .code yX2_giveToSea cX2_giveToSea 3 none, .fieldLink RX2 64 "SeaLand$Ground" "wentOut" "I", .methodLink RX2 67 yX2_giveToSea, .instanceMethod yX2_giveToSea, .selects RX2 yX2_giveToSea yX2_giveToSea] bs2)
set_option maxHeartbeats 4000000 in
set_option maxRecDepth 100000 in
theorem c_giveTo (l : Launch) (dC : Nat → ClassId) (dI : Nat → Nat → Nat) (kA : Nat → ClassId) (adK adV : Nat → Nat) (G : gT) (H0 : Heap) (nC nS : Int) (o0 : Nat) (p0 : Int32) (p1 : Int32) (p2 : Int32)  (hT : gH (dC, dI) kA (SHc nC nS) G H0) (hr_o0 : G o0 = some 5) (hq0 : 0 ≤ p0.toInt ∧ p0.toInt ≤ 95) (hq1 : 0 ≤ p1.toInt ∧ p1.toInt ≤ 95) (hgC : 0 ≤ nC ∧ nC ≤ 40) (hgS : 0 ≤ nS ∧ nS ≤ 60) : Met l yX2_giveTo w_c_giveTo ({ frames := 2, cells := 0, slots := 0, locals := 45 }) (va_Pc [.ref o0, .int p0, .int p1, .int p2] (fun U => U.heap = H0 ∧ va_K (dC, dI) vwCl (tyl kA) U ∧ EVC adK adV (gA G H0.size) U U.heap)) (va_Qv (fun (u : Unit) => True) (fun (_ : Unit) (t : State) => gH (dC, dI) kA (SHc nC nS) G t.heap ∧ gF (dC, dI) SKc G ([(5, 13), (29, 0), (30, 0)] : List (Nat × Nat)) H0 t.heap) (gA G H0.size)) 0 0 (gA G H0.size) := by
  refine Met.ofW (cc := cX2_giveTo) (maxL := 5) (ret := none) (by decide) rfl ?_
  intro p e s m args below meth c s₁ B hml hv
  obtain ⟨rfl, hH0, hK, hE⟩ := hv
  have hx := B.exec
  have hb := B.bytes
  have hr := B.returns
  have hts := atoms_spec (ws := w_c_giveTo) B.pre
  have hown : s.vm.findClass RX2 = some m.cls := findClass_of_methodNamed B.named
  have hlocks := B.notSynchronized
  subst hH0
  generalize hAe : gA G s.heap.size = A at hE ⊢
  have hA : ∀ q : Nat, s.heap.size ≤ q → A q := fun q h => by rw [← hAe]; exact Or.inr h
  have hG := gA_of hAe
  have hS : va_S A s.heap s.heap [] := va_S.rf
  have hF : gF (dC, dI) SKc G ([(5, 13), (29, 0), (30, 0)] : List (Nat × Nat)) s.heap s.heap := gF.rf
  have hl := lv_entry ([.ref o0, .int p0, .int p1, .int p2]) (n := 5) (Nat.le_of_ble_eq_true rfl)
  rw [lg_entry_eq]
  generalize (lg_sl ([.ref o0, .int p0, .int p1, .int p2]) ++ List.replicate (5 - (lg_sl ([.ref o0, .int p0, .int p1, .int p2])).length) Slot.unset).toArray = ls at hl ⊢
  have hl : lv_has ls 5 [(0, .ref o0), (1, .int p0), (2, .int p1), (3, .int p2)] := hl
  refine lv_aload_n hx hb dX2_giveTo_0 rfl (lv_at hl 0 rfl) ?_
  refine tw_get hx hb hts bF2_X2 hown hK hT hr_o0 shc_5 rfl 0 (by decide) (ht_at2 hts 0 rfl) (fun _ h9 => h9) dX2_giveTo_1 (fun v9 m1 h9 => ?_)
  obtain ⟨b2, rfl, hg3⟩ := h9 _ rfl
  refine lv_iload_n hx hb dX2_giveTo_4 rfl (lv_at hl 2 rfl) ?_
  refine tw_zald (i := p1) hx hb hK hT hg3 shc_25 rfl (vin_t (a := p1.toInt) rfl (by omega) (by omega)) dX2_giveTo_5 (fun v9 m4 h9 => ?_)
  obtain ⟨x5, rfl, gx5, kx5⟩ := h9
  refine lv_if_ne (tgt := 16) hx hb dX2_giveTo_6 (by decide) (fun c6 => ?_) (fun c6 => ?_)
  · have t7 : x5.toInt ≠ 0 := ti_ne c6 rfl (by decide)
    refine lv_aload_n hx hb dX2_giveTo_16 rfl (lv_at hl 0 rfl) ?_
    refine lv_iload_n hx hb dX2_giveTo_17 rfl (lv_at hl 1 rfl) ?_
    refine lv_iload_n hx hb dX2_giveTo_18 rfl (lv_at hl 3 rfl) ?_
    have hFc := gA_free hG hA hS
    refine va_calli (va_runV (As := [.int p0, .int p2]) (rest := []) ⟨hx, hb, hml, hown, hts⟩ (c_saltGoingWith l dC dI kA adK adV G s.heap nC nS o0 p0 p2 hT hr_o0 (by have q8 := ti_all p0; omega) (by omega) (by omega)) (cwV 2 hts (goodIn_app (goodIn_r _ [5, 6, 7, 8] rfl (by decide +kernel)) (goodIn_ca (goodIn_r _ [2, 3, 4] rfl (by decide +kernel)) (bs2_in _ _))) rfl rfl rfl (by decide +kernel) ⟨(Nat.le_of_ble_eq_true rfl), (Nat.le_of_ble_eq_true rfl)⟩) ⟨fun a U g mk q => by obtain ⟨q0, q1, qK, qE⟩ := q; exact ⟨q0, q1, va_K.moved (u := U) (U := U.calling g mk a) (Vm.Alike.refl U.vm) qK, EVC.blind g mk a qE⟩, gH_rc hK hT hr_o0 shc_5 rfl, fun U hU hW => ⟨rfl, hU, va_K.moved hW.alike hK, hE.call hS hFc hU hW⟩⟩ rfl rfl hl.1 rfl (lv_room (Nat.le_of_ble_eq_true rfl)) dX2_giveTo_19 ⟨(Nat.le_of_ble_eq_true rfl), (Nat.le_of_ble_eq_true rfl)⟩) hS (fun q _ h => hFc q h) hFc (fun r8 u t H locs ht hvm hw9 hB _ _ hS => ?_)
    obtain ⟨hT, hF1⟩ := hB
    rw [ht] at hT hF1
    have hF := hF.more hF1 (by decide)
    try dsimp only at hw9
    refine lv_istore (lv' := [(4, .int r8), (0, .ref o0), (1, .int p0), (2, .int p1), (3, .int p2)]) hx hb dX2_giveTo_22 hl (by decide) rfl (fun ls hl => ?_)
    refine lv_aload_n hx hb dX2_giveTo_24 rfl (lv_at hl 1 rfl) ?_
    refine tw_get hx hb hts bF2_X2 hown hK hT hr_o0 shc_5 rfl 5 (by decide) (ht_at2 hts 3 rfl) (fun _ h9 => h9) dX2_giveTo_25 (fun v9 m12 h9 => ?_)
    obtain ⟨b13, rfl, hg14⟩ := h9 _ rfl
    refine lv_iload_n hx hb dX2_giveTo_28 rfl (lv_at hl 2 rfl) ?_
    refine lv_dup2_11 hx hb dX2_giveTo_29 rfl rfl ?_
    refine tw_iald (i := p0) hx hb hK hT hg14 shc_30 rfl (vin_t (a := p0.toInt) rfl (by omega) (by omega)) dX2_giveTo_30 (fun v9 m15 h9 => ?_)
    obtain ⟨x16, rfl, gx16, kx16⟩ := h9
    refine lv_iload hx hb dX2_giveTo_31 (lv_at hl 0 rfl) ?_
    refine lv_isub hx hb dX2_giveTo_33 ?_
    refine lv_topi (fun x17 ex17 => ?_)
    refine tw_iast (i := p0) (x := x17) hx hb hK hT hG hS hg14 shc_30 rfl (vin_t (a := p0.toInt) rfl (by omega) (by omega)) (gi_all _) dX2_giveTo_34 (fun H locs hT oq m18 oi hS => ?_)
    have hF := hF.ast hg14 skc_30 oq (by decide)
    have m21 := (el_kept (oq _ (gne hr_o0 hg14 (by decide)))).trans m12
    refine lv_aload_n hx hb dX2_giveTo_35 rfl (lv_at hl 1 rfl) ?_
    refine tw_get hx hb hts bF2_X2 hown hK hT hr_o0 shc_5 rfl 4 (by decide) (ht_at2 hts 2 rfl) (fun _ h9 => h9) dX2_giveTo_36 (fun v9 m22 h9 => ?_)
    obtain ⟨b23, rfl, hg24⟩ := h9 _ rfl
    refine lv_iload_n hx hb dX2_giveTo_39 rfl (lv_at hl 2 rfl) ?_
    refine lv_dup2_11 hx hb dX2_giveTo_40 rfl rfl ?_
    refine tw_iald (i := p0) hx hb hK hT hg24 shc_29 rfl (vin_t (a := p0.toInt) rfl (by omega) (by omega)) dX2_giveTo_41 (fun v9 m25 h9 => ?_)
    obtain ⟨x26, rfl, gx26, kx26⟩ := h9
    refine lv_iload_n hx hb dX2_giveTo_42 rfl (lv_at hl 4 rfl) ?_
    refine lv_isub hx hb dX2_giveTo_43 ?_
    refine lv_topi (fun x27 ex27 => ?_)
    refine tw_iast (i := p0) (x := x27) hx hb hK hT hG hS hg24 shc_29 rfl (vin_t (a := p0.toInt) rfl (by omega) (by omega)) (gi_all _) dX2_giveTo_44 (fun H locs hT oq m28 oi hS => ?_)
    have hF := hF.ast hg24 skc_29 oq (by decide)
    have m31 := (el_kept (oq _ (gne hr_o0 hg24 (by decide)))).trans m21
    have m33 := (el_kept (oq _ (gne hr_o0 hg24 (by decide)))).trans m22
    refine lv_aload_n hx hb dX2_giveTo_45 rfl (lv_at hl 1 rfl) ?_
    refine tw_getM (v := .ref b13) hx hb hts bF2_X2 hown hK hT hr_o0 shc_5 rfl 5 (by decide) (ht_at2 hts 3 rfl) (fun _ h9 => h9) m31 dX2_giveTo_46 ?_
    refine lv_iload_n hx hb dX2_giveTo_49 rfl (lv_at hl 3 rfl) ?_
    refine lv_dup2_11 hx hb dX2_giveTo_50 rfl rfl ?_
    refine tw_iald (i := p1) hx hb hK hT hg14 shc_30 rfl (vin_t (a := p1.toInt) rfl (by omega) (by omega)) dX2_giveTo_51 (fun v9 m34 h9 => ?_)
    obtain ⟨x35, rfl, gx35, kx35⟩ := h9
    refine lv_iload hx hb dX2_giveTo_52 (lv_at hl 0 rfl) ?_
    refine lv_iadd hx hb dX2_giveTo_54 ?_
    refine lv_topi (fun x36 ex36 => ?_)
    refine tw_iast (i := p1) (x := x36) hx hb hK hT hG hS hg14 shc_30 rfl (vin_t (a := p1.toInt) rfl (by omega) (by omega)) (gi_all _) dX2_giveTo_55 (fun H locs hT oq m37 oi hS => ?_)
    have hF := hF.ast hg14 skc_30 oq (by decide)
    have m41 := (el_kept (oq _ (gne hr_o0 hg14 (by decide)))).trans m33
    refine lv_aload_n hx hb dX2_giveTo_56 rfl (lv_at hl 1 rfl) ?_
    refine tw_getM (v := .ref b23) hx hb hts bF2_X2 hown hK hT hr_o0 shc_5 rfl 4 (by decide) (ht_at2 hts 2 rfl) (fun _ h9 => h9) m41 dX2_giveTo_57 ?_
    refine lv_iload_n hx hb dX2_giveTo_60 rfl (lv_at hl 3 rfl) ?_
    refine lv_dup2_11 hx hb dX2_giveTo_61 rfl rfl ?_
    refine tw_iald (i := p1) hx hb hK hT hg24 shc_29 rfl (vin_t (a := p1.toInt) rfl (by omega) (by omega)) dX2_giveTo_62 (fun v9 m43 h9 => ?_)
    obtain ⟨x44, rfl, gx44, kx44⟩ := h9
    refine lv_iload_n hx hb dX2_giveTo_63 rfl (lv_at hl 4 rfl) ?_
    refine lv_iadd hx hb dX2_giveTo_64 ?_
    refine lv_topi (fun x45 ex45 => ?_)
    refine tw_iast (i := p1) (x := x45) hx hb hK hT hG hS hg24 shc_29 rfl (vin_t (a := p1.toInt) rfl (by omega) (by omega)) (gi_all _) dX2_giveTo_65 (fun H locs hT oq m46 oi hS => ?_)
    have hF := hF.ast hg24 skc_29 oq (by decide)
    exact W.vret hx hb hr (fun t ht hW => ⟨⟨(), rfl, (by exact trivial), by (try dsimp only); rw [ht]; exact ⟨hT, hF⟩⟩, hS.F ht⟩) hS.2.2 dX2_giveTo_66
  · have t52 : x5.toInt = 0 := ti_eq c6 rfl (by decide)
    refine lv_aload_n hx hb dX2_giveTo_9 rfl (lv_at hl 0 rfl) ?_
    refine lv_iload_n hx hb dX2_giveTo_10 rfl (lv_at hl 1 rfl) ?_
    refine lv_iload_n hx hb dX2_giveTo_11 rfl (lv_at hl 3 rfl) ?_
    have hFc := gA_free hG hA hS
    refine va_callv (va_runV (As := [.int p0, .int p2]) (rest := []) ⟨hx, hb, hml, hown, hts⟩ (c_giveToSea l dC dI kA adK adV G s.heap nC nS o0 p0 p2 hT hr_o0 (by have q8 := ti_all p0; omega) (by omega) (by omega)) (cwV 2 hts (goodIn_app (goodIn_r _ [11, 12, 13, 8] rfl (by decide +kernel)) (goodIn_ca (goodIn_r _ [9, 4, 2, 3, 5, 6, 7, 8, 10] rfl (by decide +kernel)) (bs2_in _ _))) rfl rfl rfl (by decide +kernel) ⟨(Nat.le_of_ble_eq_true rfl), (Nat.le_of_ble_eq_true rfl)⟩) ⟨fun a U g mk q => by obtain ⟨q0, q1, qK, qE⟩ := q; exact ⟨q0, q1, va_K.moved (u := U) (U := U.calling g mk a) (Vm.Alike.refl U.vm) qK, EVC.blind g mk a qE⟩, gH_rc hK hT hr_o0 shc_5 rfl, fun U hU hW => ⟨rfl, hU, va_K.moved hW.alike hK, hE.call hS hFc hU hW⟩⟩ rfl rfl hl.1 rfl (lv_room (Nat.le_of_ble_eq_true rfl)) dX2_giveTo_12 ⟨(Nat.le_of_ble_eq_true rfl), (Nat.le_of_ble_eq_true rfl)⟩) hS (fun q _ h => hFc q h) hFc (fun u t H locs ht hvm hw54 hB _ _ hS => ?_)
    obtain ⟨hT, hF1⟩ := hB
    rw [ht] at hT hF1
    have hF := hF.more hF1 (by decide)
    try dsimp only at hw54
    exact W.vret hx hb hr (fun t ht hW => ⟨⟨(), rfl, (by exact trivial), by (try dsimp only); rw [ht]; exact ⟨hT, hF⟩⟩, hS.F ht⟩) hS.2.2 dX2_giveTo_15
def w_c_lowerDitch : List Cond := .code yX2_lowerDitch cX2_lowerDitch 4 (some .int) :: (HAppend.hAppend (α := List Cond) (β := List Cond) (γ := List Cond) [.fieldLink RX2 22 "SeaLand$Ground" "ditch" "[I", .code yX2_levelOf cX2_levelOf 2 (some .int), .fieldLink RX2 15 "SeaLand$Ground" "height" "[I", .fieldLink RX2 25 "SeaLand$Ground" "water" "[I", .methodLink RX2 79 yX2_levelOf, .instanceMethod yX2_levelOf, .selects RX2 yX2_levelOf yX2_levelOf, .initialized RX2] bs2)
set_option maxHeartbeats 4000000 in
set_option maxRecDepth 100000 in
theorem c_lowerDitch (l : Launch) (dC : Nat → ClassId) (dI : Nat → Nat → Nat) (kA : Nat → ClassId) (adK adV : Nat → Nat) (G : gT) (H0 : Heap) (nC nS : Int) (o0 : Nat) (p0 : Int32) (p1 : Int32) (p2 : Int32)  (hT : gH (dC, dI) kA (SHc nC nS) G H0) (hr_o0 : G o0 = some 5) (hq0 : 0 ≤ p0.toInt ∧ p0.toInt ≤ 95) (hq1 : 0 ≤ p1.toInt ∧ p1.toInt ≤ 95) (hgC : 0 ≤ nC ∧ nC ≤ 40) (hgS : 0 ≤ nS ∧ nS ≤ 60) : Met l yX2_lowerDitch w_c_lowerDitch ({ frames := 1, cells := 0, slots := 0, locals := 21 }) (va_Pc [.ref o0, .int p0, .int p1, .int p2] (fun U => U.heap = H0 ∧ va_K (dC, dI) vwCl (tyl kA) U ∧ EVC adK adV (gA G H0.size) U U.heap)) (va_Qi (fun (r : Int32) (u : Unit) => (0 ≤ r.toInt ∧ r.toInt ≤ 95)) (fun (_ : Unit) (t : State) => gH (dC, dI) kA (SHc nC nS) G t.heap ∧ gF (dC, dI) SKc G ([] : List (Nat × Nat)) H0 t.heap) (gA G H0.size)) 0 0 (gA G H0.size) := by
  refine Met.ofW (cc := cX2_lowerDitch) (maxL := 4) (ret := (some .int)) (by decide) rfl ?_
  intro p e s m args below meth c s₁ B hml hv
  obtain ⟨rfl, hH0, hK, hE⟩ := hv
  have hx := B.exec
  have hb := B.bytes
  have hr := B.returns
  have hts := atoms_spec (ws := w_c_lowerDitch) B.pre
  have hown : s.vm.findClass RX2 = some m.cls := findClass_of_methodNamed B.named
  have hlocks := B.notSynchronized
  subst hH0
  generalize hAe : gA G s.heap.size = A at hE ⊢
  have hA : ∀ q : Nat, s.heap.size ≤ q → A q := fun q h => by rw [← hAe]; exact Or.inr h
  have hG := gA_of hAe
  have hS : va_S A s.heap s.heap [] := va_S.rf
  have hF : gF (dC, dI) SKc G ([] : List (Nat × Nat)) s.heap s.heap := gF.rf
  have hl := lv_entry ([.ref o0, .int p0, .int p1, .int p2]) (n := 4) (Nat.le_of_ble_eq_true rfl)
  rw [lg_entry_eq]
  generalize (lg_sl ([.ref o0, .int p0, .int p1, .int p2]) ++ List.replicate (4 - (lg_sl ([.ref o0, .int p0, .int p1, .int p2])).length) Slot.unset).toArray = ls at hl ⊢
  have hl : lv_has ls 4 [(0, .ref o0), (1, .int p0), (2, .int p1), (3, .int p2)] := hl
  refine lv_iload_n hx hb dX2_lowerDitch_0 rfl (lv_at hl 3 rfl) ?_
  have t1 : -2147483648 ≤ p2.toInt ∧ p2.toInt ≤ 2147483647 := ti_all p2
  refine lv_if_lt (tgt := 19) hx hb dX2_lowerDitch_1 (by decide) (fun c2 => ?_) (fun c2 => ?_)
  · have t3 : p2.toInt < 0 := ti_lt c2 rfl (by decide)
    refine lv_iload_n hx hb dX2_lowerDitch_19 rfl (lv_at hl 2 rfl) ?_
    exact W.iret (v := p1) hx hb hr (fun t ht hW => ⟨⟨p1, (), rfl, (by exact (by have q8 := ti_all p1; omega)), by (try dsimp only); rw [ht]; exact ⟨hT, hF⟩⟩, hS.F ht⟩) hS.2.2 dX2_lowerDitch_20
  · have t4 : 0 ≤ p2.toInt := ti_nlt c2 rfl (by decide)
    refine lv_iload_n hx hb dX2_lowerDitch_4 rfl (lv_at hl 3 rfl) ?_
    refine lv_bipush (v := 96) hx hb dX2_lowerDitch_5 (by decide) ?_
    refine lv_icmp_ge (tgt := 19) hx hb dX2_lowerDitch_7 (by decide) (fun c5 => ?_) (fun c5 => ?_)
    · have t6 : 96 ≤ p2.toInt := ti_le c5 (by decide) rfl
      refine lv_iload_n hx hb dX2_lowerDitch_19 rfl (lv_at hl 2 rfl) ?_
      exact W.iret (v := p1) hx hb hr (fun t ht hW => ⟨⟨p1, (), rfl, (by exact (by have q8 := ti_all p1; omega)), by (try dsimp only); rw [ht]; exact ⟨hT, hF⟩⟩, hS.F ht⟩) hS.2.2 dX2_lowerDitch_20
    · have t7 : p2.toInt < 96 := ti_nle c5 (by decide) rfl
      refine lv_aload_n hx hb dX2_lowerDitch_10 rfl (lv_at hl 0 rfl) ?_
      refine tw_get hx hb hts bF2_X2 hown hK hT hr_o0 shc_5 rfl 3 (by decide) (ht_at2 hts 0 rfl) (fun _ h9 => h9) dX2_lowerDitch_11 (fun v9 m8 h9 => ?_)
      obtain ⟨b9, rfl, hg10⟩ := h9 _ rfl
      refine lv_iload_n hx hb dX2_lowerDitch_14 rfl (lv_at hl 3 rfl) ?_
      refine tw_iald (i := p2) hx hb hK hT hg10 shc_28 rfl (vin_t (a := p2.toInt) rfl (by omega) (by omega)) dX2_lowerDitch_15 (fun v9 m11 h9 => ?_)
      obtain ⟨x12, rfl, gx12, kx12⟩ := h9
      have t13 : -2147483648 ≤ x12.toInt ∧ x12.toInt ≤ 2147483647 := ti_all x12
      refine lv_if_ne (tgt := 21) hx hb dX2_lowerDitch_16 (by decide) (fun c14 => ?_) (fun c14 => ?_)
      · have t15 : x12.toInt ≠ 0 := ti_ne c14 rfl (by decide)
        refine lv_aload_n hx hb dX2_lowerDitch_21 rfl (lv_at hl 0 rfl) ?_
        refine lv_iload_n hx hb dX2_lowerDitch_22 rfl (lv_at hl 3 rfl) ?_
        have hFc := gA_free hG hA hS
        refine va_calli (va_runV (As := [.int p2]) (rest := []) ⟨hx, hb, hml, hown, hts⟩ (c_levelOf l dC dI kA adK adV G s.heap nC nS o0 p2 hT hr_o0 (by have q8 := ti_all p2; omega) (by omega) (by omega)) (cwV 1 hts (goodIn_app (goodIn_r _ [5, 6, 7, 8] rfl (by decide +kernel)) (goodIn_ca (goodIn_r _ [2, 3, 4] rfl (by decide +kernel)) (bs2_in _ _))) rfl rfl rfl (by decide +kernel) ⟨(Nat.le_of_ble_eq_true rfl), (Nat.le_of_ble_eq_true rfl)⟩) ⟨fun a U g mk q => by obtain ⟨q0, q1, qK, qE⟩ := q; exact ⟨q0, q1, va_K.moved (u := U) (U := U.calling g mk a) (Vm.Alike.refl U.vm) qK, EVC.blind g mk a qE⟩, gH_rc hK hT hr_o0 shc_5 rfl, fun U hU hW => ⟨rfl, hU, va_K.moved hW.alike hK, hE.call hS hFc hU hW⟩⟩ rfl rfl hl.1 rfl (lv_room (Nat.le_of_ble_eq_true rfl)) dX2_lowerDitch_23 ⟨(Nat.le_of_ble_eq_true rfl), (Nat.le_of_ble_eq_true rfl)⟩) hS (fun q _ h => hFc q h) hFc (fun r16 u t H locs ht hvm hw17 hB _ _ hS => ?_)
        obtain ⟨hT, hF1⟩ := hB
        rw [ht] at hT hF1
        have hF := hF.more hF1 (by decide)
        try dsimp only at hw17
        refine lv_aload_n hx hb dX2_lowerDitch_26 rfl (lv_at hl 0 rfl) ?_
        refine lv_iload_n hx hb dX2_lowerDitch_27 rfl (lv_at hl 2 rfl) ?_
        have hFc := gA_free hG hA hS
        refine va_calli (va_runV (As := [.int p1]) (rest := [.int r16]) ⟨hx, hb, hml, hown, hts⟩ (c_levelOf l dC dI kA adK adV G H nC nS o0 p1 hT hr_o0 (by have q8 := ti_all p1; omega) (by omega) (by omega)) (cwV 1 hts (goodIn_app (goodIn_r _ [5, 6, 7, 8] rfl (by decide +kernel)) (goodIn_ca (goodIn_r _ [2, 3, 4] rfl (by decide +kernel)) (bs2_in _ _))) rfl rfl rfl (by decide +kernel) ⟨(Nat.le_of_ble_eq_true rfl), (Nat.le_of_ble_eq_true rfl)⟩) ⟨fun a U g mk q => by obtain ⟨q0, q1, qK, qE⟩ := q; exact ⟨q0, q1, va_K.moved (u := U) (U := U.calling g mk a) (Vm.Alike.refl U.vm) qK, EVC.blind g mk a qE⟩, gH_rc hK hT hr_o0 shc_5 rfl, fun U hU hW => ⟨rfl, hU, va_K.moved hW.alike hK, hE.call hS hFc hU hW⟩⟩ rfl rfl hl.1 rfl (lv_room (Nat.le_of_ble_eq_true rfl)) dX2_lowerDitch_28 ⟨(Nat.le_of_ble_eq_true rfl), (Nat.le_of_ble_eq_true rfl)⟩) hS (fun q _ h => hFc q h) hFc (fun r20 u t H locs ht hvm hw21 hB _ _ hS => ?_)
        obtain ⟨hT, hF1⟩ := hB
        rw [ht] at hT hF1
        have hF := hF.more hF1 (by decide)
        try dsimp only at hw21
        have t24 : -2147483648 ≤ r16.toInt ∧ r16.toInt ≤ 2147483647 := ti_all r16
        have t25 : -2147483648 ≤ r20.toInt ∧ r20.toInt ≤ 2147483647 := ti_all r20
        refine lv_icmp_ge (tgt := 38) hx hb dX2_lowerDitch_31 (by decide) (fun c26 => ?_) (fun c26 => ?_)
        · have t27 : r20.toInt ≤ r16.toInt := ti_le c26 rfl rfl
          refine lv_iload_n hx hb dX2_lowerDitch_38 rfl (lv_at hl 2 rfl) ?_
          exact W.iret (v := p1) hx hb hr (fun t ht hW => ⟨⟨p1, (), rfl, (by exact (by have q8 := ti_all p1; omega)), by (try dsimp only); rw [ht]; exact ⟨hT, hF⟩⟩, hS.F ht⟩) hS.2.2 dX2_lowerDitch_39
        · have t28 : r16.toInt < r20.toInt := ti_nle c26 rfl rfl
          refine lv_iload_n hx hb dX2_lowerDitch_34 rfl (lv_at hl 3 rfl) ?_
          refine lv_goto (tgt := 39) hx hb dX2_lowerDitch_35 (by decide) ?_
          exact W.iret (v := p2) hx hb hr (fun t ht hW => ⟨⟨p2, (), rfl, (by exact (by have q8 := ti_all p2; omega)), by (try dsimp only); rw [ht]; exact ⟨hT, hF⟩⟩, hS.F ht⟩) hS.2.2 dX2_lowerDitch_39
      · have t29 : x12.toInt = 0 := ti_eq c14 rfl (by decide)
        refine lv_iload_n hx hb dX2_lowerDitch_19 rfl (lv_at hl 2 rfl) ?_
        exact W.iret (v := p1) hx hb hr (fun t ht hW => ⟨⟨p1, (), rfl, (by exact (by have q8 := ti_all p1; omega)), by (try dsimp only); rw [ht]; exact ⟨hT, hF⟩⟩, hS.F ht⟩) hS.2.2 dX2_lowerDitch_20
def w_c_lowestDitchBeside : List Cond := .code yX2_lowestDitchBeside cX2_lowestDitchBeside 4 (some .int) :: (HAppend.hAppend (α := List Cond) (β := List Cond) (γ := List Cond) [.code yX2_lowerDitch cX2_lowerDitch 4 (some .int), .fieldLink RX2 22 "SeaLand$Ground" "ditch" "[I", .code yX2_levelOf cX2_levelOf 2 (some .int), .fieldLink RX2 15 "SeaLand$Ground" "height" "[I", .fieldLink RX2 25 "SeaLand$Ground" "water" "[I", .methodLink RX2 79 yX2_levelOf, .instanceMethod yX2_levelOf, .selects RX2 yX2_levelOf yX2_levelOf, .initialized RX2, .methodLink RX2 87 yX2_lowerDitch, .instanceMethod yX2_lowerDitch, .selects RX2 yX2_lowerDitch yX2_lowerDitch] bs2)
set_option maxHeartbeats 4000000 in
set_option maxRecDepth 100000 in
theorem c_lowestDitchBeside (l : Launch) (dC : Nat → ClassId) (dI : Nat → Nat → Nat) (kA : Nat → ClassId) (adK adV : Nat → Nat) (G : gT) (H0 : Heap) (nC nS : Int) (o0 : Nat) (p0 : Int32)  (hT : gH (dC, dI) kA (SHc nC nS) G H0) (hr_o0 : G o0 = some 5) (hq0 : 0 ≤ p0.toInt ∧ p0.toInt ≤ 95) (hgC : 0 ≤ nC ∧ nC ≤ 40) (hgS : 0 ≤ nS ∧ nS ≤ 60) : Met l yX2_lowestDitchBeside w_c_lowestDitchBeside ({ frames := 2, cells := 0, slots := 0, locals := 44 }) (va_Pc [.ref o0, .int p0] (fun U => U.heap = H0 ∧ va_K (dC, dI) vwCl (tyl kA) U ∧ EVC adK adV (gA G H0.size) U U.heap)) (va_Qi (fun (r : Int32) (u : Unit) => (-1 ≤ r.toInt ∧ r.toInt ≤ 95)) (fun (_ : Unit) (t : State) => gH (dC, dI) kA (SHc nC nS) G t.heap ∧ gF (dC, dI) SKc G ([] : List (Nat × Nat)) H0 t.heap) (gA G H0.size)) 0 0 (gA G H0.size) := by
  refine Met.ofW (cc := cX2_lowestDitchBeside) (maxL := 4) (ret := (some .int)) (by decide) rfl ?_
  intro p e s m args below meth c s₁ B hml hv
  obtain ⟨rfl, hH0, hK, hE⟩ := hv
  have hx := B.exec
  have hb := B.bytes
  have hr := B.returns
  have hts := atoms_spec (ws := w_c_lowestDitchBeside) B.pre
  have hown : s.vm.findClass RX2 = some m.cls := findClass_of_methodNamed B.named
  have hlocks := B.notSynchronized
  subst hH0
  generalize hAe : gA G s.heap.size = A at hE ⊢
  have hA : ∀ q : Nat, s.heap.size ≤ q → A q := fun q h => by rw [← hAe]; exact Or.inr h
  have hG := gA_of hAe
  have hS : va_S A s.heap s.heap [] := va_S.rf
  have hF : gF (dC, dI) SKc G ([] : List (Nat × Nat)) s.heap s.heap := gF.rf
  have hl := lv_entry ([.ref o0, .int p0]) (n := 4) (Nat.le_of_ble_eq_true rfl)
  rw [lg_entry_eq]
  generalize (lg_sl ([.ref o0, .int p0]) ++ List.replicate (4 - (lg_sl ([.ref o0, .int p0])).length) Slot.unset).toArray = ls at hl ⊢
  have hl : lv_has ls 4 [(0, .ref o0), (1, .int p0)] := hl
  refine lv_iload_n hx hb dX2_lowestDitchBeside_0 rfl (lv_at hl 1 rfl) ?_
  refine lv_bipush (v := 12) hx hb dX2_lowestDitchBeside_1 (by decide) ?_
  refine lv_irem hx hb dX2_lowestDitchBeside_3 (by decide) ?_
  refine lv_topi (fun x1 ex1 => ?_)
  have t2 : x1.toInt = p0.toInt % 12 := ti_rem ex1 rfl (by decide) (by omega) (by omega)
  refine lv_istore_n (lv' := [(2, .int x1), (0, .ref o0), (1, .int p0)]) hx hb dX2_lowestDitchBeside_4 rfl hl (by decide) rfl (fun ls hl => ?_)
  refine lv_aload_n hx hb dX2_lowestDitchBeside_5 rfl (lv_at hl 1 rfl) ?_
  refine lv_iload_n hx hb dX2_lowestDitchBeside_6 rfl (lv_at hl 2 rfl) ?_
  refine lv_iload_n hx hb dX2_lowestDitchBeside_7 rfl (lv_at hl 2 rfl) ?_
  refine lv_iload_n hx hb dX2_lowestDitchBeside_8 rfl (lv_at hl 2 rfl) ?_
  refine lv_bipush (v := 12) hx hb dX2_lowestDitchBeside_9 (by decide) ?_
  refine lv_isub hx hb dX2_lowestDitchBeside_11 ?_
  refine lv_topi (fun x3 ex3 => ?_)
  have t4 : x3.toInt = p0.toInt - 12 := ti_sub ex3 rfl (by decide) (by omega) (by omega)
  have hFc := gA_free hG hA hS
  refine va_calli (va_runV (As := [.int p0, .int p0, .int x3]) (rest := []) ⟨hx, hb, hml, hown, hts⟩ (c_lowerDitch l dC dI kA adK adV G s.heap nC nS o0 p0 p0 x3 hT hr_o0 (by have q8 := ti_all p0; omega) (by have q8 := ti_all p0; omega) (by omega) (by omega)) (cwV 3 hts (goodIn_app (goodIn_r _ [10, 11, 12, 9] rfl (by decide +kernel)) (goodIn_ca (goodIn_r _ [1, 2, 3, 4, 5, 6, 7, 8, 9] rfl (by decide +kernel)) (bs2_in _ _))) rfl rfl rfl (by decide +kernel) ⟨(Nat.le_of_ble_eq_true rfl), (Nat.le_of_ble_eq_true rfl)⟩) ⟨fun a U g mk q => by obtain ⟨q0, q1, qK, qE⟩ := q; exact ⟨q0, q1, va_K.moved (u := U) (U := U.calling g mk a) (Vm.Alike.refl U.vm) qK, EVC.blind g mk a qE⟩, gH_rc hK hT hr_o0 shc_5 rfl, fun U hU hW => ⟨rfl, hU, va_K.moved hW.alike hK, hE.call hS hFc hU hW⟩⟩ rfl rfl hl.1 rfl (lv_room (Nat.le_of_ble_eq_true rfl)) dX2_lowestDitchBeside_12 ⟨(Nat.le_of_ble_eq_true rfl), (Nat.le_of_ble_eq_true rfl)⟩) hS (fun q _ h => hFc q h) hFc (fun r5 u t H locs ht hvm hw6 hB _ _ hS => ?_)
  obtain ⟨hT, hF1⟩ := hB
  rw [ht] at hT hF1
  have hF := hF.more hF1 (by decide)
  try dsimp only at hw6
  have h7 := hw6
  refine lv_istore_n (lv' := [(3, .int r5), (2, .int x1), (0, .ref o0), (1, .int p0)]) hx hb dX2_lowestDitchBeside_15 rfl hl (by decide) rfl (fun ls hl => ?_)
  refine lv_iload_n hx hb dX2_lowestDitchBeside_16 rfl (lv_at hl 1 rfl) ?_
  have jn15 : ∀ (z13 : Int32), ((0 ≤ z13.toInt ∧ z13.toInt ≤ 95)) → ∀ (H : Heap) (locs : List Loc), gH (dC, dI) kA (SHc nC nS) G H → gF (dC, dI) SKc G ([] : List (Nat × Nat)) s.heap H → va_S A s.heap H locs → ∀ ls : Array Slot, lv_has ls 4 [(3, .int r5), (2, .int x1), (0, .ref o0), (1, .int p0)] → W p l e (headSpec w_c_lowestDitchBeside ({ frames := 2, cells := 0, slots := 0, locals := 44 })).room s m #[.ref o0, .int p0] below meth c H locs 0 0 (MQ below (va_Qi (fun (r : Int32) (u : Unit) => (-1 ≤ r.toInt ∧ r.toInt ≤ 95)) (fun (_ : Unit) (t : State) => gH (dC, dI) kA (SHc nC nS) G t.heap ∧ gF (dC, dI) SKc G ([] : List (Nat × Nat)) s.heap t.heap) A) #[.ref o0, .int p0] s 0 0 A) (F0 m 33 ls [.int z13]) := by
    intro z13 h14 H locs hT hF hS  ls hl
    refine lv_istore_n (lv' := [(3, .int z13), (2, .int x1), (0, .ref o0), (1, .int p0)]) hx hb dX2_lowestDitchBeside_33 rfl hl (by decide) rfl (fun ls hl => ?_)
    refine lv_iload_n hx hb dX2_lowestDitchBeside_34 rfl (lv_at hl 1 rfl) ?_
    refine lv_bipush (v := 11) hx hb dX2_lowestDitchBeside_35 (by decide) ?_
    have jn23 : ∀ (z21 : Int32), ((0 ≤ z21.toInt ∧ z21.toInt ≤ 95)) → ∀ (H : Heap) (locs : List Loc), gH (dC, dI) kA (SHc nC nS) G H → gF (dC, dI) SKc G ([] : List (Nat × Nat)) s.heap H → va_S A s.heap H locs → ∀ ls : Array Slot, lv_has ls 4 [(3, .int z13), (2, .int x1), (0, .ref o0), (1, .int p0)] → W p l e (headSpec w_c_lowestDitchBeside ({ frames := 2, cells := 0, slots := 0, locals := 44 })).room s m #[.ref o0, .int p0] below meth c H locs 0 0 (MQ below (va_Qi (fun (r : Int32) (u : Unit) => (-1 ≤ r.toInt ∧ r.toInt ≤ 95)) (fun (_ : Unit) (t : State) => gH (dC, dI) kA (SHc nC nS) G t.heap ∧ gF (dC, dI) SKc G ([] : List (Nat × Nat)) s.heap t.heap) A) #[.ref o0, .int p0] s 0 0 A) (F0 m 53 ls [.int z21]) := by
      intro z21 h22 H locs hT hF hS  ls hl
      refine lv_istore_n (lv' := [(3, .int z21), (2, .int x1), (0, .ref o0), (1, .int p0)]) hx hb dX2_lowestDitchBeside_53 rfl hl (by decide) rfl (fun ls hl => ?_)
      refine lv_aload_n hx hb dX2_lowestDitchBeside_54 rfl (lv_at hl 2 rfl) ?_
      refine lv_iload_n hx hb dX2_lowestDitchBeside_55 rfl (lv_at hl 3 rfl) ?_
      refine lv_iload_n hx hb dX2_lowestDitchBeside_56 rfl (lv_at hl 0 rfl) ?_
      refine lv_iload_n hx hb dX2_lowestDitchBeside_57 rfl (lv_at hl 3 rfl) ?_
      refine lv_bipush (v := 12) hx hb dX2_lowestDitchBeside_58 (by decide) ?_
      refine lv_iadd hx hb dX2_lowestDitchBeside_60 ?_
      refine lv_topi (fun x24 ex24 => ?_)
      have t25 : x24.toInt = p0.toInt + 12 := ti_add ex24 rfl (by decide) (by omega) (by omega)
      have hFc := gA_free hG hA hS
      refine va_calli (va_runV (As := [.int p0, .int z21, .int x24]) (rest := []) ⟨hx, hb, hml, hown, hts⟩ (c_lowerDitch l dC dI kA adK adV G H nC nS o0 p0 z21 x24 hT hr_o0 (by have q8 := ti_all p0; omega) (by have q8 := ti_all z21; omega) (by omega) (by omega)) (cwV 3 hts (goodIn_app (goodIn_r _ [10, 11, 12, 9] rfl (by decide +kernel)) (goodIn_ca (goodIn_r _ [1, 2, 3, 4, 5, 6, 7, 8, 9] rfl (by decide +kernel)) (bs2_in _ _))) rfl rfl rfl (by decide +kernel) ⟨(Nat.le_of_ble_eq_true rfl), (Nat.le_of_ble_eq_true rfl)⟩) ⟨fun a U g mk q => by obtain ⟨q0, q1, qK, qE⟩ := q; exact ⟨q0, q1, va_K.moved (u := U) (U := U.calling g mk a) (Vm.Alike.refl U.vm) qK, EVC.blind g mk a qE⟩, gH_rc hK hT hr_o0 shc_5 rfl, fun U hU hW => ⟨rfl, hU, va_K.moved hW.alike hK, hE.call hS hFc hU hW⟩⟩ rfl rfl hl.1 rfl (lv_room (Nat.le_of_ble_eq_true rfl)) dX2_lowestDitchBeside_61 ⟨(Nat.le_of_ble_eq_true rfl), (Nat.le_of_ble_eq_true rfl)⟩) hS (fun q _ h => hFc q h) hFc (fun r26 u t H locs ht hvm hw27 hB _ _ hS => ?_)
      obtain ⟨hT, hF1⟩ := hB
      rw [ht] at hT hF1
      have hF := hF.more hF1 (by decide)
      try dsimp only at hw27
      have h28 := hw27
      refine lv_istore_n (lv' := [(3, .int r26), (2, .int x1), (0, .ref o0), (1, .int p0)]) hx hb dX2_lowestDitchBeside_64 rfl hl (by decide) rfl (fun ls hl => ?_)
      refine lv_iload_n hx hb dX2_lowestDitchBeside_65 rfl (lv_at hl 0 rfl) ?_
      refine lv_iload_n hx hb dX2_lowestDitchBeside_66 rfl (lv_at hl 3 rfl) ?_
      refine lv_icmp_ne (tgt := 74) hx hb dX2_lowestDitchBeside_67 (by decide) (fun c29 => ?_) (fun c29 => ?_)
      · have t30 : r26.toInt ≠ p0.toInt := ti_ne c29 rfl rfl
        refine lv_iload_n hx hb dX2_lowestDitchBeside_74 rfl (lv_at hl 0 rfl) ?_
        exact W.iret (v := r26) hx hb hr (fun t ht hW => ⟨⟨r26, (), rfl, (by exact (by have q8 := ti_all r26; omega)), by (try dsimp only); rw [ht]; exact ⟨hT, hF⟩⟩, hS.F ht⟩) hS.2.2 dX2_lowestDitchBeside_75
      · have t31 : r26.toInt = p0.toInt := ti_eq c29 rfl rfl
        refine lv_iconst (v := (-1)) hx hb dX2_lowestDitchBeside_70 (by decide) ?_
        refine lv_goto (tgt := 75) hx hb dX2_lowestDitchBeside_71 (by decide) ?_
        exact W.iret (v := (-1)) hx hb hr (fun t ht hW => ⟨⟨(-1), (), rfl, (by exact (rg_t (a := (-1)) (by decide) (by first | decide | omega) (by first | decide | omega))), by (try dsimp only); rw [ht]; exact ⟨hT, hF⟩⟩, hS.F ht⟩) hS.2.2 dX2_lowestDitchBeside_75
    refine lv_icmp_ge (tgt := 52) hx hb dX2_lowestDitchBeside_37 (by decide) (fun c32 => ?_) (fun c32 => ?_)
    · have t33 : 11 ≤ x1.toInt := ti_le c32 (by decide) rfl
      refine lv_iload_n hx hb dX2_lowestDitchBeside_52 rfl (lv_at hl 0 rfl) ?_
      exact jn23 z13 (by have q8 := ti_all z13; omega) _ _ hT hF hS ls (lv_sub hl [0, 1, 2, 3] rfl)
    · have t34 : x1.toInt < 11 := ti_nle c32 (by decide) rfl
      refine lv_aload_n hx hb dX2_lowestDitchBeside_40 rfl (lv_at hl 2 rfl) ?_
      refine lv_iload_n hx hb dX2_lowestDitchBeside_41 rfl (lv_at hl 3 rfl) ?_
      refine lv_iload_n hx hb dX2_lowestDitchBeside_42 rfl (lv_at hl 0 rfl) ?_
      refine lv_iload_n hx hb dX2_lowestDitchBeside_43 rfl (lv_at hl 3 rfl) ?_
      refine lv_iconst (v := 1) hx hb dX2_lowestDitchBeside_44 (by decide) ?_
      refine lv_iadd hx hb dX2_lowestDitchBeside_45 ?_
      refine lv_topi (fun x35 ex35 => ?_)
      have t36 : x35.toInt = p0.toInt + 1 := ti_add ex35 rfl (by decide) (by omega) (by omega)
      have hFc := gA_free hG hA hS
      refine va_calli (va_runV (As := [.int p0, .int z13, .int x35]) (rest := []) ⟨hx, hb, hml, hown, hts⟩ (c_lowerDitch l dC dI kA adK adV G H nC nS o0 p0 z13 x35 hT hr_o0 (by have q8 := ti_all p0; omega) (by have q8 := ti_all z13; omega) (by omega) (by omega)) (cwV 3 hts (goodIn_app (goodIn_r _ [10, 11, 12, 9] rfl (by decide +kernel)) (goodIn_ca (goodIn_r _ [1, 2, 3, 4, 5, 6, 7, 8, 9] rfl (by decide +kernel)) (bs2_in _ _))) rfl rfl rfl (by decide +kernel) ⟨(Nat.le_of_ble_eq_true rfl), (Nat.le_of_ble_eq_true rfl)⟩) ⟨fun a U g mk q => by obtain ⟨q0, q1, qK, qE⟩ := q; exact ⟨q0, q1, va_K.moved (u := U) (U := U.calling g mk a) (Vm.Alike.refl U.vm) qK, EVC.blind g mk a qE⟩, gH_rc hK hT hr_o0 shc_5 rfl, fun U hU hW => ⟨rfl, hU, va_K.moved hW.alike hK, hE.call hS hFc hU hW⟩⟩ rfl rfl hl.1 rfl (lv_room (Nat.le_of_ble_eq_true rfl)) dX2_lowestDitchBeside_46 ⟨(Nat.le_of_ble_eq_true rfl), (Nat.le_of_ble_eq_true rfl)⟩) hS (fun q _ h => hFc q h) hFc (fun r37 u t H locs ht hvm hw38 hB _ _ hS => ?_)
      obtain ⟨hT, hF1⟩ := hB
      rw [ht] at hT hF1
      have hF := hF.more hF1 (by decide)
      try dsimp only at hw38
      have h39 := hw38
      refine lv_goto (tgt := 53) hx hb dX2_lowestDitchBeside_49 (by decide) ?_
      exact jn23 r37 (by have q8 := ti_all r37; omega) _ _ hT hF hS ls (lv_sub hl [0, 1, 2, 3] rfl)
  refine lv_if_le (tgt := 32) hx hb dX2_lowestDitchBeside_17 (by decide) (fun c40 => ?_) (fun c40 => ?_)
  · have t41 : x1.toInt ≤ 0 := ti_le c40 rfl (by decide)
    refine lv_iload_n hx hb dX2_lowestDitchBeside_32 rfl (lv_at hl 0 rfl) ?_
    exact jn15 r5 (by have q8 := ti_all r5; omega) _ _ hT hF hS ls (lv_sub hl [0, 1, 2, 3] rfl)
  · have t42 : 0 < x1.toInt := ti_nle c40 rfl (by decide)
    refine lv_aload_n hx hb dX2_lowestDitchBeside_20 rfl (lv_at hl 2 rfl) ?_
    refine lv_iload_n hx hb dX2_lowestDitchBeside_21 rfl (lv_at hl 3 rfl) ?_
    refine lv_iload_n hx hb dX2_lowestDitchBeside_22 rfl (lv_at hl 0 rfl) ?_
    refine lv_iload_n hx hb dX2_lowestDitchBeside_23 rfl (lv_at hl 3 rfl) ?_
    refine lv_iconst (v := 1) hx hb dX2_lowestDitchBeside_24 (by decide) ?_
    refine lv_isub hx hb dX2_lowestDitchBeside_25 ?_
    refine lv_topi (fun x43 ex43 => ?_)
    have t44 : x43.toInt = p0.toInt - 1 := ti_sub ex43 rfl (by decide) (by omega) (by omega)
    have hFc := gA_free hG hA hS
    refine va_calli (va_runV (As := [.int p0, .int r5, .int x43]) (rest := []) ⟨hx, hb, hml, hown, hts⟩ (c_lowerDitch l dC dI kA adK adV G H nC nS o0 p0 r5 x43 hT hr_o0 (by have q8 := ti_all p0; omega) (by have q8 := ti_all r5; omega) (by omega) (by omega)) (cwV 3 hts (goodIn_app (goodIn_r _ [10, 11, 12, 9] rfl (by decide +kernel)) (goodIn_ca (goodIn_r _ [1, 2, 3, 4, 5, 6, 7, 8, 9] rfl (by decide +kernel)) (bs2_in _ _))) rfl rfl rfl (by decide +kernel) ⟨(Nat.le_of_ble_eq_true rfl), (Nat.le_of_ble_eq_true rfl)⟩) ⟨fun a U g mk q => by obtain ⟨q0, q1, qK, qE⟩ := q; exact ⟨q0, q1, va_K.moved (u := U) (U := U.calling g mk a) (Vm.Alike.refl U.vm) qK, EVC.blind g mk a qE⟩, gH_rc hK hT hr_o0 shc_5 rfl, fun U hU hW => ⟨rfl, hU, va_K.moved hW.alike hK, hE.call hS hFc hU hW⟩⟩ rfl rfl hl.1 rfl (lv_room (Nat.le_of_ble_eq_true rfl)) dX2_lowestDitchBeside_26 ⟨(Nat.le_of_ble_eq_true rfl), (Nat.le_of_ble_eq_true rfl)⟩) hS (fun q _ h => hFc q h) hFc (fun r45 u t H locs ht hvm hw46 hB _ _ hS => ?_)
    obtain ⟨hT, hF1⟩ := hB
    rw [ht] at hT hF1
    have hF := hF.more hF1 (by decide)
    try dsimp only at hw46
    have h47 := hw46
    refine lv_goto (tgt := 33) hx hb dX2_lowestDitchBeside_29 (by decide) ?_
    exact jn15 r45 (by have q8 := ti_all r45; omega) _ _ hT hF hS ls (lv_sub hl [0, 1, 2, 3] rfl)
def w_c_reckonDitch : List Cond := .code yX2_reckonDitch cX2_reckonDitch 5 none :: (HAppend.hAppend (α := List Cond) (β := List Cond) (γ := List Cond) [.fieldLink RX2 22 "SeaLand$Ground" "ditch" "[I", .code yX2_lowestDitchBeside cX2_lowestDitchBeside 4 (some .int), .code yX2_lowerDitch cX2_lowerDitch 4 (some .int), .code yX2_levelOf cX2_levelOf 2 (some .int), .fieldLink RX2 15 "SeaLand$Ground" "height" "[I", .fieldLink RX2 25 "SeaLand$Ground" "water" "[I", .methodLink RX2 79 yX2_levelOf, .instanceMethod yX2_levelOf, .selects RX2 yX2_levelOf yX2_levelOf, .initialized RX2, .methodLink RX2 87 yX2_lowerDitch, .instanceMethod yX2_lowerDitch, .selects RX2 yX2_lowerDitch yX2_lowerDitch, .methodLink RX2 75 yX2_lowestDitchBeside, .instanceMethod yX2_lowestDitchBeside, .selects RX2 yX2_lowestDitchBeside yX2_lowestDitchBeside, .fieldLink RX2 37 "SeaLand$Ground" "ditchTo" "[I", .methodLink RX2 82 Lib.Math.min.name, .static Lib.Math.min.name, .initialized "java/lang/Math", .code Lib.Math.min.name Lib.Math.min.code 2 (some .int), .fieldLink RX2 40 "SeaLand$Ground" "ditchWater" "[I", .fieldLink RX2 43 "SeaLand$Ground" "ditchSalt" "[I", .code yX2_saltGoingWith cX2_saltGoingWith 4 (some .int), .fieldLink RX2 28 "SeaLand$Ground" "salt" "[I", .methodLink RX2 60 yX2_saltGoingWith, .instanceMethod yX2_saltGoingWith, .selects RX2 yX2_saltGoingWith yX2_saltGoingWith] bs2)
set_option maxHeartbeats 4000000 in
set_option maxRecDepth 100000 in
theorem c_reckonDitch (l : Launch) (dC : Nat → ClassId) (dI : Nat → Nat → Nat) (kA : Nat → ClassId) (adK adV : Nat → Nat) (G : gT) (H0 : Heap) (nC nS : Int) (o0 : Nat) (p0 : Int32)  (hT : gH (dC, dI) kA (SHc nC nS) G H0) (hr_o0 : G o0 = some 5) (hq0 : 0 ≤ p0.toInt ∧ p0.toInt ≤ 95) (hgC : 0 ≤ nC ∧ nC ≤ 40) (hgS : 0 ≤ nS ∧ nS ≤ 60) : Met l yX2_reckonDitch w_c_reckonDitch ({ frames := 3, cells := 0, slots := 0, locals := 67 }) (va_Pc [.ref o0, .int p0] (fun U => U.heap = H0 ∧ va_K (dC, dI) vwCl (tyl kA) U ∧ EVC adK adV (gA G H0.size) U U.heap)) (va_Qv (fun (u : Unit) => True) (fun (_ : Unit) (t : State) => gH (dC, dI) kA (SHc nC nS) G t.heap ∧ gF (dC, dI) SKc G ([(33, 0), (34, 0), (35, 0)] : List (Nat × Nat)) H0 t.heap) (gA G H0.size)) 0 0 (gA G H0.size) := by
  refine Met.ofW (cc := cX2_reckonDitch) (maxL := 5) (ret := none) (by decide) rfl ?_
  intro p e s m args below meth c s₁ B hml hv
  obtain ⟨rfl, hH0, hK, hE⟩ := hv
  have hx := B.exec
  have hb := B.bytes
  have hr := B.returns
  have hts := atoms_spec (ws := w_c_reckonDitch) B.pre
  have hown : s.vm.findClass RX2 = some m.cls := findClass_of_methodNamed B.named
  have hlocks := B.notSynchronized
  subst hH0
  generalize hAe : gA G s.heap.size = A at hE ⊢
  have hA : ∀ q : Nat, s.heap.size ≤ q → A q := fun q h => by rw [← hAe]; exact Or.inr h
  have hG := gA_of hAe
  have hS : va_S A s.heap s.heap [] := va_S.rf
  have hF : gF (dC, dI) SKc G ([(33, 0), (34, 0), (35, 0)] : List (Nat × Nat)) s.heap s.heap := gF.rf
  have hl := lv_entry ([.ref o0, .int p0]) (n := 5) (Nat.le_of_ble_eq_true rfl)
  rw [lg_entry_eq]
  generalize (lg_sl ([.ref o0, .int p0]) ++ List.replicate (5 - (lg_sl ([.ref o0, .int p0])).length) Slot.unset).toArray = ls at hl ⊢
  have hl : lv_has ls 5 [(0, .ref o0), (1, .int p0)] := hl
  refine lv_aload_n hx hb dX2_reckonDitch_0 rfl (lv_at hl 0 rfl) ?_
  refine tw_get hx hb hts bF2_X2 hown hK hT hr_o0 shc_5 rfl 3 (by decide) (ht_at2 hts 0 rfl) (fun _ h9 => h9) dX2_reckonDitch_1 (fun v9 m1 h9 => ?_)
  obtain ⟨b2, rfl, hg3⟩ := h9 _ rfl
  refine lv_iload_n hx hb dX2_reckonDitch_4 rfl (lv_at hl 1 rfl) ?_
  refine tw_iald (i := p0) hx hb hK hT hg3 shc_28 rfl (vin_t (a := p0.toInt) rfl (by omega) (by omega)) dX2_reckonDitch_5 (fun v9 m4 h9 => ?_)
  obtain ⟨x5, rfl, gx5, kx5⟩ := h9
  have jn15 : ∀ (z11 : Int32), ((-1 ≤ z11.toInt ∧ z11.toInt ≤ 95)) → ∀ (H : Heap) (locs : List Loc), gH (dC, dI) kA (SHc nC nS) G H → gF (dC, dI) SKc G ([(33, 0), (34, 0), (35, 0)] : List (Nat × Nat)) s.heap H → va_S A s.heap H locs → el H o0 (dI 5 3) = some (.ref b2) → el H b2 p0.toNatClampNeg = some (.int x5) → ∀ ls : Array Slot, lv_has ls 5 [(0, .ref o0), (1, .int p0)] → W p l e (headSpec w_c_reckonDitch ({ frames := 3, cells := 0, slots := 0, locals := 67 })).room s m #[.ref o0, .int p0] below meth c H locs 0 0 (MQ below (va_Qv (fun (u : Unit) => True) (fun (_ : Unit) (t : State) => gH (dC, dI) kA (SHc nC nS) G t.heap ∧ gF (dC, dI) SKc G ([(33, 0), (34, 0), (35, 0)] : List (Nat × Nat)) s.heap t.heap) A) #[.ref o0, .int p0] s 0 0 A) (F0 m 18 ls [.int z11]) := by
    intro z11 h12 H locs hT hF hS m13 m14 ls hl
    refine lv_istore_n (lv' := [(2, .int z11), (0, .ref o0), (1, .int p0)]) hx hb dX2_reckonDitch_18 rfl hl (by decide) rfl (fun ls hl => ?_)
    refine lv_aload_n hx hb dX2_reckonDitch_19 rfl (lv_at hl 1 rfl) ?_
    refine tw_get hx hb hts bF2_X2 hown hK hT hr_o0 shc_5 rfl 8 (by decide) (ht_at2 hts 16 rfl) (fun _ h9 => h9) dX2_reckonDitch_20 (fun v9 m16 h9 => ?_)
    obtain ⟨b17, rfl, hg18⟩ := h9 _ rfl
    refine lv_iload_n hx hb dX2_reckonDitch_23 rfl (lv_at hl 2 rfl) ?_
    refine lv_iload_n hx hb dX2_reckonDitch_24 rfl (lv_at hl 0 rfl) ?_
    refine tw_iast (i := p0) (x := z11) hx hb hK hT hG hS hg18 shc_33 rfl (vin_t (a := p0.toInt) rfl (by omega) (by omega)) (gi_of (show z11.toInt = z11.toInt from rfl) (by omega) (by omega)) dX2_reckonDitch_25 (fun H locs hT oq m19 oi hS => ?_)
    have hF := hF.ast hg18 skc_33 oq (by decide)
    have m20 := (el_kept (oq _ (gne hr_o0 hg18 (by decide)))).trans m13
    have m21 := (el_kept (oq _ (gne hg3 hg18 (by decide)))).trans m14
    refine lv_iload_n hx hb dX2_reckonDitch_26 rfl (lv_at hl 0 rfl) ?_
    refine lv_iconst (v := (-1)) hx hb dX2_reckonDitch_27 (by decide) ?_
    refine lv_icmp_eq (tgt := 100) hx hb dX2_reckonDitch_28 (by decide) (fun c23 => ?_) (fun c23 => ?_)
    · have t24 : z11.toInt = (-1) := ti_eq c23 rfl (by decide)
      exact W.vret hx hb hr (fun t ht hW => ⟨⟨(), rfl, (by exact trivial), by (try dsimp only); rw [ht]; exact ⟨hT, hF⟩⟩, hS.F ht⟩) hS.2.2 dX2_reckonDitch_100
    · have t25 : z11.toInt ≠ (-1) := ti_ne c23 rfl (by decide)
      refine lv_aload_n hx hb dX2_reckonDitch_31 rfl (lv_at hl 1 rfl) ?_
      refine lv_iload_n hx hb dX2_reckonDitch_32 rfl (lv_at hl 2 rfl) ?_
      have hFc := gA_free hG hA hS
      refine va_calli (va_runV (As := [.int p0]) (rest := []) ⟨hx, hb, hml, hown, hts⟩ (c_levelOf l dC dI kA adK adV G H nC nS o0 p0 hT hr_o0 (by have q8 := ti_all p0; omega) (by omega) (by omega)) (cwV 1 hts (goodIn_app (goodIn_r _ [7, 8, 9, 10] rfl (by decide +kernel)) (goodIn_ca (goodIn_r _ [4, 5, 6] rfl (by decide +kernel)) (bs2_in _ _))) rfl rfl rfl (by decide +kernel) ⟨(Nat.le_of_ble_eq_true rfl), (Nat.le_of_ble_eq_true rfl)⟩) ⟨fun a U g mk q => by obtain ⟨q0, q1, qK, qE⟩ := q; exact ⟨q0, q1, va_K.moved (u := U) (U := U.calling g mk a) (Vm.Alike.refl U.vm) qK, EVC.blind g mk a qE⟩, gH_rc hK hT hr_o0 shc_5 rfl, fun U hU hW => ⟨rfl, hU, va_K.moved hW.alike hK, hE.call hS hFc hU hW⟩⟩ rfl rfl hl.1 rfl (lv_room (Nat.le_of_ble_eq_true rfl)) dX2_reckonDitch_33 ⟨(Nat.le_of_ble_eq_true rfl), (Nat.le_of_ble_eq_true rfl)⟩) hS (fun q _ h => hFc q h) hFc (fun r26 u t H locs ht hvm hw27 hB _ _ hS => ?_)
      obtain ⟨hT, hF1⟩ := hB
      rw [ht] at hT hF1
      have m28 := (hF1.fld hr_o0 skc_5 (k := 3) (by decide) (by decide)).trans m20
      have m29 := (el_kept (hF1.arr hg3 skc_28 (by decide))).trans m21
      have hF := hF.more hF1 (by decide)
      try dsimp only at hw27
      refine lv_aload_n hx hb dX2_reckonDitch_36 rfl (lv_at hl 1 rfl) ?_
      refine lv_iload_n hx hb dX2_reckonDitch_37 rfl (lv_at hl 0 rfl) ?_
      have hFc := gA_free hG hA hS
      refine va_calli (va_runV (As := [.int z11]) (rest := [.int r26]) ⟨hx, hb, hml, hown, hts⟩ (c_levelOf l dC dI kA adK adV G H nC nS o0 z11 hT hr_o0 (by have q8 := ti_all z11; omega) (by omega) (by omega)) (cwV 1 hts (goodIn_app (goodIn_r _ [7, 8, 9, 10] rfl (by decide +kernel)) (goodIn_ca (goodIn_r _ [4, 5, 6] rfl (by decide +kernel)) (bs2_in _ _))) rfl rfl rfl (by decide +kernel) ⟨(Nat.le_of_ble_eq_true rfl), (Nat.le_of_ble_eq_true rfl)⟩) ⟨fun a U g mk q => by obtain ⟨q0, q1, qK, qE⟩ := q; exact ⟨q0, q1, va_K.moved (u := U) (U := U.calling g mk a) (Vm.Alike.refl U.vm) qK, EVC.blind g mk a qE⟩, gH_rc hK hT hr_o0 shc_5 rfl, fun U hU hW => ⟨rfl, hU, va_K.moved hW.alike hK, hE.call hS hFc hU hW⟩⟩ rfl rfl hl.1 rfl (lv_room (Nat.le_of_ble_eq_true rfl)) dX2_reckonDitch_38 ⟨(Nat.le_of_ble_eq_true rfl), (Nat.le_of_ble_eq_true rfl)⟩) hS (fun q _ h => hFc q h) hFc (fun r32 u t H locs ht hvm hw33 hB _ _ hS => ?_)
      obtain ⟨hT, hF1⟩ := hB
      rw [ht] at hT hF1
      have m34 := (hF1.fld hr_o0 skc_5 (k := 3) (by decide) (by decide)).trans m28
      have m35 := (el_kept (hF1.arr hg3 skc_28 (by decide))).trans m29
      have hF := hF.more hF1 (by decide)
      try dsimp only at hw33
      refine lv_isub hx hb dX2_reckonDitch_41 ?_
      refine lv_topi (fun x38 ex38 => ?_)
      refine lv_iconst (v := 2) hx hb dX2_reckonDitch_42 (by decide) ?_
      have t39 : -2147483648 ≤ x38.toInt ∧ x38.toInt ≤ 2147483647 := ti_all x38
      refine lv_idiv hx hb dX2_reckonDitch_43 (by decide) ?_
      refine lv_topi (fun x40 ex40 => ?_)
      have t41 : (0 ≤ x38.toInt ∧ x40.toInt = x38.toInt / 2) ∨ (x38.toInt < 0 ∧ x40.toInt = -((-x38.toInt) / 2)) := ti_divs ex40 rfl (by decide) (by decide)
      refine lv_istore_n (lv' := [(3, .int x40), (2, .int z11), (0, .ref o0), (1, .int p0)]) hx hb dX2_reckonDitch_44 rfl hl (by decide) rfl (fun ls hl => ?_)
      refine lv_aload_n hx hb dX2_reckonDitch_45 rfl (lv_at hl 2 rfl) ?_
      refine tw_getM (v := .ref b2) hx hb hts bF2_X2 hown hK hT hr_o0 shc_5 rfl 3 (by decide) (ht_at2 hts 0 rfl) (fun _ h9 => h9) m34 dX2_reckonDitch_46 ?_
      refine lv_iload_n hx hb dX2_reckonDitch_49 rfl (lv_at hl 3 rfl) ?_
      refine tw_iald (i := p0) hx hb hK hT hg3 shc_28 rfl (vin_t (a := p0.toInt) rfl (by omega) (by omega)) dX2_reckonDitch_50 (fun v9 m42 h9 => ?_)
      obtain ⟨x43, rfl, gx43, kx43⟩ := h9
      obtain rfl : x5 = x43 := (el_same m42 m35 rfl).symm
      refine lv_aload_n hx hb dX2_reckonDitch_51 rfl (lv_at hl 2 rfl) ?_
      refine tw_getM (v := .ref b2) hx hb hts bF2_X2 hown hK hT hr_o0 shc_5 rfl 3 (by decide) (ht_at2 hts 0 rfl) (fun _ h9 => h9) m34 dX2_reckonDitch_52 ?_
      refine lv_iload_n hx hb dX2_reckonDitch_55 rfl (lv_at hl 1 rfl) ?_
      refine tw_iald (i := z11) hx hb hK hT hg3 shc_28 rfl (vin_t (a := z11.toInt) rfl (by omega) (by omega)) dX2_reckonDitch_56 (fun v9 m44 h9 => ?_)
      obtain ⟨x45, rfl, gx45, kx45⟩ := h9
      refine va_mmin hx hb (hml.trans hl.1.symm) hown (ht_at2 hts 17 rfl) (ht_at2 hts 18 rfl) (ht_at2 hts 19 rfl) (ht_at2 hts 20 rfl) (Nat.le_of_ble_eq_true rfl) (Nat.le_of_ble_eq_true rfl) (Nat.le_of_ble_eq_true rfl) (Nat.le_of_ble_eq_true rfl) dX2_reckonDitch_57 ?_
      refine lv_topi (fun x46 ex46 => ?_)
      have t47 : x46.toInt ≤ x5.toInt ∧ x46.toInt ≤ x45.toInt ∧ (x46.toInt = x5.toInt ∨ x46.toInt = x45.toInt) := mn_f ex46 rfl rfl
      refine lv_aload_n hx hb dX2_reckonDitch_60 rfl (lv_at hl 2 rfl) ?_
      refine tw_get hx hb hts bF2_X2 hown hK hT hr_o0 shc_5 rfl 4 (by decide) (ht_at2 hts 5 rfl) (fun _ h9 => h9) dX2_reckonDitch_61 (fun v9 m48 h9 => ?_)
      obtain ⟨b49, rfl, hg50⟩ := h9 _ rfl
      refine lv_iload_n hx hb dX2_reckonDitch_64 rfl (lv_at hl 3 rfl) ?_
      refine tw_iald (i := p0) hx hb hK hT hg50 shc_29 rfl (vin_t (a := p0.toInt) rfl (by omega) (by omega)) dX2_reckonDitch_65 (fun v9 m51 h9 => ?_)
      obtain ⟨x52, rfl, gx52, kx52⟩ := h9
      refine va_mmin hx hb (hml.trans hl.1.symm) hown (ht_at2 hts 17 rfl) (ht_at2 hts 18 rfl) (ht_at2 hts 19 rfl) (ht_at2 hts 20 rfl) (Nat.le_of_ble_eq_true rfl) (Nat.le_of_ble_eq_true rfl) (Nat.le_of_ble_eq_true rfl) (Nat.le_of_ble_eq_true rfl) dX2_reckonDitch_66 ?_
      refine lv_topi (fun x53 ex53 => ?_)
      have t54 : x53.toInt ≤ x46.toInt ∧ x53.toInt ≤ x52.toInt ∧ (x53.toInt = x46.toInt ∨ x53.toInt = x52.toInt) := mn_f ex53 rfl rfl
      refine lv_istore (lv' := [(4, .int x53), (3, .int x40), (2, .int z11), (0, .ref o0), (1, .int p0)]) hx hb dX2_reckonDitch_69 hl (by decide) rfl (fun ls hl => ?_)
      refine lv_aload_n hx hb dX2_reckonDitch_71 rfl (lv_at hl 3 rfl) ?_
      refine tw_get hx hb hts bF2_X2 hown hK hT hr_o0 shc_5 rfl 9 (by decide) (ht_at2 hts 21 rfl) (fun _ h9 => h9) dX2_reckonDitch_72 (fun v9 m55 h9 => ?_)
      obtain ⟨b56, rfl, hg57⟩ := h9 _ rfl
      refine lv_iload_n hx hb dX2_reckonDitch_75 rfl (lv_at hl 4 rfl) ?_
      refine lv_iload_n hx hb dX2_reckonDitch_76 rfl (lv_at hl 1 rfl) ?_
      refine lv_iload hx hb dX2_reckonDitch_77 (lv_at hl 0 rfl) ?_
      refine va_mmin hx hb (hml.trans hl.1.symm) hown (ht_at2 hts 17 rfl) (ht_at2 hts 18 rfl) (ht_at2 hts 19 rfl) (ht_at2 hts 20 rfl) (Nat.le_of_ble_eq_true rfl) (Nat.le_of_ble_eq_true rfl) (Nat.le_of_ble_eq_true rfl) (Nat.le_of_ble_eq_true rfl) dX2_reckonDitch_79 ?_
      refine lv_topi (fun x58 ex58 => ?_)
      have t59 : x58.toInt ≤ x40.toInt ∧ x58.toInt ≤ x53.toInt ∧ (x58.toInt = x40.toInt ∨ x58.toInt = x53.toInt) := mn_f ex58 rfl rfl
      refine tw_iast (i := p0) (x := x58) hx hb hK hT hG hS hg57 shc_34 rfl (vin_t (a := p0.toInt) rfl (by omega) (by omega)) (gi_all _) dX2_reckonDitch_82 (fun H locs hT oq m60 oi hS => ?_)
      have hF := hF.ast hg57 skc_34 oq (by decide)
      have m68 := (el_kept (oq _ (gne hr_o0 hg57 (by decide)))).trans m55
      refine lv_aload_n hx hb dX2_reckonDitch_83 rfl (lv_at hl 3 rfl) ?_
      refine tw_get hx hb hts bF2_X2 hown hK hT hr_o0 shc_5 rfl 10 (by decide) (ht_at2 hts 22 rfl) (fun _ h9 => h9) dX2_reckonDitch_84 (fun v9 m69 h9 => ?_)
      obtain ⟨b70, rfl, hg71⟩ := h9 _ rfl
      refine lv_iload_n hx hb dX2_reckonDitch_87 rfl (lv_at hl 4 rfl) ?_
      refine lv_aload_n hx hb dX2_reckonDitch_88 rfl (lv_at hl 3 rfl) ?_
      refine lv_iload_n hx hb dX2_reckonDitch_89 rfl (lv_at hl 4 rfl) ?_
      refine lv_aload_n hx hb dX2_reckonDitch_90 rfl (lv_at hl 3 rfl) ?_
      refine tw_getM (v := .ref b56) hx hb hts bF2_X2 hown hK hT hr_o0 shc_5 rfl 9 (by decide) (ht_at2 hts 21 rfl) (fun _ h9 => h9) m68 dX2_reckonDitch_91 ?_
      refine lv_iload_n hx hb dX2_reckonDitch_94 rfl (lv_at hl 4 rfl) ?_
      refine tw_iald (i := p0) hx hb hK hT hg57 shc_34 rfl (vin_t (a := p0.toInt) rfl (by omega) (by omega)) dX2_reckonDitch_95 (fun v9 m72 h9 => ?_)
      obtain ⟨x73, rfl, gx73, kx73⟩ := h9
      obtain rfl : x58 = x73 := (el_same m72 m60 rfl).symm
      have hFc := gA_free hG hA hS
      refine va_calli (va_runV (As := [.int p0, .int x58]) (rest := [.int p0, .ref b70]) ⟨hx, hb, hml, hown, hts⟩ (c_saltGoingWith l dC dI kA adK adV G H nC nS o0 p0 x58 hT hr_o0 (by have q8 := ti_all p0; omega) (by omega) (by omega)) (cwV 2 hts (goodIn_app (goodIn_r _ [26, 27, 28, 10] rfl (by decide +kernel)) (goodIn_ca (goodIn_r _ [24, 6, 25] rfl (by decide +kernel)) (bs2_in _ _))) rfl rfl rfl (by decide +kernel) ⟨(Nat.le_of_ble_eq_true rfl), (Nat.le_of_ble_eq_true rfl)⟩) ⟨fun a U g mk q => by obtain ⟨q0, q1, qK, qE⟩ := q; exact ⟨q0, q1, va_K.moved (u := U) (U := U.calling g mk a) (Vm.Alike.refl U.vm) qK, EVC.blind g mk a qE⟩, gH_rc hK hT hr_o0 shc_5 rfl, fun U hU hW => ⟨rfl, hU, va_K.moved hW.alike hK, hE.call hS hFc hU hW⟩⟩ rfl rfl hl.1 rfl (lv_room (Nat.le_of_ble_eq_true rfl)) dX2_reckonDitch_96 ⟨(Nat.le_of_ble_eq_true rfl), (Nat.le_of_ble_eq_true rfl)⟩) hS (fun q _ h => hFc q h) hFc (fun r74 u t H locs ht hvm hw75 hB _ _ hS => ?_)
      obtain ⟨hT, hF1⟩ := hB
      rw [ht] at hT hF1
      have hF := hF.more hF1 (by decide)
      try dsimp only at hw75
      refine tw_iast (i := p0) (x := r74) hx hb hK hT hG hS hg71 shc_35 rfl (vin_t (a := p0.toInt) rfl (by omega) (by omega)) (gi_all _) dX2_reckonDitch_99 (fun H locs hT oq m86 oi hS => ?_)
      have hF := hF.ast hg71 skc_35 oq (by decide)
      exact W.vret hx hb hr (fun t ht hW => ⟨⟨(), rfl, (by exact trivial), by (try dsimp only); rw [ht]; exact ⟨hT, hF⟩⟩, hS.F ht⟩) hS.2.2 dX2_reckonDitch_100
  have t97 : -2147483648 ≤ x5.toInt ∧ x5.toInt ≤ 2147483647 := ti_all x5
  refine lv_if_le (tgt := 17) hx hb dX2_reckonDitch_6 (by decide) (fun c98 => ?_) (fun c98 => ?_)
  · have t99 : x5.toInt ≤ 0 := ti_le c98 rfl (by decide)
    refine lv_iconst (v := (-1)) hx hb dX2_reckonDitch_17 (by decide) ?_
    exact jn15 (-1) (rg_t (a := (-1)) (by decide) (by first | decide | omega) (by first | decide | omega)) _ _ hT hF hS m1 m4 ls (lv_sub hl [0, 1] rfl)
  · have t100 : 0 < x5.toInt := ti_nle c98 rfl (by decide)
    refine lv_aload_n hx hb dX2_reckonDitch_9 rfl (lv_at hl 0 rfl) ?_
    refine lv_iload_n hx hb dX2_reckonDitch_10 rfl (lv_at hl 1 rfl) ?_
    have hFc := gA_free hG hA hS
    refine va_calli (va_runV (As := [.int p0]) (rest := []) ⟨hx, hb, hml, hown, hts⟩ (c_lowestDitchBeside l dC dI kA adK adV G s.heap nC nS o0 p0 hT hr_o0 (by have q8 := ti_all p0; omega) (by omega) (by omega)) (cwV 1 hts (goodIn_app (goodIn_r _ [14, 15, 16, 10] rfl (by decide +kernel)) (goodIn_ca (goodIn_r _ [2, 3, 1, 4, 5, 6, 7, 8, 9, 10, 11, 12, 13] rfl (by decide +kernel)) (bs2_in _ _))) rfl rfl rfl (by decide +kernel) ⟨(Nat.le_of_ble_eq_true rfl), (Nat.le_of_ble_eq_true rfl)⟩) ⟨fun a U g mk q => by obtain ⟨q0, q1, qK, qE⟩ := q; exact ⟨q0, q1, va_K.moved (u := U) (U := U.calling g mk a) (Vm.Alike.refl U.vm) qK, EVC.blind g mk a qE⟩, gH_rc hK hT hr_o0 shc_5 rfl, fun U hU hW => ⟨rfl, hU, va_K.moved hW.alike hK, hE.call hS hFc hU hW⟩⟩ rfl rfl hl.1 rfl (lv_room (Nat.le_of_ble_eq_true rfl)) dX2_reckonDitch_11 ⟨(Nat.le_of_ble_eq_true rfl), (Nat.le_of_ble_eq_true rfl)⟩) hS (fun q _ h => hFc q h) hFc (fun r101 u t H locs ht hvm hw102 hB _ _ hS => ?_)
    obtain ⟨hT, hF1⟩ := hB
    rw [ht] at hT hF1
    have m103 := (hF1.fld hr_o0 skc_5 (k := 3) (by decide) (by decide)).trans m1
    have m104 := (el_kept (hF1.arr hg3 skc_28 (by decide))).trans m4
    have hF := hF.more hF1 (by decide)
    try dsimp only at hw102
    have h105 := hw102
    refine lv_goto (tgt := 18) hx hb dX2_reckonDitch_14 (by decide) ?_
    exact jn15 r101 (by have q8 := ti_all r101; omega) _ _ hT hF hS m103 m104 ls (lv_sub hl [0, 1] rfl)
def w_c_runDitches : List Cond := .code yX2_runDitches cX2_runDitches 3 none :: (HAppend.hAppend (α := List Cond) (β := List Cond) (γ := List Cond) [.fieldLink RX2 37 "SeaLand$Ground" "ditchTo" "[I", .fieldLink RX2 25 "SeaLand$Ground" "water" "[I", .fieldLink RX2 40 "SeaLand$Ground" "ditchWater" "[I", .fieldLink RX2 28 "SeaLand$Ground" "salt" "[I", .fieldLink RX2 43 "SeaLand$Ground" "ditchSalt" "[I", .code yX2_reckonDitch cX2_reckonDitch 5 none, .fieldLink RX2 22 "SeaLand$Ground" "ditch" "[I", .code yX2_lowestDitchBeside cX2_lowestDitchBeside 4 (some .int), .code yX2_lowerDitch cX2_lowerDitch 4 (some .int), .code yX2_levelOf cX2_levelOf 2 (some .int), .fieldLink RX2 15 "SeaLand$Ground" "height" "[I", .methodLink RX2 79 yX2_levelOf, .instanceMethod yX2_levelOf, .selects RX2 yX2_levelOf yX2_levelOf, .initialized RX2, .methodLink RX2 87 yX2_lowerDitch, .instanceMethod yX2_lowerDitch, .selects RX2 yX2_lowerDitch yX2_lowerDitch, .methodLink RX2 75 yX2_lowestDitchBeside, .instanceMethod yX2_lowestDitchBeside, .selects RX2 yX2_lowestDitchBeside yX2_lowestDitchBeside, .methodLink RX2 82 Lib.Math.min.name, .static Lib.Math.min.name, .initialized "java/lang/Math", .code Lib.Math.min.name Lib.Math.min.code 2 (some .int), .code yX2_saltGoingWith cX2_saltGoingWith 4 (some .int), .methodLink RX2 60 yX2_saltGoingWith, .instanceMethod yX2_saltGoingWith, .selects RX2 yX2_saltGoingWith yX2_saltGoingWith, .methodLink RX2 71 yX2_reckonDitch, .instanceMethod yX2_reckonDitch, .selects RX2 yX2_reckonDitch yX2_reckonDitch] bs2)
set_option maxHeartbeats 4000000 in
set_option maxRecDepth 100000 in
theorem c_runDitches (l : Launch) (dC : Nat → ClassId) (dI : Nat → Nat → Nat) (kA : Nat → ClassId) (adK adV : Nat → Nat) (G : gT) (H0 : Heap) (nC nS : Int) (o0 : Nat)  (hT : gH (dC, dI) kA (SHc nC nS) G H0) (hr_o0 : G o0 = some 5) (hgC : 0 ≤ nC ∧ nC ≤ 40) (hgS : 0 ≤ nS ∧ nS ≤ 60) : Met l yX2_runDitches w_c_runDitches ({ frames := 4, cells := 0, slots := 0, locals := 91 }) (va_Pc [.ref o0] (fun U => U.heap = H0 ∧ va_K (dC, dI) vwCl (tyl kA) U ∧ EVC adK adV (gA G H0.size) U U.heap)) (va_Qv (fun (u : Unit) => True) (fun (_ : Unit) (t : State) => gH (dC, dI) kA (SHc nC nS) G t.heap ∧ gF (dC, dI) SKc G ([(29, 0), (30, 0), (33, 0), (34, 0), (35, 0)] : List (Nat × Nat)) H0 t.heap) (gA G H0.size)) 0 0 (gA G H0.size) := by
  refine Met.ofW (cc := cX2_runDitches) (maxL := 3) (ret := none) (by decide) rfl ?_
  intro p e s m args below meth c s₁ B hml hv
  obtain ⟨rfl, hH0, hK, hE⟩ := hv
  have hx := B.exec
  have hb := B.bytes
  have hr := B.returns
  have hts := atoms_spec (ws := w_c_runDitches) B.pre
  have hown : s.vm.findClass RX2 = some m.cls := findClass_of_methodNamed B.named
  have hlocks := B.notSynchronized
  subst hH0
  generalize hAe : gA G s.heap.size = A at hE ⊢
  have hA : ∀ q : Nat, s.heap.size ≤ q → A q := fun q h => by rw [← hAe]; exact Or.inr h
  have hG := gA_of hAe
  have hS : va_S A s.heap s.heap [] := va_S.rf
  have hF : gF (dC, dI) SKc G ([(29, 0), (30, 0), (33, 0), (34, 0), (35, 0)] : List (Nat × Nat)) s.heap s.heap := gF.rf
  have hl := lv_entry ([.ref o0]) (n := 3) (Nat.le_of_ble_eq_true rfl)
  rw [lg_entry_eq]
  generalize (lg_sl ([.ref o0]) ++ List.replicate (3 - (lg_sl ([.ref o0])).length) Slot.unset).toArray = ls at hl ⊢
  have hl : lv_has ls 3 [(0, .ref o0)] := hl
  refine lv_iconst (v := 0) hx hb dX2_runDitches_0 (by decide) ?_
  refine lv_istore_n (lv' := [(1, .int 0), (0, .ref o0)]) hx hb dX2_runDitches_1 rfl hl (by decide) rfl (fun ls hl => ?_)
  have key6 : ∀ (n6 i1 : Nat), i1 + n6 = 96 → 0 ≤ i1 → ∀ (H : Heap) (locs : List Loc), gH (dC, dI) kA (SHc nC nS) G H → gF (dC, dI) SKc G ([(29, 0), (30, 0), (33, 0), (34, 0), (35, 0)] : List (Nat × Nat)) s.heap H → va_S A s.heap H locs → ∀ ls : Array Slot, lv_has ls 3 [(1, .int (nI i1)), (0, .ref o0)] → W p l e (headSpec w_c_runDitches ({ frames := 4, cells := 0, slots := 0, locals := 91 })).room s m #[.ref o0] below meth c H locs 0 0 (MQ below (va_Qv (fun (u : Unit) => True) (fun (_ : Unit) (t : State) => gH (dC, dI) kA (SHc nC nS) G t.heap ∧ gF (dC, dI) SKc G ([(29, 0), (30, 0), (33, 0), (34, 0), (35, 0)] : List (Nat × Nat)) s.heap t.heap) A) #[.ref o0] s 0 0 A) (F0 m 2 ls []) := by
    intro n6
    induction n6 with
    | zero =>
      intro i1 hn6 hlo7  H locs hT hF hS  ls hl
      obtain rfl : 96 = i1 := by omega
      refine lv_iload_n hx hb dX2_runDitches_2 rfl (lv_at hl 0 rfl) ?_
      refine lv_bipush (v := 96) hx hb dX2_runDitches_3 (by decide) ?_
      refine lv_icmp_ge (tgt := 19) hx hb dX2_runDitches_5 (by decide) (fun c8 => ?_) (fun c8 => (by exfalso; have q9 : ((96 : Nat) : Int) < 96 := ti_nle c8 (by decide) (nI_toInt (by omega)); omega))
      have t9 : 96 ≤ ((96 : Nat) : Int) := ti_le c8 (by decide) (nI_toInt (by omega))
      refine lv_iconst (v := 0) hx hb dX2_runDitches_19 (by decide) ?_
      refine lv_istore_n (lv' := [(1, .int 0), (0, .ref o0)]) hx hb dX2_runDitches_20 rfl hl (by decide) rfl (fun ls hl => ?_)
      have key89 : ∀ (n89 i10 : Nat), i10 + n89 = 96 → 0 ≤ i10 → ∀ (H : Heap) (locs : List Loc), gH (dC, dI) kA (SHc nC nS) G H → gF (dC, dI) SKc G ([(29, 0), (30, 0), (33, 0), (34, 0), (35, 0)] : List (Nat × Nat)) s.heap H → va_S A s.heap H locs → ∀ ls : Array Slot, lv_has ls 3 [(1, .int (nI i10)), (0, .ref o0)] → W p l e (headSpec w_c_runDitches ({ frames := 4, cells := 0, slots := 0, locals := 91 })).room s m #[.ref o0] below meth c H locs 0 0 (MQ below (va_Qv (fun (u : Unit) => True) (fun (_ : Unit) (t : State) => gH (dC, dI) kA (SHc nC nS) G t.heap ∧ gF (dC, dI) SKc G ([(29, 0), (30, 0), (33, 0), (34, 0), (35, 0)] : List (Nat × Nat)) s.heap t.heap) A) #[.ref o0] s 0 0 A) (F0 m 21 ls []) := by
        intro n89
        induction n89 with
        | zero =>
          intro i10 hn89 hlo90  H locs hT hF hS  ls hl
          obtain rfl : 96 = i10 := by omega
          refine lv_iload_n hx hb dX2_runDitches_21 rfl (lv_at hl 0 rfl) ?_
          refine lv_bipush (v := 96) hx hb dX2_runDitches_22 (by decide) ?_
          refine lv_icmp_ge (tgt := 105) hx hb dX2_runDitches_24 (by decide) (fun c91 => ?_) (fun c91 => (by exfalso; have q9 : ((96 : Nat) : Int) < 96 := ti_nle c91 (by decide) (nI_toInt (by omega)); omega))
          have t92 : 96 ≤ ((96 : Nat) : Int) := ti_le c91 (by decide) (nI_toInt (by omega))
          exact W.vret hx hb hr (fun t ht hW => ⟨⟨(), rfl, (by exact trivial), by (try dsimp only); rw [ht]; exact ⟨hT, hF⟩⟩, hS.F ht⟩) hS.2.2 dX2_runDitches_105
        | succ n89 ih89 =>
          intro i10 hn89 hlo90  H locs hT hF hS  ls hl
          have hlt92 : i10 < 96 := by omega
          refine lv_iload_n hx hb dX2_runDitches_21 rfl (lv_at hl 0 rfl) ?_
          refine lv_bipush (v := 96) hx hb dX2_runDitches_22 (by decide) ?_
          refine lv_icmp_ge (tgt := 105) hx hb dX2_runDitches_24 (by decide) (fun c93 => (by exfalso; have q9 : 96 ≤ ((i10 : Nat) : Int) := ti_le c93 (by decide) (nI_toInt (by omega)); omega)) (fun c93 => ?_)
          have t94 : ((i10 : Nat) : Int) < 96 := ti_nle c93 (by decide) (nI_toInt (by omega))
          refine lv_aload_n hx hb dX2_runDitches_27 rfl (lv_at hl 1 rfl) ?_
          refine tw_get hx hb hts bF2_X2 hown hK hT hr_o0 shc_5 rfl 8 (by decide) (ht_at2 hts 0 rfl) (fun _ h9 => h9) dX2_runDitches_28 (fun v9 m95 h9 => ?_)
          obtain ⟨b96, rfl, hg97⟩ := h9 _ rfl
          refine lv_iload_n hx hb dX2_runDitches_31 rfl (lv_at hl 0 rfl) ?_
          refine tw_iald (i := (nI i10)) hx hb hK hT hg97 shc_33 rfl (vp_in_nI (by omega) (by decide)) dX2_runDitches_32 (fun v9 m98 h9 => ?_)
          obtain ⟨x99, rfl, gx99, kx99⟩ := h9
          refine lv_istore_n (lv' := [(2, .int x99), (1, .int (nI i10)), (0, .ref o0)]) hx hb dX2_runDitches_33 rfl hl (by decide) rfl (fun ls hl => ?_)
          refine lv_iload_n hx hb dX2_runDitches_34 rfl (lv_at hl 0 rfl) ?_
          refine lv_iconst (v := (-1)) hx hb dX2_runDitches_35 (by decide) ?_
          refine lv_icmp_eq (tgt := 99) hx hb dX2_runDitches_36 (by decide) (fun c100 => ?_) (fun c100 => ?_)
          · have t101 : x99.toInt = (-1) := ti_eq c100 rfl (by decide)
            refine lv_iinc (v := nI (i10 + 1)) (lv' := [(1, .int (nI (i10 + 1))), (2, .int x99), (0, .ref o0)]) hx hb dX2_runDitches_99 hl (k := 1) rfl (nI_add i10 1) (by decide) rfl (fun ls hl => ?_)
            refine lv_goto (tgt := 21) hx hb dX2_runDitches_102 (by decide) ?_
            exact ih89 (i10 + 1) (by omega) (by omega) _ _ hT hF hS ls (lv_sub hl [0, 2] rfl)
          · have t102 : x99.toInt ≠ (-1) := ti_ne c100 rfl (by decide)
            refine lv_aload_n hx hb dX2_runDitches_39 rfl (lv_at hl 2 rfl) ?_
            refine tw_get hx hb hts bF2_X2 hown hK hT hr_o0 shc_5 rfl 4 (by decide) (ht_at2 hts 1 rfl) (fun _ h9 => h9) dX2_runDitches_40 (fun v9 m103 h9 => ?_)
            obtain ⟨b104, rfl, hg105⟩ := h9 _ rfl
            refine lv_iload_n hx hb dX2_runDitches_43 rfl (lv_at hl 1 rfl) ?_
            refine lv_dup2_11 hx hb dX2_runDitches_44 rfl rfl ?_
            refine tw_iald (i := (nI i10)) hx hb hK hT hg105 shc_29 rfl (vp_in_nI (by omega) (by decide)) dX2_runDitches_45 (fun v9 m106 h9 => ?_)
            obtain ⟨x107, rfl, gx107, kx107⟩ := h9
            refine lv_aload_n hx hb dX2_runDitches_46 rfl (lv_at hl 2 rfl) ?_
            refine tw_get hx hb hts bF2_X2 hown hK hT hr_o0 shc_5 rfl 9 (by decide) (ht_at2 hts 2 rfl) (fun _ h9 => h9) dX2_runDitches_47 (fun v9 m108 h9 => ?_)
            obtain ⟨b109, rfl, hg110⟩ := h9 _ rfl
            refine lv_iload_n hx hb dX2_runDitches_50 rfl (lv_at hl 1 rfl) ?_
            refine tw_iald (i := (nI i10)) hx hb hK hT hg110 shc_34 rfl (vp_in_nI (by omega) (by decide)) dX2_runDitches_51 (fun v9 m111 h9 => ?_)
            obtain ⟨x112, rfl, gx112, kx112⟩ := h9
            refine lv_isub hx hb dX2_runDitches_52 ?_
            refine lv_topi (fun x113 ex113 => ?_)
            refine tw_iast (i := (nI i10)) (x := x113) hx hb hK hT hG hS hg105 shc_29 rfl (vp_in_nI (by omega) (by decide)) (gi_all _) dX2_runDitches_53 (fun H locs hT oq m114 oi hS => ?_)
            have hF := hF.ast hg105 skc_29 oq (by decide)
            have m117 := (el_kept (oq _ (gne hr_o0 hg105 (by decide)))).trans m103
            have m118 := (el_kept (oq _ (gne hr_o0 hg105 (by decide)))).trans m108
            have m119 := (el_kept (oq _ (gne hg110 hg105 (by decide)))).trans m111
            refine lv_aload_n hx hb dX2_runDitches_54 rfl (lv_at hl 2 rfl) ?_
            refine tw_get hx hb hts bF2_X2 hown hK hT hr_o0 shc_5 rfl 5 (by decide) (ht_at2 hts 3 rfl) (fun _ h9 => h9) dX2_runDitches_55 (fun v9 m120 h9 => ?_)
            obtain ⟨b121, rfl, hg122⟩ := h9 _ rfl
            refine lv_iload_n hx hb dX2_runDitches_58 rfl (lv_at hl 1 rfl) ?_
            refine lv_dup2_11 hx hb dX2_runDitches_59 rfl rfl ?_
            refine tw_iald (i := (nI i10)) hx hb hK hT hg122 shc_30 rfl (vp_in_nI (by omega) (by decide)) dX2_runDitches_60 (fun v9 m123 h9 => ?_)
            obtain ⟨x124, rfl, gx124, kx124⟩ := h9
            refine lv_aload_n hx hb dX2_runDitches_61 rfl (lv_at hl 2 rfl) ?_
            refine tw_get hx hb hts bF2_X2 hown hK hT hr_o0 shc_5 rfl 10 (by decide) (ht_at2 hts 4 rfl) (fun _ h9 => h9) dX2_runDitches_62 (fun v9 m125 h9 => ?_)
            obtain ⟨b126, rfl, hg127⟩ := h9 _ rfl
            refine lv_iload_n hx hb dX2_runDitches_65 rfl (lv_at hl 1 rfl) ?_
            refine tw_iald (i := (nI i10)) hx hb hK hT hg127 shc_35 rfl (vp_in_nI (by omega) (by decide)) dX2_runDitches_66 (fun v9 m128 h9 => ?_)
            obtain ⟨x129, rfl, gx129, kx129⟩ := h9
            refine lv_isub hx hb dX2_runDitches_67 ?_
            refine lv_topi (fun x130 ex130 => ?_)
            refine tw_iast (i := (nI i10)) (x := x130) hx hb hK hT hG hS hg122 shc_30 rfl (vp_in_nI (by omega) (by decide)) (gi_all _) dX2_runDitches_68 (fun H locs hT oq m131 oi hS => ?_)
            have hF := hF.ast hg122 skc_30 oq (by decide)
            have m134 := (el_kept (oq _ (gne hr_o0 hg122 (by decide)))).trans m117
            have m135 := (el_kept (oq _ (gne hr_o0 hg122 (by decide)))).trans m118
            have m136 := (el_kept (oq _ (gne hg110 hg122 (by decide)))).trans m119
            have m138 := (el_kept (oq _ (gne hr_o0 hg122 (by decide)))).trans m120
            have m139 := (el_kept (oq _ (gne hr_o0 hg122 (by decide)))).trans m125
            have m140 := (el_kept (oq _ (gne hg127 hg122 (by decide)))).trans m128
            refine lv_aload_n hx hb dX2_runDitches_69 rfl (lv_at hl 2 rfl) ?_
            refine tw_getM (v := .ref b104) hx hb hts bF2_X2 hown hK hT hr_o0 shc_5 rfl 4 (by decide) (ht_at2 hts 1 rfl) (fun _ h9 => h9) m134 dX2_runDitches_70 ?_
            refine lv_iload_n hx hb dX2_runDitches_73 rfl (lv_at hl 0 rfl) ?_
            refine lv_dup2_11 hx hb dX2_runDitches_74 rfl rfl ?_
            refine tw_iald (i := x99) hx hb hK hT hg105 shc_29 rfl (vin_t (a := x99.toInt) rfl (by omega) (by omega)) dX2_runDitches_75 (fun v9 m141 h9 => ?_)
            obtain ⟨x142, rfl, gx142, kx142⟩ := h9
            refine lv_aload_n hx hb dX2_runDitches_76 rfl (lv_at hl 2 rfl) ?_
            refine tw_getM (v := .ref b109) hx hb hts bF2_X2 hown hK hT hr_o0 shc_5 rfl 9 (by decide) (ht_at2 hts 2 rfl) (fun _ h9 => h9) m135 dX2_runDitches_77 ?_
            refine lv_iload_n hx hb dX2_runDitches_80 rfl (lv_at hl 1 rfl) ?_
            refine tw_iald (i := (nI i10)) hx hb hK hT hg110 shc_34 rfl (vp_in_nI (by omega) (by decide)) dX2_runDitches_81 (fun v9 m143 h9 => ?_)
            obtain ⟨x144, rfl, gx144, kx144⟩ := h9
            obtain rfl : x112 = x144 := (el_same m143 m136 rfl).symm
            refine lv_iadd hx hb dX2_runDitches_82 ?_
            refine lv_topi (fun x145 ex145 => ?_)
            refine tw_iast (i := x99) (x := x145) hx hb hK hT hG hS hg105 shc_29 rfl (vin_t (a := x99.toInt) rfl (by omega) (by omega)) (gi_all _) dX2_runDitches_83 (fun H locs hT oq m146 oi hS => ?_)
            have hF := hF.ast hg105 skc_29 oq (by decide)
            have m152 := (el_kept (oq _ (gne hr_o0 hg105 (by decide)))).trans m138
            have m153 := (el_kept (oq _ (gne hr_o0 hg105 (by decide)))).trans m139
            have m154 := (el_kept (oq _ (gne hg127 hg105 (by decide)))).trans m140
            refine lv_aload_n hx hb dX2_runDitches_84 rfl (lv_at hl 2 rfl) ?_
            refine tw_getM (v := .ref b121) hx hb hts bF2_X2 hown hK hT hr_o0 shc_5 rfl 5 (by decide) (ht_at2 hts 3 rfl) (fun _ h9 => h9) m152 dX2_runDitches_85 ?_
            refine lv_iload_n hx hb dX2_runDitches_88 rfl (lv_at hl 0 rfl) ?_
            refine lv_dup2_11 hx hb dX2_runDitches_89 rfl rfl ?_
            refine tw_iald (i := x99) hx hb hK hT hg122 shc_30 rfl (vin_t (a := x99.toInt) rfl (by omega) (by omega)) dX2_runDitches_90 (fun v9 m156 h9 => ?_)
            obtain ⟨x157, rfl, gx157, kx157⟩ := h9
            refine lv_aload_n hx hb dX2_runDitches_91 rfl (lv_at hl 2 rfl) ?_
            refine tw_getM (v := .ref b126) hx hb hts bF2_X2 hown hK hT hr_o0 shc_5 rfl 10 (by decide) (ht_at2 hts 4 rfl) (fun _ h9 => h9) m153 dX2_runDitches_92 ?_
            refine lv_iload_n hx hb dX2_runDitches_95 rfl (lv_at hl 1 rfl) ?_
            refine tw_iald (i := (nI i10)) hx hb hK hT hg127 shc_35 rfl (vp_in_nI (by omega) (by decide)) dX2_runDitches_96 (fun v9 m158 h9 => ?_)
            obtain ⟨x159, rfl, gx159, kx159⟩ := h9
            obtain rfl : x129 = x159 := (el_same m158 m154 rfl).symm
            refine lv_iadd hx hb dX2_runDitches_97 ?_
            refine lv_topi (fun x160 ex160 => ?_)
            refine tw_iast (i := x99) (x := x160) hx hb hK hT hG hS hg122 shc_30 rfl (vin_t (a := x99.toInt) rfl (by omega) (by omega)) (gi_all _) dX2_runDitches_98 (fun H locs hT oq m161 oi hS => ?_)
            have hF := hF.ast hg122 skc_30 oq (by decide)
            refine lv_iinc (v := nI (i10 + 1)) (lv' := [(1, .int (nI (i10 + 1))), (2, .int x99), (0, .ref o0)]) hx hb dX2_runDitches_99 hl (k := 1) rfl (nI_add i10 1) (by decide) rfl (fun ls hl => ?_)
            refine lv_goto (tgt := 21) hx hb dX2_runDitches_102 (by decide) ?_
            exact ih89 (i10 + 1) (by omega) (by omega) _ _ hT hF hS ls (lv_sub hl [0, 2] rfl)
      exact key89 (96 - 0) 0 (by omega) (Nat.le_refl _) _ _ hT hF hS ls (lv_sub hl [0, 1] rfl)
    | succ n6 ih6 =>
      intro i1 hn6 hlo7  H locs hT hF hS  ls hl
      have hlt170 : i1 < 96 := by omega
      refine lv_iload_n hx hb dX2_runDitches_2 rfl (lv_at hl 0 rfl) ?_
      refine lv_bipush (v := 96) hx hb dX2_runDitches_3 (by decide) ?_
      refine lv_icmp_ge (tgt := 19) hx hb dX2_runDitches_5 (by decide) (fun c171 => (by exfalso; have q9 : 96 ≤ ((i1 : Nat) : Int) := ti_le c171 (by decide) (nI_toInt (by omega)); omega)) (fun c171 => ?_)
      have t172 : ((i1 : Nat) : Int) < 96 := ti_nle c171 (by decide) (nI_toInt (by omega))
      refine lv_aload_n hx hb dX2_runDitches_8 rfl (lv_at hl 1 rfl) ?_
      refine lv_iload_n hx hb dX2_runDitches_9 rfl (lv_at hl 0 rfl) ?_
      have hFc := gA_free hG hA hS
      refine va_callv (va_runV (As := [.int (nI i1)]) (rest := []) ⟨hx, hb, hml, hown, hts⟩ (c_reckonDitch l dC dI kA adK adV G H nC nS o0 (nI i1) hT hr_o0 (rg_t (a := ((i1 : Nat) : Int)) (nI_toInt (by omega)) (by omega) (by omega)) (by omega) (by omega)) (cwV 1 hts (goodIn_app (goodIn_r _ [30, 31, 32, 15] rfl (by decide +kernel)) (goodIn_ca (goodIn_r _ [6, 7, 8, 9, 10, 11, 2, 12, 13, 14, 15, 16, 17, 18, 19, 20, 21, 1, 22, 23, 24, 25, 3, 5, 26, 4, 27, 28, 29] rfl (by decide +kernel)) (bs2_in _ _))) rfl rfl rfl (by decide +kernel) ⟨(Nat.le_of_ble_eq_true rfl), (Nat.le_of_ble_eq_true rfl)⟩) ⟨fun a U g mk q => by obtain ⟨q0, q1, qK, qE⟩ := q; exact ⟨q0, q1, va_K.moved (u := U) (U := U.calling g mk a) (Vm.Alike.refl U.vm) qK, EVC.blind g mk a qE⟩, gH_rc hK hT hr_o0 shc_5 rfl, fun U hU hW => ⟨rfl, hU, va_K.moved hW.alike hK, hE.call hS hFc hU hW⟩⟩ rfl rfl hl.1 rfl (lv_room (Nat.le_of_ble_eq_true rfl)) dX2_runDitches_10 ⟨(Nat.le_of_ble_eq_true rfl), (Nat.le_of_ble_eq_true rfl)⟩) hS (fun q _ h => hFc q h) hFc (fun u t H locs ht hvm hw174 hB _ _ hS => ?_)
      obtain ⟨hT, hF1⟩ := hB
      rw [ht] at hT hF1
      have hF := hF.more hF1 (by decide)
      try dsimp only at hw174
      refine lv_iinc (v := nI (i1 + 1)) (lv' := [(1, .int (nI (i1 + 1))), (0, .ref o0)]) hx hb dX2_runDitches_13 hl (k := 0) rfl (nI_add i1 1) (by decide) rfl (fun ls hl => ?_)
      refine lv_goto (tgt := 2) hx hb dX2_runDitches_16 (by decide) ?_
      exact ih6 (i1 + 1) (by omega) (by omega) _ _ hT hF hS ls (lv_sub hl [0, 1] rfl)
  exact key6 (96 - 0) 0 (by omega) (Nat.le_refl _) _ _ hT hF hS ls (lv_sub hl [0, 1] rfl)
def w_c_sinksNow : List Cond := .code yX2_sinksNow cX2_sinksNow 2 (some .boolean) :: (HAppend.hAppend (α := List Cond) (β := List Cond) (γ := List Cond) [.fieldLink RX2 19 "SeaLand$Ground" "soil" "[I", .fieldLink RX2 31 "SeaLand$Ground" "dry" "[I"] bs2)
set_option maxHeartbeats 4000000 in
set_option maxRecDepth 100000 in
theorem c_sinksNow (l : Launch) (dC : Nat → ClassId) (dI : Nat → Nat → Nat) (kA : Nat → ClassId) (adK adV : Nat → Nat) (G : gT) (H0 : Heap) (nC nS : Int) (o0 : Nat) (p0 : Int32)  (hT : gH (dC, dI) kA (SHc nC nS) G H0) (hr_o0 : G o0 = some 5) (hq0 : 0 ≤ p0.toInt ∧ p0.toInt ≤ 95) (hgC : 0 ≤ nC ∧ nC ≤ 40) (hgS : 0 ≤ nS ∧ nS ≤ 60) : Met l yX2_sinksNow w_c_sinksNow ({ frames := 0, cells := 0, slots := 0, locals := 0 }) (va_Pc [.ref o0, .int p0] (fun U => U.heap = H0 ∧ va_K (dC, dI) vwCl (tyl kA) U ∧ EVC adK adV (gA G H0.size) U U.heap)) (va_Qi (fun (r : Int32) (u : Unit) => (0 ≤ r.toInt ∧ r.toInt ≤ 1)) (fun (_ : Unit) (t : State) => gH (dC, dI) kA (SHc nC nS) G t.heap ∧ gF (dC, dI) SKc G ([] : List (Nat × Nat)) H0 t.heap) (gA G H0.size)) 0 0 (gA G H0.size) := by
  refine Met.ofW (cc := cX2_sinksNow) (maxL := 2) (ret := (some .boolean)) (by decide) rfl ?_
  intro p e s m args below meth c s₁ B hml hv
  obtain ⟨rfl, hH0, hK, hE⟩ := hv
  have hx := B.exec
  have hb := B.bytes
  have hr := B.returns
  have hts := atoms_spec (ws := w_c_sinksNow) B.pre
  have hown : s.vm.findClass RX2 = some m.cls := findClass_of_methodNamed B.named
  have hlocks := B.notSynchronized
  subst hH0
  generalize hAe : gA G s.heap.size = A at hE ⊢
  have hA : ∀ q : Nat, s.heap.size ≤ q → A q := fun q h => by rw [← hAe]; exact Or.inr h
  have hG := gA_of hAe
  have hS : va_S A s.heap s.heap [] := va_S.rf
  have hF : gF (dC, dI) SKc G ([] : List (Nat × Nat)) s.heap s.heap := gF.rf
  have hl := lv_entry ([.ref o0, .int p0]) (n := 2) (Nat.le_of_ble_eq_true rfl)
  rw [lg_entry_eq]
  generalize (lg_sl ([.ref o0, .int p0]) ++ List.replicate (2 - (lg_sl ([.ref o0, .int p0])).length) Slot.unset).toArray = ls at hl ⊢
  have hl : lv_has ls 2 [(0, .ref o0), (1, .int p0)] := hl
  refine lv_aload_n hx hb dX2_sinksNow_0 rfl (lv_at hl 0 rfl) ?_
  refine tw_get hx hb hts bF2_X2 hown hK hT hr_o0 shc_5 rfl 2 (by decide) (ht_at2 hts 0 rfl) (fun _ h9 => h9) dX2_sinksNow_1 (fun v9 m1 h9 => ?_)
  obtain ⟨b2, rfl, hg3⟩ := h9 _ rfl
  refine lv_iload_n hx hb dX2_sinksNow_4 rfl (lv_at hl 1 rfl) ?_
  refine tw_iald (i := p0) hx hb hK hT hg3 shc_27 rfl (vin_t (a := p0.toInt) rfl (by omega) (by omega)) dX2_sinksNow_5 (fun v9 m4 h9 => ?_)
  obtain ⟨x5, rfl, gx5, kx5⟩ := h9
  refine lv_iconst (v := 2) hx hb dX2_sinksNow_6 (by decide) ?_
  have t6 : -2147483648 ≤ x5.toInt ∧ x5.toInt ≤ 2147483647 := ti_all x5
  refine lv_icmp_ne (tgt := 27) hx hb dX2_sinksNow_7 (by decide) (fun c7 => ?_) (fun c7 => ?_)
  · have t8 : x5.toInt ≠ 2 := ti_ne c7 rfl (by decide)
    refine lv_aload_n hx hb dX2_sinksNow_27 rfl (lv_at hl 0 rfl) ?_
    refine tw_getM (v := .ref b2) hx hb hts bF2_X2 hown hK hT hr_o0 shc_5 rfl 2 (by decide) (ht_at2 hts 0 rfl) (fun _ h9 => h9) m1 dX2_sinksNow_28 ?_
    refine lv_iload_n hx hb dX2_sinksNow_31 rfl (lv_at hl 1 rfl) ?_
    refine tw_iald (i := p0) hx hb hK hT hg3 shc_27 rfl (vin_t (a := p0.toInt) rfl (by omega) (by omega)) dX2_sinksNow_32 (fun v9 m9 h9 => ?_)
    obtain ⟨x10, rfl, gx10, kx10⟩ := h9
    obtain rfl : x5 = x10 := (el_same m9 m4 rfl).symm
    refine lv_iconst (v := 1) hx hb dX2_sinksNow_33 (by decide) ?_
    refine lv_icmp_ne (tgt := 53) hx hb dX2_sinksNow_34 (by decide) (fun c11 => ?_) (fun c11 => ?_)
    · have t12 : x5.toInt ≠ 1 := ti_ne c11 rfl (by decide)
      refine lv_iconst (v := 0) hx hb dX2_sinksNow_53 (by decide) ?_
      exact W.zret (v := 0) hx hb hr (by decide) (fun t ht hW => ⟨⟨0, (), rfl, (by exact (rg_t (a := 0) (by decide) (by first | decide | omega) (by first | decide | omega))), by (try dsimp only); rw [ht]; exact ⟨hT, hF⟩⟩, hS.F ht⟩) hS.2.2 dX2_sinksNow_54
    · have t13 : x5.toInt = 1 := ti_eq c11 rfl (by decide)
      refine lv_aload_n hx hb dX2_sinksNow_37 rfl (lv_at hl 0 rfl) ?_
      refine tw_get hx hb hts bF2_X2 hown hK hT hr_o0 shc_5 rfl 6 (by decide) (ht_at2 hts 1 rfl) (fun _ h9 => h9) dX2_sinksNow_38 (fun v9 m14 h9 => ?_)
      obtain ⟨b15, rfl, hg16⟩ := h9 _ rfl
      refine lv_iload_n hx hb dX2_sinksNow_41 rfl (lv_at hl 1 rfl) ?_
      refine tw_iald (i := p0) hx hb hK hT hg16 shc_31 rfl (vin_t (a := p0.toInt) rfl (by omega) (by omega)) dX2_sinksNow_42 (fun v9 m17 h9 => ?_)
      obtain ⟨x18, rfl, gx18, kx18⟩ := h9
      refine lv_bipush (v := 10) hx hb dX2_sinksNow_43 (by decide) ?_
      refine lv_irem hx hb dX2_sinksNow_45 (by decide) ?_
      refine lv_topi (fun x19 ex19 => ?_)
      have t20 : -2147483648 ≤ x19.toInt ∧ x19.toInt ≤ 2147483647 := ti_all x19
      refine lv_if_ne (tgt := 53) hx hb dX2_sinksNow_46 (by decide) (fun c21 => ?_) (fun c21 => ?_)
      · have t22 : x19.toInt ≠ 0 := ti_ne c21 rfl (by decide)
        refine lv_iconst (v := 0) hx hb dX2_sinksNow_53 (by decide) ?_
        exact W.zret (v := 0) hx hb hr (by decide) (fun t ht hW => ⟨⟨0, (), rfl, (by exact (rg_t (a := 0) (by decide) (by first | decide | omega) (by first | decide | omega))), by (try dsimp only); rw [ht]; exact ⟨hT, hF⟩⟩, hS.F ht⟩) hS.2.2 dX2_sinksNow_54
      · have t23 : x19.toInt = 0 := ti_eq c21 rfl (by decide)
        refine lv_iconst (v := 1) hx hb dX2_sinksNow_49 (by decide) ?_
        refine lv_goto (tgt := 54) hx hb dX2_sinksNow_50 (by decide) ?_
        exact W.zret (v := 1) hx hb hr (by decide) (fun t ht hW => ⟨⟨1, (), rfl, (by exact (rg_t (a := 1) (by decide) (by first | decide | omega) (by first | decide | omega))), by (try dsimp only); rw [ht]; exact ⟨hT, hF⟩⟩, hS.F ht⟩) hS.2.2 dX2_sinksNow_54
  · have t24 : x5.toInt = 2 := ti_eq c7 rfl (by decide)
    refine lv_aload_n hx hb dX2_sinksNow_10 rfl (lv_at hl 0 rfl) ?_
    refine tw_get hx hb hts bF2_X2 hown hK hT hr_o0 shc_5 rfl 6 (by decide) (ht_at2 hts 1 rfl) (fun _ h9 => h9) dX2_sinksNow_11 (fun v9 m25 h9 => ?_)
    obtain ⟨b26, rfl, hg27⟩ := h9 _ rfl
    refine lv_iload_n hx hb dX2_sinksNow_14 rfl (lv_at hl 1 rfl) ?_
    refine tw_iald (i := p0) hx hb hK hT hg27 shc_31 rfl (vin_t (a := p0.toInt) rfl (by omega) (by omega)) dX2_sinksNow_15 (fun v9 m28 h9 => ?_)
    obtain ⟨x29, rfl, gx29, kx29⟩ := h9
    refine lv_iconst (v := 3) hx hb dX2_sinksNow_16 (by decide) ?_
    refine lv_irem hx hb dX2_sinksNow_17 (by decide) ?_
    refine lv_topi (fun x30 ex30 => ?_)
    have t31 : -2147483648 ≤ x30.toInt ∧ x30.toInt ≤ 2147483647 := ti_all x30
    refine lv_if_ne (tgt := 25) hx hb dX2_sinksNow_18 (by decide) (fun c32 => ?_) (fun c32 => ?_)
    · have t33 : x30.toInt ≠ 0 := ti_ne c32 rfl (by decide)
      refine lv_iconst (v := 0) hx hb dX2_sinksNow_25 (by decide) ?_
      exact W.zret (v := 0) hx hb hr (by decide) (fun t ht hW => ⟨⟨0, (), rfl, (by exact (rg_t (a := 0) (by decide) (by first | decide | omega) (by first | decide | omega))), by (try dsimp only); rw [ht]; exact ⟨hT, hF⟩⟩, hS.F ht⟩) hS.2.2 dX2_sinksNow_26
    · have t34 : x30.toInt = 0 := ti_eq c32 rfl (by decide)
      refine lv_iconst (v := 1) hx hb dX2_sinksNow_21 (by decide) ?_
      refine lv_goto (tgt := 26) hx hb dX2_sinksNow_22 (by decide) ?_
      exact W.zret (v := 1) hx hb hr (by decide) (fun t ht hW => ⟨⟨1, (), rfl, (by exact (rg_t (a := 1) (by decide) (by first | decide | omega) (by first | decide | omega))), by (try dsimp only); rw [ht]; exact ⟨hT, hF⟩⟩, hS.F ht⟩) hS.2.2 dX2_sinksNow_26
def w_c_endDay : List Cond := .code yX2_endDay cX2_endDay 2 none :: (HAppend.hAppend (α := List Cond) (β := List Cond) (γ := List Cond) [.fieldLink RX2 9 "SeaLand$Ground" "isLand" "[Z", .fieldLink RX2 25 "SeaLand$Ground" "water" "[I", .fieldLink RX2 31 "SeaLand$Ground" "dry" "[I", .fieldLink RX2 15 "SeaLand$Ground" "height" "[I", .code yX2_sinksNow cX2_sinksNow 2 (some .boolean), .fieldLink RX2 19 "SeaLand$Ground" "soil" "[I", .methodLink RX2 91 yX2_sinksNow, .instanceMethod yX2_sinksNow, .selects RX2 yX2_sinksNow yX2_sinksNow, .initialized RX2, .fieldLink RX2 28 "SeaLand$Ground" "salt" "[I", .fieldLink RX2 34 "SeaLand$Ground" "wet" "[I"] bs2)
set_option maxHeartbeats 4000000 in
set_option maxRecDepth 100000 in
theorem c_endDay (l : Launch) (dC : Nat → ClassId) (dI : Nat → Nat → Nat) (kA : Nat → ClassId) (adK adV : Nat → Nat) (G : gT) (H0 : Heap) (nC nS : Int) (o0 : Nat)  (hT : gH (dC, dI) kA (SHc nC nS) G H0) (hr_o0 : G o0 = some 5) (hgC : 0 ≤ nC ∧ nC ≤ 40) (hgS : 0 ≤ nS ∧ nS ≤ 60) : Met l yX2_endDay w_c_endDay ({ frames := 1, cells := 0, slots := 0, locals := 21 }) (va_Pc [.ref o0] (fun U => U.heap = H0 ∧ va_K (dC, dI) vwCl (tyl kA) U ∧ EVC adK adV (gA G H0.size) U U.heap)) (va_Qv (fun (u : Unit) => True) (fun (_ : Unit) (t : State) => gH (dC, dI) kA (SHc nC nS) G t.heap ∧ gF (dC, dI) SKc G ([(26, 0), (30, 0), (31, 0), (32, 0)] : List (Nat × Nat)) H0 t.heap) (gA G H0.size)) 0 0 (gA G H0.size) := by
  refine Met.ofW (cc := cX2_endDay) (maxL := 2) (ret := none) (by decide) rfl ?_
  intro p e s m args below meth c s₁ B hml hv
  obtain ⟨rfl, hH0, hK, hE⟩ := hv
  have hx := B.exec
  have hb := B.bytes
  have hr := B.returns
  have hts := atoms_spec (ws := w_c_endDay) B.pre
  have hown : s.vm.findClass RX2 = some m.cls := findClass_of_methodNamed B.named
  have hlocks := B.notSynchronized
  subst hH0
  generalize hAe : gA G s.heap.size = A at hE ⊢
  have hA : ∀ q : Nat, s.heap.size ≤ q → A q := fun q h => by rw [← hAe]; exact Or.inr h
  have hG := gA_of hAe
  have hS : va_S A s.heap s.heap [] := va_S.rf
  have hF : gF (dC, dI) SKc G ([(26, 0), (30, 0), (31, 0), (32, 0)] : List (Nat × Nat)) s.heap s.heap := gF.rf
  have hl := lv_entry ([.ref o0]) (n := 2) (Nat.le_of_ble_eq_true rfl)
  rw [lg_entry_eq]
  generalize (lg_sl ([.ref o0]) ++ List.replicate (2 - (lg_sl ([.ref o0])).length) Slot.unset).toArray = ls at hl ⊢
  have hl : lv_has ls 2 [(0, .ref o0)] := hl
  refine lv_iconst (v := 0) hx hb dX2_endDay_0 (by decide) ?_
  refine lv_istore_n (lv' := [(1, .int 0), (0, .ref o0)]) hx hb dX2_endDay_1 rfl hl (by decide) rfl (fun ls hl => ?_)
  have key124 : ∀ (n124 i1 : Nat), i1 + n124 = 96 → 0 ≤ i1 → ∀ (H : Heap) (locs : List Loc), gH (dC, dI) kA (SHc nC nS) G H → gF (dC, dI) SKc G ([(26, 0), (30, 0), (31, 0), (32, 0)] : List (Nat × Nat)) s.heap H → va_S A s.heap H locs → ∀ ls : Array Slot, lv_has ls 2 [(1, .int (nI i1)), (0, .ref o0)] → W p l e (headSpec w_c_endDay ({ frames := 1, cells := 0, slots := 0, locals := 21 })).room s m #[.ref o0] below meth c H locs 0 0 (MQ below (va_Qv (fun (u : Unit) => True) (fun (_ : Unit) (t : State) => gH (dC, dI) kA (SHc nC nS) G t.heap ∧ gF (dC, dI) SKc G ([(26, 0), (30, 0), (31, 0), (32, 0)] : List (Nat × Nat)) s.heap t.heap) A) #[.ref o0] s 0 0 A) (F0 m 2 ls []) := by
    intro n124
    induction n124 with
    | zero =>
      intro i1 hn124 hlo125  H locs hT hF hS  ls hl
      obtain rfl : 96 = i1 := by omega
      refine lv_iload_n hx hb dX2_endDay_2 rfl (lv_at hl 0 rfl) ?_
      refine lv_bipush (v := 96) hx hb dX2_endDay_3 (by decide) ?_
      refine lv_icmp_ge (tgt := 111) hx hb dX2_endDay_5 (by decide) (fun c126 => ?_) (fun c126 => (by exfalso; have q9 : ((96 : Nat) : Int) < 96 := ti_nle c126 (by decide) (nI_toInt (by omega)); omega))
      have t127 : 96 ≤ ((96 : Nat) : Int) := ti_le c126 (by decide) (nI_toInt (by omega))
      exact W.vret hx hb hr (fun t ht hW => ⟨⟨(), rfl, (by exact trivial), by (try dsimp only); rw [ht]; exact ⟨hT, hF⟩⟩, hS.F ht⟩) hS.2.2 dX2_endDay_111
    | succ n124 ih124 =>
      intro i1 hn124 hlo125  H locs hT hF hS  ls hl
      have hlt127 : i1 < 96 := by omega
      refine lv_iload_n hx hb dX2_endDay_2 rfl (lv_at hl 0 rfl) ?_
      refine lv_bipush (v := 96) hx hb dX2_endDay_3 (by decide) ?_
      refine lv_icmp_ge (tgt := 111) hx hb dX2_endDay_5 (by decide) (fun c128 => (by exfalso; have q9 : 96 ≤ ((i1 : Nat) : Int) := ti_le c128 (by decide) (nI_toInt (by omega)); omega)) (fun c128 => ?_)
      have t129 : ((i1 : Nat) : Int) < 96 := ti_nle c128 (by decide) (nI_toInt (by omega))
      refine lv_aload_n hx hb dX2_endDay_8 rfl (lv_at hl 1 rfl) ?_
      refine tw_get hx hb hts bF2_X2 hown hK hT hr_o0 shc_5 rfl 0 (by decide) (ht_at2 hts 0 rfl) (fun _ h9 => h9) dX2_endDay_9 (fun v9 m130 h9 => ?_)
      obtain ⟨b131, rfl, hg132⟩ := h9 _ rfl
      refine lv_iload_n hx hb dX2_endDay_12 rfl (lv_at hl 0 rfl) ?_
      refine tw_zald (i := (nI i1)) hx hb hK hT hg132 shc_25 rfl (vp_in_nI (by omega) (by decide)) dX2_endDay_13 (fun v9 m133 h9 => ?_)
      obtain ⟨x134, rfl, gx134, kx134⟩ := h9
      refine lv_if_eq (tgt := 46) hx hb dX2_endDay_14 (by decide) (fun c135 => ?_) (fun c135 => ?_)
      · have t136 : x134.toInt = 0 := ti_eq c135 rfl (by decide)
        refine lv_aload_n hx hb dX2_endDay_46 rfl (lv_at hl 1 rfl) ?_
        refine tw_getM (v := .ref b131) hx hb hts bF2_X2 hown hK hT hr_o0 shc_5 rfl 0 (by decide) (ht_at2 hts 0 rfl) (fun _ h9 => h9) m130 dX2_endDay_47 ?_
        refine lv_iload_n hx hb dX2_endDay_50 rfl (lv_at hl 0 rfl) ?_
        refine tw_zald (i := (nI i1)) hx hb hK hT hg132 shc_25 rfl (vp_in_nI (by omega) (by decide)) dX2_endDay_51 (fun v9 m137 h9 => ?_)
        obtain ⟨x138, rfl, gx138, kx138⟩ := h9
        obtain rfl : x134 = x138 := (el_same m137 m133 rfl).symm
        refine lv_if_eq (tgt := 105) hx hb dX2_endDay_52 (by decide) (fun c139 => ?_) (fun c139 => (by exfalso; have q9 : x134.toInt ≠ 0 := ti_ne c139 rfl (by decide); omega))
        have t140 : x134.toInt = 0 := ti_eq c139 rfl (by decide)
        refine lv_iinc (v := nI (i1 + 1)) (lv' := [(1, .int (nI (i1 + 1))), (0, .ref o0)]) hx hb dX2_endDay_105 hl (k := 0) rfl (nI_add i1 1) (by decide) rfl (fun ls hl => ?_)
        refine lv_goto (tgt := 2) hx hb dX2_endDay_108 (by decide) ?_
        exact ih124 (i1 + 1) (by omega) (by omega) _ _ hT hF hS ls (lv_sub hl [0, 1] rfl)
      · have t141 : x134.toInt ≠ 0 := ti_ne c135 rfl (by decide)
        refine lv_aload_n hx hb dX2_endDay_17 rfl (lv_at hl 1 rfl) ?_
        refine tw_get hx hb hts bF2_X2 hown hK hT hr_o0 shc_5 rfl 4 (by decide) (ht_at2 hts 1 rfl) (fun _ h9 => h9) dX2_endDay_18 (fun v9 m142 h9 => ?_)
        obtain ⟨b143, rfl, hg144⟩ := h9 _ rfl
        refine lv_iload_n hx hb dX2_endDay_21 rfl (lv_at hl 0 rfl) ?_
        refine tw_iald (i := (nI i1)) hx hb hK hT hg144 shc_29 rfl (vp_in_nI (by omega) (by decide)) dX2_endDay_22 (fun v9 m145 h9 => ?_)
        obtain ⟨x146, rfl, gx146, kx146⟩ := h9
        have t147 : -2147483648 ≤ x146.toInt ∧ x146.toInt ≤ 2147483647 := ti_all x146
        refine lv_if_le (tgt := 46) hx hb dX2_endDay_23 (by decide) (fun c148 => ?_) (fun c148 => ?_)
        · have t149 : x146.toInt ≤ 0 := ti_le c148 rfl (by decide)
          refine lv_aload_n hx hb dX2_endDay_46 rfl (lv_at hl 1 rfl) ?_
          refine tw_getM (v := .ref b131) hx hb hts bF2_X2 hown hK hT hr_o0 shc_5 rfl 0 (by decide) (ht_at2 hts 0 rfl) (fun _ h9 => h9) m130 dX2_endDay_47 ?_
          refine lv_iload_n hx hb dX2_endDay_50 rfl (lv_at hl 0 rfl) ?_
          refine tw_zald (i := (nI i1)) hx hb hK hT hg132 shc_25 rfl (vp_in_nI (by omega) (by decide)) dX2_endDay_51 (fun v9 m150 h9 => ?_)
          obtain ⟨x151, rfl, gx151, kx151⟩ := h9
          obtain rfl : x134 = x151 := (el_same m150 m133 rfl).symm
          refine lv_if_eq (tgt := 105) hx hb dX2_endDay_52 (by decide) (fun c152 => (by exfalso; have q9 : x134.toInt = 0 := ti_eq c152 rfl (by decide); omega)) (fun c152 => ?_)
          have t153 : x134.toInt ≠ 0 := ti_ne c152 rfl (by decide)
          refine lv_aload_n hx hb dX2_endDay_55 rfl (lv_at hl 1 rfl) ?_
          refine tw_get hx hb hts bF2_X2 hown hK hT hr_o0 shc_5 rfl 6 (by decide) (ht_at2 hts 2 rfl) (fun _ h9 => h9) dX2_endDay_56 (fun v9 m154 h9 => ?_)
          obtain ⟨b155, rfl, hg156⟩ := h9 _ rfl
          refine lv_iload_n hx hb dX2_endDay_59 rfl (lv_at hl 0 rfl) ?_
          refine lv_dup2_11 hx hb dX2_endDay_60 rfl rfl ?_
          refine tw_iald (i := (nI i1)) hx hb hK hT hg156 shc_31 rfl (vp_in_nI (by omega) (by decide)) dX2_endDay_61 (fun v9 m157 h9 => ?_)
          obtain ⟨x158, rfl, gx158, kx158⟩ := h9
          refine lv_iconst (v := 1) hx hb dX2_endDay_62 (by decide) ?_
          refine lv_iadd hx hb dX2_endDay_63 ?_
          refine lv_topi (fun x159 ex159 => ?_)
          refine tw_iast (i := (nI i1)) (x := x159) hx hb hK hT hG hS hg156 shc_31 rfl (vp_in_nI (by omega) (by decide)) (gi_all _) dX2_endDay_64 (fun H locs hT oq m160 oi hS => ?_)
          have hF := hF.ast hg156 skc_31 oq (by decide)
          have m161 := (el_kept (oq _ (gne hr_o0 hg156 (by decide)))).trans m130
          have m162 := (el_kept (oq _ (gne hg132 hg156 (by decide)))).trans m133
          have m163 := (el_kept (oq _ (gne hr_o0 hg156 (by decide)))).trans m142
          have m164 := (el_kept (oq _ (gne hg144 hg156 (by decide)))).trans m145
          have m165 := (el_kept (oq _ (gne hr_o0 hg156 (by decide)))).trans m154
          refine lv_aload_n hx hb dX2_endDay_65 rfl (lv_at hl 1 rfl) ?_
          refine tw_get hx hb hts bF2_X2 hown hK hT hr_o0 shc_5 rfl 1 (by decide) (ht_at2 hts 3 rfl) (fun _ h9 => h9) dX2_endDay_66 (fun v9 m166 h9 => ?_)
          obtain ⟨b167, rfl, hg168⟩ := h9 _ rfl
          refine lv_iload_n hx hb dX2_endDay_69 rfl (lv_at hl 0 rfl) ?_
          refine lv_dup2_11 hx hb dX2_endDay_70 rfl rfl ?_
          refine tw_iald (i := (nI i1)) hx hb hK hT hg168 shc_26 rfl (vp_in_nI (by omega) (by decide)) dX2_endDay_71 (fun v9 m169 h9 => ?_)
          obtain ⟨x170, rfl, gx170, kx170⟩ := h9
          refine lv_aload_n hx hb dX2_endDay_72 rfl (lv_at hl 1 rfl) ?_
          refine lv_iload_n hx hb dX2_endDay_73 rfl (lv_at hl 0 rfl) ?_
          have hFc := gA_free hG hA hS
          refine va_calli (va_runV (As := [.int (nI i1)]) (rest := [.int x170, .int (nI i1), .ref b167]) ⟨hx, hb, hml, hown, hts⟩ (c_sinksNow l dC dI kA adK adV G H nC nS o0 (nI i1) hT hr_o0 (rg_t (a := ((i1 : Nat) : Int)) (nI_toInt (by omega)) (by omega) (by omega)) (by omega) (by omega)) (cwV 1 hts (goodIn_app (goodIn_r _ [7, 8, 9, 10] rfl (by decide +kernel)) (goodIn_ca (goodIn_r _ [5, 6, 3] rfl (by decide +kernel)) (bs2_in _ _))) rfl rfl rfl (by decide +kernel) ⟨(Nat.le_of_ble_eq_true rfl), (Nat.le_of_ble_eq_true rfl)⟩) ⟨fun a U g mk q => by obtain ⟨q0, q1, qK, qE⟩ := q; exact ⟨q0, q1, va_K.moved (u := U) (U := U.calling g mk a) (Vm.Alike.refl U.vm) qK, EVC.blind g mk a qE⟩, gH_rc hK hT hr_o0 shc_5 rfl, fun U hU hW => ⟨rfl, hU, va_K.moved hW.alike hK, hE.call hS hFc hU hW⟩⟩ rfl rfl hl.1 rfl (lv_room (Nat.le_of_ble_eq_true rfl)) dX2_endDay_74 ⟨(Nat.le_of_ble_eq_true rfl), (Nat.le_of_ble_eq_true rfl)⟩) hS (fun q _ h => hFc q h) hFc (fun r171 u t H locs ht hvm hw172 hB _ _ hS => ?_)
          obtain ⟨hT, hF1⟩ := hB
          rw [ht] at hT hF1
          have m173 := (hF1.fld hr_o0 skc_5 (k := 0) (by decide) (by decide)).trans m161
          have m174 := (el_kept (hF1.arr hg132 skc_25 (by decide))).trans m162
          have m175 := (hF1.fld hr_o0 skc_5 (k := 4) (by decide) (by decide)).trans m163
          have m176 := (el_kept (hF1.arr hg144 skc_29 (by decide))).trans m164
          have m177 := (hF1.fld hr_o0 skc_5 (k := 6) (by decide) (by decide)).trans m165
          have m178 := (el_kept (hF1.arr hg156 skc_31 (by decide))).trans m160
          have m179 := (hF1.fld hr_o0 skc_5 (k := 1) (by decide) (by decide)).trans m166
          have m180 := (el_kept (hF1.arr hg168 skc_26 (by decide))).trans m169
          have hF := hF.more hF1 (by decide)
          try dsimp only at hw172
          have h181 := hw172
          have jn192 : ∀ (z182 : Int32), ((0 ≤ z182.toInt ∧ z182.toInt ≤ 1)) → ∀ (H : Heap) (locs : List Loc), gH (dC, dI) kA (SHc nC nS) G H → gF (dC, dI) SKc G ([(26, 0), (30, 0), (31, 0), (32, 0)] : List (Nat × Nat)) s.heap H → va_S A s.heap H locs → el H o0 (dI 5 0) = some (.ref b131) → el H b131 (nI i1).toNatClampNeg = some (.int x134) → el H o0 (dI 5 4) = some (.ref b143) → el H b143 (nI i1).toNatClampNeg = some (.int x146) → el H o0 (dI 5 6) = some (.ref b155) → el H b155 (nI i1).toNatClampNeg = some (.int x159) → el H o0 (dI 5 1) = some (.ref b167) → el H b167 (nI i1).toNatClampNeg = some (.int x170) → ∀ ls : Array Slot, lv_has ls 2 [(1, .int (nI i1)), (0, .ref o0)] → W p l e (headSpec w_c_endDay ({ frames := 1, cells := 0, slots := 0, locals := 21 })).room s m #[.ref o0] below meth c H locs 0 0 (MQ below (va_Qv (fun (u : Unit) => True) (fun (_ : Unit) (t : State) => gH (dC, dI) kA (SHc nC nS) G t.heap ∧ gF (dC, dI) SKc G ([(26, 0), (30, 0), (31, 0), (32, 0)] : List (Nat × Nat)) s.heap t.heap) A) #[.ref o0] s 0 0 A) (F0 m 85 ls [.int z182, .int x170, .int (nI i1), .ref b167]) := by
            intro z182 h183 H locs hT hF hS m184 m185 m186 m187 m188 m189 m190 m191 ls hl
            refine lv_isub hx hb dX2_endDay_85 ?_
            refine lv_topi (fun x193 ex193 => ?_)
            refine tw_iast (i := (nI i1)) (x := x193) hx hb hK hT hG hS hg168 shc_26 rfl (vp_in_nI (by omega) (by decide)) (gi_all _) dX2_endDay_86 (fun H locs hT oq m194 oi hS => ?_)
            have hF := hF.ast hg168 skc_26 oq (by decide)
            refine lv_aload_n hx hb dX2_endDay_87 rfl (lv_at hl 1 rfl) ?_
            refine tw_get hx hb hts bF2_X2 hown hK hT hr_o0 shc_5 rfl 5 (by decide) (ht_at2 hts 10 rfl) (fun _ h9 => h9) dX2_endDay_88 (fun v9 m202 h9 => ?_)
            obtain ⟨b203, rfl, hg204⟩ := h9 _ rfl
            refine lv_iload_n hx hb dX2_endDay_91 rfl (lv_at hl 0 rfl) ?_
            refine lv_dup2_11 hx hb dX2_endDay_92 rfl rfl ?_
            refine tw_iald (i := (nI i1)) hx hb hK hT hg204 shc_30 rfl (vp_in_nI (by omega) (by decide)) dX2_endDay_93 (fun v9 m205 h9 => ?_)
            obtain ⟨x206, rfl, gx206, kx206⟩ := h9
            refine lv_aload_n hx hb dX2_endDay_94 rfl (lv_at hl 1 rfl) ?_
            refine tw_getM (v := .ref b203) hx hb hts bF2_X2 hown hK hT hr_o0 shc_5 rfl 5 (by decide) (ht_at2 hts 10 rfl) (fun _ h9 => h9) m202 dX2_endDay_95 ?_
            refine lv_iload_n hx hb dX2_endDay_98 rfl (lv_at hl 0 rfl) ?_
            refine tw_iald (i := (nI i1)) hx hb hK hT hg204 shc_30 rfl (vp_in_nI (by omega) (by decide)) dX2_endDay_99 (fun v9 m207 h9 => ?_)
            obtain ⟨x208, rfl, gx208, kx208⟩ := h9
            obtain rfl : x206 = x208 := (el_same m207 m205 rfl).symm
            refine lv_bipush (v := 100) hx hb dX2_endDay_100 (by decide) ?_
            have t209 : -2147483648 ≤ x206.toInt ∧ x206.toInt ≤ 2147483647 := ti_all x206
            refine lv_idiv hx hb dX2_endDay_102 (by decide) ?_
            refine lv_topi (fun x210 ex210 => ?_)
            have t211 : (0 ≤ x206.toInt ∧ x210.toInt = x206.toInt / 100) ∨ (x206.toInt < 0 ∧ x210.toInt = -((-x206.toInt) / 100)) := ti_divs ex210 rfl (by decide) (by decide)
            refine lv_isub hx hb dX2_endDay_103 ?_
            refine lv_topi (fun x212 ex212 => ?_)
            refine tw_iast (i := (nI i1)) (x := x212) hx hb hK hT hG hS hg204 shc_30 rfl (vp_in_nI (by omega) (by decide)) (gi_all _) dX2_endDay_104 (fun H locs hT oq m213 oi hS => ?_)
            have hF := hF.ast hg204 skc_30 oq (by decide)
            refine lv_iinc (v := nI (i1 + 1)) (lv' := [(1, .int (nI (i1 + 1))), (0, .ref o0)]) hx hb dX2_endDay_105 hl (k := 0) rfl (nI_add i1 1) (by decide) rfl (fun ls hl => ?_)
            refine lv_goto (tgt := 2) hx hb dX2_endDay_108 (by decide) ?_
            exact ih124 (i1 + 1) (by omega) (by omega) _ _ hT hF hS ls (lv_sub hl [0, 1] rfl)
          refine lv_if_eq (tgt := 84) hx hb dX2_endDay_77 (by decide) (fun c223 => ?_) (fun c223 => ?_)
          · have t224 : r171.toInt = 0 := ti_eq c223 rfl (by decide)
            refine lv_iconst (v := 0) hx hb dX2_endDay_84 (by decide) ?_
            exact jn192 0 (rg_t (a := 0) (by decide) (by first | decide | omega) (by first | decide | omega)) _ _ hT hF hS m173 m174 m175 m176 m177 m178 m179 m180 ls (lv_sub hl [0, 1] rfl)
          · have t225 : r171.toInt ≠ 0 := ti_ne c223 rfl (by decide)
            refine lv_iconst (v := 1) hx hb dX2_endDay_80 (by decide) ?_
            refine lv_goto (tgt := 85) hx hb dX2_endDay_81 (by decide) ?_
            exact jn192 1 (rg_t (a := 1) (by decide) (by first | decide | omega) (by first | decide | omega)) _ _ hT hF hS m173 m174 m175 m176 m177 m178 m179 m180 ls (lv_sub hl [0, 1] rfl)
        · have t226 : 0 < x146.toInt := ti_nle c148 rfl (by decide)
          refine lv_aload_n hx hb dX2_endDay_26 rfl (lv_at hl 1 rfl) ?_
          refine tw_get hx hb hts bF2_X2 hown hK hT hr_o0 shc_5 rfl 6 (by decide) (ht_at2 hts 2 rfl) (fun _ h9 => h9) dX2_endDay_27 (fun v9 m227 h9 => ?_)
          obtain ⟨b228, rfl, hg229⟩ := h9 _ rfl
          refine lv_iload_n hx hb dX2_endDay_30 rfl (lv_at hl 0 rfl) ?_
          refine lv_iconst (v := 0) hx hb dX2_endDay_31 (by decide) ?_
          refine tw_iast (i := (nI i1)) (x := 0) hx hb hK hT hG hS hg229 shc_31 rfl (vp_in_nI (by omega) (by decide)) (gi_all _) dX2_endDay_32 (fun H locs hT oq m230 oi hS => ?_)
          have hF := hF.ast hg229 skc_31 oq (by decide)
          refine lv_aload_n hx hb dX2_endDay_33 rfl (lv_at hl 1 rfl) ?_
          refine tw_get hx hb hts bF2_X2 hown hK hT hr_o0 shc_5 rfl 7 (by decide) (ht_at2 hts 11 rfl) (fun _ h9 => h9) dX2_endDay_34 (fun v9 m236 h9 => ?_)
          obtain ⟨b237, rfl, hg238⟩ := h9 _ rfl
          refine lv_iload_n hx hb dX2_endDay_37 rfl (lv_at hl 0 rfl) ?_
          refine lv_dup2_11 hx hb dX2_endDay_38 rfl rfl ?_
          refine tw_iald (i := (nI i1)) hx hb hK hT hg238 shc_32 rfl (vp_in_nI (by omega) (by decide)) dX2_endDay_39 (fun v9 m239 h9 => ?_)
          obtain ⟨x240, rfl, gx240, kx240⟩ := h9
          refine lv_iconst (v := 1) hx hb dX2_endDay_40 (by decide) ?_
          refine lv_iadd hx hb dX2_endDay_41 ?_
          refine lv_topi (fun x241 ex241 => ?_)
          refine tw_iast (i := (nI i1)) (x := x241) hx hb hK hT hG hS hg238 shc_32 rfl (vp_in_nI (by omega) (by decide)) (gi_all _) dX2_endDay_42 (fun H locs hT oq m242 oi hS => ?_)
          have hF := hF.ast hg238 skc_32 oq (by decide)
          refine lv_goto (tgt := 105) hx hb dX2_endDay_43 (by decide) ?_
          refine lv_iinc (v := nI (i1 + 1)) (lv' := [(1, .int (nI (i1 + 1))), (0, .ref o0)]) hx hb dX2_endDay_105 hl (k := 0) rfl (nI_add i1 1) (by decide) rfl (fun ls hl => ?_)
          refine lv_goto (tgt := 2) hx hb dX2_endDay_108 (by decide) ?_
          exact ih124 (i1 + 1) (by omega) (by omega) _ _ hT hF hS ls (lv_sub hl [0, 1] rfl)
  exact key124 (96 - 0) 0 (by omega) (Nat.le_refl _) _ _ hT hF hS ls (lv_sub hl [0, 1] rfl)
def w_c_allWater : List Cond := .code yX2_allWater cX2_allWater 3 (some .int) :: (HAppend.hAppend (α := List Cond) (β := List Cond) (γ := List Cond) [.fieldLink RX2 25 "SeaLand$Ground" "water" "[I"] bs2)
set_option maxHeartbeats 4000000 in
set_option maxRecDepth 100000 in
theorem c_allWater (l : Launch) (dC : Nat → ClassId) (dI : Nat → Nat → Nat) (kA : Nat → ClassId) (adK adV : Nat → Nat) (G : gT) (H0 : Heap) (nC nS : Int) (o0 : Nat)  (hT : gH (dC, dI) kA (SHc nC nS) G H0) (hr_o0 : G o0 = some 5) (hgC : 0 ≤ nC ∧ nC ≤ 40) (hgS : 0 ≤ nS ∧ nS ≤ 60) : Met l yX2_allWater w_c_allWater ({ frames := 0, cells := 0, slots := 0, locals := 0 }) (va_Pc [.ref o0] (fun U => U.heap = H0 ∧ va_K (dC, dI) vwCl (tyl kA) U ∧ EVC adK adV (gA G H0.size) U U.heap)) (va_Qi (fun (r : Int32) (u : Unit) => True) (fun (_ : Unit) (t : State) => gH (dC, dI) kA (SHc nC nS) G t.heap ∧ gF (dC, dI) SKc G ([] : List (Nat × Nat)) H0 t.heap) (gA G H0.size)) 0 0 (gA G H0.size) := by
  refine Met.ofW (cc := cX2_allWater) (maxL := 3) (ret := (some .int)) (by decide) rfl ?_
  intro p e s m args below meth c s₁ B hml hv
  obtain ⟨rfl, hH0, hK, hE⟩ := hv
  have hx := B.exec
  have hb := B.bytes
  have hr := B.returns
  have hts := atoms_spec (ws := w_c_allWater) B.pre
  have hown : s.vm.findClass RX2 = some m.cls := findClass_of_methodNamed B.named
  have hlocks := B.notSynchronized
  subst hH0
  generalize hAe : gA G s.heap.size = A at hE ⊢
  have hA : ∀ q : Nat, s.heap.size ≤ q → A q := fun q h => by rw [← hAe]; exact Or.inr h
  have hG := gA_of hAe
  have hS : va_S A s.heap s.heap [] := va_S.rf
  have hF : gF (dC, dI) SKc G ([] : List (Nat × Nat)) s.heap s.heap := gF.rf
  have hl := lv_entry ([.ref o0]) (n := 3) (Nat.le_of_ble_eq_true rfl)
  rw [lg_entry_eq]
  generalize (lg_sl ([.ref o0]) ++ List.replicate (3 - (lg_sl ([.ref o0])).length) Slot.unset).toArray = ls at hl ⊢
  have hl : lv_has ls 3 [(0, .ref o0)] := hl
  refine lv_iconst (v := 0) hx hb dX2_allWater_0 (by decide) ?_
  refine lv_istore_n (lv' := [(1, .int 0), (0, .ref o0)]) hx hb dX2_allWater_1 rfl hl (by decide) rfl (fun ls hl => ?_)
  refine lv_iconst (v := 0) hx hb dX2_allWater_2 (by decide) ?_
  refine lv_istore_n (lv' := [(2, .int 0), (1, .int 0), (0, .ref o0)]) hx hb dX2_allWater_3 rfl hl (by decide) rfl (fun ls hl => ?_)
  have key11 : ∀ (n11 i1 : Nat), i1 + n11 = 96 → 0 ≤ i1 → ∀ (z2 : Int32), ∀ (H : Heap) (locs : List Loc), gH (dC, dI) kA (SHc nC nS) G H → gF (dC, dI) SKc G ([] : List (Nat × Nat)) s.heap H → va_S A s.heap H locs → ∀ ls : Array Slot, lv_has ls 3 [(2, .int (nI i1)), (1, .int z2), (0, .ref o0)] → W p l e (headSpec w_c_allWater ({ frames := 0, cells := 0, slots := 0, locals := 0 })).room s m #[.ref o0] below meth c H locs 0 0 (MQ below (va_Qi (fun (r : Int32) (u : Unit) => True) (fun (_ : Unit) (t : State) => gH (dC, dI) kA (SHc nC nS) G t.heap ∧ gF (dC, dI) SKc G ([] : List (Nat × Nat)) s.heap t.heap) A) #[.ref o0] s 0 0 A) (F0 m 4 ls []) := by
    intro n11
    induction n11 with
    | zero =>
      intro i1 hn11 hlo12 z2 H locs hT hF hS  ls hl
      obtain rfl : 96 = i1 := by omega
      refine lv_iload_n hx hb dX2_allWater_4 rfl (lv_at hl 0 rfl) ?_
      refine lv_bipush (v := 96) hx hb dX2_allWater_5 (by decide) ?_
      refine lv_icmp_ge (tgt := 25) hx hb dX2_allWater_7 (by decide) (fun c13 => ?_) (fun c13 => (by exfalso; have q9 : ((96 : Nat) : Int) < 96 := ti_nle c13 (by decide) (nI_toInt (by omega)); omega))
      have t14 : 96 ≤ ((96 : Nat) : Int) := ti_le c13 (by decide) (nI_toInt (by omega))
      refine lv_iload_n hx hb dX2_allWater_25 rfl (lv_at hl 1 rfl) ?_
      exact W.iret (v := z2) hx hb hr (fun t ht hW => ⟨⟨z2, (), rfl, (by exact trivial), by (try dsimp only); rw [ht]; exact ⟨hT, hF⟩⟩, hS.F ht⟩) hS.2.2 dX2_allWater_26
    | succ n11 ih11 =>
      intro i1 hn11 hlo12 z2 H locs hT hF hS  ls hl
      have hlt14 : i1 < 96 := by omega
      refine lv_iload_n hx hb dX2_allWater_4 rfl (lv_at hl 0 rfl) ?_
      refine lv_bipush (v := 96) hx hb dX2_allWater_5 (by decide) ?_
      refine lv_icmp_ge (tgt := 25) hx hb dX2_allWater_7 (by decide) (fun c15 => (by exfalso; have q9 : 96 ≤ ((i1 : Nat) : Int) := ti_le c15 (by decide) (nI_toInt (by omega)); omega)) (fun c15 => ?_)
      have t16 : ((i1 : Nat) : Int) < 96 := ti_nle c15 (by decide) (nI_toInt (by omega))
      refine lv_iload_n hx hb dX2_allWater_10 rfl (lv_at hl 1 rfl) ?_
      refine lv_aload_n hx hb dX2_allWater_11 rfl (lv_at hl 2 rfl) ?_
      refine tw_get hx hb hts bF2_X2 hown hK hT hr_o0 shc_5 rfl 4 (by decide) (ht_at2 hts 0 rfl) (fun _ h9 => h9) dX2_allWater_12 (fun v9 m17 h9 => ?_)
      obtain ⟨b18, rfl, hg19⟩ := h9 _ rfl
      refine lv_iload_n hx hb dX2_allWater_15 rfl (lv_at hl 0 rfl) ?_
      refine tw_iald (i := (nI i1)) hx hb hK hT hg19 shc_29 rfl (vp_in_nI (by omega) (by decide)) dX2_allWater_16 (fun v9 m20 h9 => ?_)
      obtain ⟨x21, rfl, gx21, kx21⟩ := h9
      refine lv_iadd hx hb dX2_allWater_17 ?_
      refine lv_topi (fun x22 ex22 => ?_)
      refine lv_istore_n (lv' := [(1, .int x22), (2, .int (nI i1)), (0, .ref o0)]) hx hb dX2_allWater_18 rfl hl (by decide) rfl (fun ls hl => ?_)
      refine lv_iinc (v := nI (i1 + 1)) (lv' := [(2, .int (nI (i1 + 1))), (1, .int x22), (0, .ref o0)]) hx hb dX2_allWater_19 hl (k := 1) rfl (nI_add i1 1) (by decide) rfl (fun ls hl => ?_)
      refine lv_goto (tgt := 4) hx hb dX2_allWater_22 (by decide) ?_
      exact ih11 (i1 + 1) (by omega) (by omega) x22 _ _ hT hF hS ls (lv_sub hl [0, 1, 2] rfl)
  exact key11 (96 - 0) 0 (by omega) (Nat.le_refl _) 0 _ _ hT hF hS ls (lv_sub hl [0, 1, 2] rfl)
def w_c_allSalt : List Cond := .code yX2_allSalt cX2_allSalt 3 (some .int) :: (HAppend.hAppend (α := List Cond) (β := List Cond) (γ := List Cond) [.fieldLink RX2 28 "SeaLand$Ground" "salt" "[I"] bs2)
set_option maxHeartbeats 4000000 in
set_option maxRecDepth 100000 in
theorem c_allSalt (l : Launch) (dC : Nat → ClassId) (dI : Nat → Nat → Nat) (kA : Nat → ClassId) (adK adV : Nat → Nat) (G : gT) (H0 : Heap) (nC nS : Int) (o0 : Nat)  (hT : gH (dC, dI) kA (SHc nC nS) G H0) (hr_o0 : G o0 = some 5) (hgC : 0 ≤ nC ∧ nC ≤ 40) (hgS : 0 ≤ nS ∧ nS ≤ 60) : Met l yX2_allSalt w_c_allSalt ({ frames := 0, cells := 0, slots := 0, locals := 0 }) (va_Pc [.ref o0] (fun U => U.heap = H0 ∧ va_K (dC, dI) vwCl (tyl kA) U ∧ EVC adK adV (gA G H0.size) U U.heap)) (va_Qi (fun (r : Int32) (u : Unit) => True) (fun (_ : Unit) (t : State) => gH (dC, dI) kA (SHc nC nS) G t.heap ∧ gF (dC, dI) SKc G ([] : List (Nat × Nat)) H0 t.heap) (gA G H0.size)) 0 0 (gA G H0.size) := by
  refine Met.ofW (cc := cX2_allSalt) (maxL := 3) (ret := (some .int)) (by decide) rfl ?_
  intro p e s m args below meth c s₁ B hml hv
  obtain ⟨rfl, hH0, hK, hE⟩ := hv
  have hx := B.exec
  have hb := B.bytes
  have hr := B.returns
  have hts := atoms_spec (ws := w_c_allSalt) B.pre
  have hown : s.vm.findClass RX2 = some m.cls := findClass_of_methodNamed B.named
  have hlocks := B.notSynchronized
  subst hH0
  generalize hAe : gA G s.heap.size = A at hE ⊢
  have hA : ∀ q : Nat, s.heap.size ≤ q → A q := fun q h => by rw [← hAe]; exact Or.inr h
  have hG := gA_of hAe
  have hS : va_S A s.heap s.heap [] := va_S.rf
  have hF : gF (dC, dI) SKc G ([] : List (Nat × Nat)) s.heap s.heap := gF.rf
  have hl := lv_entry ([.ref o0]) (n := 3) (Nat.le_of_ble_eq_true rfl)
  rw [lg_entry_eq]
  generalize (lg_sl ([.ref o0]) ++ List.replicate (3 - (lg_sl ([.ref o0])).length) Slot.unset).toArray = ls at hl ⊢
  have hl : lv_has ls 3 [(0, .ref o0)] := hl
  refine lv_iconst (v := 0) hx hb dX2_allSalt_0 (by decide) ?_
  refine lv_istore_n (lv' := [(1, .int 0), (0, .ref o0)]) hx hb dX2_allSalt_1 rfl hl (by decide) rfl (fun ls hl => ?_)
  refine lv_iconst (v := 0) hx hb dX2_allSalt_2 (by decide) ?_
  refine lv_istore_n (lv' := [(2, .int 0), (1, .int 0), (0, .ref o0)]) hx hb dX2_allSalt_3 rfl hl (by decide) rfl (fun ls hl => ?_)
  have key11 : ∀ (n11 i1 : Nat), i1 + n11 = 96 → 0 ≤ i1 → ∀ (z2 : Int32), ∀ (H : Heap) (locs : List Loc), gH (dC, dI) kA (SHc nC nS) G H → gF (dC, dI) SKc G ([] : List (Nat × Nat)) s.heap H → va_S A s.heap H locs → ∀ ls : Array Slot, lv_has ls 3 [(2, .int (nI i1)), (1, .int z2), (0, .ref o0)] → W p l e (headSpec w_c_allSalt ({ frames := 0, cells := 0, slots := 0, locals := 0 })).room s m #[.ref o0] below meth c H locs 0 0 (MQ below (va_Qi (fun (r : Int32) (u : Unit) => True) (fun (_ : Unit) (t : State) => gH (dC, dI) kA (SHc nC nS) G t.heap ∧ gF (dC, dI) SKc G ([] : List (Nat × Nat)) s.heap t.heap) A) #[.ref o0] s 0 0 A) (F0 m 4 ls []) := by
    intro n11
    induction n11 with
    | zero =>
      intro i1 hn11 hlo12 z2 H locs hT hF hS  ls hl
      obtain rfl : 96 = i1 := by omega
      refine lv_iload_n hx hb dX2_allSalt_4 rfl (lv_at hl 0 rfl) ?_
      refine lv_bipush (v := 96) hx hb dX2_allSalt_5 (by decide) ?_
      refine lv_icmp_ge (tgt := 25) hx hb dX2_allSalt_7 (by decide) (fun c13 => ?_) (fun c13 => (by exfalso; have q9 : ((96 : Nat) : Int) < 96 := ti_nle c13 (by decide) (nI_toInt (by omega)); omega))
      have t14 : 96 ≤ ((96 : Nat) : Int) := ti_le c13 (by decide) (nI_toInt (by omega))
      refine lv_iload_n hx hb dX2_allSalt_25 rfl (lv_at hl 1 rfl) ?_
      exact W.iret (v := z2) hx hb hr (fun t ht hW => ⟨⟨z2, (), rfl, (by exact trivial), by (try dsimp only); rw [ht]; exact ⟨hT, hF⟩⟩, hS.F ht⟩) hS.2.2 dX2_allSalt_26
    | succ n11 ih11 =>
      intro i1 hn11 hlo12 z2 H locs hT hF hS  ls hl
      have hlt14 : i1 < 96 := by omega
      refine lv_iload_n hx hb dX2_allSalt_4 rfl (lv_at hl 0 rfl) ?_
      refine lv_bipush (v := 96) hx hb dX2_allSalt_5 (by decide) ?_
      refine lv_icmp_ge (tgt := 25) hx hb dX2_allSalt_7 (by decide) (fun c15 => (by exfalso; have q9 : 96 ≤ ((i1 : Nat) : Int) := ti_le c15 (by decide) (nI_toInt (by omega)); omega)) (fun c15 => ?_)
      have t16 : ((i1 : Nat) : Int) < 96 := ti_nle c15 (by decide) (nI_toInt (by omega))
      refine lv_iload_n hx hb dX2_allSalt_10 rfl (lv_at hl 1 rfl) ?_
      refine lv_aload_n hx hb dX2_allSalt_11 rfl (lv_at hl 2 rfl) ?_
      refine tw_get hx hb hts bF2_X2 hown hK hT hr_o0 shc_5 rfl 5 (by decide) (ht_at2 hts 0 rfl) (fun _ h9 => h9) dX2_allSalt_12 (fun v9 m17 h9 => ?_)
      obtain ⟨b18, rfl, hg19⟩ := h9 _ rfl
      refine lv_iload_n hx hb dX2_allSalt_15 rfl (lv_at hl 0 rfl) ?_
      refine tw_iald (i := (nI i1)) hx hb hK hT hg19 shc_30 rfl (vp_in_nI (by omega) (by decide)) dX2_allSalt_16 (fun v9 m20 h9 => ?_)
      obtain ⟨x21, rfl, gx21, kx21⟩ := h9
      refine lv_iadd hx hb dX2_allSalt_17 ?_
      refine lv_topi (fun x22 ex22 => ?_)
      refine lv_istore_n (lv' := [(1, .int x22), (2, .int (nI i1)), (0, .ref o0)]) hx hb dX2_allSalt_18 rfl hl (by decide) rfl (fun ls hl => ?_)
      refine lv_iinc (v := nI (i1 + 1)) (lv' := [(2, .int (nI (i1 + 1))), (1, .int x22), (0, .ref o0)]) hx hb dX2_allSalt_19 hl (k := 1) rfl (nI_add i1 1) (by decide) rfl (fun ls hl => ?_)
      refine lv_goto (tgt := 4) hx hb dX2_allSalt_22 (by decide) ?_
      exact ih11 (i1 + 1) (by omega) (by omega) x22 _ _ hT hF hS ls (lv_sub hl [0, 1, 2] rfl)
  exact key11 (96 - 0) 0 (by omega) (Nat.le_refl _) 0 _ _ hT hF hS ls (lv_sub hl [0, 1, 2] rfl)
def w_c_copyG_i : List Cond := .code yX2_copyFrom cX2_copyFrom 2 none :: (HAppend.hAppend (α := List Cond) (β := List Cond) (γ := List Cond) [.fieldLink RX2 9 "SeaLand$Ground" "isLand" "[Z", .methodLink RX2 95 arraycopyName, .native arraycopyName, .static arraycopyName, .initialized "java/lang/System", .fieldLink RX2 15 "SeaLand$Ground" "height" "[I", .fieldLink RX2 19 "SeaLand$Ground" "soil" "[I", .fieldLink RX2 22 "SeaLand$Ground" "ditch" "[I", .fieldLink RX2 25 "SeaLand$Ground" "water" "[I", .fieldLink RX2 28 "SeaLand$Ground" "salt" "[I", .fieldLink RX2 31 "SeaLand$Ground" "dry" "[I", .fieldLink RX2 34 "SeaLand$Ground" "wet" "[I", .fieldLink RX2 54 "SeaLand$Ground" "rained" "I", .fieldLink RX2 57 "SeaLand$Ground" "cameIn" "I", .fieldLink RX2 64 "SeaLand$Ground" "wentOut" "I", .fieldLink RX2 50 "SeaLand$Ground" "toldMore" "I"] bs2)
set_option maxHeartbeats 4000000 in
set_option maxRecDepth 100000 in
theorem c_copyG_i (l : Launch) (dC : Nat → ClassId) (dI : Nat → Nat → Nat) (kA : Nat → ClassId) (adK adV : Nat → Nat) (G : gT) (H0 : Heap) (nC nS : Int) (o0 : Nat) (p0 : Nat)  (hT : gH (dC, dI) kA (SHc nC nS) G H0) (hr_o0 : G o0 = some 93) (hr_p0 : G p0 = some 5) (hgC : 0 ≤ nC ∧ nC ≤ 40) (hgS : 0 ≤ nS ∧ nS ≤ 60) : Met l yX2_copyFrom w_c_copyG_i ({ frames := 2, cells := 0, slots := 0, locals := 60 }) (va_Pc [.ref o0, .ref p0] (fun U => U.heap = H0 ∧ va_K (dC, dI) vwCl (tyl kA) U ∧ EVC adK adV (gA G H0.size) U U.heap)) (va_Qv (fun (u : Unit) => True) (fun (_ : Unit) (t : State) => gH (dC, dI) kA (SHc nC nS) G t.heap ∧ gF (dC, dI) SKc G ([(77, 0), (78, 0), (79, 0), (80, 0), (81, 0), (82, 0), (83, 0), (84, 0), (93, 11), (93, 12), (93, 13), (93, 14)] : List (Nat × Nat)) H0 t.heap) (gA G H0.size)) 0 0 (gA G H0.size) := by
  refine Met.ofW (cc := cX2_copyFrom) (maxL := 2) (ret := none) (by decide) rfl ?_
  intro p e s m args below meth c s₁ B hml hv
  obtain ⟨rfl, hH0, hK, hE⟩ := hv
  have hx := B.exec
  have hb := B.bytes
  have hr := B.returns
  have hts := atoms_spec (ws := w_c_copyG_i) B.pre
  have hown : s.vm.findClass RX2 = some m.cls := findClass_of_methodNamed B.named
  have hlocks := B.notSynchronized
  subst hH0
  generalize hAe : gA G s.heap.size = A at hE ⊢
  have hA : ∀ q : Nat, s.heap.size ≤ q → A q := fun q h => by rw [← hAe]; exact Or.inr h
  have hG := gA_of hAe
  have hS : va_S A s.heap s.heap [] := va_S.rf
  have hF : gF (dC, dI) SKc G ([(77, 0), (78, 0), (79, 0), (80, 0), (81, 0), (82, 0), (83, 0), (84, 0), (93, 11), (93, 12), (93, 13), (93, 14)] : List (Nat × Nat)) s.heap s.heap := gF.rf
  have hl := lv_entry ([.ref o0, .ref p0]) (n := 2) (Nat.le_of_ble_eq_true rfl)
  rw [lg_entry_eq]
  generalize (lg_sl ([.ref o0, .ref p0]) ++ List.replicate (2 - (lg_sl ([.ref o0, .ref p0])).length) Slot.unset).toArray = ls at hl ⊢
  have hl : lv_has ls 2 [(0, .ref o0), (1, .ref p0)] := hl
  refine lv_aload_n hx hb dX2_copyFrom_0 rfl (lv_at hl 1 rfl) ?_
  refine tw_get hx hb hts bF2_X2 hown hK hT hr_p0 shc_5 rfl 0 (by decide) (ht_at2 hts 0 rfl) (fun _ h9 => h9) dX2_copyFrom_1 (fun v9 m1 h9 => ?_)
  obtain ⟨b2, rfl, hg3⟩ := h9 _ rfl
  refine lv_iconst (v := 0) hx hb dX2_copyFrom_4 (by decide) ?_
  refine lv_aload_n hx hb dX2_copyFrom_5 rfl (lv_at hl 0 rfl) ?_
  refine tw_get hx hb hts bF2_X2 hown hK hT hr_o0 shc_93 rfl 0 (by decide) (ht_at2 hts 0 rfl) (fun _ h9 => h9) dX2_copyFrom_6 (fun v9 m4 h9 => ?_)
  obtain ⟨b5, rfl, hg6⟩ := h9 _ rfl
  refine lv_iconst (v := 0) hx hb dX2_copyFrom_9 (by decide) ?_
  refine lv_bipush (v := 96) hx hb dX2_copyFrom_10 (by decide) ?_
  refine tw_copy (ty := .boolean) hx hb (hml.trans hl.1.symm) hown (ht_at2 hts 1 rfl) (ht_at2 hts 2 rfl) (ht_at2 hts 3 rfl) (ht_at2 hts 4 rfl) hK hT hG hS hg3 hg6 shc_25 shc_77 rfl rfl (by decide) (by decide) (by decide) (by decide) (by decide) (fun _ _ h9 => by obtain ⟨x9, e9, a9, b9⟩ := h9; exact ⟨x9, e9, fit_b ⟨a9, b9⟩⟩) (fun _ _ _ h9 => h9) (Nat.le_of_ble_eq_true rfl) (Nat.le_of_ble_eq_true rfl) dX2_copyFrom_12 (fun H locs hT oq hS => ?_)
  have hF := hF.ast hg6 skc_77 oq (by decide)
  refine lv_aload_n hx hb dX2_copyFrom_15 rfl (lv_at hl 1 rfl) ?_
  refine tw_get hx hb hts bF2_X2 hown hK hT hr_p0 shc_5 rfl 1 (by decide) (ht_at2 hts 5 rfl) (fun _ h9 => h9) dX2_copyFrom_16 (fun v9 m9 h9 => ?_)
  obtain ⟨b10, rfl, hg11⟩ := h9 _ rfl
  refine lv_iconst (v := 0) hx hb dX2_copyFrom_19 (by decide) ?_
  refine lv_aload_n hx hb dX2_copyFrom_20 rfl (lv_at hl 0 rfl) ?_
  refine tw_get hx hb hts bF2_X2 hown hK hT hr_o0 shc_93 rfl 1 (by decide) (ht_at2 hts 5 rfl) (fun _ h9 => h9) dX2_copyFrom_21 (fun v9 m12 h9 => ?_)
  obtain ⟨b13, rfl, hg14⟩ := h9 _ rfl
  refine lv_iconst (v := 0) hx hb dX2_copyFrom_24 (by decide) ?_
  refine lv_bipush (v := 96) hx hb dX2_copyFrom_25 (by decide) ?_
  refine tw_copy (ty := .int) hx hb (hml.trans hl.1.symm) hown (ht_at2 hts 1 rfl) (ht_at2 hts 2 rfl) (ht_at2 hts 3 rfl) (ht_at2 hts 4 rfl) hK hT hG hS hg11 hg14 shc_26 shc_78 rfl rfl (by decide) (by decide) (by decide) (by decide) (by decide) (fun _ _ h9 => by obtain ⟨x9, e9, _⟩ := h9; exact ⟨x9, e9, rfl⟩) (fun _ _ _ h9 => h9) (Nat.le_of_ble_eq_true rfl) (Nat.le_of_ble_eq_true rfl) dX2_copyFrom_27 (fun H locs hT oq hS => ?_)
  have hF := hF.ast hg14 skc_78 oq (by decide)
  refine lv_aload_n hx hb dX2_copyFrom_30 rfl (lv_at hl 1 rfl) ?_
  refine tw_get hx hb hts bF2_X2 hown hK hT hr_p0 shc_5 rfl 2 (by decide) (ht_at2 hts 6 rfl) (fun _ h9 => h9) dX2_copyFrom_31 (fun v9 m19 h9 => ?_)
  obtain ⟨b20, rfl, hg21⟩ := h9 _ rfl
  refine lv_iconst (v := 0) hx hb dX2_copyFrom_34 (by decide) ?_
  refine lv_aload_n hx hb dX2_copyFrom_35 rfl (lv_at hl 0 rfl) ?_
  refine tw_get hx hb hts bF2_X2 hown hK hT hr_o0 shc_93 rfl 2 (by decide) (ht_at2 hts 6 rfl) (fun _ h9 => h9) dX2_copyFrom_36 (fun v9 m22 h9 => ?_)
  obtain ⟨b23, rfl, hg24⟩ := h9 _ rfl
  refine lv_iconst (v := 0) hx hb dX2_copyFrom_39 (by decide) ?_
  refine lv_bipush (v := 96) hx hb dX2_copyFrom_40 (by decide) ?_
  refine tw_copy (ty := .int) hx hb (hml.trans hl.1.symm) hown (ht_at2 hts 1 rfl) (ht_at2 hts 2 rfl) (ht_at2 hts 3 rfl) (ht_at2 hts 4 rfl) hK hT hG hS hg21 hg24 shc_27 shc_79 rfl rfl (by decide) (by decide) (by decide) (by decide) (by decide) (fun _ _ h9 => by obtain ⟨x9, e9, _⟩ := h9; exact ⟨x9, e9, rfl⟩) (fun _ _ _ h9 => h9) (Nat.le_of_ble_eq_true rfl) (Nat.le_of_ble_eq_true rfl) dX2_copyFrom_42 (fun H locs hT oq hS => ?_)
  have hF := hF.ast hg24 skc_79 oq (by decide)
  refine lv_aload_n hx hb dX2_copyFrom_45 rfl (lv_at hl 1 rfl) ?_
  refine tw_get hx hb hts bF2_X2 hown hK hT hr_p0 shc_5 rfl 3 (by decide) (ht_at2 hts 7 rfl) (fun _ h9 => h9) dX2_copyFrom_46 (fun v9 m31 h9 => ?_)
  obtain ⟨b32, rfl, hg33⟩ := h9 _ rfl
  refine lv_iconst (v := 0) hx hb dX2_copyFrom_49 (by decide) ?_
  refine lv_aload_n hx hb dX2_copyFrom_50 rfl (lv_at hl 0 rfl) ?_
  refine tw_get hx hb hts bF2_X2 hown hK hT hr_o0 shc_93 rfl 3 (by decide) (ht_at2 hts 7 rfl) (fun _ h9 => h9) dX2_copyFrom_51 (fun v9 m34 h9 => ?_)
  obtain ⟨b35, rfl, hg36⟩ := h9 _ rfl
  refine lv_iconst (v := 0) hx hb dX2_copyFrom_54 (by decide) ?_
  refine lv_bipush (v := 96) hx hb dX2_copyFrom_55 (by decide) ?_
  refine tw_copy (ty := .int) hx hb (hml.trans hl.1.symm) hown (ht_at2 hts 1 rfl) (ht_at2 hts 2 rfl) (ht_at2 hts 3 rfl) (ht_at2 hts 4 rfl) hK hT hG hS hg33 hg36 shc_28 shc_80 rfl rfl (by decide) (by decide) (by decide) (by decide) (by decide) (fun _ _ h9 => by obtain ⟨x9, e9, _⟩ := h9; exact ⟨x9, e9, rfl⟩) (fun _ _ _ h9 => h9) (Nat.le_of_ble_eq_true rfl) (Nat.le_of_ble_eq_true rfl) dX2_copyFrom_57 (fun H locs hT oq hS => ?_)
  have hF := hF.ast hg36 skc_80 oq (by decide)
  refine lv_aload_n hx hb dX2_copyFrom_60 rfl (lv_at hl 1 rfl) ?_
  refine tw_get hx hb hts bF2_X2 hown hK hT hr_p0 shc_5 rfl 4 (by decide) (ht_at2 hts 8 rfl) (fun _ h9 => h9) dX2_copyFrom_61 (fun v9 m45 h9 => ?_)
  obtain ⟨b46, rfl, hg47⟩ := h9 _ rfl
  refine lv_iconst (v := 0) hx hb dX2_copyFrom_64 (by decide) ?_
  refine lv_aload_n hx hb dX2_copyFrom_65 rfl (lv_at hl 0 rfl) ?_
  refine tw_get hx hb hts bF2_X2 hown hK hT hr_o0 shc_93 rfl 4 (by decide) (ht_at2 hts 8 rfl) (fun _ h9 => h9) dX2_copyFrom_66 (fun v9 m48 h9 => ?_)
  obtain ⟨b49, rfl, hg50⟩ := h9 _ rfl
  refine lv_iconst (v := 0) hx hb dX2_copyFrom_69 (by decide) ?_
  refine lv_bipush (v := 96) hx hb dX2_copyFrom_70 (by decide) ?_
  refine tw_copy (ty := .int) hx hb (hml.trans hl.1.symm) hown (ht_at2 hts 1 rfl) (ht_at2 hts 2 rfl) (ht_at2 hts 3 rfl) (ht_at2 hts 4 rfl) hK hT hG hS hg47 hg50 shc_29 shc_81 rfl rfl (by decide) (by decide) (by decide) (by decide) (by decide) (fun _ _ h9 => by obtain ⟨x9, e9, _⟩ := h9; exact ⟨x9, e9, rfl⟩) (fun _ _ _ h9 => h9) (Nat.le_of_ble_eq_true rfl) (Nat.le_of_ble_eq_true rfl) dX2_copyFrom_72 (fun H locs hT oq hS => ?_)
  have hF := hF.ast hg50 skc_81 oq (by decide)
  refine lv_aload_n hx hb dX2_copyFrom_75 rfl (lv_at hl 1 rfl) ?_
  refine tw_get hx hb hts bF2_X2 hown hK hT hr_p0 shc_5 rfl 5 (by decide) (ht_at2 hts 9 rfl) (fun _ h9 => h9) dX2_copyFrom_76 (fun v9 m61 h9 => ?_)
  obtain ⟨b62, rfl, hg63⟩ := h9 _ rfl
  refine lv_iconst (v := 0) hx hb dX2_copyFrom_79 (by decide) ?_
  refine lv_aload_n hx hb dX2_copyFrom_80 rfl (lv_at hl 0 rfl) ?_
  refine tw_get hx hb hts bF2_X2 hown hK hT hr_o0 shc_93 rfl 5 (by decide) (ht_at2 hts 9 rfl) (fun _ h9 => h9) dX2_copyFrom_81 (fun v9 m64 h9 => ?_)
  obtain ⟨b65, rfl, hg66⟩ := h9 _ rfl
  refine lv_iconst (v := 0) hx hb dX2_copyFrom_84 (by decide) ?_
  refine lv_bipush (v := 96) hx hb dX2_copyFrom_85 (by decide) ?_
  refine tw_copy (ty := .int) hx hb (hml.trans hl.1.symm) hown (ht_at2 hts 1 rfl) (ht_at2 hts 2 rfl) (ht_at2 hts 3 rfl) (ht_at2 hts 4 rfl) hK hT hG hS hg63 hg66 shc_30 shc_82 rfl rfl (by decide) (by decide) (by decide) (by decide) (by decide) (fun _ _ h9 => by obtain ⟨x9, e9, _⟩ := h9; exact ⟨x9, e9, rfl⟩) (fun _ _ _ h9 => h9) (Nat.le_of_ble_eq_true rfl) (Nat.le_of_ble_eq_true rfl) dX2_copyFrom_87 (fun H locs hT oq hS => ?_)
  have hF := hF.ast hg66 skc_82 oq (by decide)
  refine lv_aload_n hx hb dX2_copyFrom_90 rfl (lv_at hl 1 rfl) ?_
  refine tw_get hx hb hts bF2_X2 hown hK hT hr_p0 shc_5 rfl 6 (by decide) (ht_at2 hts 10 rfl) (fun _ h9 => h9) dX2_copyFrom_91 (fun v9 m79 h9 => ?_)
  obtain ⟨b80, rfl, hg81⟩ := h9 _ rfl
  refine lv_iconst (v := 0) hx hb dX2_copyFrom_94 (by decide) ?_
  refine lv_aload_n hx hb dX2_copyFrom_95 rfl (lv_at hl 0 rfl) ?_
  refine tw_get hx hb hts bF2_X2 hown hK hT hr_o0 shc_93 rfl 6 (by decide) (ht_at2 hts 10 rfl) (fun _ h9 => h9) dX2_copyFrom_96 (fun v9 m82 h9 => ?_)
  obtain ⟨b83, rfl, hg84⟩ := h9 _ rfl
  refine lv_iconst (v := 0) hx hb dX2_copyFrom_99 (by decide) ?_
  refine lv_bipush (v := 96) hx hb dX2_copyFrom_100 (by decide) ?_
  refine tw_copy (ty := .int) hx hb (hml.trans hl.1.symm) hown (ht_at2 hts 1 rfl) (ht_at2 hts 2 rfl) (ht_at2 hts 3 rfl) (ht_at2 hts 4 rfl) hK hT hG hS hg81 hg84 shc_31 shc_83 rfl rfl (by decide) (by decide) (by decide) (by decide) (by decide) (fun _ _ h9 => by obtain ⟨x9, e9, _⟩ := h9; exact ⟨x9, e9, rfl⟩) (fun _ _ _ h9 => h9) (Nat.le_of_ble_eq_true rfl) (Nat.le_of_ble_eq_true rfl) dX2_copyFrom_102 (fun H locs hT oq hS => ?_)
  have hF := hF.ast hg84 skc_83 oq (by decide)
  refine lv_aload_n hx hb dX2_copyFrom_105 rfl (lv_at hl 1 rfl) ?_
  refine tw_get hx hb hts bF2_X2 hown hK hT hr_p0 shc_5 rfl 7 (by decide) (ht_at2 hts 11 rfl) (fun _ h9 => h9) dX2_copyFrom_106 (fun v9 m99 h9 => ?_)
  obtain ⟨b100, rfl, hg101⟩ := h9 _ rfl
  refine lv_iconst (v := 0) hx hb dX2_copyFrom_109 (by decide) ?_
  refine lv_aload_n hx hb dX2_copyFrom_110 rfl (lv_at hl 0 rfl) ?_
  refine tw_get hx hb hts bF2_X2 hown hK hT hr_o0 shc_93 rfl 7 (by decide) (ht_at2 hts 11 rfl) (fun _ h9 => h9) dX2_copyFrom_111 (fun v9 m102 h9 => ?_)
  obtain ⟨b103, rfl, hg104⟩ := h9 _ rfl
  refine lv_iconst (v := 0) hx hb dX2_copyFrom_114 (by decide) ?_
  refine lv_bipush (v := 96) hx hb dX2_copyFrom_115 (by decide) ?_
  refine tw_copy (ty := .int) hx hb (hml.trans hl.1.symm) hown (ht_at2 hts 1 rfl) (ht_at2 hts 2 rfl) (ht_at2 hts 3 rfl) (ht_at2 hts 4 rfl) hK hT hG hS hg101 hg104 shc_32 shc_84 rfl rfl (by decide) (by decide) (by decide) (by decide) (by decide) (fun _ _ h9 => by obtain ⟨x9, e9, _⟩ := h9; exact ⟨x9, e9, rfl⟩) (fun _ _ _ h9 => h9) (Nat.le_of_ble_eq_true rfl) (Nat.le_of_ble_eq_true rfl) dX2_copyFrom_117 (fun H locs hT oq hS => ?_)
  have hF := hF.ast hg104 skc_84 oq (by decide)
  refine lv_aload_n hx hb dX2_copyFrom_120 rfl (lv_at hl 0 rfl) ?_
  refine lv_aload_n hx hb dX2_copyFrom_121 rfl (lv_at hl 1 rfl) ?_
  refine tw_get hx hb hts bF2_X2 hown hK hT hr_p0 shc_5 rfl 11 (by decide) (ht_at2 hts 12 rfl) (fun _ h9 => h9) dX2_copyFrom_122 (fun v9 m121 h9 => ?_)
  obtain ⟨x122, rfl, gx122, kx122⟩ := h9 _ rfl
  refine tw_put (v := .int x122) (ty := .int) hx hb hts bF2_X2 tyX2 tyX2_ok nmX2 hown hK hT hG hS hr_o0 shc_93 rfl 11 (by decide) (ht_at2 hts 12 rfl) (fun _ h9 => h9) rfl (by decide +kernel) rfl rfl (gl_at rfl (gi_all _)) dX2_copyFrom_125 (fun H locs hT oq m123 oj hS => ?_)
  have hF := hF.put hr_o0 skc_93 oq oj (by decide)
  refine lv_aload_n hx hb dX2_copyFrom_128 rfl (lv_at hl 0 rfl) ?_
  refine lv_aload_n hx hb dX2_copyFrom_129 rfl (lv_at hl 1 rfl) ?_
  refine tw_get hx hb hts bF2_X2 hown hK hT hr_p0 shc_5 rfl 12 (by decide) (ht_at2 hts 13 rfl) (fun _ h9 => h9) dX2_copyFrom_130 (fun v9 m141 h9 => ?_)
  obtain ⟨x142, rfl, gx142, kx142⟩ := h9 _ rfl
  refine tw_put (v := .int x142) (ty := .int) hx hb hts bF2_X2 tyX2 tyX2_ok nmX2 hown hK hT hG hS hr_o0 shc_93 rfl 12 (by decide) (ht_at2 hts 13 rfl) (fun _ h9 => h9) rfl (by decide +kernel) rfl rfl (gl_at rfl (gi_all _)) dX2_copyFrom_133 (fun H locs hT oq m143 oj hS => ?_)
  have hF := hF.put hr_o0 skc_93 oq oj (by decide)
  refine lv_aload_n hx hb dX2_copyFrom_136 rfl (lv_at hl 0 rfl) ?_
  refine lv_aload_n hx hb dX2_copyFrom_137 rfl (lv_at hl 1 rfl) ?_
  refine tw_get hx hb hts bF2_X2 hown hK hT hr_p0 shc_5 rfl 13 (by decide) (ht_at2 hts 14 rfl) (fun _ h9 => h9) dX2_copyFrom_138 (fun v9 m163 h9 => ?_)
  obtain ⟨x164, rfl, gx164, kx164⟩ := h9 _ rfl
  refine tw_put (v := .int x164) (ty := .int) hx hb hts bF2_X2 tyX2 tyX2_ok nmX2 hown hK hT hG hS hr_o0 shc_93 rfl 13 (by decide) (ht_at2 hts 14 rfl) (fun _ h9 => h9) rfl (by decide +kernel) rfl rfl (gl_at rfl (gi_all _)) dX2_copyFrom_141 (fun H locs hT oq m165 oj hS => ?_)
  have hF := hF.put hr_o0 skc_93 oq oj (by decide)
  refine lv_aload_n hx hb dX2_copyFrom_144 rfl (lv_at hl 0 rfl) ?_
  refine lv_aload_n hx hb dX2_copyFrom_145 rfl (lv_at hl 1 rfl) ?_
  refine tw_get hx hb hts bF2_X2 hown hK hT hr_p0 shc_5 rfl 14 (by decide) (ht_at2 hts 15 rfl) (fun _ h9 => h9) dX2_copyFrom_146 (fun v9 m187 h9 => ?_)
  obtain ⟨x188, rfl, gx188, kx188⟩ := h9 _ rfl
  refine tw_put (v := .int x188) (ty := .int) hx hb hts bF2_X2 tyX2 tyX2_ok nmX2 hown hK hT hG hS hr_o0 shc_93 rfl 14 (by decide) (ht_at2 hts 15 rfl) (fun _ h9 => h9) rfl (by decide +kernel) rfl rfl (gl_at rfl (gi_all _)) dX2_copyFrom_149 (fun H locs hT oq m189 oj hS => ?_)
  have hF := hF.put hr_o0 skc_93 oq oj (by decide)
  exact W.vret hx hb hr (fun t ht hW => ⟨⟨(), rfl, (by exact trivial), by (try dsimp only); rw [ht]; exact ⟨hT, hF⟩⟩, hS.F ht⟩) hS.2.2 dX2_copyFrom_152
def w_c_copyG_l : List Cond := .code yX2_copyFrom cX2_copyFrom 2 none :: (HAppend.hAppend (α := List Cond) (β := List Cond) (γ := List Cond) [.fieldLink RX2 9 "SeaLand$Ground" "isLand" "[Z", .methodLink RX2 95 arraycopyName, .native arraycopyName, .static arraycopyName, .initialized "java/lang/System", .fieldLink RX2 15 "SeaLand$Ground" "height" "[I", .fieldLink RX2 19 "SeaLand$Ground" "soil" "[I", .fieldLink RX2 22 "SeaLand$Ground" "ditch" "[I", .fieldLink RX2 25 "SeaLand$Ground" "water" "[I", .fieldLink RX2 28 "SeaLand$Ground" "salt" "[I", .fieldLink RX2 31 "SeaLand$Ground" "dry" "[I", .fieldLink RX2 34 "SeaLand$Ground" "wet" "[I", .fieldLink RX2 54 "SeaLand$Ground" "rained" "I", .fieldLink RX2 57 "SeaLand$Ground" "cameIn" "I", .fieldLink RX2 64 "SeaLand$Ground" "wentOut" "I", .fieldLink RX2 50 "SeaLand$Ground" "toldMore" "I"] bs2)
set_option maxHeartbeats 4000000 in
set_option maxRecDepth 100000 in
theorem c_copyG_l (l : Launch) (dC : Nat → ClassId) (dI : Nat → Nat → Nat) (kA : Nat → ClassId) (adK adV : Nat → Nat) (G : gT) (H0 : Heap) (nC nS : Int) (o0 : Nat) (p0 : Nat)  (hT : gH (dC, dI) kA (SHc nC nS) G H0) (hr_o0 : G o0 = some 5) (hr_p0 : G p0 = some 93) (hgC : 0 ≤ nC ∧ nC ≤ 40) (hgS : 0 ≤ nS ∧ nS ≤ 60) : Met l yX2_copyFrom w_c_copyG_l ({ frames := 2, cells := 0, slots := 0, locals := 60 }) (va_Pc [.ref o0, .ref p0] (fun U => U.heap = H0 ∧ va_K (dC, dI) vwCl (tyl kA) U ∧ EVC adK adV (gA G H0.size) U U.heap)) (va_Qv (fun (u : Unit) => True) (fun (_ : Unit) (t : State) => gH (dC, dI) kA (SHc nC nS) G t.heap ∧ gF (dC, dI) SKc G ([(5, 11), (5, 12), (5, 13), (5, 14), (25, 0), (26, 0), (27, 0), (28, 0), (29, 0), (30, 0), (31, 0), (32, 0)] : List (Nat × Nat)) H0 t.heap) (gA G H0.size)) 0 0 (gA G H0.size) := by
  refine Met.ofW (cc := cX2_copyFrom) (maxL := 2) (ret := none) (by decide) rfl ?_
  intro p e s m args below meth c s₁ B hml hv
  obtain ⟨rfl, hH0, hK, hE⟩ := hv
  have hx := B.exec
  have hb := B.bytes
  have hr := B.returns
  have hts := atoms_spec (ws := w_c_copyG_l) B.pre
  have hown : s.vm.findClass RX2 = some m.cls := findClass_of_methodNamed B.named
  have hlocks := B.notSynchronized
  subst hH0
  generalize hAe : gA G s.heap.size = A at hE ⊢
  have hA : ∀ q : Nat, s.heap.size ≤ q → A q := fun q h => by rw [← hAe]; exact Or.inr h
  have hG := gA_of hAe
  have hS : va_S A s.heap s.heap [] := va_S.rf
  have hF : gF (dC, dI) SKc G ([(5, 11), (5, 12), (5, 13), (5, 14), (25, 0), (26, 0), (27, 0), (28, 0), (29, 0), (30, 0), (31, 0), (32, 0)] : List (Nat × Nat)) s.heap s.heap := gF.rf
  have hl := lv_entry ([.ref o0, .ref p0]) (n := 2) (Nat.le_of_ble_eq_true rfl)
  rw [lg_entry_eq]
  generalize (lg_sl ([.ref o0, .ref p0]) ++ List.replicate (2 - (lg_sl ([.ref o0, .ref p0])).length) Slot.unset).toArray = ls at hl ⊢
  have hl : lv_has ls 2 [(0, .ref o0), (1, .ref p0)] := hl
  refine lv_aload_n hx hb dX2_copyFrom_0 rfl (lv_at hl 1 rfl) ?_
  refine tw_get hx hb hts bF2_X2 hown hK hT hr_p0 shc_93 rfl 0 (by decide) (ht_at2 hts 0 rfl) (fun _ h9 => h9) dX2_copyFrom_1 (fun v9 m1 h9 => ?_)
  obtain ⟨b2, rfl, hg3⟩ := h9 _ rfl
  refine lv_iconst (v := 0) hx hb dX2_copyFrom_4 (by decide) ?_
  refine lv_aload_n hx hb dX2_copyFrom_5 rfl (lv_at hl 0 rfl) ?_
  refine tw_get hx hb hts bF2_X2 hown hK hT hr_o0 shc_5 rfl 0 (by decide) (ht_at2 hts 0 rfl) (fun _ h9 => h9) dX2_copyFrom_6 (fun v9 m4 h9 => ?_)
  obtain ⟨b5, rfl, hg6⟩ := h9 _ rfl
  refine lv_iconst (v := 0) hx hb dX2_copyFrom_9 (by decide) ?_
  refine lv_bipush (v := 96) hx hb dX2_copyFrom_10 (by decide) ?_
  refine tw_copy (ty := .boolean) hx hb (hml.trans hl.1.symm) hown (ht_at2 hts 1 rfl) (ht_at2 hts 2 rfl) (ht_at2 hts 3 rfl) (ht_at2 hts 4 rfl) hK hT hG hS hg3 hg6 shc_77 shc_25 rfl rfl (by decide) (by decide) (by decide) (by decide) (by decide) (fun _ _ h9 => by obtain ⟨x9, e9, a9, b9⟩ := h9; exact ⟨x9, e9, fit_b ⟨a9, b9⟩⟩) (fun _ _ _ h9 => h9) (Nat.le_of_ble_eq_true rfl) (Nat.le_of_ble_eq_true rfl) dX2_copyFrom_12 (fun H locs hT oq hS => ?_)
  have hF := hF.ast hg6 skc_25 oq (by decide)
  refine lv_aload_n hx hb dX2_copyFrom_15 rfl (lv_at hl 1 rfl) ?_
  refine tw_get hx hb hts bF2_X2 hown hK hT hr_p0 shc_93 rfl 1 (by decide) (ht_at2 hts 5 rfl) (fun _ h9 => h9) dX2_copyFrom_16 (fun v9 m9 h9 => ?_)
  obtain ⟨b10, rfl, hg11⟩ := h9 _ rfl
  refine lv_iconst (v := 0) hx hb dX2_copyFrom_19 (by decide) ?_
  refine lv_aload_n hx hb dX2_copyFrom_20 rfl (lv_at hl 0 rfl) ?_
  refine tw_get hx hb hts bF2_X2 hown hK hT hr_o0 shc_5 rfl 1 (by decide) (ht_at2 hts 5 rfl) (fun _ h9 => h9) dX2_copyFrom_21 (fun v9 m12 h9 => ?_)
  obtain ⟨b13, rfl, hg14⟩ := h9 _ rfl
  refine lv_iconst (v := 0) hx hb dX2_copyFrom_24 (by decide) ?_
  refine lv_bipush (v := 96) hx hb dX2_copyFrom_25 (by decide) ?_
  refine tw_copy (ty := .int) hx hb (hml.trans hl.1.symm) hown (ht_at2 hts 1 rfl) (ht_at2 hts 2 rfl) (ht_at2 hts 3 rfl) (ht_at2 hts 4 rfl) hK hT hG hS hg11 hg14 shc_78 shc_26 rfl rfl (by decide) (by decide) (by decide) (by decide) (by decide) (fun _ _ h9 => by obtain ⟨x9, e9, _⟩ := h9; exact ⟨x9, e9, rfl⟩) (fun _ _ _ h9 => h9) (Nat.le_of_ble_eq_true rfl) (Nat.le_of_ble_eq_true rfl) dX2_copyFrom_27 (fun H locs hT oq hS => ?_)
  have hF := hF.ast hg14 skc_26 oq (by decide)
  refine lv_aload_n hx hb dX2_copyFrom_30 rfl (lv_at hl 1 rfl) ?_
  refine tw_get hx hb hts bF2_X2 hown hK hT hr_p0 shc_93 rfl 2 (by decide) (ht_at2 hts 6 rfl) (fun _ h9 => h9) dX2_copyFrom_31 (fun v9 m19 h9 => ?_)
  obtain ⟨b20, rfl, hg21⟩ := h9 _ rfl
  refine lv_iconst (v := 0) hx hb dX2_copyFrom_34 (by decide) ?_
  refine lv_aload_n hx hb dX2_copyFrom_35 rfl (lv_at hl 0 rfl) ?_
  refine tw_get hx hb hts bF2_X2 hown hK hT hr_o0 shc_5 rfl 2 (by decide) (ht_at2 hts 6 rfl) (fun _ h9 => h9) dX2_copyFrom_36 (fun v9 m22 h9 => ?_)
  obtain ⟨b23, rfl, hg24⟩ := h9 _ rfl
  refine lv_iconst (v := 0) hx hb dX2_copyFrom_39 (by decide) ?_
  refine lv_bipush (v := 96) hx hb dX2_copyFrom_40 (by decide) ?_
  refine tw_copy (ty := .int) hx hb (hml.trans hl.1.symm) hown (ht_at2 hts 1 rfl) (ht_at2 hts 2 rfl) (ht_at2 hts 3 rfl) (ht_at2 hts 4 rfl) hK hT hG hS hg21 hg24 shc_79 shc_27 rfl rfl (by decide) (by decide) (by decide) (by decide) (by decide) (fun _ _ h9 => by obtain ⟨x9, e9, _⟩ := h9; exact ⟨x9, e9, rfl⟩) (fun _ _ _ h9 => h9) (Nat.le_of_ble_eq_true rfl) (Nat.le_of_ble_eq_true rfl) dX2_copyFrom_42 (fun H locs hT oq hS => ?_)
  have hF := hF.ast hg24 skc_27 oq (by decide)
  refine lv_aload_n hx hb dX2_copyFrom_45 rfl (lv_at hl 1 rfl) ?_
  refine tw_get hx hb hts bF2_X2 hown hK hT hr_p0 shc_93 rfl 3 (by decide) (ht_at2 hts 7 rfl) (fun _ h9 => h9) dX2_copyFrom_46 (fun v9 m31 h9 => ?_)
  obtain ⟨b32, rfl, hg33⟩ := h9 _ rfl
  refine lv_iconst (v := 0) hx hb dX2_copyFrom_49 (by decide) ?_
  refine lv_aload_n hx hb dX2_copyFrom_50 rfl (lv_at hl 0 rfl) ?_
  refine tw_get hx hb hts bF2_X2 hown hK hT hr_o0 shc_5 rfl 3 (by decide) (ht_at2 hts 7 rfl) (fun _ h9 => h9) dX2_copyFrom_51 (fun v9 m34 h9 => ?_)
  obtain ⟨b35, rfl, hg36⟩ := h9 _ rfl
  refine lv_iconst (v := 0) hx hb dX2_copyFrom_54 (by decide) ?_
  refine lv_bipush (v := 96) hx hb dX2_copyFrom_55 (by decide) ?_
  refine tw_copy (ty := .int) hx hb (hml.trans hl.1.symm) hown (ht_at2 hts 1 rfl) (ht_at2 hts 2 rfl) (ht_at2 hts 3 rfl) (ht_at2 hts 4 rfl) hK hT hG hS hg33 hg36 shc_80 shc_28 rfl rfl (by decide) (by decide) (by decide) (by decide) (by decide) (fun _ _ h9 => by obtain ⟨x9, e9, _⟩ := h9; exact ⟨x9, e9, rfl⟩) (fun _ _ _ h9 => h9) (Nat.le_of_ble_eq_true rfl) (Nat.le_of_ble_eq_true rfl) dX2_copyFrom_57 (fun H locs hT oq hS => ?_)
  have hF := hF.ast hg36 skc_28 oq (by decide)
  refine lv_aload_n hx hb dX2_copyFrom_60 rfl (lv_at hl 1 rfl) ?_
  refine tw_get hx hb hts bF2_X2 hown hK hT hr_p0 shc_93 rfl 4 (by decide) (ht_at2 hts 8 rfl) (fun _ h9 => h9) dX2_copyFrom_61 (fun v9 m45 h9 => ?_)
  obtain ⟨b46, rfl, hg47⟩ := h9 _ rfl
  refine lv_iconst (v := 0) hx hb dX2_copyFrom_64 (by decide) ?_
  refine lv_aload_n hx hb dX2_copyFrom_65 rfl (lv_at hl 0 rfl) ?_
  refine tw_get hx hb hts bF2_X2 hown hK hT hr_o0 shc_5 rfl 4 (by decide) (ht_at2 hts 8 rfl) (fun _ h9 => h9) dX2_copyFrom_66 (fun v9 m48 h9 => ?_)
  obtain ⟨b49, rfl, hg50⟩ := h9 _ rfl
  refine lv_iconst (v := 0) hx hb dX2_copyFrom_69 (by decide) ?_
  refine lv_bipush (v := 96) hx hb dX2_copyFrom_70 (by decide) ?_
  refine tw_copy (ty := .int) hx hb (hml.trans hl.1.symm) hown (ht_at2 hts 1 rfl) (ht_at2 hts 2 rfl) (ht_at2 hts 3 rfl) (ht_at2 hts 4 rfl) hK hT hG hS hg47 hg50 shc_81 shc_29 rfl rfl (by decide) (by decide) (by decide) (by decide) (by decide) (fun _ _ h9 => by obtain ⟨x9, e9, _⟩ := h9; exact ⟨x9, e9, rfl⟩) (fun _ _ _ h9 => h9) (Nat.le_of_ble_eq_true rfl) (Nat.le_of_ble_eq_true rfl) dX2_copyFrom_72 (fun H locs hT oq hS => ?_)
  have hF := hF.ast hg50 skc_29 oq (by decide)
  refine lv_aload_n hx hb dX2_copyFrom_75 rfl (lv_at hl 1 rfl) ?_
  refine tw_get hx hb hts bF2_X2 hown hK hT hr_p0 shc_93 rfl 5 (by decide) (ht_at2 hts 9 rfl) (fun _ h9 => h9) dX2_copyFrom_76 (fun v9 m61 h9 => ?_)
  obtain ⟨b62, rfl, hg63⟩ := h9 _ rfl
  refine lv_iconst (v := 0) hx hb dX2_copyFrom_79 (by decide) ?_
  refine lv_aload_n hx hb dX2_copyFrom_80 rfl (lv_at hl 0 rfl) ?_
  refine tw_get hx hb hts bF2_X2 hown hK hT hr_o0 shc_5 rfl 5 (by decide) (ht_at2 hts 9 rfl) (fun _ h9 => h9) dX2_copyFrom_81 (fun v9 m64 h9 => ?_)
  obtain ⟨b65, rfl, hg66⟩ := h9 _ rfl
  refine lv_iconst (v := 0) hx hb dX2_copyFrom_84 (by decide) ?_
  refine lv_bipush (v := 96) hx hb dX2_copyFrom_85 (by decide) ?_
  refine tw_copy (ty := .int) hx hb (hml.trans hl.1.symm) hown (ht_at2 hts 1 rfl) (ht_at2 hts 2 rfl) (ht_at2 hts 3 rfl) (ht_at2 hts 4 rfl) hK hT hG hS hg63 hg66 shc_82 shc_30 rfl rfl (by decide) (by decide) (by decide) (by decide) (by decide) (fun _ _ h9 => by obtain ⟨x9, e9, _⟩ := h9; exact ⟨x9, e9, rfl⟩) (fun _ _ _ h9 => h9) (Nat.le_of_ble_eq_true rfl) (Nat.le_of_ble_eq_true rfl) dX2_copyFrom_87 (fun H locs hT oq hS => ?_)
  have hF := hF.ast hg66 skc_30 oq (by decide)
  refine lv_aload_n hx hb dX2_copyFrom_90 rfl (lv_at hl 1 rfl) ?_
  refine tw_get hx hb hts bF2_X2 hown hK hT hr_p0 shc_93 rfl 6 (by decide) (ht_at2 hts 10 rfl) (fun _ h9 => h9) dX2_copyFrom_91 (fun v9 m79 h9 => ?_)
  obtain ⟨b80, rfl, hg81⟩ := h9 _ rfl
  refine lv_iconst (v := 0) hx hb dX2_copyFrom_94 (by decide) ?_
  refine lv_aload_n hx hb dX2_copyFrom_95 rfl (lv_at hl 0 rfl) ?_
  refine tw_get hx hb hts bF2_X2 hown hK hT hr_o0 shc_5 rfl 6 (by decide) (ht_at2 hts 10 rfl) (fun _ h9 => h9) dX2_copyFrom_96 (fun v9 m82 h9 => ?_)
  obtain ⟨b83, rfl, hg84⟩ := h9 _ rfl
  refine lv_iconst (v := 0) hx hb dX2_copyFrom_99 (by decide) ?_
  refine lv_bipush (v := 96) hx hb dX2_copyFrom_100 (by decide) ?_
  refine tw_copy (ty := .int) hx hb (hml.trans hl.1.symm) hown (ht_at2 hts 1 rfl) (ht_at2 hts 2 rfl) (ht_at2 hts 3 rfl) (ht_at2 hts 4 rfl) hK hT hG hS hg81 hg84 shc_83 shc_31 rfl rfl (by decide) (by decide) (by decide) (by decide) (by decide) (fun _ _ h9 => by obtain ⟨x9, e9, _⟩ := h9; exact ⟨x9, e9, rfl⟩) (fun _ _ _ h9 => h9) (Nat.le_of_ble_eq_true rfl) (Nat.le_of_ble_eq_true rfl) dX2_copyFrom_102 (fun H locs hT oq hS => ?_)
  have hF := hF.ast hg84 skc_31 oq (by decide)
  refine lv_aload_n hx hb dX2_copyFrom_105 rfl (lv_at hl 1 rfl) ?_
  refine tw_get hx hb hts bF2_X2 hown hK hT hr_p0 shc_93 rfl 7 (by decide) (ht_at2 hts 11 rfl) (fun _ h9 => h9) dX2_copyFrom_106 (fun v9 m99 h9 => ?_)
  obtain ⟨b100, rfl, hg101⟩ := h9 _ rfl
  refine lv_iconst (v := 0) hx hb dX2_copyFrom_109 (by decide) ?_
  refine lv_aload_n hx hb dX2_copyFrom_110 rfl (lv_at hl 0 rfl) ?_
  refine tw_get hx hb hts bF2_X2 hown hK hT hr_o0 shc_5 rfl 7 (by decide) (ht_at2 hts 11 rfl) (fun _ h9 => h9) dX2_copyFrom_111 (fun v9 m102 h9 => ?_)
  obtain ⟨b103, rfl, hg104⟩ := h9 _ rfl
  refine lv_iconst (v := 0) hx hb dX2_copyFrom_114 (by decide) ?_
  refine lv_bipush (v := 96) hx hb dX2_copyFrom_115 (by decide) ?_
  refine tw_copy (ty := .int) hx hb (hml.trans hl.1.symm) hown (ht_at2 hts 1 rfl) (ht_at2 hts 2 rfl) (ht_at2 hts 3 rfl) (ht_at2 hts 4 rfl) hK hT hG hS hg101 hg104 shc_84 shc_32 rfl rfl (by decide) (by decide) (by decide) (by decide) (by decide) (fun _ _ h9 => by obtain ⟨x9, e9, _⟩ := h9; exact ⟨x9, e9, rfl⟩) (fun _ _ _ h9 => h9) (Nat.le_of_ble_eq_true rfl) (Nat.le_of_ble_eq_true rfl) dX2_copyFrom_117 (fun H locs hT oq hS => ?_)
  have hF := hF.ast hg104 skc_32 oq (by decide)
  refine lv_aload_n hx hb dX2_copyFrom_120 rfl (lv_at hl 0 rfl) ?_
  refine lv_aload_n hx hb dX2_copyFrom_121 rfl (lv_at hl 1 rfl) ?_
  refine tw_get hx hb hts bF2_X2 hown hK hT hr_p0 shc_93 rfl 11 (by decide) (ht_at2 hts 12 rfl) (fun _ h9 => h9) dX2_copyFrom_122 (fun v9 m121 h9 => ?_)
  obtain ⟨x122, rfl, gx122, kx122⟩ := h9 _ rfl
  refine tw_put (v := .int x122) (ty := .int) hx hb hts bF2_X2 tyX2 tyX2_ok nmX2 hown hK hT hG hS hr_o0 shc_5 rfl 11 (by decide) (ht_at2 hts 12 rfl) (fun _ h9 => h9) rfl (by decide +kernel) rfl rfl (gl_at rfl (gi_all _)) dX2_copyFrom_125 (fun H locs hT oq m123 oj hS => ?_)
  have hF := hF.put hr_o0 skc_5 oq oj (by decide)
  refine lv_aload_n hx hb dX2_copyFrom_128 rfl (lv_at hl 0 rfl) ?_
  refine lv_aload_n hx hb dX2_copyFrom_129 rfl (lv_at hl 1 rfl) ?_
  refine tw_get hx hb hts bF2_X2 hown hK hT hr_p0 shc_93 rfl 12 (by decide) (ht_at2 hts 13 rfl) (fun _ h9 => h9) dX2_copyFrom_130 (fun v9 m141 h9 => ?_)
  obtain ⟨x142, rfl, gx142, kx142⟩ := h9 _ rfl
  refine tw_put (v := .int x142) (ty := .int) hx hb hts bF2_X2 tyX2 tyX2_ok nmX2 hown hK hT hG hS hr_o0 shc_5 rfl 12 (by decide) (ht_at2 hts 13 rfl) (fun _ h9 => h9) rfl (by decide +kernel) rfl rfl (gl_at rfl (gi_all _)) dX2_copyFrom_133 (fun H locs hT oq m143 oj hS => ?_)
  have hF := hF.put hr_o0 skc_5 oq oj (by decide)
  refine lv_aload_n hx hb dX2_copyFrom_136 rfl (lv_at hl 0 rfl) ?_
  refine lv_aload_n hx hb dX2_copyFrom_137 rfl (lv_at hl 1 rfl) ?_
  refine tw_get hx hb hts bF2_X2 hown hK hT hr_p0 shc_93 rfl 13 (by decide) (ht_at2 hts 14 rfl) (fun _ h9 => h9) dX2_copyFrom_138 (fun v9 m163 h9 => ?_)
  obtain ⟨x164, rfl, gx164, kx164⟩ := h9 _ rfl
  refine tw_put (v := .int x164) (ty := .int) hx hb hts bF2_X2 tyX2 tyX2_ok nmX2 hown hK hT hG hS hr_o0 shc_5 rfl 13 (by decide) (ht_at2 hts 14 rfl) (fun _ h9 => h9) rfl (by decide +kernel) rfl rfl (gl_at rfl (gi_all _)) dX2_copyFrom_141 (fun H locs hT oq m165 oj hS => ?_)
  have hF := hF.put hr_o0 skc_5 oq oj (by decide)
  refine lv_aload_n hx hb dX2_copyFrom_144 rfl (lv_at hl 0 rfl) ?_
  refine lv_aload_n hx hb dX2_copyFrom_145 rfl (lv_at hl 1 rfl) ?_
  refine tw_get hx hb hts bF2_X2 hown hK hT hr_p0 shc_93 rfl 14 (by decide) (ht_at2 hts 15 rfl) (fun _ h9 => h9) dX2_copyFrom_146 (fun v9 m187 h9 => ?_)
  obtain ⟨x188, rfl, gx188, kx188⟩ := h9 _ rfl
  refine tw_put (v := .int x188) (ty := .int) hx hb hts bF2_X2 tyX2 tyX2_ok nmX2 hown hK hT hG hS hr_o0 shc_5 rfl 14 (by decide) (ht_at2 hts 15 rfl) (fun _ h9 => h9) rfl (by decide +kernel) rfl rfl (gl_at rfl (gi_all _)) dX2_copyFrom_149 (fun H locs hT oq m189 oj hS => ?_)
  have hF := hF.put hr_o0 skc_5 oq oj (by decide)
  exact W.vret hx hb hr (fun t ht hW => ⟨⟨(), rfl, (by exact trivial), by (try dsimp only); rw [ht]; exact ⟨hT, hF⟩⟩, hS.F ht⟩) hS.2.2 dX2_copyFrom_152
