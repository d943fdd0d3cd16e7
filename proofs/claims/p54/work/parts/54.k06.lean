def w_c_forget : List Cond := .code yX6_forget cX6_forget 1 none :: (HAppend.hAppend (α := List Cond) (β := List Cond) (γ := List Cond) [.fieldLink RX6 18 "SeaLand$Rows" "kept" "I", .fieldLink RX6 22 "SeaLand$Rows" "oldest" "I"] bs2)
set_option maxHeartbeats 4000000 in
set_option maxRecDepth 100000 in
theorem c_forget (l : Launch) (dC : Nat → ClassId) (dI : Nat → Nat → Nat) (kA : Nat → ClassId) (adK adV : Nat → Nat) (G : gT) (H0 : Heap) (nC nS : Int) (o0 : Nat)  (hT : gH (dC, dI) kA (SHc nC nS) G H0) (hr_o0 : G o0 = some 9) (hgC : 0 ≤ nC ∧ nC ≤ 40) (hgS : 0 ≤ nS ∧ nS ≤ 60) : Met l yX6_forget w_c_forget ({ frames := 0, cells := 0, slots := 0, locals := 0 }) (va_Pc [.ref o0] (fun U => U.heap = H0 ∧ va_K (dC, dI) vwCl (tyl kA) U ∧ EVC adK adV (gA G H0.size) U U.heap)) (va_Qv (fun (u : Unit) => True) (fun (_ : Unit) (t : State) => gH (dC, dI) kA (SHc nC nS) G t.heap ∧ gF (dC, dI) SKc G ([(9, 2), (9, 3)] : List (Nat × Nat)) H0 t.heap) (gA G H0.size)) 0 0 (gA G H0.size) := by
  refine Met.ofW (cc := cX6_forget) (maxL := 1) (ret := none) (by decide) rfl ?_
  intro p e s m args below meth c s₁ B hml hv
  obtain ⟨rfl, hH0, hK, hE⟩ := hv
  have hx := B.exec
  have hb := B.bytes
  have hr := B.returns
  have hts := atoms_spec (ws := w_c_forget) B.pre
  have hown : s.vm.findClass RX6 = some m.cls := findClass_of_methodNamed B.named
  have hlocks := B.notSynchronized
  subst hH0
  generalize hAe : gA G s.heap.size = A at hE ⊢
  have hA : ∀ q : Nat, s.heap.size ≤ q → A q := fun q h => by rw [← hAe]; exact Or.inr h
  have hG := gA_of hAe
  have hS : va_S A s.heap s.heap [] := va_S.rf
  have hF : gF (dC, dI) SKc G ([(9, 2), (9, 3)] : List (Nat × Nat)) s.heap s.heap := gF.rf
  have hl := lv_entry ([.ref o0]) (n := 1) (Nat.le_of_ble_eq_true rfl)
  rw [lg_entry_eq]
  generalize (lg_sl ([.ref o0]) ++ List.replicate (1 - (lg_sl ([.ref o0])).length) Slot.unset).toArray = ls at hl ⊢
  have hl : lv_has ls 1 [(0, .ref o0)] := hl
  refine lv_aload_n hx hb dX6_forget_0 rfl (lv_at hl 0 rfl) ?_
  refine lv_iconst (v := 0) hx hb dX6_forget_1 (by decide) ?_
  refine tw_put (v := .int 0) (ty := .int) hx hb hts bF2_X6 tyX6 tyX6_ok nmX6 hown hK hT hG hS hr_o0 shc_9 rfl 2 (by decide) (ht_at2 hts 0 rfl) (fun _ h9 => h9) rfl (by decide +kernel) rfl rfl (gl_at rfl (gi_of (show (0 : Int32).toInt = 0 from (by decide)) (by first | decide | omega) (by first | decide | omega))) dX6_forget_2 (fun H locs hT oq m1 oj hS => ?_)
  have hF := hF.put hr_o0 skc_9 oq oj (by decide)
  refine lv_aload_n hx hb dX6_forget_5 rfl (lv_at hl 0 rfl) ?_
  refine lv_iconst (v := 0) hx hb dX6_forget_6 (by decide) ?_
  refine tw_put (v := .int 0) (ty := .int) hx hb hts bF2_X6 tyX6 tyX6_ok nmX6 hown hK hT hG hS hr_o0 shc_9 rfl 3 (by decide) (ht_at2 hts 1 rfl) (fun _ h9 => h9) rfl (by decide +kernel) rfl rfl (gl_at rfl (gi_of (show (0 : Int32).toInt = 0 from (by decide)) (by first | decide | omega) (by first | decide | omega))) dX6_forget_7 (fun H locs hT oq m2 oj hS => ?_)
  have hF := hF.put hr_o0 skc_9 oq oj (by decide)
  exact W.vret hx hb hr (fun t ht hW => ⟨⟨(), rfl, (by exact trivial), by (try dsimp only); rw [ht]; exact ⟨hT, hF⟩⟩, hS.F ht⟩) hS.2.2 dX6_forget_10
def w_c_placeOf : List Cond := .code yX6_placeOf cX6_placeOf 3 (some .int) :: (HAppend.hAppend (α := List Cond) (β := List Cond) (γ := List Cond) [.fieldLink RX6 22 "SeaLand$Rows" "oldest" "I"] bs2)
set_option maxHeartbeats 4000000 in
set_option maxRecDepth 100000 in
theorem c_placeOf (l : Launch) (dC : Nat → ClassId) (dI : Nat → Nat → Nat) (kA : Nat → ClassId) (adK adV : Nat → Nat) (G : gT) (H0 : Heap) (nC nS : Int) (o0 : Nat) (p0 : Int32) (p1 : Int32)  (hT : gH (dC, dI) kA (SHc nC nS) G H0) (hr_o0 : G o0 = some 9) (hq0 : 0 ≤ p0.toInt ∧ p0.toInt ≤ 23) (hq1 : 0 ≤ p1.toInt ∧ p1.toInt ≤ 95) (hgC : 0 ≤ nC ∧ nC ≤ 40) (hgS : 0 ≤ nS ∧ nS ≤ 60) : Met l yX6_placeOf w_c_placeOf ({ frames := 0, cells := 0, slots := 0, locals := 0 }) (va_Pc [.ref o0, .int p0, .int p1] (fun U => U.heap = H0 ∧ va_K (dC, dI) vwCl (tyl kA) U ∧ EVC adK adV (gA G H0.size) U U.heap)) (va_Qi (fun (r : Int32) (u : Unit) => (0 ≤ r.toInt ∧ r.toInt ≤ 2303)) (fun (_ : Unit) (t : State) => gH (dC, dI) kA (SHc nC nS) G t.heap ∧ gF (dC, dI) SKc G ([] : List (Nat × Nat)) H0 t.heap) (gA G H0.size)) 0 0 (gA G H0.size) := by
  refine Met.ofW (cc := cX6_placeOf) (maxL := 3) (ret := (some .int)) (by decide) rfl ?_
  intro p e s m args below meth c s₁ B hml hv
  obtain ⟨rfl, hH0, hK, hE⟩ := hv
  have hx := B.exec
  have hb := B.bytes
  have hr := B.returns
  have hts := atoms_spec (ws := w_c_placeOf) B.pre
  have hown : s.vm.findClass RX6 = some m.cls := findClass_of_methodNamed B.named
  have hlocks := B.notSynchronized
  subst hH0
  generalize hAe : gA G s.heap.size = A at hE ⊢
  have hA : ∀ q : Nat, s.heap.size ≤ q → A q := fun q h => by rw [← hAe]; exact Or.inr h
  have hG := gA_of hAe
  have hS : va_S A s.heap s.heap [] := va_S.rf
  have hF : gF (dC, dI) SKc G ([] : List (Nat × Nat)) s.heap s.heap := gF.rf
  have hl := lv_entry ([.ref o0, .int p0, .int p1]) (n := 3) (Nat.le_of_ble_eq_true rfl)
  rw [lg_entry_eq]
  generalize (lg_sl ([.ref o0, .int p0, .int p1]) ++ List.replicate (3 - (lg_sl ([.ref o0, .int p0, .int p1])).length) Slot.unset).toArray = ls at hl ⊢
  have hl : lv_has ls 3 [(0, .ref o0), (1, .int p0), (2, .int p1)] := hl
  refine lv_aload_n hx hb dX6_placeOf_0 rfl (lv_at hl 0 rfl) ?_
  refine tw_get hx hb hts bF2_X6 hown hK hT hr_o0 shc_9 rfl 3 (by decide) (ht_at2 hts 0 rfl) (fun _ h9 => h9) dX6_placeOf_1 (fun v9 m1 h9 => ?_)
  obtain ⟨x2, rfl, gx2, kx2⟩ := h9 _ rfl
  refine lv_iload_n hx hb dX6_placeOf_4 rfl (lv_at hl 1 rfl) ?_
  refine lv_iadd hx hb dX6_placeOf_5 ?_
  refine lv_topi (fun x3 ex3 => ?_)
  have t4 : x3.toInt = x2.toInt + p0.toInt := ti_add ex3 rfl rfl (by omega) (by omega)
  refine lv_bipush (v := 24) hx hb dX6_placeOf_6 (by decide) ?_
  refine lv_irem hx hb dX6_placeOf_8 (by decide) ?_
  refine lv_topi (fun x5 ex5 => ?_)
  have t6 : x5.toInt = x3.toInt % 24 := ti_rem ex5 rfl (by decide) (by omega) (by omega)
  refine lv_bipush (v := 96) hx hb dX6_placeOf_9 (by decide) ?_
  refine lv_imul hx hb dX6_placeOf_11 ?_
  refine lv_topi (fun x7 ex7 => ?_)
  have t8 : x7.toInt = x5.toInt * 96 := ti_mul ex7 rfl (by decide) (by omega) (by omega)
  refine lv_iload_n hx hb dX6_placeOf_12 rfl (lv_at hl 2 rfl) ?_
  refine lv_iadd hx hb dX6_placeOf_13 ?_
  refine lv_topi (fun x9 ex9 => ?_)
  have t10 : x9.toInt = x7.toInt + p1.toInt := ti_add ex9 rfl rfl (by omega) (by omega)
  exact W.iret (v := x9) hx hb hr (fun t ht hW => ⟨⟨x9, (), rfl, (by exact (by have q8 := ti_all x9; omega)), by (try dsimp only); rw [ht]; exact ⟨hT, hF⟩⟩, hS.F ht⟩) hS.2.2 dX6_placeOf_14
def w_c_write : List Cond := .code yX6_write cX6_write 5 none :: (HAppend.hAppend (α := List Cond) (β := List Cond) (γ := List Cond) [.fieldLink RX6 18 "SeaLand$Rows" "kept" "I", .fieldLink RX6 22 "SeaLand$Rows" "oldest" "I", .code yX8_outsideAt cX8_outsideAt 4 (some .int), .fieldLink RX8 9 "SeaLand$Sky" "tides" "[I", .code yJ9_floorMod_7cf53 cJ9_floorMod_7cf53 3 (some .int), .methodLink RX8 38 yJ9_floorMod_7cf53, .static yJ9_floorMod_7cf53, .initialized RJ9, .fieldLink RX8 34 "SeaLand$Sky" "storms" "I", .fieldLink RX8 15 "SeaLand$Sky" "stormFrom" "[I", .fieldLink RX8 18 "SeaLand$Sky" "stormTo" "[I", .fieldLink RX8 21 "SeaLand$Sky" "stormMore" "[I", .methodLink RX6 34 yX8_outsideAt, .instanceMethod yX8_outsideAt, .selects RX8 yX8_outsideAt yX8_outsideAt, .initialized RX8, .code yX6_placeOf cX6_placeOf 3 (some .int), .methodLink RX6 40 yX6_placeOf, .instanceMethod yX6_placeOf, .selects RX6 yX6_placeOf yX6_placeOf, .initialized RX6, .fieldLink RX6 15 "SeaLand$Rows" "proof" "[I", .code yX2_levelOf cX2_levelOf 2 (some .int), .fieldLink RX2 15 "SeaLand$Ground" "height" "[I", .fieldLink RX2 25 "SeaLand$Ground" "water" "[I", .methodLink RX6 54 yX2_levelOf, .instanceMethod yX2_levelOf, .selects RX2 yX2_levelOf yX2_levelOf, .initialized RX2, .fieldLink RX6 9 "SeaLand$Rows" "shown" "[I"] bs2)
set_option maxHeartbeats 4000000 in
set_option maxRecDepth 100000 in
theorem c_write (l : Launch) (dC : Nat → ClassId) (dI : Nat → Nat → Nat) (kA : Nat → ClassId) (adK adV : Nat → Nat) (G : gT) (H0 : Heap) (nC nS : Int) (o0 : Nat) (p0 : Nat)  (hT : gH (dC, dI) kA (SHc nC nS) G H0) (hr_p0 : G p0 = some 6) (hr_o0 : G o0 = some 9) (hgC : 0 ≤ nC ∧ nC ≤ 40) (hgS : 0 ≤ nS ∧ nS ≤ 60) : Met l yX6_write w_c_write ({ frames := 2, cells := 0, slots := 0, locals := 45 }) (va_Pc [.ref o0, .ref p0] (fun U => U.heap = H0 ∧ va_K (dC, dI) vwCl (tyl kA) U ∧ EVC adK adV (gA G H0.size) U U.heap)) (va_Qv (fun (u : Unit) => True) (fun (_ : Unit) (t : State) => gH (dC, dI) kA (SHc nC nS) G t.heap ∧ gF (dC, dI) SKc G ([(9, 2), (9, 3), (38, 0), (39, 0)] : List (Nat × Nat)) H0 t.heap) (gA G H0.size)) 0 0 (gA G H0.size) := by
  refine Met.ofW (cc := cX6_write) (maxL := 5) (ret := none) (by decide) rfl ?_
  intro p e s m args below meth c s₁ B hml hv
  obtain ⟨rfl, hH0, hK, hE⟩ := hv
  have hx := B.exec
  have hb := B.bytes
  have hr := B.returns
  have hts := atoms_spec (ws := w_c_write) B.pre
  have hown : s.vm.findClass RX6 = some m.cls := findClass_of_methodNamed B.named
  have hlocks := B.notSynchronized
  subst hH0
  generalize hAe : gA G s.heap.size = A at hE ⊢
  have hA : ∀ q : Nat, s.heap.size ≤ q → A q := fun q h => by rw [← hAe]; exact Or.inr h
  have hG := gA_of hAe
  have hS : va_S A s.heap s.heap [] := va_S.rf
  have hF : gF (dC, dI) SKc G ([(9, 2), (9, 3), (38, 0), (39, 0)] : List (Nat × Nat)) s.heap s.heap := gF.rf
  have hl := lv_entry ([.ref o0, .ref p0]) (n := 5) (Nat.le_of_ble_eq_true rfl)
  rw [lg_entry_eq]
  generalize (lg_sl ([.ref o0, .ref p0]) ++ List.replicate (5 - (lg_sl ([.ref o0, .ref p0])).length) Slot.unset).toArray = ls at hl ⊢
  have hl : lv_has ls 5 [(0, .ref o0), (1, .ref p0)] := hl
  refine lv_aload_n hx hb dX6_write_0 rfl (lv_at hl 0 rfl) ?_
  refine tw_get hx hb hts bF2_X6 hown hK hT hr_o0 shc_9 rfl 2 (by decide) (ht_at2 hts 0 rfl) (fun _ h9 => h9) dX6_write_1 (fun v9 m1 h9 => ?_)
  obtain ⟨x2, rfl, gx2, kx2⟩ := h9 _ rfl
  refine lv_bipush (v := 24) hx hb dX6_write_4 (by decide) ?_
  have jn17 : ∀ (z14 : Int32), ((1 ≤ z14.toInt ∧ z14.toInt ≤ 24)) → ∀ (H : Heap) (locs : List Loc), gH (dC, dI) kA (SHc nC nS) G H → gF (dC, dI) SKc G ([(9, 2), (9, 3), (38, 0), (39, 0)] : List (Nat × Nat)) s.heap H → va_S A s.heap H locs → el H o0 (dI 9 2) = some (.int z14) → ∀ ls : Array Slot, lv_has ls 5 [(0, .ref o0), (1, .ref p0)] → W p l e (headSpec w_c_write ({ frames := 2, cells := 0, slots := 0, locals := 45 })).room s m #[.ref o0, .ref p0] below meth c H locs 0 0 (MQ below (va_Qv (fun (u : Unit) => True) (fun (_ : Unit) (t : State) => gH (dC, dI) kA (SHc nC nS) G t.heap ∧ gF (dC, dI) SKc G ([(9, 2), (9, 3), (38, 0), (39, 0)] : List (Nat × Nat)) s.heap t.heap) A) #[.ref o0, .ref p0] s 0 0 A) (F0 m 35 ls []) := by
    intro z14 h15 H locs hT hF hS m16 ls hl
    refine lv_aload_n hx hb dX6_write_35 rfl (lv_at hl 1 rfl) ?_
    refine tw_getN hx hb hts bF2_X3 hown hK hT hr_p0 shc_6 rfl 0 (by decide) (hE.nw 96 rfl) (fun _ h9 => h9) dX6_write_36 (fun v9 m18 h9 => ?_)
    obtain ⟨b19, rfl, hg20⟩ := h9 _ rfl
    refine lv_aload_n hx hb dX6_write_39 rfl (lv_at hl 1 rfl) ?_
    refine tw_getN hx hb hts bF2_X3 hown hK hT hr_p0 shc_6 rfl 4 (by decide) (hE.nw 97 rfl) (fun _ h9 => h9) dX6_write_40 (fun v9 m21 h9 => ?_)
    obtain ⟨x22, rfl, gx22, kx22⟩ := h9 _ rfl
    have hFc := gA_free hG hA hS
    refine va_calli (va_runV (As := [.int x22]) (rest := []) ⟨hx, hb, hml, hown, hts⟩ (c_outsideAt l dC dI kA adK adV G H nC nS b19 x22 hT hg20 (by have q8 := ti_all x22; omega) (by omega) (by omega)) (cwV 1 hts (goodIn_app (goodIn_r _ [13, 14, 15, 16] rfl (by decide +kernel)) (goodIn_ca (goodIn_r _ [3, 4, 5, 6, 7, 8, 9, 10, 11, 12] rfl (by decide +kernel)) (bs2_in _ _))) rfl rfl rfl (by decide +kernel) ⟨(Nat.le_of_ble_eq_true rfl), (Nat.le_of_ble_eq_true rfl)⟩) ⟨fun a U g mk q => by obtain ⟨q0, q1, qK, qE⟩ := q; exact ⟨q0, q1, va_K.moved (u := U) (U := U.calling g mk a) (Vm.Alike.refl U.vm) qK, EVC.blind g mk a qE⟩, gH_rc hK hT hg20 shc_11 rfl, fun U hU hW => ⟨rfl, hU, va_K.moved hW.alike hK, hE.call hS hFc hU hW⟩⟩ rfl rfl hl.1 rfl (lv_room (Nat.le_of_ble_eq_true rfl)) dX6_write_43 ⟨(Nat.le_of_ble_eq_true rfl), (Nat.le_of_ble_eq_true rfl)⟩) hS (fun q _ h => hFc q h) hFc (fun r23 u t H locs ht hvm hw24 hB _ _ hS => ?_)
    obtain ⟨hT, hF1⟩ := hB
    rw [ht] at hT hF1
    have m25 := (hF1.fld hr_o0 skc_9 (k := 2) (by decide) (by decide)).trans m16
    have m26 := (hF1.fld hr_p0 skc_6 (k := 0) (by decide) (by decide)).trans m18
    have m27 := (hF1.fld hr_p0 skc_6 (k := 4) (by decide) (by decide)).trans m21
    have hF := hF.more hF1 (by decide)
    try dsimp only at hw24
    refine lv_istore_n (lv' := [(2, .int r23), (0, .ref o0), (1, .ref p0)]) hx hb dX6_write_46 rfl hl (by decide) rfl (fun ls hl => ?_)
    refine lv_iconst (v := 0) hx hb dX6_write_47 (by decide) ?_
    refine lv_istore_n (lv' := [(3, .int 0), (2, .int r23), (0, .ref o0), (1, .ref p0)]) hx hb dX6_write_48 rfl hl (by decide) rfl (fun ls hl => ?_)
    have key106 : ∀ (n106 i28 : Nat), i28 + n106 = 96 → 0 ≤ i28 → ∀ (H : Heap) (locs : List Loc), gH (dC, dI) kA (SHc nC nS) G H → gF (dC, dI) SKc G ([(9, 2), (9, 3), (38, 0), (39, 0)] : List (Nat × Nat)) s.heap H → va_S A s.heap H locs → el H o0 (dI 9 2) = some (.int z14) → el H p0 (dI 6 0) = some (.ref b19) → el H p0 (dI 6 4) = some (.int x22) → ∀ ls : Array Slot, lv_has ls 5 [(3, .int (nI i28)), (2, .int r23), (0, .ref o0), (1, .ref p0)] → W p l e (headSpec w_c_write ({ frames := 2, cells := 0, slots := 0, locals := 45 })).room s m #[.ref o0, .ref p0] below meth c H locs 0 0 (MQ below (va_Qv (fun (u : Unit) => True) (fun (_ : Unit) (t : State) => gH (dC, dI) kA (SHc nC nS) G t.heap ∧ gF (dC, dI) SKc G ([(9, 2), (9, 3), (38, 0), (39, 0)] : List (Nat × Nat)) s.heap t.heap) A) #[.ref o0, .ref p0] s 0 0 A) (F0 m 49 ls []) := by
      intro n106
      induction n106 with
      | zero =>
        intro i28 hn106 hlo107  H locs hT hF hS m29 m30 m31 ls hl
        obtain rfl : 96 = i28 := by omega
        refine lv_iload_n hx hb dX6_write_49 rfl (lv_at hl 0 rfl) ?_
        refine lv_bipush (v := 96) hx hb dX6_write_50 (by decide) ?_
        refine lv_icmp_ge (tgt := 119) hx hb dX6_write_52 (by decide) (fun c108 => ?_) (fun c108 => (by exfalso; have q9 : ((96 : Nat) : Int) < 96 := ti_nle c108 (by decide) (nI_toInt (by omega)); omega))
        have t109 : 96 ≤ ((96 : Nat) : Int) := ti_le c108 (by decide) (nI_toInt (by omega))
        exact W.vret hx hb hr (fun t ht hW => ⟨⟨(), rfl, (by exact trivial), by (try dsimp only); rw [ht]; exact ⟨hT, hF⟩⟩, hS.F ht⟩) hS.2.2 dX6_write_119
      | succ n106 ih106 =>
        intro i28 hn106 hlo107  H locs hT hF hS m29 m30 m31 ls hl
        have hlt109 : i28 < 96 := by omega
        refine lv_iload_n hx hb dX6_write_49 rfl (lv_at hl 0 rfl) ?_
        refine lv_bipush (v := 96) hx hb dX6_write_50 (by decide) ?_
        refine lv_icmp_ge (tgt := 119) hx hb dX6_write_52 (by decide) (fun c110 => (by exfalso; have q9 : 96 ≤ ((i28 : Nat) : Int) := ti_le c110 (by decide) (nI_toInt (by omega)); omega)) (fun c110 => ?_)
        have t111 : ((i28 : Nat) : Int) < 96 := ti_nle c110 (by decide) (nI_toInt (by omega))
        refine lv_aload_n hx hb dX6_write_55 rfl (lv_at hl 2 rfl) ?_
        refine lv_aload_n hx hb dX6_write_56 rfl (lv_at hl 2 rfl) ?_
        refine tw_getM (v := .int z14) hx hb hts bF2_X6 hown hK hT hr_o0 shc_9 rfl 2 (by decide) (ht_at2 hts 0 rfl) (fun _ h9 => h9) m29 dX6_write_57 ?_
        refine lv_iconst (v := 1) hx hb dX6_write_60 (by decide) ?_
        refine lv_isub hx hb dX6_write_61 ?_
        refine lv_topi (fun x112 ex112 => ?_)
        have t113 : x112.toInt = z14.toInt - 1 := ti_sub ex112 rfl (by decide) (by omega) (by omega)
        refine lv_iload_n hx hb dX6_write_62 rfl (lv_at hl 0 rfl) ?_
        have hFc := gA_free hG hA hS
        refine va_calli (va_runV (As := [.int x112, .int (nI i28)]) (rest := []) ⟨hx, hb, hml, hown, hts⟩ (c_placeOf l dC dI kA adK adV G H nC nS o0 x112 (nI i28) hT hr_o0 (by have q8 := ti_all x112; omega) (rg_t (a := ((i28 : Nat) : Int)) (nI_toInt (by omega)) (by omega) (by omega)) (by omega) (by omega)) (cwV 2 hts (goodIn_app (goodIn_r _ [18, 19, 20, 21] rfl (by decide +kernel)) (goodIn_ca (goodIn_r _ [17, 2] rfl (by decide +kernel)) (bs2_in _ _))) rfl rfl rfl (by decide +kernel) ⟨(Nat.le_of_ble_eq_true rfl), (Nat.le_of_ble_eq_true rfl)⟩) ⟨fun a U g mk q => by obtain ⟨q0, q1, qK, qE⟩ := q; exact ⟨q0, q1, va_K.moved (u := U) (U := U.calling g mk a) (Vm.Alike.refl U.vm) qK, EVC.blind g mk a qE⟩, gH_rc hK hT hr_o0 shc_9 rfl, fun U hU hW => ⟨rfl, hU, va_K.moved hW.alike hK, hE.call hS hFc hU hW⟩⟩ rfl rfl hl.1 rfl (lv_room (Nat.le_of_ble_eq_true rfl)) dX6_write_63 ⟨(Nat.le_of_ble_eq_true rfl), (Nat.le_of_ble_eq_true rfl)⟩) hS (fun q _ h => hFc q h) hFc (fun r114 u t H locs ht hvm hw115 hB _ _ hS => ?_)
        obtain ⟨hT, hF1⟩ := hB
        rw [ht] at hT hF1
        have m116 := (hF1.fld hr_o0 skc_9 (k := 2) (by decide) (by decide)).trans m29
        have m117 := (hF1.fld hr_p0 skc_6 (k := 0) (by decide) (by decide)).trans m30
        have m118 := (hF1.fld hr_p0 skc_6 (k := 4) (by decide) (by decide)).trans m31
        have hF := hF.more hF1 (by decide)
        try dsimp only at hw115
        have h119 := hw115
        refine lv_istore (lv' := [(4, .int r114), (3, .int (nI i28)), (2, .int r23), (0, .ref o0), (1, .ref p0)]) hx hb dX6_write_66 hl (by decide) rfl (fun ls hl => ?_)
        refine lv_aload_n hx hb dX6_write_68 rfl (lv_at hl 3 rfl) ?_
        refine tw_get hx hb hts bF2_X6 hown hK hT hr_o0 shc_9 rfl 1 (by decide) (ht_at2 hts 21 rfl) (fun _ h9 => h9) dX6_write_69 (fun v9 m120 h9 => ?_)
        obtain ⟨b121, rfl, hg122⟩ := h9 _ rfl
        refine lv_iload hx hb dX6_write_72 (lv_at hl 0 rfl) ?_
        refine lv_aload_n hx hb dX6_write_74 rfl (lv_at hl 4 rfl) ?_
        refine tw_getN hx hb hts bF2_X3 hown hK hT hr_p0 shc_6 rfl 1 (by decide) (hE.nw 98 rfl) (fun _ h9 => h9) dX6_write_75 (fun v9 m123 h9 => ?_)
        obtain ⟨b124, rfl, hg125⟩ := h9 _ rfl
        refine tw_getN hx hb hts bF2_X2 hown hK hT hg125 shc_5 rfl 0 (by decide) (hE.nw 99 rfl) (fun _ h9 => h9) dX6_write_78 (fun v9 m126 h9 => ?_)
        obtain ⟨b127, rfl, hg128⟩ := h9 _ rfl
        refine lv_iload_n hx hb dX6_write_81 rfl (lv_at hl 1 rfl) ?_
        refine tw_zald (i := (nI i28)) hx hb hK hT hg128 shc_25 rfl (vp_in_nI (by omega) (by decide)) dX6_write_82 (fun v9 m129 h9 => ?_)
        obtain ⟨x130, rfl, gx130, kx130⟩ := h9
        have jn148 : ∀ (z140 : Int32), ∀ (H : Heap) (locs : List Loc), gH (dC, dI) kA (SHc nC nS) G H → gF (dC, dI) SKc G ([(9, 2), (9, 3), (38, 0), (39, 0)] : List (Nat × Nat)) s.heap H → va_S A s.heap H locs → el H o0 (dI 9 2) = some (.int z14) → el H p0 (dI 6 0) = some (.ref b19) → el H p0 (dI 6 4) = some (.int x22) → el H o0 (dI 9 1) = some (.ref b121) → el H p0 (dI 6 1) = some (.ref b124) → el H b124 (dI 5 0) = some (.ref b127) → el H b127 (nI i28).toNatClampNeg = some (.int x130) → ∀ ls : Array Slot, lv_has ls 5 [(4, .int r114), (3, .int (nI i28)), (2, .int r23), (0, .ref o0), (1, .ref p0)] → W p l e (headSpec w_c_write ({ frames := 2, cells := 0, slots := 0, locals := 45 })).room s m #[.ref o0, .ref p0] below meth c H locs 0 0 (MQ below (va_Qv (fun (u : Unit) => True) (fun (_ : Unit) (t : State) => gH (dC, dI) kA (SHc nC nS) G t.heap ∧ gF (dC, dI) SKc G ([(9, 2), (9, 3), (38, 0), (39, 0)] : List (Nat × Nat)) s.heap t.heap) A) #[.ref o0, .ref p0] s 0 0 A) (F0 m 98 ls [.int z140, .int r114, .ref b121]) := by
          intro z140 H locs hT hF hS m141 m142 m143 m144 m145 m146 m147 ls hl
          refine tw_iast (i := r114) (x := z140) hx hb hK hT hG hS hg122 shc_39 rfl (vin_t (a := r114.toInt) rfl (by omega) (by omega)) (gi_all _) dX6_write_98 (fun H locs hT oq m149 oi hS => ?_)
          have hF := hF.ast hg122 skc_39 oq (by decide)
          have m150 := (el_kept (oq _ (gne hr_o0 hg122 (by decide)))).trans m141
          have m151 := (el_kept (oq _ (gne hr_p0 hg122 (by decide)))).trans m142
          have m152 := (el_kept (oq _ (gne hr_p0 hg122 (by decide)))).trans m143
          have m153 := (el_kept (oq _ (gne hr_o0 hg122 (by decide)))).trans m144
          refine lv_aload_n hx hb dX6_write_99 rfl (lv_at hl 3 rfl) ?_
          refine tw_get hx hb hts bF2_X6 hown hK hT hr_o0 shc_9 rfl 0 (by decide) (ht_at2 hts 29 rfl) (fun _ h9 => h9) dX6_write_100 (fun v9 m157 h9 => ?_)
          obtain ⟨b158, rfl, hg159⟩ := h9 _ rfl
          refine lv_iload hx hb dX6_write_103 (lv_at hl 0 rfl) ?_
          refine lv_aload_n hx hb dX6_write_105 rfl (lv_at hl 3 rfl) ?_
          refine tw_getM (v := .ref b121) hx hb hts bF2_X6 hown hK hT hr_o0 shc_9 rfl 1 (by decide) (ht_at2 hts 21 rfl) (fun _ h9 => h9) m153 dX6_write_106 ?_
          refine lv_iload hx hb dX6_write_109 (lv_at hl 0 rfl) ?_
          refine tw_iald (i := r114) hx hb hK hT hg122 shc_39 rfl (vin_t (a := r114.toInt) rfl (by omega) (by omega)) dX6_write_111 (fun v9 m160 h9 => ?_)
          obtain ⟨x161, rfl, gx161, kx161⟩ := h9
          obtain rfl : z140 = x161 := (el_same m160 m149 rfl).symm
          refine tw_iast (i := r114) (x := z140) hx hb hK hT hG hS hg159 shc_38 rfl (vin_t (a := r114.toInt) rfl (by omega) (by omega)) (gi_all _) dX6_write_112 (fun H locs hT oq m162 oi hS => ?_)
          have hF := hF.ast hg159 skc_38 oq (by decide)
          have m163 := (el_kept (oq _ (gne hr_o0 hg159 (by decide)))).trans m150
          have m164 := (el_kept (oq _ (gne hr_p0 hg159 (by decide)))).trans m151
          have m165 := (el_kept (oq _ (gne hr_p0 hg159 (by decide)))).trans m152
          refine lv_iinc (v := nI (i28 + 1)) (lv' := [(3, .int (nI (i28 + 1))), (4, .int r114), (2, .int r23), (0, .ref o0), (1, .ref p0)]) hx hb dX6_write_113 hl (k := 1) rfl (nI_add i28 1) (by decide) rfl (fun ls hl => ?_)
          refine lv_goto (tgt := 49) hx hb dX6_write_116 (by decide) ?_
          exact ih106 (i28 + 1) (by omega) (by omega) _ _ hT hF hS m163 m164 m165 ls (lv_sub hl [0, 2, 3, 4] rfl)
        refine lv_if_eq (tgt := 97) hx hb dX6_write_83 (by decide) (fun c172 => ?_) (fun c172 => ?_)
        · have t173 : x130.toInt = 0 := ti_eq c172 rfl (by decide)
          refine lv_iload_n hx hb dX6_write_97 rfl (lv_at hl 2 rfl) ?_
          exact jn148 r23 _ _ hT hF hS m116 m117 m118 m120 m123 m126 m129 ls (lv_sub hl [0, 1, 2, 3, 4] rfl)
        · have t174 : x130.toInt ≠ 0 := ti_ne c172 rfl (by decide)
          refine lv_aload_n hx hb dX6_write_86 rfl (lv_at hl 4 rfl) ?_
          refine tw_getNM (v := .ref b124) hx hb hts bF2_X3 hown hK hT hr_p0 shc_6 rfl 1 (by decide) (hE.nw 98 rfl) (fun _ h9 => h9) m123 dX6_write_87 ?_
          refine lv_iload_n hx hb dX6_write_90 rfl (lv_at hl 1 rfl) ?_
          have hFc := gA_free hG hA hS
          refine va_calli (va_runV (As := [.int (nI i28)]) (rest := [.int r114, .ref b121]) ⟨hx, hb, hml, hown, hts⟩ (c_levelOf l dC dI kA adK adV G H nC nS b124 (nI i28) hT hg125 (rg_t (a := ((i28 : Nat) : Int)) (nI_toInt (by omega)) (by omega) (by omega)) (by omega) (by omega)) (cwV 1 hts (goodIn_app (goodIn_r _ [26, 27, 28, 29] rfl (by decide +kernel)) (goodIn_ca (goodIn_r _ [23, 24, 25] rfl (by decide +kernel)) (bs2_in _ _))) rfl rfl rfl (by decide +kernel) ⟨(Nat.le_of_ble_eq_true rfl), (Nat.le_of_ble_eq_true rfl)⟩) ⟨fun a U g mk q => by obtain ⟨q0, q1, qK, qE⟩ := q; exact ⟨q0, q1, va_K.moved (u := U) (U := U.calling g mk a) (Vm.Alike.refl U.vm) qK, EVC.blind g mk a qE⟩, gH_rc hK hT hg125 shc_5 rfl, fun U hU hW => ⟨rfl, hU, va_K.moved hW.alike hK, hE.call hS hFc hU hW⟩⟩ rfl rfl hl.1 rfl (lv_room (Nat.le_of_ble_eq_true rfl)) dX6_write_91 ⟨(Nat.le_of_ble_eq_true rfl), (Nat.le_of_ble_eq_true rfl)⟩) hS (fun q _ h => hFc q h) hFc (fun r175 u t H locs ht hvm hw176 hB _ _ hS => ?_)
          obtain ⟨hT, hF1⟩ := hB
          rw [ht] at hT hF1
          have m177 := (hF1.fld hr_o0 skc_9 (k := 2) (by decide) (by decide)).trans m116
          have m178 := (hF1.fld hr_p0 skc_6 (k := 0) (by decide) (by decide)).trans m117
          have m179 := (hF1.fld hr_p0 skc_6 (k := 4) (by decide) (by decide)).trans m118
          have m180 := (hF1.fld hr_o0 skc_9 (k := 1) (by decide) (by decide)).trans m120
          have m181 := (hF1.fld hr_p0 skc_6 (k := 1) (by decide) (by decide)).trans m123
          have m182 := (hF1.fld hg125 skc_5 (k := 0) (by decide) (by decide)).trans m126
          have m183 := (el_kept (hF1.arr hg128 skc_25 (by decide))).trans m129
          have hF := hF.more hF1 (by decide)
          try dsimp only at hw176
          refine lv_goto (tgt := 98) hx hb dX6_write_94 (by decide) ?_
          exact jn148 r175 _ _ hT hF hS m177 m178 m179 m180 m181 m182 m183 ls (lv_sub hl [0, 1, 2, 3, 4] rfl)
    exact key106 (96 - 0) 0 (by omega) (Nat.le_refl _) _ _ hT hF hS m25 m26 m27 ls (lv_sub hl [0, 1, 2, 3] rfl)
  refine lv_icmp_ne (tgt := 25) hx hb dX6_write_6 (by decide) (fun c184 => ?_) (fun c184 => ?_)
  · have t185 : x2.toInt ≠ 24 := ti_ne c184 rfl (by decide)
    refine lv_aload_n hx hb dX6_write_25 rfl (lv_at hl 0 rfl) ?_
    refine lv_dup hx hb dX6_write_26 rfl ?_
    refine tw_getM (v := .int x2) hx hb hts bF2_X6 hown hK hT hr_o0 shc_9 rfl 2 (by decide) (ht_at2 hts 0 rfl) (fun _ h9 => h9) m1 dX6_write_27 ?_
    refine lv_iconst (v := 1) hx hb dX6_write_30 (by decide) ?_
    refine lv_iadd hx hb dX6_write_31 ?_
    refine lv_topi (fun x186 ex186 => ?_)
    have t187 : x186.toInt = x2.toInt + 1 := ti_add ex186 rfl (by decide) (by omega) (by omega)
    refine tw_put (v := .int x186) (ty := .int) hx hb hts bF2_X6 tyX6 tyX6_ok nmX6 hown hK hT hG hS hr_o0 shc_9 rfl 2 (by decide) (ht_at2 hts 0 rfl) (fun _ h9 => h9) rfl (by decide +kernel) rfl rfl (gl_at rfl (gi_of (show x186.toInt = x186.toInt from rfl) (by omega) (by omega))) dX6_write_32 (fun H locs hT oq m188 oj hS => ?_)
    have hF := hF.put hr_o0 skc_9 oq oj (by decide)
    exact jn17 x186 (by have q8 := ti_all x186; omega) _ _ hT hF hS m188 ls (lv_sub hl [0, 1] rfl)
  · have t189 : x2.toInt = 24 := ti_eq c184 rfl (by decide)
    refine lv_aload_n hx hb dX6_write_9 rfl (lv_at hl 0 rfl) ?_
    refine lv_aload_n hx hb dX6_write_10 rfl (lv_at hl 0 rfl) ?_
    refine tw_get hx hb hts bF2_X6 hown hK hT hr_o0 shc_9 rfl 3 (by decide) (ht_at2 hts 1 rfl) (fun _ h9 => h9) dX6_write_11 (fun v9 m190 h9 => ?_)
    obtain ⟨x191, rfl, gx191, kx191⟩ := h9 _ rfl
    refine lv_iconst (v := 1) hx hb dX6_write_14 (by decide) ?_
    refine lv_iadd hx hb dX6_write_15 ?_
    refine lv_topi (fun x192 ex192 => ?_)
    have t193 : x192.toInt = x191.toInt + 1 := ti_add ex192 rfl (by decide) (by omega) (by omega)
    refine lv_bipush (v := 24) hx hb dX6_write_16 (by decide) ?_
    refine lv_irem hx hb dX6_write_18 (by decide) ?_
    refine lv_topi (fun x194 ex194 => ?_)
    have t195 : x194.toInt = x192.toInt % 24 := ti_rem ex194 rfl (by decide) (by omega) (by omega)
    refine tw_put (v := .int x194) (ty := .int) hx hb hts bF2_X6 tyX6 tyX6_ok nmX6 hown hK hT hG hS hr_o0 shc_9 rfl 3 (by decide) (ht_at2 hts 1 rfl) (fun _ h9 => h9) rfl (by decide +kernel) rfl rfl (gl_at rfl (gi_of (show x194.toInt = x194.toInt from rfl) (by omega) (by omega))) dX6_write_19 (fun H locs hT oq m196 oj hS => ?_)
    have hF := hF.put hr_o0 skc_9 oq oj (by decide)
    have m197 := (oj 2 (by decide) (by decide)).trans m1
    refine lv_goto (tgt := 35) hx hb dX6_write_22 (by decide) ?_
    exact jn17 x2 (by have q8 := ti_all x2; omega) _ _ hT hF hS m197 ls (lv_sub hl [0, 1] rfl)
def w_c_firstTorn : List Cond := .code yX6_firstTorn cX6_firstTorn 3 (some .int) :: (HAppend.hAppend (α := List Cond) (β := List Cond) (γ := List Cond) [.fieldLink RX6 18 "SeaLand$Rows" "kept" "I", .code yX6_placeOf cX6_placeOf 3 (some .int), .fieldLink RX6 22 "SeaLand$Rows" "oldest" "I", .methodLink RX6 40 yX6_placeOf, .instanceMethod yX6_placeOf, .selects RX6 yX6_placeOf yX6_placeOf, .initialized RX6, .fieldLink RX6 9 "SeaLand$Rows" "shown" "[I", .fieldLink RX6 15 "SeaLand$Rows" "proof" "[I"] bs2)
set_option maxHeartbeats 4000000 in
set_option maxRecDepth 100000 in
theorem c_firstTorn (l : Launch) (dC : Nat → ClassId) (dI : Nat → Nat → Nat) (kA : Nat → ClassId) (adK adV : Nat → Nat) (G : gT) (H0 : Heap) (nC nS : Int) (o0 : Nat)  (hT : gH (dC, dI) kA (SHc nC nS) G H0) (hr_o0 : G o0 = some 9) (hgC : 0 ≤ nC ∧ nC ≤ 40) (hgS : 0 ≤ nS ∧ nS ≤ 60) : Met l yX6_firstTorn w_c_firstTorn ({ frames := 1, cells := 0, slots := 0, locals := 22 }) (va_Pc [.ref o0] (fun U => U.heap = H0 ∧ va_K (dC, dI) vwCl (tyl kA) U ∧ EVC adK adV (gA G H0.size) U U.heap)) (va_Qi (fun (r : Int32) (u : Unit) => (-1 ≤ r.toInt ∧ r.toInt ≤ 2303)) (fun (_ : Unit) (t : State) => gH (dC, dI) kA (SHc nC nS) G t.heap ∧ gF (dC, dI) SKc G ([] : List (Nat × Nat)) H0 t.heap) (gA G H0.size)) 0 0 (gA G H0.size) := by
  refine Met.ofW (cc := cX6_firstTorn) (maxL := 3) (ret := (some .int)) (by decide) rfl ?_
  intro p e s m args below meth c s₁ B hml hv
  obtain ⟨rfl, hH0, hK, hE⟩ := hv
  have hx := B.exec
  have hb := B.bytes
  have hr := B.returns
  have hts := atoms_spec (ws := w_c_firstTorn) B.pre
  have hown : s.vm.findClass RX6 = some m.cls := findClass_of_methodNamed B.named
  have hlocks := B.notSynchronized
  subst hH0
  generalize hAe : gA G s.heap.size = A at hE ⊢
  have hA : ∀ q : Nat, s.heap.size ≤ q → A q := fun q h => by rw [← hAe]; exact Or.inr h
  have hG := gA_of hAe
  have hS : va_S A s.heap s.heap [] := va_S.rf
  have hF : gF (dC, dI) SKc G ([] : List (Nat × Nat)) s.heap s.heap := gF.rf
  have hl := lv_entry ([.ref o0]) (n := 3) (Nat.le_of_ble_eq_true rfl)
  rw [lg_entry_eq]
  generalize (lg_sl ([.ref o0]) ++ List.replicate (3 - (lg_sl ([.ref o0])).length) Slot.unset).toArray = ls at hl ⊢
  have hl : lv_has ls 3 [(0, .ref o0)] := hl
  refine lv_iconst (v := 0) hx hb dX6_firstTorn_0 (by decide) ?_
  refine lv_istore_n (lv' := [(1, .int 0), (0, .ref o0)]) hx hb dX6_firstTorn_1 rfl hl (by decide) rfl (fun ls hl => ?_)
  have key30 : ∀ (n30 i1 : Nat), i1 + n30 = 2304 → 0 ≤ i1 → ∀ (H : Heap) (locs : List Loc), gH (dC, dI) kA (SHc nC nS) G H → gF (dC, dI) SKc G ([] : List (Nat × Nat)) s.heap H → va_S A s.heap H locs → ∀ ls : Array Slot, lv_has ls 3 [(1, .int (nI i1)), (0, .ref o0)] → W p l e (headSpec w_c_firstTorn ({ frames := 1, cells := 0, slots := 0, locals := 22 })).room s m #[.ref o0] below meth c H locs 0 0 (MQ below (va_Qi (fun (r : Int32) (u : Unit) => (-1 ≤ r.toInt ∧ r.toInt ≤ 2303)) (fun (_ : Unit) (t : State) => gH (dC, dI) kA (SHc nC nS) G t.heap ∧ gF (dC, dI) SKc G ([] : List (Nat × Nat)) s.heap t.heap) A) #[.ref o0] s 0 0 A) (F0 m 2 ls []) := by
    intro n30
    induction n30 with
    | zero =>
      intro i1 hn30 hlo31  H locs hT hF hS  ls hl
      obtain rfl : 2304 = i1 := by omega
      refine lv_iload_n hx hb dX6_firstTorn_2 rfl (lv_at hl 0 rfl) ?_
      refine lv_aload_n hx hb dX6_firstTorn_3 rfl (lv_at hl 1 rfl) ?_
      refine tw_get hx hb hts bF2_X6 hown hK hT hr_o0 shc_9 rfl 2 (by decide) (ht_at2 hts 0 rfl) (fun _ h9 => h9) dX6_firstTorn_4 (fun v9 m32 h9 => ?_)
      obtain ⟨x33, rfl, gx33, kx33⟩ := h9 _ rfl
      refine lv_bipush (v := 96) hx hb dX6_firstTorn_7 (by decide) ?_
      refine lv_imul hx hb dX6_firstTorn_9 ?_
      refine lv_topi (fun x34 ex34 => ?_)
      have t35 : x34.toInt = x33.toInt * 96 := ti_mul ex34 rfl (by decide) (by omega) (by omega)
      refine lv_icmp_ge (tgt := 49) hx hb dX6_firstTorn_10 (by decide) (fun c36 => ?_) (fun c36 => (by exfalso; have q9 : ((2304 : Nat) : Int) < x34.toInt := ti_nle c36 rfl (nI_toInt (by omega)); omega))
      have t37 : x34.toInt ≤ ((2304 : Nat) : Int) := ti_le c36 rfl (nI_toInt (by omega))
      refine lv_iconst (v := (-1)) hx hb dX6_firstTorn_49 (by decide) ?_
      exact W.iret (v := (-1)) hx hb hr (fun t ht hW => ⟨⟨(-1), (), rfl, (by exact (rg_t (a := (-1)) (by decide) (by first | decide | omega) (by first | decide | omega))), by (try dsimp only); rw [ht]; exact ⟨hT, hF⟩⟩, hS.F ht⟩) hS.2.2 dX6_firstTorn_50
    | succ n30 ih30 =>
      intro i1 hn30 hlo31  H locs hT hF hS  ls hl
      have hlt37 : i1 < 2304 := by omega
      refine lv_iload_n hx hb dX6_firstTorn_2 rfl (lv_at hl 0 rfl) ?_
      refine lv_aload_n hx hb dX6_firstTorn_3 rfl (lv_at hl 1 rfl) ?_
      refine tw_get hx hb hts bF2_X6 hown hK hT hr_o0 shc_9 rfl 2 (by decide) (ht_at2 hts 0 rfl) (fun _ h9 => h9) dX6_firstTorn_4 (fun v9 m38 h9 => ?_)
      obtain ⟨x39, rfl, gx39, kx39⟩ := h9 _ rfl
      refine lv_bipush (v := 96) hx hb dX6_firstTorn_7 (by decide) ?_
      refine lv_imul hx hb dX6_firstTorn_9 ?_
      refine lv_topi (fun x40 ex40 => ?_)
      have t41 : x40.toInt = x39.toInt * 96 := ti_mul ex40 rfl (by decide) (by omega) (by omega)
      refine lv_icmp_ge (tgt := 49) hx hb dX6_firstTorn_10 (by decide) (fun c42 => ?_) (fun c42 => ?_)
      · have t43 : x40.toInt ≤ ((i1 : Nat) : Int) := ti_le c42 rfl (nI_toInt (by omega))
        refine lv_iconst (v := (-1)) hx hb dX6_firstTorn_49 (by decide) ?_
        exact W.iret (v := (-1)) hx hb hr (fun t ht hW => ⟨⟨(-1), (), rfl, (by exact (rg_t (a := (-1)) (by decide) (by first | decide | omega) (by first | decide | omega))), by (try dsimp only); rw [ht]; exact ⟨hT, hF⟩⟩, hS.F ht⟩) hS.2.2 dX6_firstTorn_50
      · have t44 : ((i1 : Nat) : Int) < x40.toInt := ti_nle c42 rfl (nI_toInt (by omega))
        refine lv_aload_n hx hb dX6_firstTorn_13 rfl (lv_at hl 1 rfl) ?_
        refine lv_iload_n hx hb dX6_firstTorn_14 rfl (lv_at hl 0 rfl) ?_
        refine lv_bipush (v := 96) hx hb dX6_firstTorn_15 (by decide) ?_
        refine lv_idiv hx hb dX6_firstTorn_17 (by decide) ?_
        refine lv_topi (fun x45 ex45 => ?_)
        obtain rfl : nI (i1 / 96) = x45 := (ex45.trans (pk_div (a := i1) (d := 96) (by omega) (by decide) (by decide))).symm
        refine lv_iload_n hx hb dX6_firstTorn_18 rfl (lv_at hl 0 rfl) ?_
        refine lv_bipush (v := 96) hx hb dX6_firstTorn_19 (by decide) ?_
        refine lv_irem hx hb dX6_firstTorn_21 (by decide) ?_
        refine lv_topi (fun x46 ex46 => ?_)
        obtain rfl : nI (i1 % 96) = x46 := (ex46.trans (pk_rem (a := i1) (d := 96) (by omega) (by decide) (by decide))).symm
        have hFc := gA_free hG hA hS
        refine va_calli (va_runV (As := [.int (nI (i1 / 96)), .int (nI (i1 % 96))]) (rest := []) ⟨hx, hb, hml, hown, hts⟩ (c_placeOf l dC dI kA adK adV G H nC nS o0 (nI (i1 / 96)) (nI (i1 % 96)) hT hr_o0 (rg_t (a := ((i1 / 96 : Nat) : Int)) (nI_toInt (by omega)) (by omega) (by omega)) (rg_t (a := ((i1 % 96 : Nat) : Int)) (nI_toInt (by omega)) (by omega) (by omega)) (by omega) (by omega)) (cwV 2 hts (goodIn_app (goodIn_r _ [4, 5, 6, 7] rfl (by decide +kernel)) (goodIn_ca (goodIn_r _ [2, 3] rfl (by decide +kernel)) (bs2_in _ _))) rfl rfl rfl (by decide +kernel) ⟨(Nat.le_of_ble_eq_true rfl), (Nat.le_of_ble_eq_true rfl)⟩) ⟨fun a U g mk q => by obtain ⟨q0, q1, qK, qE⟩ := q; exact ⟨q0, q1, va_K.moved (u := U) (U := U.calling g mk a) (Vm.Alike.refl U.vm) qK, EVC.blind g mk a qE⟩, gH_rc hK hT hr_o0 shc_9 rfl, fun U hU hW => ⟨rfl, hU, va_K.moved hW.alike hK, hE.call hS hFc hU hW⟩⟩ rfl rfl hl.1 rfl (lv_room (Nat.le_of_ble_eq_true rfl)) dX6_firstTorn_22 ⟨(Nat.le_of_ble_eq_true rfl), (Nat.le_of_ble_eq_true rfl)⟩) hS (fun q _ h => hFc q h) hFc (fun r47 u t H locs ht hvm hw48 hB _ _ hS => ?_)
        obtain ⟨hT, hF1⟩ := hB
        rw [ht] at hT hF1
        have hF := hF.more hF1 (by decide)
        try dsimp only at hw48
        have h50 := hw48
        refine lv_istore_n (lv' := [(2, .int r47), (1, .int (nI i1)), (0, .ref o0)]) hx hb dX6_firstTorn_25 rfl hl (by decide) rfl (fun ls hl => ?_)
        refine lv_aload_n hx hb dX6_firstTorn_26 rfl (lv_at hl 2 rfl) ?_
        refine tw_get hx hb hts bF2_X6 hown hK hT hr_o0 shc_9 rfl 0 (by decide) (ht_at2 hts 7 rfl) (fun _ h9 => h9) dX6_firstTorn_27 (fun v9 m51 h9 => ?_)
        obtain ⟨b52, rfl, hg53⟩ := h9 _ rfl
        refine lv_iload_n hx hb dX6_firstTorn_30 rfl (lv_at hl 0 rfl) ?_
        refine tw_iald (i := r47) hx hb hK hT hg53 shc_38 rfl (vin_t (a := r47.toInt) rfl (by omega) (by omega)) dX6_firstTorn_31 (fun v9 m54 h9 => ?_)
        obtain ⟨x55, rfl, gx55, kx55⟩ := h9
        refine lv_aload_n hx hb dX6_firstTorn_32 rfl (lv_at hl 2 rfl) ?_
        refine tw_get hx hb hts bF2_X6 hown hK hT hr_o0 shc_9 rfl 1 (by decide) (ht_at2 hts 8 rfl) (fun _ h9 => h9) dX6_firstTorn_33 (fun v9 m56 h9 => ?_)
        obtain ⟨b57, rfl, hg58⟩ := h9 _ rfl
        refine lv_iload_n hx hb dX6_firstTorn_36 rfl (lv_at hl 0 rfl) ?_
        refine tw_iald (i := r47) hx hb hK hT hg58 shc_39 rfl (vin_t (a := r47.toInt) rfl (by omega) (by omega)) dX6_firstTorn_37 (fun v9 m59 h9 => ?_)
        obtain ⟨x60, rfl, gx60, kx60⟩ := h9
        have t61 : -2147483648 ≤ x55.toInt ∧ x55.toInt ≤ 2147483647 := ti_all x55
        have t62 : -2147483648 ≤ x60.toInt ∧ x60.toInt ≤ 2147483647 := ti_all x60
        refine lv_icmp_eq (tgt := 43) hx hb dX6_firstTorn_38 (by decide) (fun c63 => ?_) (fun c63 => ?_)
        · have t64 : x55.toInt = x60.toInt := ti_eq c63 rfl rfl
          refine lv_iinc (v := nI (i1 + 1)) (lv' := [(1, .int (nI (i1 + 1))), (2, .int r47), (0, .ref o0)]) hx hb dX6_firstTorn_43 hl (k := 1) rfl (nI_add i1 1) (by decide) rfl (fun ls hl => ?_)
          refine lv_goto (tgt := 2) hx hb dX6_firstTorn_46 (by decide) ?_
          exact ih30 (i1 + 1) (by omega) (by omega) _ _ hT hF hS ls (lv_sub hl [0, 2] rfl)
        · have t65 : x55.toInt ≠ x60.toInt := ti_ne c63 rfl rfl
          refine lv_iload_n hx hb dX6_firstTorn_41 rfl (lv_at hl 1 rfl) ?_
          exact W.iret (v := nI i1) hx hb hr (fun t ht hW => ⟨⟨nI i1, (), rfl, (by exact (rg_t (a := ((i1 : Nat) : Int)) (nI_toInt (by omega)) (by omega) (by omega))), by (try dsimp only); rw [ht]; exact ⟨hT, hF⟩⟩, hS.F ht⟩) hS.2.2 dX6_firstTorn_42
  exact key30 (2304 - 0) 0 (by omega) (Nat.le_refl _) _ _ hT hF hS ls (lv_sub hl [0, 1] rfl)
