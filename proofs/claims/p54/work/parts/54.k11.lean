def w_c_say : List Cond := .code yX1_say cX1_say 2 none :: (HAppend.hAppend (α := List Cond) (β := List Cond) (γ := List Cond) [.fieldLink RX1 28 "SeaLand$Contract" "measured" "Z", .fieldLink RX1 32 "SeaLand$Contract" "least" "I", .fieldLink RX1 25 "SeaLand$Contract" "bound" "I", .methodLink RX1 35 Lib.Math.max.name, .static Lib.Math.max.name, .initialized "java/lang/Math", .code Lib.Math.max.name Lib.Math.max.code 2 (some .int), .fieldLink RX1 10 "SeaLand$Contract" "most" "I", .methodLink RX1 41 Lib.Math.min.name, .static Lib.Math.min.name, .code Lib.Math.min.name Lib.Math.min.code 2 (some .int)] bs2)
set_option maxHeartbeats 4000000 in
set_option maxRecDepth 100000 in
theorem c_say (l : Launch) (dC : Nat → ClassId) (dI : Nat → Nat → Nat) (kA : Nat → ClassId) (adK adV : Nat → Nat) (G : gT) (H0 : Heap) (nC nS : Int) (o0 : Nat) (p0 : Int32)  (hT : gH (dC, dI) kA (SHc nC nS) G H0) (hr_o0 : G o0 = some 4) (hgC : 0 ≤ nC ∧ nC ≤ 40) (hgS : 0 ≤ nS ∧ nS ≤ 60) : Met l yX1_say w_c_say ({ frames := 1, cells := 0, slots := 0, locals := 40 }) (va_Pc [.ref o0, .int p0] (fun U => U.heap = H0 ∧ va_K (dC, dI) vwCl (tyl kA) U ∧ EVC adK adV (gA G H0.size) U U.heap)) (va_Qv (fun (u : Unit) => True) (fun (_ : Unit) (t : State) => gH (dC, dI) kA (SHc nC nS) G t.heap ∧ gF (dC, dI) SKc G ([(4, 4), (4, 5), (4, 6)] : List (Nat × Nat)) H0 t.heap) (gA G H0.size)) 0 0 (gA G H0.size) := by
  refine Met.ofW (cc := cX1_say) (maxL := 2) (ret := none) (by decide) rfl ?_
  intro p e s m args below meth c s₁ B hml hv
  obtain ⟨rfl, hH0, hK, hE⟩ := hv
  have hx := B.exec
  have hb := B.bytes
  have hr := B.returns
  have hts := atoms_spec (ws := w_c_say) B.pre
  have hown : s.vm.findClass RX1 = some m.cls := findClass_of_methodNamed B.named
  have hlocks := B.notSynchronized
  subst hH0
  generalize hAe : gA G s.heap.size = A at hE ⊢
  have hA : ∀ q : Nat, s.heap.size ≤ q → A q := fun q h => by rw [← hAe]; exact Or.inr h
  have hG := gA_of hAe
  have hS : va_S A s.heap s.heap [] := va_S.rf
  have hF : gF (dC, dI) SKc G ([(4, 4), (4, 5), (4, 6)] : List (Nat × Nat)) s.heap s.heap := gF.rf
  have hl := lv_entry ([.ref o0, .int p0]) (n := 2) (Nat.le_of_ble_eq_true rfl)
  rw [lg_entry_eq]
  generalize (lg_sl ([.ref o0, .int p0]) ++ List.replicate (2 - (lg_sl ([.ref o0, .int p0])).length) Slot.unset).toArray = ls at hl ⊢
  have hl : lv_has ls 2 [(0, .ref o0), (1, .int p0)] := hl
  refine lv_aload_n hx hb dX1_say_0 rfl (lv_at hl 0 rfl) ?_
  refine lv_iconst (v := 1) hx hb dX1_say_1 (by decide) ?_
  refine tw_put (v := .int 1) (ty := .boolean) hx hb hts bF2_X1 tyX1 tyX1_ok nmX1 hown hK hT hG hS hr_o0 shc_4 rfl 4 (by decide) (ht_at2 hts 0 rfl) (fun _ h9 => h9) rfl (by decide +kernel) rfl rfl (gl_at rfl (gi_of (show (1 : Int32).toInt = 1 from (by decide)) (by first | decide | omega) (by first | decide | omega))) dX1_say_2 (fun H locs hT oq m1 oj hS => ?_)
  have hF := hF.put hr_o0 skc_4 oq oj (by decide)
  refine lv_aload_n hx hb dX1_say_5 rfl (lv_at hl 0 rfl) ?_
  refine lv_aload_n hx hb dX1_say_6 rfl (lv_at hl 0 rfl) ?_
  refine tw_get hx hb hts bF2_X1 hown hK hT hr_o0 shc_4 rfl 5 (by decide) (ht_at2 hts 1 rfl) (fun _ h9 => h9) dX1_say_7 (fun v9 m2 h9 => ?_)
  obtain ⟨x3, rfl, gx3, kx3⟩ := h9 _ rfl
  refine lv_iload_n hx hb dX1_say_10 rfl (lv_at hl 1 rfl) ?_
  refine lv_aload_n hx hb dX1_say_11 rfl (lv_at hl 0 rfl) ?_
  refine tw_get hx hb hts bF2_X1 hown hK hT hr_o0 shc_4 rfl 3 (by decide) (ht_at2 hts 2 rfl) (fun _ h9 => h9) dX1_say_12 (fun v9 m4 h9 => ?_)
  obtain ⟨x5, rfl, gx5, kx5⟩ := h9 _ rfl
  refine lv_isub hx hb dX1_say_15 ?_
  refine lv_topi (fun x6 ex6 => ?_)
  refine va_mmax hx hb (hml.trans hl.1.symm) hown (ht_at2 hts 3 rfl) (ht_at2 hts 4 rfl) (ht_at2 hts 5 rfl) (ht_at2 hts 6 rfl) (Nat.le_of_ble_eq_true rfl) (Nat.le_of_ble_eq_true rfl) (Nat.le_of_ble_eq_true rfl) (Nat.le_of_ble_eq_true rfl) dX1_say_16 ?_
  refine lv_topi (fun x7 ex7 => ?_)
  have t8 : x3.toInt ≤ x7.toInt ∧ x6.toInt ≤ x7.toInt ∧ (x7.toInt = x3.toInt ∨ x7.toInt = x6.toInt) := mx_f ex7 rfl rfl
  refine tw_put (v := .int x7) (ty := .int) hx hb hts bF2_X1 tyX1 tyX1_ok nmX1 hown hK hT hG hS hr_o0 shc_4 rfl 5 (by decide) (ht_at2 hts 1 rfl) (fun _ h9 => h9) rfl (by decide +kernel) rfl rfl (gl_at rfl (gi_all _)) dX1_say_19 (fun H locs hT oq m9 oj hS => ?_)
  have hF := hF.put hr_o0 skc_4 oq oj (by decide)
  have m11 := (oj 3 (by decide) (by decide)).trans m4
  refine lv_aload_n hx hb dX1_say_22 rfl (lv_at hl 0 rfl) ?_
  refine lv_aload_n hx hb dX1_say_23 rfl (lv_at hl 0 rfl) ?_
  refine tw_get hx hb hts bF2_X1 hown hK hT hr_o0 shc_4 rfl 6 (by decide) (ht_at2 hts 7 rfl) (fun _ h9 => h9) dX1_say_24 (fun v9 m12 h9 => ?_)
  obtain ⟨x13, rfl, gx13, kx13⟩ := h9 _ rfl
  refine lv_iload_n hx hb dX1_say_27 rfl (lv_at hl 1 rfl) ?_
  refine lv_aload_n hx hb dX1_say_28 rfl (lv_at hl 0 rfl) ?_
  refine tw_getM (v := .int x5) hx hb hts bF2_X1 hown hK hT hr_o0 shc_4 rfl 3 (by decide) (ht_at2 hts 2 rfl) (fun _ h9 => h9) m11 dX1_say_29 ?_
  refine lv_iadd hx hb dX1_say_32 ?_
  refine lv_topi (fun x14 ex14 => ?_)
  refine va_mmin hx hb (hml.trans hl.1.symm) hown (ht_at2 hts 8 rfl) (ht_at2 hts 9 rfl) (ht_at2 hts 5 rfl) (ht_at2 hts 10 rfl) (Nat.le_of_ble_eq_true rfl) (Nat.le_of_ble_eq_true rfl) (Nat.le_of_ble_eq_true rfl) (Nat.le_of_ble_eq_true rfl) dX1_say_33 ?_
  refine lv_topi (fun x15 ex15 => ?_)
  have t16 : x15.toInt ≤ x13.toInt ∧ x15.toInt ≤ x14.toInt ∧ (x15.toInt = x13.toInt ∨ x15.toInt = x14.toInt) := mn_f ex15 rfl rfl
  refine tw_put (v := .int x15) (ty := .int) hx hb hts bF2_X1 tyX1 tyX1_ok nmX1 hown hK hT hG hS hr_o0 shc_4 rfl 6 (by decide) (ht_at2 hts 7 rfl) (fun _ h9 => h9) rfl (by decide +kernel) rfl rfl (gl_at rfl (gi_all _)) dX1_say_36 (fun H locs hT oq m17 oj hS => ?_)
  have hF := hF.put hr_o0 skc_4 oq oj (by decide)
  exact W.vret hx hb hr (fun t ht hW => ⟨⟨(), rfl, (by exact trivial), by (try dsimp only); rw [ht]; exact ⟨hT, hF⟩⟩, hS.F ht⟩) hS.2.2 dX1_say_39
def w_c_hasSpan : List Cond := .code yX1_hasSpan cX1_hasSpan 1 (some .boolean) :: (HAppend.hAppend (α := List Cond) (β := List Cond) (γ := List Cond) [.fieldLink RX1 28 "SeaLand$Contract" "measured" "Z", .fieldLink RX1 32 "SeaLand$Contract" "least" "I", .fieldLink RX1 10 "SeaLand$Contract" "most" "I"] bs2)
set_option maxHeartbeats 4000000 in
set_option maxRecDepth 100000 in
theorem c_hasSpan (l : Launch) (dC : Nat → ClassId) (dI : Nat → Nat → Nat) (kA : Nat → ClassId) (adK adV : Nat → Nat) (G : gT) (H0 : Heap) (nC nS : Int) (o0 : Nat)  (hT : gH (dC, dI) kA (SHc nC nS) G H0) (hr_o0 : G o0 = some 4) (hgC : 0 ≤ nC ∧ nC ≤ 40) (hgS : 0 ≤ nS ∧ nS ≤ 60) : Met l yX1_hasSpan w_c_hasSpan ({ frames := 0, cells := 0, slots := 0, locals := 0 }) (va_Pc [.ref o0] (fun U => U.heap = H0 ∧ va_K (dC, dI) vwCl (tyl kA) U ∧ EVC adK adV (gA G H0.size) U U.heap)) (va_Qi (fun (r : Int32) (u : Unit) => (0 ≤ r.toInt ∧ r.toInt ≤ 1)) (fun (_ : Unit) (t : State) => gH (dC, dI) kA (SHc nC nS) G t.heap ∧ gF (dC, dI) SKc G ([] : List (Nat × Nat)) H0 t.heap) (gA G H0.size)) 0 0 (gA G H0.size) := by
  refine Met.ofW (cc := cX1_hasSpan) (maxL := 1) (ret := (some .boolean)) (by decide) rfl ?_
  intro p e s m args below meth c s₁ B hml hv
  obtain ⟨rfl, hH0, hK, hE⟩ := hv
  have hx := B.exec
  have hb := B.bytes
  have hr := B.returns
  have hts := atoms_spec (ws := w_c_hasSpan) B.pre
  have hown : s.vm.findClass RX1 = some m.cls := findClass_of_methodNamed B.named
  have hlocks := B.notSynchronized
  subst hH0
  generalize hAe : gA G s.heap.size = A at hE ⊢
  have hA : ∀ q : Nat, s.heap.size ≤ q → A q := fun q h => by rw [← hAe]; exact Or.inr h
  have hG := gA_of hAe
  have hS : va_S A s.heap s.heap [] := va_S.rf
  have hF : gF (dC, dI) SKc G ([] : List (Nat × Nat)) s.heap s.heap := gF.rf
  have hl := lv_entry ([.ref o0]) (n := 1) (Nat.le_of_ble_eq_true rfl)
  rw [lg_entry_eq]
  generalize (lg_sl ([.ref o0]) ++ List.replicate (1 - (lg_sl ([.ref o0])).length) Slot.unset).toArray = ls at hl ⊢
  have hl : lv_has ls 1 [(0, .ref o0)] := hl
  refine lv_aload_n hx hb dX1_hasSpan_0 rfl (lv_at hl 0 rfl) ?_
  refine tw_get hx hb hts bF2_X1 hown hK hT hr_o0 shc_4 rfl 4 (by decide) (ht_at2 hts 0 rfl) (fun _ h9 => h9) dX1_hasSpan_1 (fun v9 m1 h9 => ?_)
  obtain ⟨x2, rfl, gx2, kx2⟩ := h9 _ rfl
  refine lv_if_eq (tgt := 22) hx hb dX1_hasSpan_4 (by decide) (fun c3 => ?_) (fun c3 => ?_)
  · have t4 : x2.toInt = 0 := ti_eq c3 rfl (by decide)
    refine lv_iconst (v := 0) hx hb dX1_hasSpan_22 (by decide) ?_
    exact W.zret (v := 0) hx hb hr (by decide) (fun t ht hW => ⟨⟨0, (), rfl, (by exact (rg_t (a := 0) (by decide) (by first | decide | omega) (by first | decide | omega))), by (try dsimp only); rw [ht]; exact ⟨hT, hF⟩⟩, hS.F ht⟩) hS.2.2 dX1_hasSpan_23
  · have t5 : x2.toInt ≠ 0 := ti_ne c3 rfl (by decide)
    refine lv_aload_n hx hb dX1_hasSpan_7 rfl (lv_at hl 0 rfl) ?_
    refine tw_get hx hb hts bF2_X1 hown hK hT hr_o0 shc_4 rfl 5 (by decide) (ht_at2 hts 1 rfl) (fun _ h9 => h9) dX1_hasSpan_8 (fun v9 m6 h9 => ?_)
    obtain ⟨x7, rfl, gx7, kx7⟩ := h9 _ rfl
    refine lv_aload_n hx hb dX1_hasSpan_11 rfl (lv_at hl 0 rfl) ?_
    refine tw_get hx hb hts bF2_X1 hown hK hT hr_o0 shc_4 rfl 6 (by decide) (ht_at2 hts 2 rfl) (fun _ h9 => h9) dX1_hasSpan_12 (fun v9 m8 h9 => ?_)
    obtain ⟨x9, rfl, gx9, kx9⟩ := h9 _ rfl
    have t10 : -2147483648 ≤ x7.toInt ∧ x7.toInt ≤ 2147483647 := ti_all x7
    have t11 : -2147483648 ≤ x9.toInt ∧ x9.toInt ≤ 2147483647 := ti_all x9
    refine lv_icmp_gt (tgt := 22) hx hb dX1_hasSpan_15 (by decide) (fun c12 => ?_) (fun c12 => ?_)
    · have t13 : x9.toInt < x7.toInt := ti_lt c12 rfl rfl
      refine lv_iconst (v := 0) hx hb dX1_hasSpan_22 (by decide) ?_
      exact W.zret (v := 0) hx hb hr (by decide) (fun t ht hW => ⟨⟨0, (), rfl, (by exact (rg_t (a := 0) (by decide) (by first | decide | omega) (by first | decide | omega))), by (try dsimp only); rw [ht]; exact ⟨hT, hF⟩⟩, hS.F ht⟩) hS.2.2 dX1_hasSpan_23
    · have t14 : x7.toInt ≤ x9.toInt := ti_nlt c12 rfl rfl
      refine lv_iconst (v := 1) hx hb dX1_hasSpan_18 (by decide) ?_
      refine lv_goto (tgt := 23) hx hb dX1_hasSpan_19 (by decide) ?_
      exact W.zret (v := 1) hx hb hr (by decide) (fun t ht hW => ⟨⟨1, (), rfl, (by exact (rg_t (a := 1) (by decide) (by first | decide | omega) (by first | decide | omega))), by (try dsimp only); rw [ht]; exact ⟨hT, hF⟩⟩, hS.F ht⟩) hS.2.2 dX1_hasSpan_23
def w_c_foundSpare : List Cond := .code yX0_foundSpare cX0_foundSpare 2 (some .int) :: (HAppend.hAppend (α := List Cond) (β := List Cond) (γ := List Cond) [.fieldLink RX0 41 "SeaLand$Board" "force" "LSeaLand$Law;", .fieldLink RX0 48 "SeaLand$Board" "spare" "LSeaLand$Law;"] bs2)
set_option maxHeartbeats 4000000 in
set_option maxRecDepth 100000 in
theorem c_foundSpare (l : Launch) (dC : Nat → ClassId) (dI : Nat → Nat → Nat) (kA : Nat → ClassId) (adK adV : Nat → Nat) (G : gT) (H0 : Heap) (nC nS : Int) (o0 : Nat)  (hT : gH (dC, dI) kA (SHc nC nS) G H0) (hr_o0 : G o0 = some 3) (hgC : 0 ≤ nC ∧ nC ≤ 40) (hgS : 0 ≤ nS ∧ nS ≤ 60) : Met l yX0_foundSpare w_c_foundSpare ({ frames := 0, cells := 0, slots := 0, locals := 0 }) (va_Pc [.ref o0] (fun U => U.heap = H0 ∧ va_K (dC, dI) vwCl (tyl kA) U ∧ EVC adK adV (gA G H0.size) U U.heap)) (va_Qi (fun (r : Int32) (u : Unit) => (0 ≤ r.toInt ∧ r.toInt ≤ 20)) (fun (_ : Unit) (t : State) => gH (dC, dI) kA (SHc nC nS) G t.heap ∧ gF (dC, dI) SKc G ([(3, 7), (3, 9)] : List (Nat × Nat)) H0 t.heap) (gA G H0.size)) 0 0 (gA G H0.size) := by
  refine Met.ofW (cc := cX0_foundSpare) (maxL := 2) (ret := (some .int)) (by decide) rfl ?_
  intro p e s m args below meth c s₁ B hml hv
  obtain ⟨rfl, hH0, hK, hE⟩ := hv
  have hx := B.exec
  have hb := B.bytes
  have hr := B.returns
  have hts := atoms_spec (ws := w_c_foundSpare) B.pre
  have hown : s.vm.findClass RX0 = some m.cls := findClass_of_methodNamed B.named
  have hlocks := B.notSynchronized
  subst hH0
  generalize hAe : gA G s.heap.size = A at hE ⊢
  have hA : ∀ q : Nat, s.heap.size ≤ q → A q := fun q h => by rw [← hAe]; exact Or.inr h
  have hG := gA_of hAe
  have hS : va_S A s.heap s.heap [] := va_S.rf
  have hF : gF (dC, dI) SKc G ([(3, 7), (3, 9)] : List (Nat × Nat)) s.heap s.heap := gF.rf
  have hl := lv_entry ([.ref o0]) (n := 2) (Nat.le_of_ble_eq_true rfl)
  rw [lg_entry_eq]
  generalize (lg_sl ([.ref o0]) ++ List.replicate (2 - (lg_sl ([.ref o0])).length) Slot.unset).toArray = ls at hl ⊢
  have hl : lv_has ls 2 [(0, .ref o0)] := hl
  refine lv_aload_n hx hb dX0_foundSpare_0 rfl (lv_at hl 0 rfl) ?_
  refine tw_get hx hb hts bF2_X0 hown hK hT hr_o0 shc_3 rfl 7 (by decide) (ht_at2 hts 0 rfl) (fun _ h9 => h9) dX0_foundSpare_1 (fun v9 m1 h9 => ?_)
  obtain ⟨b2, rfl, hg3⟩ := h9 _ rfl
  refine lv_astore_n (lv' := [(1, .ref b2), (0, .ref o0)]) hx hb dX0_foundSpare_4 rfl hl (by decide) rfl (fun ls hl => ?_)
  refine lv_aload_n hx hb dX0_foundSpare_5 rfl (lv_at hl 1 rfl) ?_
  refine lv_aload_n hx hb dX0_foundSpare_6 rfl (lv_at hl 1 rfl) ?_
  refine tw_get hx hb hts bF2_X0 hown hK hT hr_o0 shc_3 rfl 9 (by decide) (ht_at2 hts 1 rfl) (fun _ h9 => h9) dX0_foundSpare_7 (fun v9 m4 h9 => ?_)
  obtain ⟨b5, rfl, hg6⟩ := h9 _ rfl
  refine tw_put (v := .ref b5) (ty := (.object "SeaLand$Law")) hx hb hts bF2_X0 tyX0 tyX0_ok nmX0 hown hK hT hG hS hr_o0 shc_3 rfl 7 (by decide) (ht_at2 hts 0 rfl) (fun _ h9 => h9) rfl (by decide +kernel) rfl rfl (gl_at rfl ⟨_, rfl, hg6⟩) dX0_foundSpare_10 (fun H locs hT oq m7 oj hS => ?_)
  have hF := hF.put hr_o0 skc_3 oq oj (by decide)
  refine lv_aload_n hx hb dX0_foundSpare_13 rfl (lv_at hl 1 rfl) ?_
  refine lv_aload_n hx hb dX0_foundSpare_14 rfl (lv_at hl 0 rfl) ?_
  refine tw_put (v := .ref b2) (ty := (.object "SeaLand$Law")) hx hb hts bF2_X0 tyX0 tyX0_ok nmX0 hown hK hT hG hS hr_o0 shc_3 rfl 9 (by decide) (ht_at2 hts 1 rfl) (fun _ h9 => h9) rfl (by decide +kernel) rfl rfl (gl_at rfl ⟨_, rfl, hg3⟩) dX0_foundSpare_15 (fun H locs hT oq m9 oj hS => ?_)
  have hF := hF.put hr_o0 skc_3 oq oj (by decide)
  have m10 := (oj 7 (by decide) (by decide)).trans m7
  refine lv_aload_n hx hb dX0_foundSpare_18 rfl (lv_at hl 1 rfl) ?_
  refine tw_getM (v := .ref b5) hx hb hts bF2_X0 hown hK hT hr_o0 shc_3 rfl 7 (by decide) (ht_at2 hts 0 rfl) (fun _ h9 => h9) m10 dX0_foundSpare_19 ?_
  refine tw_getN hx hb hts bF2_X4 hown hK hT hg6 shc_7 rfl 11 (by decide) (hE.nw 59 rfl) (fun _ h9 => h9) dX0_foundSpare_22 (fun v9 m11 h9 => ?_)
  obtain ⟨x12, rfl, gx12, kx12⟩ := h9 _ rfl
  exact W.iret (v := x12) hx hb hr (fun t ht hW => ⟨⟨x12, (), rfl, (by exact (by have q8 := ti_all x12; omega)), by (try dsimp only); rw [ht]; exact ⟨hT, hF⟩⟩, hS.F ht⟩) hS.2.2 dX0_foundSpare_25
def w_c_proposeSpare : List Cond := .code yX0_proposeSpare cX0_proposeSpare 3 (some .int) :: (HAppend.hAppend (α := List Cond) (β := List Cond) (γ := List Cond) [.fieldLink RX0 45 "SeaLand$Board" "proposed" "LSeaLand$Law;", .fieldLink RX0 48 "SeaLand$Board" "spare" "LSeaLand$Law;", .fieldLink RX0 64 "SeaLand$Board" "voting" "Z", .fieldLink RX0 68 "SeaLand$Board" "yesVotes" "J", .fieldLink RX0 72 "SeaLand$Board" "allVotes" "J", .fieldLink RX0 75 "SeaLand$Board" "settled" "I", .fieldLink RX0 11 "SeaLand$Board" "settlers" "[LSeaLand$Settler;"] bs2)
set_option maxHeartbeats 4000000 in
set_option maxRecDepth 100000 in
theorem c_proposeSpare (l : Launch) (dC : Nat → ClassId) (dI : Nat → Nat → Nat) (kA : Nat → ClassId) (adK adV : Nat → Nat) (G : gT) (H0 : Heap) (nC nS : Int) (o0 : Nat)  (hT : gH (dC, dI) kA (SHc nC nS) G H0) (hr_o0 : G o0 = some 3) (hgC : 0 ≤ nC ∧ nC ≤ 40) (hgS : 0 ≤ nS ∧ nS ≤ 60) : Met l yX0_proposeSpare w_c_proposeSpare ({ frames := 0, cells := 0, slots := 0, locals := 0 }) (va_Pc [.ref o0] (fun U => U.heap = H0 ∧ va_K (dC, dI) vwCl (tyl kA) U ∧ EVC adK adV (gA G H0.size) U U.heap)) (va_Qi (fun (r : Int32) (u : Unit) => (0 ≤ r.toInt ∧ r.toInt ≤ 20)) (fun (_ : Unit) (t : State) => gH (dC, dI) kA (SHc nC nS) G t.heap ∧ gF (dC, dI) SKc G ([(3, 8), (3, 9), (3, 11), (3, 12), (3, 13), (10, 11)] : List (Nat × Nat)) H0 t.heap) (gA G H0.size)) 0 0 (gA G H0.size) := by
  refine Met.ofW (cc := cX0_proposeSpare) (maxL := 3) (ret := (some .int)) (by decide) rfl ?_
  intro p e s m args below meth c s₁ B hml hv
  obtain ⟨rfl, hH0, hK, hE⟩ := hv
  have hx := B.exec
  have hb := B.bytes
  have hr := B.returns
  have hts := atoms_spec (ws := w_c_proposeSpare) B.pre
  have hown : s.vm.findClass RX0 = some m.cls := findClass_of_methodNamed B.named
  have hlocks := B.notSynchronized
  subst hH0
  generalize hAe : gA G s.heap.size = A at hE ⊢
  have hA : ∀ q : Nat, s.heap.size ≤ q → A q := fun q h => by rw [← hAe]; exact Or.inr h
  have hG := gA_of hAe
  have hS : va_S A s.heap s.heap [] := va_S.rf
  have hF : gF (dC, dI) SKc G ([(3, 8), (3, 9), (3, 11), (3, 12), (3, 13), (10, 11)] : List (Nat × Nat)) s.heap s.heap := gF.rf
  have hl := lv_entry ([.ref o0]) (n := 3) (Nat.le_of_ble_eq_true rfl)
  rw [lg_entry_eq]
  generalize (lg_sl ([.ref o0]) ++ List.replicate (3 - (lg_sl ([.ref o0])).length) Slot.unset).toArray = ls at hl ⊢
  have hl : lv_has ls 3 [(0, .ref o0)] := hl
  refine lv_aload_n hx hb dX0_proposeSpare_0 rfl (lv_at hl 0 rfl) ?_
  refine tw_get hx hb hts bF2_X0 hown hK hT hr_o0 shc_3 rfl 8 (by decide) (ht_at2 hts 0 rfl) (fun _ h9 => h9) dX0_proposeSpare_1 (fun v9 m1 h9 => ?_)
  obtain ⟨b2, rfl, hg3⟩ := h9 _ rfl
  refine lv_astore_n (lv' := [(1, .ref b2), (0, .ref o0)]) hx hb dX0_proposeSpare_4 rfl hl (by decide) rfl (fun ls hl => ?_)
  refine lv_aload_n hx hb dX0_proposeSpare_5 rfl (lv_at hl 1 rfl) ?_
  refine lv_aload_n hx hb dX0_proposeSpare_6 rfl (lv_at hl 1 rfl) ?_
  refine tw_get hx hb hts bF2_X0 hown hK hT hr_o0 shc_3 rfl 9 (by decide) (ht_at2 hts 1 rfl) (fun _ h9 => h9) dX0_proposeSpare_7 (fun v9 m4 h9 => ?_)
  obtain ⟨b5, rfl, hg6⟩ := h9 _ rfl
  refine tw_put (v := .ref b5) (ty := (.object "SeaLand$Law")) hx hb hts bF2_X0 tyX0 tyX0_ok nmX0 hown hK hT hG hS hr_o0 shc_3 rfl 8 (by decide) (ht_at2 hts 0 rfl) (fun _ h9 => h9) rfl (by decide +kernel) rfl rfl (gl_at rfl ⟨_, rfl, hg6⟩) dX0_proposeSpare_10 (fun H locs hT oq m7 oj hS => ?_)
  have hF := hF.put hr_o0 skc_3 oq oj (by decide)
  refine lv_aload_n hx hb dX0_proposeSpare_13 rfl (lv_at hl 1 rfl) ?_
  refine lv_aload_n hx hb dX0_proposeSpare_14 rfl (lv_at hl 0 rfl) ?_
  refine tw_put (v := .ref b2) (ty := (.object "SeaLand$Law")) hx hb hts bF2_X0 tyX0 tyX0_ok nmX0 hown hK hT hG hS hr_o0 shc_3 rfl 9 (by decide) (ht_at2 hts 1 rfl) (fun _ h9 => h9) rfl (by decide +kernel) rfl rfl (gl_at rfl ⟨_, rfl, hg3⟩) dX0_proposeSpare_15 (fun H locs hT oq m9 oj hS => ?_)
  have hF := hF.put hr_o0 skc_3 oq oj (by decide)
  have m10 := (oj 8 (by decide) (by decide)).trans m7
  refine lv_aload_n hx hb dX0_proposeSpare_18 rfl (lv_at hl 1 rfl) ?_
  refine lv_iconst (v := 1) hx hb dX0_proposeSpare_19 (by decide) ?_
  refine tw_put (v := .int 1) (ty := .boolean) hx hb hts bF2_X0 tyX0 tyX0_ok nmX0 hown hK hT hG hS hr_o0 shc_3 rfl 11 (by decide) (ht_at2 hts 2 rfl) (fun _ h9 => h9) rfl (by decide +kernel) rfl rfl (gl_at rfl (gi_of (show (1 : Int32).toInt = 1 from (by decide)) (by first | decide | omega) (by first | decide | omega))) dX0_proposeSpare_20 (fun H locs hT oq m11 oj hS => ?_)
  have hF := hF.put hr_o0 skc_3 oq oj (by decide)
  have m12 := (oj 8 (by decide) (by decide)).trans m10
  have m13 := (oj 9 (by decide) (by decide)).trans m9
  refine lv_aload_n hx hb dX0_proposeSpare_23 rfl (lv_at hl 1 rfl) ?_
  refine lv_lconst (v := 0) hx hb dX0_proposeSpare_24 (by decide) ?_
  refine tw_put (v := .long 0) (ty := .long) hx hb hts bF2_X0 tyX0 tyX0_ok nmX0 hown hK hT hG hS hr_o0 shc_3 rfl 12 (by decide) (ht_at2 hts 3 rfl) (fun _ h9 => h9) rfl (by decide +kernel) rfl rfl (gl_at rfl ⟨_, rfl⟩) dX0_proposeSpare_25 (fun H locs hT oq m14 oj hS => ?_)
  have hF := hF.put hr_o0 skc_3 oq oj (by decide)
  have m15 := (oj 8 (by decide) (by decide)).trans m12
  have m16 := (oj 9 (by decide) (by decide)).trans m13
  have m17 := (oj 11 (by decide) (by decide)).trans m11
  refine lv_aload_n hx hb dX0_proposeSpare_28 rfl (lv_at hl 1 rfl) ?_
  refine lv_lconst (v := 0) hx hb dX0_proposeSpare_29 (by decide) ?_
  refine tw_put (v := .long 0) (ty := .long) hx hb hts bF2_X0 tyX0 tyX0_ok nmX0 hown hK hT hG hS hr_o0 shc_3 rfl 13 (by decide) (ht_at2 hts 4 rfl) (fun _ h9 => h9) rfl (by decide +kernel) rfl rfl (gl_at rfl ⟨_, rfl⟩) dX0_proposeSpare_30 (fun H locs hT oq m18 oj hS => ?_)
  have hF := hF.put hr_o0 skc_3 oq oj (by decide)
  have m19 := (oj 8 (by decide) (by decide)).trans m15
  have m20 := (oj 9 (by decide) (by decide)).trans m16
  have m21 := (oj 11 (by decide) (by decide)).trans m17
  have m22 := (oj 12 (by decide) (by decide)).trans m14
  refine lv_iconst (v := 0) hx hb dX0_proposeSpare_33 (by decide) ?_
  refine lv_istore_n (lv' := [(2, .int 0), (1, .ref b2), (0, .ref o0)]) hx hb dX0_proposeSpare_34 rfl hl (by decide) rfl (fun ls hl => ?_)
  have key51 : ∀ (n51 i23 : Nat), i23 + n51 = 60 → 0 ≤ i23 → ∀ (H : Heap) (locs : List Loc), gH (dC, dI) kA (SHc nC nS) G H → gF (dC, dI) SKc G ([(3, 8), (3, 9), (3, 11), (3, 12), (3, 13), (10, 11)] : List (Nat × Nat)) s.heap H → va_S A s.heap H locs → el H o0 (dI 3 8) = some (.ref b5) → el H o0 (dI 3 9) = some (.ref b2) → el H o0 (dI 3 11) = some (.int 1) → el H o0 (dI 3 12) = some (.long 0) → el H o0 (dI 3 13) = some (.long 0) → ∀ ls : Array Slot, lv_has ls 3 [(2, .int (nI i23)), (1, .ref b2), (0, .ref o0)] → W p l e (headSpec w_c_proposeSpare ({ frames := 0, cells := 0, slots := 0, locals := 0 })).room s m #[.ref o0] below meth c H locs 0 0 (MQ below (va_Qi (fun (r : Int32) (u : Unit) => (0 ≤ r.toInt ∧ r.toInt ≤ 20)) (fun (_ : Unit) (t : State) => gH (dC, dI) kA (SHc nC nS) G t.heap ∧ gF (dC, dI) SKc G ([(3, 8), (3, 9), (3, 11), (3, 12), (3, 13), (10, 11)] : List (Nat × Nat)) s.heap t.heap) A) #[.ref o0] s 0 0 A) (F0 m 35 ls []) := by
    intro n51
    induction n51 with
    | zero =>
      intro i23 hn51 hlo52  H locs hT hF hS m24 m25 m26 m27 m28 ls hl
      obtain rfl : 60 = i23 := by omega
      refine lv_iload_n hx hb dX0_proposeSpare_35 rfl (lv_at hl 0 rfl) ?_
      refine lv_aload_n hx hb dX0_proposeSpare_36 rfl (lv_at hl 2 rfl) ?_
      refine tw_get hx hb hts bF2_X0 hown hK hT hr_o0 shc_3 rfl 14 (by decide) (ht_at2 hts 5 rfl) (fun _ h9 => h9) dX0_proposeSpare_37 (fun v9 m53 h9 => ?_)
      obtain ⟨x54, rfl, gx54, kx54⟩ := h9 _ rfl
      refine lv_icmp_ge (tgt := 59) hx hb dX0_proposeSpare_40 (by decide) (fun c55 => ?_) (fun c55 => (by exfalso; have q9 : ((60 : Nat) : Int) < x54.toInt := ti_nle c55 rfl (nI_toInt (by omega)); omega))
      have t56 : x54.toInt ≤ ((60 : Nat) : Int) := ti_le c55 rfl (nI_toInt (by omega))
      refine lv_aload_n hx hb dX0_proposeSpare_59 rfl (lv_at hl 2 rfl) ?_
      refine tw_getM (v := .ref b5) hx hb hts bF2_X0 hown hK hT hr_o0 shc_3 rfl 8 (by decide) (ht_at2 hts 0 rfl) (fun _ h9 => h9) m24 dX0_proposeSpare_60 ?_
      refine tw_getN hx hb hts bF2_X4 hown hK hT hg6 shc_7 rfl 11 (by decide) (hE.nw 59 rfl) (fun _ h9 => h9) dX0_proposeSpare_63 (fun v9 m57 h9 => ?_)
      obtain ⟨x58, rfl, gx58, kx58⟩ := h9 _ rfl
      exact W.iret (v := x58) hx hb hr (fun t ht hW => ⟨⟨x58, (), rfl, (by exact (by have q8 := ti_all x58; omega)), by (try dsimp only); rw [ht]; exact ⟨hT, hF⟩⟩, hS.F ht⟩) hS.2.2 dX0_proposeSpare_66
    | succ n51 ih51 =>
      intro i23 hn51 hlo52  H locs hT hF hS m24 m25 m26 m27 m28 ls hl
      have hlt58 : i23 < 60 := by omega
      refine lv_iload_n hx hb dX0_proposeSpare_35 rfl (lv_at hl 0 rfl) ?_
      refine lv_aload_n hx hb dX0_proposeSpare_36 rfl (lv_at hl 2 rfl) ?_
      refine tw_get hx hb hts bF2_X0 hown hK hT hr_o0 shc_3 rfl 14 (by decide) (ht_at2 hts 5 rfl) (fun _ h9 => h9) dX0_proposeSpare_37 (fun v9 m59 h9 => ?_)
      obtain ⟨x60, rfl, gx60, kx60⟩ := h9 _ rfl
      refine lv_icmp_ge (tgt := 59) hx hb dX0_proposeSpare_40 (by decide) (fun c61 => ?_) (fun c61 => ?_)
      · have t62 : x60.toInt ≤ ((i23 : Nat) : Int) := ti_le c61 rfl (nI_toInt (by omega))
        refine lv_aload_n hx hb dX0_proposeSpare_59 rfl (lv_at hl 2 rfl) ?_
        refine tw_getM (v := .ref b5) hx hb hts bF2_X0 hown hK hT hr_o0 shc_3 rfl 8 (by decide) (ht_at2 hts 0 rfl) (fun _ h9 => h9) m24 dX0_proposeSpare_60 ?_
        refine tw_getN hx hb hts bF2_X4 hown hK hT hg6 shc_7 rfl 11 (by decide) (hE.nw 59 rfl) (fun _ h9 => h9) dX0_proposeSpare_63 (fun v9 m63 h9 => ?_)
        obtain ⟨x64, rfl, gx64, kx64⟩ := h9 _ rfl
        exact W.iret (v := x64) hx hb hr (fun t ht hW => ⟨⟨x64, (), rfl, (by exact (by have q8 := ti_all x64; omega)), by (try dsimp only); rw [ht]; exact ⟨hT, hF⟩⟩, hS.F ht⟩) hS.2.2 dX0_proposeSpare_66
      · have t65 : ((i23 : Nat) : Int) < x60.toInt := ti_nle c61 rfl (nI_toInt (by omega))
        refine lv_aload_n hx hb dX0_proposeSpare_43 rfl (lv_at hl 2 rfl) ?_
        refine tw_get hx hb hts bF2_X0 hown hK hT hr_o0 shc_3 rfl 0 (by decide) (ht_at2 hts 6 rfl) (fun _ h9 => h9) dX0_proposeSpare_44 (fun v9 m66 h9 => ?_)
        obtain ⟨b67, rfl, hg68⟩ := h9 _ rfl
        refine lv_iload_n hx hb dX0_proposeSpare_47 rfl (lv_at hl 0 rfl) ?_
        refine tw_aald (i := (nI i23)) hx hb hK hT hg68 shc_51 rfl (vp_in_nI (by omega) (by decide)) dX0_proposeSpare_48 (fun v9 m69 h9 => ?_)
        obtain ⟨b70, rfl, hg71⟩ := (h9.1 (by have q9 := tn_of (show (nI i23).toInt = ((i23 : Nat) : Int) from (nI_toInt (by omega))) (by omega); omega))
        refine lv_iconst (v := 0) hx hb dX0_proposeSpare_49 (by decide) ?_
        refine tw_putN (v := .int 0) (ty := .boolean) hx hb hts bF2_X7 tyX7 tyX7_ok nmX7 hown hK hT hG hS hg71 shc_10 rfl 11 (by decide) (hE.nw 60 rfl) (fun _ h9 => h9) rfl (by decide +kernel) rfl rfl (gl_at rfl (gi_of (show (0 : Int32).toInt = 0 from (by decide)) (by first | decide | omega) (by first | decide | omega))) dX0_proposeSpare_50 (fun H locs hT oq m72 oj hS => ?_)
        have hF := hF.put hg71 skc_10 oq oj (by decide)
        have m73 := (el_kept (oq _ (gne hr_o0 hg71 (by decide)))).trans m24
        have m74 := (el_kept (oq _ (gne hr_o0 hg71 (by decide)))).trans m25
        have m75 := (el_kept (oq _ (gne hr_o0 hg71 (by decide)))).trans m26
        have m76 := (el_kept (oq _ (gne hr_o0 hg71 (by decide)))).trans m27
        have m77 := (el_kept (oq _ (gne hr_o0 hg71 (by decide)))).trans m28
        refine lv_iinc (v := nI (i23 + 1)) (lv' := [(2, .int (nI (i23 + 1))), (1, .ref b2), (0, .ref o0)]) hx hb dX0_proposeSpare_53 hl (k := 0) rfl (nI_add i23 1) (by decide) rfl (fun ls hl => ?_)
        refine lv_goto (tgt := 35) hx hb dX0_proposeSpare_56 (by decide) ?_
        exact ih51 (i23 + 1) (by omega) (by omega) _ _ hT hF hS m73 m74 m75 m76 m77 ls (lv_sub hl [0, 1, 2] rfl)
  exact key51 (60 - 0) 0 (by omega) (Nat.le_refl _) _ _ hT hF hS m19 m20 m21 m22 m18 ls (lv_sub hl [0, 1, 2] rfl)
def w_c_acresOf : List Cond := .code yX0_acresOf cX0_acresOf 4 (some .int) :: (HAppend.hAppend (α := List Cond) (β := List Cond) (γ := List Cond) [.fieldLink RX0 17 "SeaLand$Board" "farmOf" "[I"] bs2)
set_option maxHeartbeats 4000000 in
set_option maxRecDepth 100000 in
theorem c_acresOf (l : Launch) (dC : Nat → ClassId) (dI : Nat → Nat → Nat) (kA : Nat → ClassId) (adK adV : Nat → Nat) (G : gT) (H0 : Heap) (nC nS : Int) (o0 : Nat) (p0 : Nat)  (hT : gH (dC, dI) kA (SHc nC nS) G H0) (hr_p0 : G p0 = some 10) (hr_o0 : G o0 = some 3) (hgC : 0 ≤ nC ∧ nC ≤ 40) (hgS : 0 ≤ nS ∧ nS ≤ 60) : Met l yX0_acresOf w_c_acresOf ({ frames := 0, cells := 0, slots := 0, locals := 0 }) (va_Pc [.ref o0, .ref p0] (fun U => U.heap = H0 ∧ va_K (dC, dI) vwCl (tyl kA) U ∧ EVC adK adV (gA G H0.size) U U.heap)) (va_Qi (fun (r : Int32) (u : Unit) => True) (fun (_ : Unit) (t : State) => gH (dC, dI) kA (SHc nC nS) G t.heap ∧ gF (dC, dI) SKc G ([] : List (Nat × Nat)) H0 t.heap) (gA G H0.size)) 0 0 (gA G H0.size) := by
  refine Met.ofW (cc := cX0_acresOf) (maxL := 4) (ret := (some .int)) (by decide) rfl ?_
  intro p e s m args below meth c s₁ B hml hv
  obtain ⟨rfl, hH0, hK, hE⟩ := hv
  have hx := B.exec
  have hb := B.bytes
  have hr := B.returns
  have hts := atoms_spec (ws := w_c_acresOf) B.pre
  have hown : s.vm.findClass RX0 = some m.cls := findClass_of_methodNamed B.named
  have hlocks := B.notSynchronized
  subst hH0
  generalize hAe : gA G s.heap.size = A at hE ⊢
  have hA : ∀ q : Nat, s.heap.size ≤ q → A q := fun q h => by rw [← hAe]; exact Or.inr h
  have hG := gA_of hAe
  have hS : va_S A s.heap s.heap [] := va_S.rf
  have hF : gF (dC, dI) SKc G ([] : List (Nat × Nat)) s.heap s.heap := gF.rf
  have hl := lv_entry ([.ref o0, .ref p0]) (n := 4) (Nat.le_of_ble_eq_true rfl)
  rw [lg_entry_eq]
  generalize (lg_sl ([.ref o0, .ref p0]) ++ List.replicate (4 - (lg_sl ([.ref o0, .ref p0])).length) Slot.unset).toArray = ls at hl ⊢
  have hl : lv_has ls 4 [(0, .ref o0), (1, .ref p0)] := hl
  refine lv_iconst (v := 0) hx hb dX0_acresOf_0 (by decide) ?_
  refine lv_istore_n (lv' := [(2, .int 0), (0, .ref o0), (1, .ref p0)]) hx hb dX0_acresOf_1 rfl hl (by decide) rfl (fun ls hl => ?_)
  refine lv_iconst (v := 0) hx hb dX0_acresOf_2 (by decide) ?_
  refine lv_istore_n (lv' := [(3, .int 0), (2, .int 0), (0, .ref o0), (1, .ref p0)]) hx hb dX0_acresOf_3 rfl hl (by decide) rfl (fun ls hl => ?_)
  have key23 : ∀ (n23 i1 : Nat), i1 + n23 = 96 → 0 ≤ i1 → ∀ (z2 : Int32), ∀ (H : Heap) (locs : List Loc), gH (dC, dI) kA (SHc nC nS) G H → gF (dC, dI) SKc G ([] : List (Nat × Nat)) s.heap H → va_S A s.heap H locs → ∀ ls : Array Slot, lv_has ls 4 [(3, .int (nI i1)), (2, .int z2), (0, .ref o0), (1, .ref p0)] → W p l e (headSpec w_c_acresOf ({ frames := 0, cells := 0, slots := 0, locals := 0 })).room s m #[.ref o0, .ref p0] below meth c H locs 0 0 (MQ below (va_Qi (fun (r : Int32) (u : Unit) => True) (fun (_ : Unit) (t : State) => gH (dC, dI) kA (SHc nC nS) G t.heap ∧ gF (dC, dI) SKc G ([] : List (Nat × Nat)) s.heap t.heap) A) #[.ref o0, .ref p0] s 0 0 A) (F0 m 4 ls []) := by
    intro n23
    induction n23 with
    | zero =>
      intro i1 hn23 hlo24 z2 H locs hT hF hS  ls hl
      obtain rfl : 96 = i1 := by omega
      refine lv_iload_n hx hb dX0_acresOf_4 rfl (lv_at hl 0 rfl) ?_
      refine lv_bipush (v := 96) hx hb dX0_acresOf_5 (by decide) ?_
      refine lv_icmp_ge (tgt := 45) hx hb dX0_acresOf_7 (by decide) (fun c25 => ?_) (fun c25 => (by exfalso; have q9 : ((96 : Nat) : Int) < 96 := ti_nle c25 (by decide) (nI_toInt (by omega)); omega))
      have t26 : 96 ≤ ((96 : Nat) : Int) := ti_le c25 (by decide) (nI_toInt (by omega))
      refine lv_iload_n hx hb dX0_acresOf_45 rfl (lv_at hl 1 rfl) ?_
      exact W.iret (v := z2) hx hb hr (fun t ht hW => ⟨⟨z2, (), rfl, (by exact trivial), by (try dsimp only); rw [ht]; exact ⟨hT, hF⟩⟩, hS.F ht⟩) hS.2.2 dX0_acresOf_46
    | succ n23 ih23 =>
      intro i1 hn23 hlo24 z2 H locs hT hF hS  ls hl
      have hlt26 : i1 < 96 := by omega
      refine lv_iload_n hx hb dX0_acresOf_4 rfl (lv_at hl 0 rfl) ?_
      refine lv_bipush (v := 96) hx hb dX0_acresOf_5 (by decide) ?_
      refine lv_icmp_ge (tgt := 45) hx hb dX0_acresOf_7 (by decide) (fun c27 => (by exfalso; have q9 : 96 ≤ ((i1 : Nat) : Int) := ti_le c27 (by decide) (nI_toInt (by omega)); omega)) (fun c27 => ?_)
      have t28 : ((i1 : Nat) : Int) < 96 := ti_nle c27 (by decide) (nI_toInt (by omega))
      refine lv_aload_n hx hb dX0_acresOf_10 rfl (lv_at hl 3 rfl) ?_
      refine tw_getN hx hb hts bF2_X7 hown hK hT hr_p0 shc_10 rfl 7 (by decide) (hE.nw 61 rfl) (fun _ h9 => h9) dX0_acresOf_11 (fun v9 m29 h9 => ?_)
      obtain ⟨x30, rfl, gx30, kx30⟩ := h9 _ rfl
      refine lv_iconst (v := (-1)) hx hb dX0_acresOf_14 (by decide) ?_
      refine lv_icmp_eq (tgt := 45) hx hb dX0_acresOf_15 (by decide) (fun c31 => ?_) (fun c31 => ?_)
      · have t32 : x30.toInt = (-1) := ti_eq c31 rfl (by decide)
        refine lv_iload_n hx hb dX0_acresOf_45 rfl (lv_at hl 1 rfl) ?_
        exact W.iret (v := z2) hx hb hr (fun t ht hW => ⟨⟨z2, (), rfl, (by exact trivial), by (try dsimp only); rw [ht]; exact ⟨hT, hF⟩⟩, hS.F ht⟩) hS.2.2 dX0_acresOf_46
      · have t33 : x30.toInt ≠ (-1) := ti_ne c31 rfl (by decide)
        refine lv_iload_n hx hb dX0_acresOf_18 rfl (lv_at hl 1 rfl) ?_
        refine lv_aload_n hx hb dX0_acresOf_19 rfl (lv_at hl 2 rfl) ?_
        refine tw_get hx hb hts bF2_X0 hown hK hT hr_o0 shc_3 rfl 1 (by decide) (ht_at2 hts 0 rfl) (fun _ h9 => h9) dX0_acresOf_20 (fun v9 m34 h9 => ?_)
        obtain ⟨b35, rfl, hg36⟩ := h9 _ rfl
        refine lv_iload_n hx hb dX0_acresOf_23 rfl (lv_at hl 0 rfl) ?_
        refine tw_iald (i := (nI i1)) hx hb hK hT hg36 shc_52 rfl (vp_in_nI (by omega) (by decide)) dX0_acresOf_24 (fun v9 m37 h9 => ?_)
        obtain ⟨x38, rfl, gx38, kx38⟩ := h9
        refine lv_aload_n hx hb dX0_acresOf_25 rfl (lv_at hl 3 rfl) ?_
        refine tw_getNM (v := .int x30) hx hb hts bF2_X7 hown hK hT hr_p0 shc_10 rfl 7 (by decide) (hE.nw 61 rfl) (fun _ h9 => h9) m29 dX0_acresOf_26 ?_
        have t39 : -2147483648 ≤ x38.toInt ∧ x38.toInt ≤ 2147483647 := ti_all x38
        refine lv_icmp_ne (tgt := 36) hx hb dX0_acresOf_29 (by decide) (fun c40 => ?_) (fun c40 => ?_)
        · have t41 : x38.toInt ≠ x30.toInt := ti_ne c40 rfl rfl
          refine lv_iconst (v := 0) hx hb dX0_acresOf_36 (by decide) ?_
          refine lv_iadd hx hb dX0_acresOf_37 ?_
          refine lv_topi (fun x42 ex42 => ?_)
          have t43 : -2147483648 ≤ z2.toInt ∧ z2.toInt ≤ 2147483647 := ti_all z2
          have t44 : x42.toInt = z2.toInt + 0 := ti_add ex42 rfl (by decide) (by omega) (by omega)
          refine lv_istore_n (lv' := [(2, .int x42), (3, .int (nI i1)), (0, .ref o0), (1, .ref p0)]) hx hb dX0_acresOf_38 rfl hl (by decide) rfl (fun ls hl => ?_)
          refine lv_iinc (v := nI (i1 + 1)) (lv' := [(3, .int (nI (i1 + 1))), (2, .int x42), (0, .ref o0), (1, .ref p0)]) hx hb dX0_acresOf_39 hl (k := 1) rfl (nI_add i1 1) (by decide) rfl (fun ls hl => ?_)
          refine lv_goto (tgt := 4) hx hb dX0_acresOf_42 (by decide) ?_
          exact ih23 (i1 + 1) (by omega) (by omega) x42 _ _ hT hF hS ls (lv_sub hl [0, 1, 2, 3] rfl)
        · have t45 : x38.toInt = x30.toInt := ti_eq c40 rfl rfl
          refine lv_iconst (v := 1) hx hb dX0_acresOf_32 (by decide) ?_
          refine lv_goto (tgt := 37) hx hb dX0_acresOf_33 (by decide) ?_
          refine lv_iadd hx hb dX0_acresOf_37 ?_
          refine lv_topi (fun x46 ex46 => ?_)
          refine lv_istore_n (lv' := [(2, .int x46), (3, .int (nI i1)), (0, .ref o0), (1, .ref p0)]) hx hb dX0_acresOf_38 rfl hl (by decide) rfl (fun ls hl => ?_)
          refine lv_iinc (v := nI (i1 + 1)) (lv' := [(3, .int (nI (i1 + 1))), (2, .int x46), (0, .ref o0), (1, .ref p0)]) hx hb dX0_acresOf_39 hl (k := 1) rfl (nI_add i1 1) (by decide) rfl (fun ls hl => ?_)
          refine lv_goto (tgt := 4) hx hb dX0_acresOf_42 (by decide) ?_
          exact ih23 (i1 + 1) (by omega) (by omega) x46 _ _ hT hF hS ls (lv_sub hl [0, 1, 2, 3] rfl)
  exact key23 (96 - 0) 0 (by omega) (Nat.le_refl _) 0 _ _ hT hF hS ls (lv_sub hl [0, 1, 2, 3] rfl)
def w_c_nearOf : List Cond := .code yX0_nearOf cX0_nearOf 5 (some .int) :: (HAppend.hAppend (α := List Cond) (β := List Cond) (γ := List Cond) [.fieldLink RX0 17 "SeaLand$Board" "farmOf" "[I", .code yX3_stepsToBank cX3_stepsToBank 4 (some .int), .fieldLink RX3 47 "SeaLand$Lake" "built" "I", .fieldLink RX3 27 "SeaLand$Lake" "works" "[LSeaLand$Work;", .code yX10_isBank cX10_isBank 1 (some .boolean), .fieldLink RX10 18 "SeaLand$Work" "kind" "I", .methodLink RX3 67 yX10_isBank, .instanceMethod yX10_isBank, .selects RX10 yX10_isBank yX10_isBank, .initialized RX10, .code yX11_stepsApart cX11_stepsApart 2 (some .int), .methodLink RX11 580 Lib.Math.abs.name, .static Lib.Math.abs.name, .initialized "java/lang/Math", .code Lib.Math.abs.name Lib.Math.abs.code 1 (some .int), .initialized RX11, .static yX11_stepsApart, .methodLink RX3 71 Lib.Math.min.name, .static Lib.Math.min.name, .code Lib.Math.min.name Lib.Math.min.code 2 (some .int), .methodLink RX0 138 yX3_stepsToBank, .instanceMethod yX3_stepsToBank, .selects RX3 yX3_stepsToBank yX3_stepsToBank, .initialized RX3, .methodLink RX0 166 Lib.Math.min.name] bs2)
set_option maxHeartbeats 4000000 in
set_option maxRecDepth 100000 in
theorem c_nearOf (l : Launch) (dC : Nat → ClassId) (dI : Nat → Nat → Nat) (kA : Nat → ClassId) (adK adV : Nat → Nat) (G : gT) (H0 : Heap) (nC nS : Int) (o0 : Nat) (p0 : Nat) (p1 : Nat)  (hT : gH (dC, dI) kA (SHc nC nS) G H0) (hr_p0 : G p0 = some 10) (hr_p1 : G p1 = some 6) (hr_o0 : G o0 = some 3) (hgC : 0 ≤ nC ∧ nC ≤ 40) (hgS : 0 ≤ nS ∧ nS ≤ 60) : Met l yX0_nearOf w_c_nearOf ({ frames := 3, cells := 0, slots := 0, locals := 84 }) (va_Pc [.ref o0, .ref p0, .ref p1] (fun U => U.heap = H0 ∧ va_K (dC, dI) vwCl (tyl kA) U ∧ EVC adK adV (gA G H0.size) U U.heap)) (va_Qi (fun (r : Int32) (u : Unit) => (-2147483648 ≤ r.toInt ∧ r.toInt ≤ 99)) (fun (_ : Unit) (t : State) => gH (dC, dI) kA (SHc nC nS) G t.heap ∧ gF (dC, dI) SKc G ([] : List (Nat × Nat)) H0 t.heap) (gA G H0.size)) 0 0 (gA G H0.size) := by
  refine Met.ofW (cc := cX0_nearOf) (maxL := 5) (ret := (some .int)) (by decide) rfl ?_
  intro p e s m args below meth c s₁ B hml hv
  obtain ⟨rfl, hH0, hK, hE⟩ := hv
  have hx := B.exec
  have hb := B.bytes
  have hr := B.returns
  have hts := atoms_spec (ws := w_c_nearOf) B.pre
  have hown : s.vm.findClass RX0 = some m.cls := findClass_of_methodNamed B.named
  have hlocks := B.notSynchronized
  subst hH0
  generalize hAe : gA G s.heap.size = A at hE ⊢
  have hA : ∀ q : Nat, s.heap.size ≤ q → A q := fun q h => by rw [← hAe]; exact Or.inr h
  have hG := gA_of hAe
  have hS : va_S A s.heap s.heap [] := va_S.rf
  have hF : gF (dC, dI) SKc G ([] : List (Nat × Nat)) s.heap s.heap := gF.rf
  have hl := lv_entry ([.ref o0, .ref p0, .ref p1]) (n := 5) (Nat.le_of_ble_eq_true rfl)
  rw [lg_entry_eq]
  generalize (lg_sl ([.ref o0, .ref p0, .ref p1]) ++ List.replicate (5 - (lg_sl ([.ref o0, .ref p0, .ref p1])).length) Slot.unset).toArray = ls at hl ⊢
  have hl : lv_has ls 5 [(0, .ref o0), (1, .ref p0), (2, .ref p1)] := hl
  refine lv_bipush (v := 99) hx hb dX0_nearOf_0 (by decide) ?_
  refine lv_istore_n (lv' := [(3, .int 99), (0, .ref o0), (1, .ref p0), (2, .ref p1)]) hx hb dX0_nearOf_2 rfl hl (by decide) rfl (fun ls hl => ?_)
  refine lv_iconst (v := 0) hx hb dX0_nearOf_3 (by decide) ?_
  refine lv_istore (lv' := [(4, .int 0), (3, .int 99), (0, .ref o0), (1, .ref p0), (2, .ref p1)]) hx hb dX0_nearOf_4 hl (by decide) rfl (fun ls hl => ?_)
  have key28 : ∀ (n28 i1 : Nat), i1 + n28 = 96 → 0 ≤ i1 → ∀ (z2 : Int32), ((-2147483648 ≤ z2.toInt ∧ z2.toInt ≤ 99)) → ∀ (H : Heap) (locs : List Loc), gH (dC, dI) kA (SHc nC nS) G H → gF (dC, dI) SKc G ([] : List (Nat × Nat)) s.heap H → va_S A s.heap H locs → ∀ ls : Array Slot, lv_has ls 5 [(4, .int (nI i1)), (3, .int z2), (0, .ref o0), (1, .ref p0), (2, .ref p1)] → W p l e (headSpec w_c_nearOf ({ frames := 3, cells := 0, slots := 0, locals := 84 })).room s m #[.ref o0, .ref p0, .ref p1] below meth c H locs 0 0 (MQ below (va_Qi (fun (r : Int32) (u : Unit) => (-2147483648 ≤ r.toInt ∧ r.toInt ≤ 99)) (fun (_ : Unit) (t : State) => gH (dC, dI) kA (SHc nC nS) G t.heap ∧ gF (dC, dI) SKc G ([] : List (Nat × Nat)) s.heap t.heap) A) #[.ref o0, .ref p0, .ref p1] s 0 0 A) (F0 m 6 ls []) := by
    intro n28
    induction n28 with
    | zero =>
      intro i1 hn28 hlo29 z2 h3 H locs hT hF hS  ls hl
      obtain rfl : 96 = i1 := by omega
      refine lv_iload hx hb dX0_nearOf_6 (lv_at hl 0 rfl) ?_
      refine lv_bipush (v := 96) hx hb dX0_nearOf_8 (by decide) ?_
      refine lv_icmp_ge (tgt := 52) hx hb dX0_nearOf_10 (by decide) (fun c30 => ?_) (fun c30 => (by exfalso; have q9 : ((96 : Nat) : Int) < 96 := ti_nle c30 (by decide) (nI_toInt (by omega)); omega))
      have t31 : 96 ≤ ((96 : Nat) : Int) := ti_le c30 (by decide) (nI_toInt (by omega))
      refine lv_iload_n hx hb dX0_nearOf_52 rfl (lv_at hl 1 rfl) ?_
      exact W.iret (v := z2) hx hb hr (fun t ht hW => ⟨⟨z2, (), rfl, (by exact (by have q8 := ti_all z2; omega)), by (try dsimp only); rw [ht]; exact ⟨hT, hF⟩⟩, hS.F ht⟩) hS.2.2 dX0_nearOf_53
    | succ n28 ih28 =>
      intro i1 hn28 hlo29 z2 h3 H locs hT hF hS  ls hl
      have hlt31 : i1 < 96 := by omega
      refine lv_iload hx hb dX0_nearOf_6 (lv_at hl 0 rfl) ?_
      refine lv_bipush (v := 96) hx hb dX0_nearOf_8 (by decide) ?_
      refine lv_icmp_ge (tgt := 52) hx hb dX0_nearOf_10 (by decide) (fun c32 => (by exfalso; have q9 : 96 ≤ ((i1 : Nat) : Int) := ti_le c32 (by decide) (nI_toInt (by omega)); omega)) (fun c32 => ?_)
      have t33 : ((i1 : Nat) : Int) < 96 := ti_nle c32 (by decide) (nI_toInt (by omega))
      refine lv_aload_n hx hb dX0_nearOf_13 rfl (lv_at hl 3 rfl) ?_
      refine tw_getN hx hb hts bF2_X7 hown hK hT hr_p0 shc_10 rfl 7 (by decide) (hE.nw 61 rfl) (fun _ h9 => h9) dX0_nearOf_14 (fun v9 m34 h9 => ?_)
      obtain ⟨x35, rfl, gx35, kx35⟩ := h9 _ rfl
      refine lv_iconst (v := (-1)) hx hb dX0_nearOf_17 (by decide) ?_
      refine lv_icmp_eq (tgt := 52) hx hb dX0_nearOf_18 (by decide) (fun c36 => ?_) (fun c36 => ?_)
      · have t37 : x35.toInt = (-1) := ti_eq c36 rfl (by decide)
        refine lv_iload_n hx hb dX0_nearOf_52 rfl (lv_at hl 1 rfl) ?_
        exact W.iret (v := z2) hx hb hr (fun t ht hW => ⟨⟨z2, (), rfl, (by exact (by have q8 := ti_all z2; omega)), by (try dsimp only); rw [ht]; exact ⟨hT, hF⟩⟩, hS.F ht⟩) hS.2.2 dX0_nearOf_53
      · have t38 : x35.toInt ≠ (-1) := ti_ne c36 rfl (by decide)
        refine lv_aload_n hx hb dX0_nearOf_21 rfl (lv_at hl 2 rfl) ?_
        refine tw_get hx hb hts bF2_X0 hown hK hT hr_o0 shc_3 rfl 1 (by decide) (ht_at2 hts 0 rfl) (fun _ h9 => h9) dX0_nearOf_22 (fun v9 m39 h9 => ?_)
        obtain ⟨b40, rfl, hg41⟩ := h9 _ rfl
        refine lv_iload hx hb dX0_nearOf_25 (lv_at hl 0 rfl) ?_
        refine tw_iald (i := (nI i1)) hx hb hK hT hg41 shc_52 rfl (vp_in_nI (by omega) (by decide)) dX0_nearOf_27 (fun v9 m42 h9 => ?_)
        obtain ⟨x43, rfl, gx43, kx43⟩ := h9
        refine lv_aload_n hx hb dX0_nearOf_28 rfl (lv_at hl 3 rfl) ?_
        refine tw_getNM (v := .int x35) hx hb hts bF2_X7 hown hK hT hr_p0 shc_10 rfl 7 (by decide) (hE.nw 61 rfl) (fun _ h9 => h9) m34 dX0_nearOf_29 ?_
        have t44 : -2147483648 ≤ x43.toInt ∧ x43.toInt ≤ 2147483647 := ti_all x43
        refine lv_icmp_ne (tgt := 46) hx hb dX0_nearOf_32 (by decide) (fun c45 => ?_) (fun c45 => ?_)
        · have t46 : x43.toInt ≠ x35.toInt := ti_ne c45 rfl rfl
          refine lv_iinc (v := nI (i1 + 1)) (lv' := [(4, .int (nI (i1 + 1))), (3, .int z2), (0, .ref o0), (1, .ref p0), (2, .ref p1)]) hx hb dX0_nearOf_46 hl (k := 0) rfl (nI_add i1 1) (by decide) rfl (fun ls hl => ?_)
          refine lv_goto (tgt := 6) hx hb dX0_nearOf_49 (by decide) ?_
          exact ih28 (i1 + 1) (by omega) (by omega) z2 (by have q8 := ti_all z2; omega) _ _ hT hF hS ls (lv_sub hl [0, 1, 2, 3, 4] rfl)
        · have t47 : x43.toInt = x35.toInt := ti_eq c45 rfl rfl
          refine lv_iload_n hx hb dX0_nearOf_35 rfl (lv_at hl 1 rfl) ?_
          refine lv_aload_n hx hb dX0_nearOf_36 rfl (lv_at hl 4 rfl) ?_
          refine lv_iload hx hb dX0_nearOf_37 (lv_at hl 0 rfl) ?_
          have hFc := gA_free hG hA hS
          refine va_calli (va_runV (As := [.int (nI i1)]) (rest := [.int z2]) ⟨hx, hb, hml, hown, hts⟩ (c_stepsToBank l dC dI kA adK adV G H nC nS p1 (nI i1) hT hr_p1 (by omega) (by omega)) (cwV 1 hts (goodIn_app (goodIn_r _ [21, 22, 23, 24] rfl (by decide +kernel)) (goodIn_ca (goodIn_r _ [2, 3, 4, 5, 6, 7, 8, 9, 10, 11, 12, 13, 14, 15, 16, 17, 18, 19, 20] rfl (by decide +kernel)) (bs2_in _ _))) rfl rfl rfl (by decide +kernel) ⟨(Nat.le_of_ble_eq_true rfl), (Nat.le_of_ble_eq_true rfl)⟩) ⟨fun a U g mk q => by obtain ⟨q0, q1, qK, qE⟩ := q; exact ⟨q0, q1, va_K.moved (u := U) (U := U.calling g mk a) (Vm.Alike.refl U.vm) qK, EVC.blind g mk a qE⟩, gH_rc hK hT hr_p1 shc_6 rfl, fun U hU hW => ⟨rfl, hU, va_K.moved hW.alike hK, hE.call hS hFc hU hW⟩⟩ rfl rfl hl.1 rfl (lv_room (Nat.le_of_ble_eq_true rfl)) dX0_nearOf_39 ⟨(Nat.le_of_ble_eq_true rfl), (Nat.le_of_ble_eq_true rfl)⟩) hS (fun q _ h => hFc q h) hFc (fun r48 u t H locs ht hvm hw49 hB _ _ hS => ?_)
          obtain ⟨hT, hF1⟩ := hB
          rw [ht] at hT hF1
          have hF := hF.more hF1 (by decide)
          try dsimp only at hw49
          have h53 := hw49
          refine va_mmin hx hb (hml.trans hl.1.symm) hown (ht_at2 hts 24 rfl) (ht_at2 hts 18 rfl) (ht_at2 hts 13 rfl) (ht_at2 hts 19 rfl) (Nat.le_of_ble_eq_true rfl) (Nat.le_of_ble_eq_true rfl) (Nat.le_of_ble_eq_true rfl) (Nat.le_of_ble_eq_true rfl) dX0_nearOf_42 ?_
          refine lv_topi (fun x54 ex54 => ?_)
          have t55 : x54.toInt ≤ z2.toInt ∧ x54.toInt ≤ r48.toInt ∧ (x54.toInt = z2.toInt ∨ x54.toInt = r48.toInt) := mn_f ex54 rfl rfl
          refine lv_istore_n (lv' := [(3, .int x54), (4, .int (nI i1)), (0, .ref o0), (1, .ref p0), (2, .ref p1)]) hx hb dX0_nearOf_45 rfl hl (by decide) rfl (fun ls hl => ?_)
          refine lv_iinc (v := nI (i1 + 1)) (lv' := [(4, .int (nI (i1 + 1))), (3, .int x54), (0, .ref o0), (1, .ref p0), (2, .ref p1)]) hx hb dX0_nearOf_46 hl (k := 1) rfl (nI_add i1 1) (by decide) rfl (fun ls hl => ?_)
          refine lv_goto (tgt := 6) hx hb dX0_nearOf_49 (by decide) ?_
          exact ih28 (i1 + 1) (by omega) (by omega) x54 (by have q8 := ti_all x54; omega) _ _ hT hF hS ls (lv_sub hl [0, 1, 2, 3, 4] rfl)
  exact key28 (96 - 0) 0 (by omega) (Nat.le_refl _) 99 (rg_t (a := 99) (by decide) (by first | decide | omega) (by first | decide | omega)) _ _ hT hF hS ls (lv_sub hl [0, 1, 2, 3, 4] rfl)
def w_c_gatherFacts : List Cond := .code yX0_gatherFacts cX0_gatherFacts 3 none :: (HAppend.hAppend (α := List Cond) (β := List Cond) (γ := List Cond) [.fieldLink RX0 33 "SeaLand$Board" "facts" "[J", .code yX0_acresOf cX0_acresOf 4 (some .int), .fieldLink RX0 17 "SeaLand$Board" "farmOf" "[I", .methodLink RX0 98 yX0_acresOf, .instanceMethod yX0_acresOf, .selects RX0 yX0_acresOf yX0_acresOf, .initialized RX0, .code yX0_nearOf cX0_nearOf 5 (some .int), .code yX3_stepsToBank cX3_stepsToBank 4 (some .int), .fieldLink RX3 47 "SeaLand$Lake" "built" "I", .fieldLink RX3 27 "SeaLand$Lake" "works" "[LSeaLand$Work;", .code yX10_isBank cX10_isBank 1 (some .boolean), .fieldLink RX10 18 "SeaLand$Work" "kind" "I", .methodLink RX3 67 yX10_isBank, .instanceMethod yX10_isBank, .selects RX10 yX10_isBank yX10_isBank, .initialized RX10, .code yX11_stepsApart cX11_stepsApart 2 (some .int), .methodLink RX11 580 Lib.Math.abs.name, .static Lib.Math.abs.name, .initialized "java/lang/Math", .code Lib.Math.abs.name Lib.Math.abs.code 1 (some .int), .initialized RX11, .static yX11_stepsApart, .methodLink RX3 71 Lib.Math.min.name, .static Lib.Math.min.name, .code Lib.Math.min.name Lib.Math.min.code 2 (some .int), .methodLink RX0 138 yX3_stepsToBank, .instanceMethod yX3_stepsToBank, .selects RX3 yX3_stepsToBank yX3_stepsToBank, .initialized RX3, .methodLink RX0 166 Lib.Math.min.name, .methodLink RX0 123 yX0_nearOf, .instanceMethod yX0_nearOf, .selects RX0 yX0_nearOf yX0_nearOf] bs2)
set_option maxHeartbeats 4000000 in
set_option maxRecDepth 100000 in
theorem c_gatherFacts (l : Launch) (dC : Nat → ClassId) (dI : Nat → Nat → Nat) (kA : Nat → ClassId) (adK adV : Nat → Nat) (G : gT) (H0 : Heap) (nC nS : Int) (o0 : Nat) (p0 : Nat) (p1 : Nat)  (hT : gH (dC, dI) kA (SHc nC nS) G H0) (hr_p0 : G p0 = some 10) (hr_p1 : G p1 = some 6) (hr_o0 : G o0 = some 3) (hgC : 0 ≤ nC ∧ nC ≤ 40) (hgS : 0 ≤ nS ∧ nS ≤ 60) : Met l yX0_gatherFacts w_c_gatherFacts ({ frames := 4, cells := 0, slots := 0, locals := 108 }) (va_Pc [.ref o0, .ref p0, .ref p1] (fun U => U.heap = H0 ∧ va_K (dC, dI) vwCl (tyl kA) U ∧ EVC adK adV (gA G H0.size) U U.heap)) (va_Qv (fun (u : Unit) => True) (fun (_ : Unit) (t : State) => gH (dC, dI) kA (SHc nC nS) G t.heap ∧ gF (dC, dI) SKc G ([(56, 0)] : List (Nat × Nat)) H0 t.heap) (gA G H0.size)) 0 0 (gA G H0.size) := by
  refine Met.ofW (cc := cX0_gatherFacts) (maxL := 3) (ret := none) (by decide) rfl ?_
  intro p e s m args below meth c s₁ B hml hv
  obtain ⟨rfl, hH0, hK, hE⟩ := hv
  have hx := B.exec
  have hb := B.bytes
  have hr := B.returns
  have hts := atoms_spec (ws := w_c_gatherFacts) B.pre
  have hown : s.vm.findClass RX0 = some m.cls := findClass_of_methodNamed B.named
  have hlocks := B.notSynchronized
  subst hH0
  generalize hAe : gA G s.heap.size = A at hE ⊢
  have hA : ∀ q : Nat, s.heap.size ≤ q → A q := fun q h => by rw [← hAe]; exact Or.inr h
  have hG := gA_of hAe
  have hS : va_S A s.heap s.heap [] := va_S.rf
  have hF : gF (dC, dI) SKc G ([(56, 0)] : List (Nat × Nat)) s.heap s.heap := gF.rf
  have hl := lv_entry ([.ref o0, .ref p0, .ref p1]) (n := 3) (Nat.le_of_ble_eq_true rfl)
  rw [lg_entry_eq]
  generalize (lg_sl ([.ref o0, .ref p0, .ref p1]) ++ List.replicate (3 - (lg_sl ([.ref o0, .ref p0, .ref p1])).length) Slot.unset).toArray = ls at hl ⊢
  have hl : lv_has ls 3 [(0, .ref o0), (1, .ref p0), (2, .ref p1)] := hl
  refine lv_aload_n hx hb dX0_gatherFacts_0 rfl (lv_at hl 0 rfl) ?_
  refine tw_get hx hb hts bF2_X0 hown hK hT hr_o0 shc_3 rfl 5 (by decide) (ht_at2 hts 0 rfl) (fun _ h9 => h9) dX0_gatherFacts_1 (fun v9 m1 h9 => ?_)
  obtain ⟨b2, rfl, hg3⟩ := h9 _ rfl
  refine lv_iconst (v := 0) hx hb dX0_gatherFacts_4 (by decide) ?_
  refine lv_aload_n hx hb dX0_gatherFacts_5 rfl (lv_at hl 0 rfl) ?_
  refine lv_aload_n hx hb dX0_gatherFacts_6 rfl (lv_at hl 1 rfl) ?_
  have hFc := gA_free hG hA hS
  refine va_calli (va_runV (As := [.ref p0]) (rest := [.int 0, .ref b2]) ⟨hx, hb, hml, hown, hts⟩ (c_acresOf l dC dI kA adK adV G s.heap nC nS o0 p0 hT hr_p0 hr_o0 (by omega) (by omega)) (cwV 1 hts (goodIn_app (goodIn_r _ [4, 5, 6, 7] rfl (by decide +kernel)) (goodIn_ca (goodIn_r _ [2, 3] rfl (by decide +kernel)) (bs2_in _ _))) rfl rfl rfl (by decide +kernel) ⟨(Nat.le_of_ble_eq_true rfl), (Nat.le_of_ble_eq_true rfl)⟩) ⟨fun a U g mk q => by obtain ⟨q0, q1, qK, qE⟩ := q; exact ⟨q0, q1, va_K.moved (u := U) (U := U.calling g mk a) (Vm.Alike.refl U.vm) qK, EVC.blind g mk a qE⟩, gH_rc hK hT hr_o0 shc_3 rfl, fun U hU hW => ⟨rfl, hU, va_K.moved hW.alike hK, hE.call hS hFc hU hW⟩⟩ rfl rfl hl.1 rfl (lv_room (Nat.le_of_ble_eq_true rfl)) dX0_gatherFacts_7 ⟨(Nat.le_of_ble_eq_true rfl), (Nat.le_of_ble_eq_true rfl)⟩) hS (fun q _ h => hFc q h) hFc (fun r4 u t H locs ht hvm hw5 hB _ _ hS => ?_)
  obtain ⟨hT, hF1⟩ := hB
  rw [ht] at hT hF1
  have m6 := (hF1.fld hr_o0 skc_3 (k := 5) (by decide) (by decide)).trans m1
  have hF := hF.more hF1 (by decide)
  try dsimp only at hw5
  refine lv_i2l (v := r4.toInt64) hx hb dX0_gatherFacts_10 rfl ?_
  refine tw_last (i := 0)  hx hb hK hT hG hS hg3 shc_56 rfl (by unfold vp_in; decide) ⟨_, rfl⟩ dX0_gatherFacts_11 (fun H locs hT oq m7 oi hS => ?_)
  have hF := hF.ast hg3 skc_56 oq (by decide)
  have m8 := (el_kept (oq _ (gne hr_o0 hg3 (by decide)))).trans m6
  refine lv_aload_n hx hb dX0_gatherFacts_12 rfl (lv_at hl 0 rfl) ?_
  refine tw_getM (v := .ref b2) hx hb hts bF2_X0 hown hK hT hr_o0 shc_3 rfl 5 (by decide) (ht_at2 hts 0 rfl) (fun _ h9 => h9) m8 dX0_gatherFacts_13 ?_
  refine lv_iconst (v := 1) hx hb dX0_gatherFacts_16 (by decide) ?_
  refine lv_aload_n hx hb dX0_gatherFacts_17 rfl (lv_at hl 1 rfl) ?_
  refine tw_getN hx hb hts bF2_X7 hown hK hT hr_p0 shc_10 rfl 8 (by decide) (hE.nw 62 rfl) (fun _ h9 => h9) dX0_gatherFacts_18 (fun v9 m9 h9 => ?_)
  obtain ⟨x10, rfl, gx10, kx10⟩ := h9 _ rfl
  refine lv_i2l (v := x10.toInt64) hx hb dX0_gatherFacts_21 rfl ?_
  refine tw_last (i := 1)  hx hb hK hT hG hS hg3 shc_56 rfl (by unfold vp_in; decide) ⟨_, rfl⟩ dX0_gatherFacts_22 (fun H locs hT oq m11 oi hS => ?_)
  have hF := hF.ast hg3 skc_56 oq (by decide)
  have m12 := (el_kept (oq _ (gne hr_o0 hg3 (by decide)))).trans m8
  have m13 := (el_kept (oq _ (gne hr_p0 hg3 (by decide)))).trans m9
  refine lv_aload_n hx hb dX0_gatherFacts_23 rfl (lv_at hl 0 rfl) ?_
  refine tw_getM (v := .ref b2) hx hb hts bF2_X0 hown hK hT hr_o0 shc_3 rfl 5 (by decide) (ht_at2 hts 0 rfl) (fun _ h9 => h9) m12 dX0_gatherFacts_24 ?_
  refine lv_iconst (v := 2) hx hb dX0_gatherFacts_27 (by decide) ?_
  refine lv_aload_n hx hb dX0_gatherFacts_28 rfl (lv_at hl 1 rfl) ?_
  refine tw_getN hx hb hts bF2_X7 hown hK hT hr_p0 shc_10 rfl 0 (by decide) (hE.nw 63 rfl) (fun _ h9 => h9) dX0_gatherFacts_29 (fun v9 m14 h9 => ?_)
  obtain ⟨x15, rfl, gx15, kx15⟩ := h9 _ rfl
  refine lv_i2l (v := x15.toInt64) hx hb dX0_gatherFacts_32 rfl ?_
  refine tw_last (i := 2)  hx hb hK hT hG hS hg3 shc_56 rfl (by unfold vp_in; decide) ⟨_, rfl⟩ dX0_gatherFacts_33 (fun H locs hT oq m16 oi hS => ?_)
  have hF := hF.ast hg3 skc_56 oq (by decide)
  have m17 := (el_kept (oq _ (gne hr_o0 hg3 (by decide)))).trans m12
  have m18 := (el_kept (oq _ (gne hr_p0 hg3 (by decide)))).trans m13
  have m19 := (el_kept (oq _ (gne hr_p0 hg3 (by decide)))).trans m14
  refine lv_aload_n hx hb dX0_gatherFacts_34 rfl (lv_at hl 0 rfl) ?_
  refine tw_getM (v := .ref b2) hx hb hts bF2_X0 hown hK hT hr_o0 shc_3 rfl 5 (by decide) (ht_at2 hts 0 rfl) (fun _ h9 => h9) m17 dX0_gatherFacts_35 ?_
  refine lv_iconst (v := 3) hx hb dX0_gatherFacts_38 (by decide) ?_
  refine lv_aload_n hx hb dX0_gatherFacts_39 rfl (lv_at hl 1 rfl) ?_
  refine tw_getN hx hb hts bF2_X7 hown hK hT hr_p0 shc_10 rfl 1 (by decide) (hE.nw 64 rfl) (fun _ h9 => h9) dX0_gatherFacts_40 (fun v9 m20 h9 => ?_)
  obtain ⟨x21, rfl, gx21, kx21⟩ := h9 _ rfl
  refine lv_i2l (v := x21.toInt64) hx hb dX0_gatherFacts_43 rfl ?_
  refine tw_last (i := 3)  hx hb hK hT hG hS hg3 shc_56 rfl (by unfold vp_in; decide) ⟨_, rfl⟩ dX0_gatherFacts_44 (fun H locs hT oq m22 oi hS => ?_)
  have hF := hF.ast hg3 skc_56 oq (by decide)
  have m23 := (el_kept (oq _ (gne hr_o0 hg3 (by decide)))).trans m17
  have m24 := (el_kept (oq _ (gne hr_p0 hg3 (by decide)))).trans m18
  have m25 := (el_kept (oq _ (gne hr_p0 hg3 (by decide)))).trans m19
  have m26 := (el_kept (oq _ (gne hr_p0 hg3 (by decide)))).trans m20
  refine lv_aload_n hx hb dX0_gatherFacts_45 rfl (lv_at hl 0 rfl) ?_
  refine tw_getM (v := .ref b2) hx hb hts bF2_X0 hown hK hT hr_o0 shc_3 rfl 5 (by decide) (ht_at2 hts 0 rfl) (fun _ h9 => h9) m23 dX0_gatherFacts_46 ?_
  refine lv_iconst (v := 4) hx hb dX0_gatherFacts_49 (by decide) ?_
  refine lv_aload_n hx hb dX0_gatherFacts_50 rfl (lv_at hl 1 rfl) ?_
  refine tw_getN hx hb hts bF2_X7 hown hK hT hr_p0 shc_10 rfl 6 (by decide) (hE.nw 65 rfl) (fun _ h9 => h9) dX0_gatherFacts_51 (fun v9 m27 h9 => ?_)
  obtain ⟨x28, rfl, gx28, kx28⟩ := h9 _ rfl
  refine lv_i2l (v := x28.toInt64) hx hb dX0_gatherFacts_54 rfl ?_
  refine tw_last (i := 4)  hx hb hK hT hG hS hg3 shc_56 rfl (by unfold vp_in; decide) ⟨_, rfl⟩ dX0_gatherFacts_55 (fun H locs hT oq m29 oi hS => ?_)
  have hF := hF.ast hg3 skc_56 oq (by decide)
  have m30 := (el_kept (oq _ (gne hr_o0 hg3 (by decide)))).trans m23
  have m31 := (el_kept (oq _ (gne hr_p0 hg3 (by decide)))).trans m24
  have m32 := (el_kept (oq _ (gne hr_p0 hg3 (by decide)))).trans m25
  have m33 := (el_kept (oq _ (gne hr_p0 hg3 (by decide)))).trans m26
  have m34 := (el_kept (oq _ (gne hr_p0 hg3 (by decide)))).trans m27
  refine lv_aload_n hx hb dX0_gatherFacts_56 rfl (lv_at hl 0 rfl) ?_
  refine tw_getM (v := .ref b2) hx hb hts bF2_X0 hown hK hT hr_o0 shc_3 rfl 5 (by decide) (ht_at2 hts 0 rfl) (fun _ h9 => h9) m30 dX0_gatherFacts_57 ?_
  refine lv_iconst (v := 5) hx hb dX0_gatherFacts_60 (by decide) ?_
  refine lv_aload_n hx hb dX0_gatherFacts_61 rfl (lv_at hl 1 rfl) ?_
  refine tw_getN hx hb hts bF2_X7 hown hK hT hr_p0 shc_10 rfl 2 (by decide) (hE.nw 66 rfl) (fun _ h9 => h9) dX0_gatherFacts_62 (fun v9 m35 h9 => ?_)
  obtain ⟨x36, rfl, gx36, kx36⟩ := h9 _ rfl
  refine lv_i2l (v := x36.toInt64) hx hb dX0_gatherFacts_65 rfl ?_
  refine tw_last (i := 5)  hx hb hK hT hG hS hg3 shc_56 rfl (by unfold vp_in; decide) ⟨_, rfl⟩ dX0_gatherFacts_66 (fun H locs hT oq m37 oi hS => ?_)
  have hF := hF.ast hg3 skc_56 oq (by decide)
  have m38 := (el_kept (oq _ (gne hr_o0 hg3 (by decide)))).trans m30
  have m39 := (el_kept (oq _ (gne hr_p0 hg3 (by decide)))).trans m31
  have m40 := (el_kept (oq _ (gne hr_p0 hg3 (by decide)))).trans m32
  have m41 := (el_kept (oq _ (gne hr_p0 hg3 (by decide)))).trans m33
  have m42 := (el_kept (oq _ (gne hr_p0 hg3 (by decide)))).trans m34
  have m43 := (el_kept (oq _ (gne hr_p0 hg3 (by decide)))).trans m35
  refine lv_aload_n hx hb dX0_gatherFacts_67 rfl (lv_at hl 0 rfl) ?_
  refine tw_getM (v := .ref b2) hx hb hts bF2_X0 hown hK hT hr_o0 shc_3 rfl 5 (by decide) (ht_at2 hts 0 rfl) (fun _ h9 => h9) m38 dX0_gatherFacts_68 ?_
  refine lv_bipush (v := 6) hx hb dX0_gatherFacts_71 (by decide) ?_
  refine lv_aload_n hx hb dX0_gatherFacts_73 rfl (lv_at hl 1 rfl) ?_
  refine tw_getN hx hb hts bF2_X7 hown hK hT hr_p0 shc_10 rfl 3 (by decide) (hE.nw 67 rfl) (fun _ h9 => h9) dX0_gatherFacts_74 (fun v9 m44 h9 => ?_)
  obtain ⟨x45, rfl, gx45, kx45⟩ := h9 _ rfl
  have jn54 : ∀ (y46 : Int64), ∀ (H : Heap) (locs : List Loc), gH (dC, dI) kA (SHc nC nS) G H → gF (dC, dI) SKc G ([(56, 0)] : List (Nat × Nat)) s.heap H → va_S A s.heap H locs → el H o0 (dI 3 5) = some (.ref b2) → el H p0 (dI 10 8) = some (.int x10) → el H p0 (dI 10 0) = some (.int x15) → el H p0 (dI 10 1) = some (.int x21) → el H p0 (dI 10 6) = some (.int x28) → el H p0 (dI 10 2) = some (.int x36) → el H p0 (dI 10 3) = some (.int x45) → ∀ ls : Array Slot, lv_has ls 3 [(0, .ref o0), (1, .ref p0), (2, .ref p1)] → W p l e (headSpec w_c_gatherFacts ({ frames := 4, cells := 0, slots := 0, locals := 108 })).room s m #[.ref o0, .ref p0, .ref p1] below meth c H locs 0 0 (MQ below (va_Qv (fun (u : Unit) => True) (fun (_ : Unit) (t : State) => gH (dC, dI) kA (SHc nC nS) G t.heap ∧ gF (dC, dI) SKc G ([(56, 0)] : List (Nat × Nat)) s.heap t.heap) A) #[.ref o0, .ref p0, .ref p1] s 0 0 A) (F0 m 85 ls [.long y46, .int 6, .ref b2]) := by
    intro y46 H locs hT hF hS m47 m48 m49 m50 m51 m52 m53 ls hl
    refine tw_last (i := 6)  hx hb hK hT hG hS hg3 shc_56 rfl (by unfold vp_in; decide) ⟨_, rfl⟩ dX0_gatherFacts_85 (fun H locs hT oq m55 oi hS => ?_)
    have hF := hF.ast hg3 skc_56 oq (by decide)
    have m56 := (el_kept (oq _ (gne hr_o0 hg3 (by decide)))).trans m47
    have m57 := (el_kept (oq _ (gne hr_p0 hg3 (by decide)))).trans m48
    have m58 := (el_kept (oq _ (gne hr_p0 hg3 (by decide)))).trans m49
    have m59 := (el_kept (oq _ (gne hr_p0 hg3 (by decide)))).trans m50
    have m60 := (el_kept (oq _ (gne hr_p0 hg3 (by decide)))).trans m51
    have m61 := (el_kept (oq _ (gne hr_p0 hg3 (by decide)))).trans m52
    have m62 := (el_kept (oq _ (gne hr_p0 hg3 (by decide)))).trans m53
    refine lv_aload_n hx hb dX0_gatherFacts_86 rfl (lv_at hl 0 rfl) ?_
    refine tw_getM (v := .ref b2) hx hb hts bF2_X0 hown hK hT hr_o0 shc_3 rfl 5 (by decide) (ht_at2 hts 0 rfl) (fun _ h9 => h9) m56 dX0_gatherFacts_87 ?_
    refine lv_bipush (v := 7) hx hb dX0_gatherFacts_90 (by decide) ?_
    refine lv_aload_n hx hb dX0_gatherFacts_92 rfl (lv_at hl 1 rfl) ?_
    refine tw_getN hx hb hts bF2_X7 hown hK hT hr_p0 shc_10 rfl 4 (by decide) (hE.nw 68 rfl) (fun _ h9 => h9) dX0_gatherFacts_93 (fun v9 m63 h9 => ?_)
    obtain ⟨x64, rfl, gx64, kx64⟩ := h9 _ rfl
    have jn74 : ∀ (y65 : Int64), ∀ (H : Heap) (locs : List Loc), gH (dC, dI) kA (SHc nC nS) G H → gF (dC, dI) SKc G ([(56, 0)] : List (Nat × Nat)) s.heap H → va_S A s.heap H locs → el H o0 (dI 3 5) = some (.ref b2) → el H p0 (dI 10 8) = some (.int x10) → el H p0 (dI 10 0) = some (.int x15) → el H p0 (dI 10 1) = some (.int x21) → el H p0 (dI 10 6) = some (.int x28) → el H p0 (dI 10 2) = some (.int x36) → el H p0 (dI 10 3) = some (.int x45) → el H p0 (dI 10 4) = some (.int x64) → ∀ ls : Array Slot, lv_has ls 3 [(0, .ref o0), (1, .ref p0), (2, .ref p1)] → W p l e (headSpec w_c_gatherFacts ({ frames := 4, cells := 0, slots := 0, locals := 108 })).room s m #[.ref o0, .ref p0, .ref p1] below meth c H locs 0 0 (MQ below (va_Qv (fun (u : Unit) => True) (fun (_ : Unit) (t : State) => gH (dC, dI) kA (SHc nC nS) G t.heap ∧ gF (dC, dI) SKc G ([(56, 0)] : List (Nat × Nat)) s.heap t.heap) A) #[.ref o0, .ref p0, .ref p1] s 0 0 A) (F0 m 104 ls [.long y65, .int 7, .ref b2]) := by
      intro y65 H locs hT hF hS m66 m67 m68 m69 m70 m71 m72 m73 ls hl
      refine tw_last (i := 7)  hx hb hK hT hG hS hg3 shc_56 rfl (by unfold vp_in; decide) ⟨_, rfl⟩ dX0_gatherFacts_104 (fun H locs hT oq m75 oi hS => ?_)
      have hF := hF.ast hg3 skc_56 oq (by decide)
      have m76 := (el_kept (oq _ (gne hr_o0 hg3 (by decide)))).trans m66
      refine lv_aload_n hx hb dX0_gatherFacts_105 rfl (lv_at hl 0 rfl) ?_
      refine tw_getM (v := .ref b2) hx hb hts bF2_X0 hown hK hT hr_o0 shc_3 rfl 5 (by decide) (ht_at2 hts 0 rfl) (fun _ h9 => h9) m76 dX0_gatherFacts_106 ?_
      refine lv_bipush (v := 8) hx hb dX0_gatherFacts_109 (by decide) ?_
      refine lv_aload_n hx hb dX0_gatherFacts_111 rfl (lv_at hl 0 rfl) ?_
      refine lv_aload_n hx hb dX0_gatherFacts_112 rfl (lv_at hl 1 rfl) ?_
      refine lv_aload_n hx hb dX0_gatherFacts_113 rfl (lv_at hl 2 rfl) ?_
      have hFc := gA_free hG hA hS
      refine va_calli (va_runV (As := [.ref p0, .ref p1]) (rest := [.int 8, .ref b2]) ⟨hx, hb, hml, hown, hts⟩ (c_nearOf l dC dI kA adK adV G H nC nS o0 p0 p1 hT hr_p0 hr_p1 hr_o0 (by omega) (by omega)) (cwV 2 hts (goodIn_app (goodIn_r _ [33, 34, 35, 7] rfl (by decide +kernel)) (goodIn_ca (goodIn_r _ [8, 3, 9, 10, 11, 12, 13, 14, 15, 16, 17, 18, 19, 20, 21, 22, 23, 24, 25, 26, 27, 28, 29, 30, 31, 32] rfl (by decide +kernel)) (bs2_in _ _))) rfl rfl rfl (by decide +kernel) ⟨(Nat.le_of_ble_eq_true rfl), (Nat.le_of_ble_eq_true rfl)⟩) ⟨fun a U g mk q => by obtain ⟨q0, q1, qK, qE⟩ := q; exact ⟨q0, q1, va_K.moved (u := U) (U := U.calling g mk a) (Vm.Alike.refl U.vm) qK, EVC.blind g mk a qE⟩, gH_rc hK hT hr_o0 shc_3 rfl, fun U hU hW => ⟨rfl, hU, va_K.moved hW.alike hK, hE.call hS hFc hU hW⟩⟩ rfl rfl hl.1 rfl (lv_room (Nat.le_of_ble_eq_true rfl)) dX0_gatherFacts_114 ⟨(Nat.le_of_ble_eq_true rfl), (Nat.le_of_ble_eq_true rfl)⟩) hS (fun q _ h => hFc q h) hFc (fun r84 u t H locs ht hvm hw85 hB _ _ hS => ?_)
      obtain ⟨hT, hF1⟩ := hB
      rw [ht] at hT hF1
      have m86 := (hF1.fld hr_o0 skc_3 (k := 5) (by decide) (by decide)).trans m76
      have hF := hF.more hF1 (by decide)
      try dsimp only at hw85
      have h94 := hw85
      refine lv_i2l (v := r84.toInt64) hx hb dX0_gatherFacts_117 rfl ?_
      refine tw_last (i := 8)  hx hb hK hT hG hS hg3 shc_56 rfl (by unfold vp_in; decide) ⟨_, rfl⟩ dX0_gatherFacts_118 (fun H locs hT oq m95 oi hS => ?_)
      have hF := hF.ast hg3 skc_56 oq (by decide)
      have m96 := (el_kept (oq _ (gne hr_o0 hg3 (by decide)))).trans m86
      refine lv_aload_n hx hb dX0_gatherFacts_119 rfl (lv_at hl 0 rfl) ?_
      refine tw_getM (v := .ref b2) hx hb hts bF2_X0 hown hK hT hr_o0 shc_3 rfl 5 (by decide) (ht_at2 hts 0 rfl) (fun _ h9 => h9) m96 dX0_gatherFacts_120 ?_
      refine lv_bipush (v := 9) hx hb dX0_gatherFacts_123 (by decide) ?_
      refine lv_aload_n hx hb dX0_gatherFacts_125 rfl (lv_at hl 1 rfl) ?_
      refine tw_getN hx hb hts bF2_X7 hown hK hT hr_p0 shc_10 rfl 9 (by decide) (hE.nw 69 rfl) (fun _ h9 => h9) dX0_gatherFacts_126 (fun v9 m104 h9 => ?_)
      obtain ⟨x105, rfl, gx105, kx105⟩ := h9 _ rfl
      refine lv_i2l (v := x105.toInt64) hx hb dX0_gatherFacts_129 rfl ?_
      refine tw_last (i := 9)  hx hb hK hT hG hS hg3 shc_56 rfl (by unfold vp_in; decide) ⟨_, rfl⟩ dX0_gatherFacts_130 (fun H locs hT oq m106 oi hS => ?_)
      have hF := hF.ast hg3 skc_56 oq (by decide)
      exact W.vret hx hb hr (fun t ht hW => ⟨⟨(), rfl, (by exact trivial), by (try dsimp only); rw [ht]; exact ⟨hT, hF⟩⟩, hS.F ht⟩) hS.2.2 dX0_gatherFacts_131
    refine lv_if_eq (tgt := 103) hx hb dX0_gatherFacts_96 (by decide) (fun c116 => ?_) (fun c116 => ?_)
    · have t117 : x64.toInt = 0 := ti_eq c116 rfl (by decide)
      refine lv_lconst (v := 0) hx hb dX0_gatherFacts_103 (by decide) ?_
      exact jn74 0 _ _ hT hF hS m56 m57 m58 m59 m60 m61 m62 m63 ls (lv_sub hl [0, 1, 2] rfl)
    · have t118 : x64.toInt ≠ 0 := ti_ne c116 rfl (by decide)
      refine lv_lconst (v := 1) hx hb dX0_gatherFacts_99 (by decide) ?_
      refine lv_goto (tgt := 104) hx hb dX0_gatherFacts_100 (by decide) ?_
      exact jn74 1 _ _ hT hF hS m56 m57 m58 m59 m60 m61 m62 m63 ls (lv_sub hl [0, 1, 2] rfl)
  refine lv_if_eq (tgt := 84) hx hb dX0_gatherFacts_77 (by decide) (fun c119 => ?_) (fun c119 => ?_)
  · have t120 : x45.toInt = 0 := ti_eq c119 rfl (by decide)
    refine lv_lconst (v := 0) hx hb dX0_gatherFacts_84 (by decide) ?_
    exact jn54 0 _ _ hT hF hS m38 m39 m40 m41 m42 m43 m44 ls (lv_sub hl [0, 1, 2] rfl)
  · have t121 : x45.toInt ≠ 0 := ti_ne c119 rfl (by decide)
    refine lv_lconst (v := 1) hx hb dX0_gatherFacts_80 (by decide) ?_
    refine lv_goto (tgt := 85) hx hb dX0_gatherFacts_81 (by decide) ?_
    exact jn54 1 _ _ hT hF hS m38 m39 m40 m41 m42 m43 m44 ls (lv_sub hl [0, 1, 2] rfl)
def w_c_ruled : List Cond := .code yX0_ruled cX0_ruled 2 (some .int) :: (HAppend.hAppend (α := List Cond) (β := List Cond) (γ := List Cond) [.fieldLink RX0 41 "SeaLand$Board" "force" "LSeaLand$Law;", .fieldLink RX0 33 "SeaLand$Board" "facts" "[J", .code yX4_sumThatHolds cX4_sumThatHolds 6 (some .long), .fieldLink RX4 60 "SeaLand$Law" "lines" "I", .fieldLink RX4 18 "SeaLand$Law" "kinds" "[I", .code yX4_lineHolds cX4_lineHolds 6 (some .boolean), .fieldLink RX4 33 "SeaLand$Law" "stepFrom" "[I", .fieldLink RX4 36 "SeaLand$Law" "stepTo" "[I", .fieldLink RX4 39 "SeaLand$Law" "steps" "[I", .fieldLink RX4 42 "SeaLand$Law" "stack" "[J", .code yX4_joined cX4_joined 5 (some .long), .methodLink RX4 199 Lib.MathLoose.max_long.x, .static Lib.MathLoose.max_long.x, .initialized "java/lang/Math", .code Lib.MathLoose.max_long.x Lib.MathLoose.max_long.code 4 (some .long), .methodLink RX4 195 yX4_joined, .static yX4_joined, .initialized RX4, .methodLink RX4 203 yX4_lineHolds, .instanceMethod yX4_lineHolds, .selects RX4 yX4_lineHolds yX4_lineHolds, .fieldLink RX4 21 "SeaLand$Law" "firsts" "[I", .methodLink RX0 130 yX4_sumThatHolds, .instanceMethod yX4_sumThatHolds, .selects RX4 yX4_sumThatHolds yX4_sumThatHolds] bs2)
set_option maxHeartbeats 4000000 in
set_option maxRecDepth 100000 in
theorem c_ruled (l : Launch) (dC : Nat → ClassId) (dI : Nat → Nat → Nat) (kA : Nat → ClassId) (adK adV : Nat → Nat) (G : gT) (H0 : Heap) (nC nS : Int) (o0 : Nat) (p0 : Int32)  (hT : gH (dC, dI) kA (SHc nC nS) G H0) (hr_o0 : G o0 = some 3) (hgC : 0 ≤ nC ∧ nC ≤ 40) (hgS : 0 ≤ nS ∧ nS ≤ 60) : Met l yX0_ruled w_c_ruled ({ frames := 4, cells := 0, slots := 0, locals := 114 }) (va_Pc [.ref o0, .int p0] (fun U => U.heap = H0 ∧ va_K (dC, dI) vwCl (tyl kA) U ∧ EVC adK adV (gA G H0.size) U U.heap)) (va_Qi (fun (r : Int32) (u : Unit) => True) (fun (_ : Unit) (t : State) => gH (dC, dI) kA (SHc nC nS) G t.heap ∧ gF (dC, dI) SKc G ([(50, 0)] : List (Nat × Nat)) H0 t.heap) (gA G H0.size)) 0 0 (gA G H0.size) := by
  refine Met.ofW (cc := cX0_ruled) (maxL := 2) (ret := (some .int)) (by decide) rfl ?_
  intro p e s m args below meth c s₁ B hml hv
  obtain ⟨rfl, hH0, hK, hE⟩ := hv
  have hx := B.exec
  have hb := B.bytes
  have hr := B.returns
  have hts := atoms_spec (ws := w_c_ruled) B.pre
  have hown : s.vm.findClass RX0 = some m.cls := findClass_of_methodNamed B.named
  have hlocks := B.notSynchronized
  subst hH0
  generalize hAe : gA G s.heap.size = A at hE ⊢
  have hA : ∀ q : Nat, s.heap.size ≤ q → A q := fun q h => by rw [← hAe]; exact Or.inr h
  have hG := gA_of hAe
  have hS : va_S A s.heap s.heap [] := va_S.rf
  have hF : gF (dC, dI) SKc G ([(50, 0)] : List (Nat × Nat)) s.heap s.heap := gF.rf
  have hl := lv_entry ([.ref o0, .int p0]) (n := 2) (Nat.le_of_ble_eq_true rfl)
  rw [lg_entry_eq]
  generalize (lg_sl ([.ref o0, .int p0]) ++ List.replicate (2 - (lg_sl ([.ref o0, .int p0])).length) Slot.unset).toArray = ls at hl ⊢
  have hl : lv_has ls 2 [(0, .ref o0), (1, .int p0)] := hl
  refine lv_aload_n hx hb dX0_ruled_0 rfl (lv_at hl 0 rfl) ?_
  refine tw_get hx hb hts bF2_X0 hown hK hT hr_o0 shc_3 rfl 7 (by decide) (ht_at2 hts 0 rfl) (fun _ h9 => h9) dX0_ruled_1 (fun v9 m1 h9 => ?_)
  obtain ⟨b2, rfl, hg3⟩ := h9 _ rfl
  refine lv_iload_n hx hb dX0_ruled_4 rfl (lv_at hl 1 rfl) ?_
  refine lv_aload_n hx hb dX0_ruled_5 rfl (lv_at hl 0 rfl) ?_
  refine tw_get hx hb hts bF2_X0 hown hK hT hr_o0 shc_3 rfl 5 (by decide) (ht_at2 hts 1 rfl) (fun _ h9 => h9) dX0_ruled_6 (fun v9 m4 h9 => ?_)
  obtain ⟨b5, rfl, hg6⟩ := h9 _ rfl
  have hFc := gA_free hG hA hS
  refine va_calll (va_runV (As := [.int p0, .ref b5]) (rest := []) ⟨hx, hb, hml, hown, hts⟩ (c_sumThatHolds l dC dI kA adK adV G s.heap nC nS b2 p0 b5 hT hg6 hg3 (by omega) (by omega)) (cwV 2 hts (goodIn_app (goodIn_r _ [23, 24, 25, 18] rfl (by decide +kernel)) (goodIn_ca (goodIn_r _ [3, 4, 5, 6, 7, 8, 9, 10, 11, 12, 13, 14, 15, 16, 17, 18, 19, 20, 21, 22] rfl (by decide +kernel)) (bs2_in _ _))) rfl rfl rfl (by decide +kernel) ⟨(Nat.le_of_ble_eq_true rfl), (Nat.le_of_ble_eq_true rfl)⟩) ⟨fun a U g mk q => by obtain ⟨q0, q1, qK, qE⟩ := q; exact ⟨q0, q1, va_K.moved (u := U) (U := U.calling g mk a) (Vm.Alike.refl U.vm) qK, EVC.blind g mk a qE⟩, gH_rc hK hT hg3 shc_7 rfl, fun U hU hW => ⟨rfl, hU, va_K.moved hW.alike hK, hE.call hS hFc hU hW⟩⟩ rfl rfl hl.1 rfl (lv_room (Nat.le_of_ble_eq_true rfl)) dX0_ruled_9 ⟨(Nat.le_of_ble_eq_true rfl), (Nat.le_of_ble_eq_true rfl)⟩) hS (fun q _ h => hFc q h) hFc (fun r7 u t H locs ht hvm hw8 hB _ _ hS => ?_)
  obtain ⟨hT, hF1⟩ := hB
  rw [ht] at hT hF1
  have hF := hF.more hF1 (by decide)
  try dsimp only at hw8
  refine lv_l2i (v := r7.toInt32) hx hb dX0_ruled_12 rfl ?_
  refine lv_topi (fun x11 _ => ?_)
  exact W.iret (v := x11) hx hb hr (fun t ht hW => ⟨⟨x11, (), rfl, (by exact trivial), by (try dsimp only); rw [ht]; exact ⟨hT, hF⟩⟩, hS.F ht⟩) hS.2.2 dX0_ruled_13
def w_c_isRuled : List Cond := .code yX0_isRuled cX0_isRuled 2 (some .boolean) :: (HAppend.hAppend (α := List Cond) (β := List Cond) (γ := List Cond) [.fieldLink RX0 41 "SeaLand$Board" "force" "LSeaLand$Law;", .fieldLink RX0 33 "SeaLand$Board" "facts" "[J", .code yX4_firstThatHolds cX4_firstThatHolds 4 (some .int), .fieldLink RX4 60 "SeaLand$Law" "lines" "I", .fieldLink RX4 18 "SeaLand$Law" "kinds" "[I", .code yX4_lineHolds cX4_lineHolds 6 (some .boolean), .fieldLink RX4 33 "SeaLand$Law" "stepFrom" "[I", .fieldLink RX4 36 "SeaLand$Law" "stepTo" "[I", .fieldLink RX4 39 "SeaLand$Law" "steps" "[I", .fieldLink RX4 42 "SeaLand$Law" "stack" "[J", .code yX4_joined cX4_joined 5 (some .long), .methodLink RX4 199 Lib.MathLoose.max_long.x, .static Lib.MathLoose.max_long.x, .initialized "java/lang/Math", .code Lib.MathLoose.max_long.x Lib.MathLoose.max_long.code 4 (some .long), .methodLink RX4 195 yX4_joined, .static yX4_joined, .initialized RX4, .methodLink RX4 203 yX4_lineHolds, .instanceMethod yX4_lineHolds, .selects RX4 yX4_lineHolds yX4_lineHolds, .methodLink RX0 134 yX4_firstThatHolds, .instanceMethod yX4_firstThatHolds, .selects RX4 yX4_firstThatHolds yX4_firstThatHolds] bs2)
set_option maxHeartbeats 4000000 in
set_option maxRecDepth 100000 in
theorem c_isRuled (l : Launch) (dC : Nat → ClassId) (dI : Nat → Nat → Nat) (kA : Nat → ClassId) (adK adV : Nat → Nat) (G : gT) (H0 : Heap) (nC nS : Int) (o0 : Nat) (p0 : Int32)  (hT : gH (dC, dI) kA (SHc nC nS) G H0) (hr_o0 : G o0 = some 3) (hgC : 0 ≤ nC ∧ nC ≤ 40) (hgS : 0 ≤ nS ∧ nS ≤ 60) : Met l yX0_isRuled w_c_isRuled ({ frames := 4, cells := 0, slots := 0, locals := 112 }) (va_Pc [.ref o0, .int p0] (fun U => U.heap = H0 ∧ va_K (dC, dI) vwCl (tyl kA) U ∧ EVC adK adV (gA G H0.size) U U.heap)) (va_Qi (fun (r : Int32) (u : Unit) => (0 ≤ r.toInt ∧ r.toInt ≤ 1)) (fun (_ : Unit) (t : State) => gH (dC, dI) kA (SHc nC nS) G t.heap ∧ gF (dC, dI) SKc G ([(50, 0)] : List (Nat × Nat)) H0 t.heap) (gA G H0.size)) 0 0 (gA G H0.size) := by
  refine Met.ofW (cc := cX0_isRuled) (maxL := 2) (ret := (some .boolean)) (by decide) rfl ?_
  intro p e s m args below meth c s₁ B hml hv
  obtain ⟨rfl, hH0, hK, hE⟩ := hv
  have hx := B.exec
  have hb := B.bytes
  have hr := B.returns
  have hts := atoms_spec (ws := w_c_isRuled) B.pre
  have hown : s.vm.findClass RX0 = some m.cls := findClass_of_methodNamed B.named
  have hlocks := B.notSynchronized
  subst hH0
  generalize hAe : gA G s.heap.size = A at hE ⊢
  have hA : ∀ q : Nat, s.heap.size ≤ q → A q := fun q h => by rw [← hAe]; exact Or.inr h
  have hG := gA_of hAe
  have hS : va_S A s.heap s.heap [] := va_S.rf
  have hF : gF (dC, dI) SKc G ([(50, 0)] : List (Nat × Nat)) s.heap s.heap := gF.rf
  have hl := lv_entry ([.ref o0, .int p0]) (n := 2) (Nat.le_of_ble_eq_true rfl)
  rw [lg_entry_eq]
  generalize (lg_sl ([.ref o0, .int p0]) ++ List.replicate (2 - (lg_sl ([.ref o0, .int p0])).length) Slot.unset).toArray = ls at hl ⊢
  have hl : lv_has ls 2 [(0, .ref o0), (1, .int p0)] := hl
  refine lv_aload_n hx hb dX0_isRuled_0 rfl (lv_at hl 0 rfl) ?_
  refine tw_get hx hb hts bF2_X0 hown hK hT hr_o0 shc_3 rfl 7 (by decide) (ht_at2 hts 0 rfl) (fun _ h9 => h9) dX0_isRuled_1 (fun v9 m1 h9 => ?_)
  obtain ⟨b2, rfl, hg3⟩ := h9 _ rfl
  refine lv_iload_n hx hb dX0_isRuled_4 rfl (lv_at hl 1 rfl) ?_
  refine lv_aload_n hx hb dX0_isRuled_5 rfl (lv_at hl 0 rfl) ?_
  refine tw_get hx hb hts bF2_X0 hown hK hT hr_o0 shc_3 rfl 5 (by decide) (ht_at2 hts 1 rfl) (fun _ h9 => h9) dX0_isRuled_6 (fun v9 m4 h9 => ?_)
  obtain ⟨b5, rfl, hg6⟩ := h9 _ rfl
  have hFc := gA_free hG hA hS
  refine va_calli (va_runV (As := [.int p0, .ref b5]) (rest := []) ⟨hx, hb, hml, hown, hts⟩ (c_firstThatHolds l dC dI kA adK adV G s.heap nC nS b2 p0 b5 hT hg6 hg3 (by omega) (by omega)) (cwV 2 hts (goodIn_app (goodIn_r _ [22, 23, 24, 18] rfl (by decide +kernel)) (goodIn_ca (goodIn_r _ [3, 4, 5, 6, 7, 8, 9, 10, 11, 12, 13, 14, 15, 16, 17, 18, 19, 20, 21] rfl (by decide +kernel)) (bs2_in _ _))) rfl rfl rfl (by decide +kernel) ⟨(Nat.le_of_ble_eq_true rfl), (Nat.le_of_ble_eq_true rfl)⟩) ⟨fun a U g mk q => by obtain ⟨q0, q1, qK, qE⟩ := q; exact ⟨q0, q1, va_K.moved (u := U) (U := U.calling g mk a) (Vm.Alike.refl U.vm) qK, EVC.blind g mk a qE⟩, gH_rc hK hT hg3 shc_7 rfl, fun U hU hW => ⟨rfl, hU, va_K.moved hW.alike hK, hE.call hS hFc hU hW⟩⟩ rfl rfl hl.1 rfl (lv_room (Nat.le_of_ble_eq_true rfl)) dX0_isRuled_9 ⟨(Nat.le_of_ble_eq_true rfl), (Nat.le_of_ble_eq_true rfl)⟩) hS (fun q _ h => hFc q h) hFc (fun r7 u t H locs ht hvm hw8 hB _ _ hS => ?_)
  obtain ⟨hT, hF1⟩ := hB
  rw [ht] at hT hF1
  have hF := hF.more hF1 (by decide)
  try dsimp only at hw8
  have h11 := hw8
  refine lv_iconst (v := (-1)) hx hb dX0_isRuled_12 (by decide) ?_
  refine lv_icmp_eq (tgt := 20) hx hb dX0_isRuled_13 (by decide) (fun c12 => ?_) (fun c12 => ?_)
  · have t13 : r7.toInt = (-1) := ti_eq c12 rfl (by decide)
    refine lv_iconst (v := 0) hx hb dX0_isRuled_20 (by decide) ?_
    exact W.zret (v := 0) hx hb hr (by decide) (fun t ht hW => ⟨⟨0, (), rfl, (by exact (rg_t (a := 0) (by decide) (by first | decide | omega) (by first | decide | omega))), by (try dsimp only); rw [ht]; exact ⟨hT, hF⟩⟩, hS.F ht⟩) hS.2.2 dX0_isRuled_21
  · have t14 : r7.toInt ≠ (-1) := ti_ne c12 rfl (by decide)
    refine lv_iconst (v := 1) hx hb dX0_isRuled_16 (by decide) ?_
    refine lv_goto (tgt := 21) hx hb dX0_isRuled_17 (by decide) ?_
    exact W.zret (v := 1) hx hb hr (by decide) (fun t ht hW => ⟨⟨1, (), rfl, (by exact (rg_t (a := 1) (by decide) (by first | decide | omega) (by first | decide | omega))), by (try dsimp only); rw [ht]; exact ⟨hT, hF⟩⟩, hS.F ht⟩) hS.2.2 dX0_isRuled_21
def w_c_duesAndGain : List Cond := .code yX0_duesAndGain cX0_duesAndGain 3 (some .int) :: (HAppend.hAppend (α := List Cond) (β := List Cond) (γ := List Cond) [.fieldLink RX0 41 "SeaLand$Board" "force" "LSeaLand$Law;", .fieldLink RX0 33 "SeaLand$Board" "facts" "[J", .code yX4_sumThatHolds cX4_sumThatHolds 6 (some .long), .fieldLink RX4 60 "SeaLand$Law" "lines" "I", .fieldLink RX4 18 "SeaLand$Law" "kinds" "[I", .code yX4_lineHolds cX4_lineHolds 6 (some .boolean), .fieldLink RX4 33 "SeaLand$Law" "stepFrom" "[I", .fieldLink RX4 36 "SeaLand$Law" "stepTo" "[I", .fieldLink RX4 39 "SeaLand$Law" "steps" "[I", .fieldLink RX4 42 "SeaLand$Law" "stack" "[J", .code yX4_joined cX4_joined 5 (some .long), .methodLink RX4 199 Lib.MathLoose.max_long.x, .static Lib.MathLoose.max_long.x, .initialized "java/lang/Math", .code Lib.MathLoose.max_long.x Lib.MathLoose.max_long.code 4 (some .long), .methodLink RX4 195 yX4_joined, .static yX4_joined, .initialized RX4, .methodLink RX4 203 yX4_lineHolds, .instanceMethod yX4_lineHolds, .selects RX4 yX4_lineHolds yX4_lineHolds, .fieldLink RX4 21 "SeaLand$Law" "firsts" "[I", .methodLink RX0 130 yX4_sumThatHolds, .instanceMethod yX4_sumThatHolds, .selects RX4 yX4_sumThatHolds yX4_sumThatHolds, .constantLong RX0 92 100] bs2)
set_option maxHeartbeats 4000000 in
set_option maxRecDepth 100000 in
theorem c_duesAndGain (l : Launch) (dC : Nat → ClassId) (dI : Nat → Nat → Nat) (kA : Nat → ClassId) (adK adV : Nat → Nat) (G : gT) (H0 : Heap) (nC nS : Int) (o0 : Nat)  (hT : gH (dC, dI) kA (SHc nC nS) G H0) (hr_o0 : G o0 = some 3) (hgC : 0 ≤ nC ∧ nC ≤ 40) (hgS : 0 ≤ nS ∧ nS ≤ 60) : Met l yX0_duesAndGain w_c_duesAndGain ({ frames := 4, cells := 0, slots := 0, locals := 114 }) (va_Pc [.ref o0] (fun U => U.heap = H0 ∧ va_K (dC, dI) vwCl (tyl kA) U ∧ EVC adK adV (gA G H0.size) U U.heap)) (va_Qi (fun (r : Int32) (u : Unit) => True) (fun (_ : Unit) (t : State) => gH (dC, dI) kA (SHc nC nS) G t.heap ∧ gF (dC, dI) SKc G ([(50, 0)] : List (Nat × Nat)) H0 t.heap) (gA G H0.size)) 0 0 (gA G H0.size) := by
  refine Met.ofW (cc := cX0_duesAndGain) (maxL := 3) (ret := (some .int)) (by decide) rfl ?_
  intro p e s m args below meth c s₁ B hml hv
  obtain ⟨rfl, hH0, hK, hE⟩ := hv
  have hx := B.exec
  have hb := B.bytes
  have hr := B.returns
  have hts := atoms_spec (ws := w_c_duesAndGain) B.pre
  have hown : s.vm.findClass RX0 = some m.cls := findClass_of_methodNamed B.named
  have hlocks := B.notSynchronized
  subst hH0
  generalize hAe : gA G s.heap.size = A at hE ⊢
  have hA : ∀ q : Nat, s.heap.size ≤ q → A q := fun q h => by rw [← hAe]; exact Or.inr h
  have hG := gA_of hAe
  have hS : va_S A s.heap s.heap [] := va_S.rf
  have hF : gF (dC, dI) SKc G ([(50, 0)] : List (Nat × Nat)) s.heap s.heap := gF.rf
  have hl := lv_entry ([.ref o0]) (n := 3) (Nat.le_of_ble_eq_true rfl)
  rw [lg_entry_eq]
  generalize (lg_sl ([.ref o0]) ++ List.replicate (3 - (lg_sl ([.ref o0])).length) Slot.unset).toArray = ls at hl ⊢
  have hl : lv_has ls 3 [(0, .ref o0)] := hl
  refine lv_aload_n hx hb dX0_duesAndGain_0 rfl (lv_at hl 0 rfl) ?_
  refine tw_get hx hb hts bF2_X0 hown hK hT hr_o0 shc_3 rfl 7 (by decide) (ht_at2 hts 0 rfl) (fun _ h9 => h9) dX0_duesAndGain_1 (fun v9 m1 h9 => ?_)
  obtain ⟨b2, rfl, hg3⟩ := h9 _ rfl
  refine lv_iconst (v := 1) hx hb dX0_duesAndGain_4 (by decide) ?_
  refine lv_aload_n hx hb dX0_duesAndGain_5 rfl (lv_at hl 0 rfl) ?_
  refine tw_get hx hb hts bF2_X0 hown hK hT hr_o0 shc_3 rfl 5 (by decide) (ht_at2 hts 1 rfl) (fun _ h9 => h9) dX0_duesAndGain_6 (fun v9 m4 h9 => ?_)
  obtain ⟨b5, rfl, hg6⟩ := h9 _ rfl
  have hFc := gA_free hG hA hS
  refine va_calll (va_runV (As := [.int 1, .ref b5]) (rest := []) ⟨hx, hb, hml, hown, hts⟩ (c_sumThatHolds l dC dI kA adK adV G s.heap nC nS b2 1 b5 hT hg6 hg3 (by omega) (by omega)) (cwV 2 hts (goodIn_app (goodIn_r _ [23, 24, 25, 18] rfl (by decide +kernel)) (goodIn_ca (goodIn_r _ [3, 4, 5, 6, 7, 8, 9, 10, 11, 12, 13, 14, 15, 16, 17, 18, 19, 20, 21, 22] rfl (by decide +kernel)) (bs2_in _ _))) rfl rfl rfl (by decide +kernel) ⟨(Nat.le_of_ble_eq_true rfl), (Nat.le_of_ble_eq_true rfl)⟩) ⟨fun a U g mk q => by obtain ⟨q0, q1, qK, qE⟩ := q; exact ⟨q0, q1, va_K.moved (u := U) (U := U.calling g mk a) (Vm.Alike.refl U.vm) qK, EVC.blind g mk a qE⟩, gH_rc hK hT hg3 shc_7 rfl, fun U hU hW => ⟨rfl, hU, va_K.moved hW.alike hK, hE.call hS hFc hU hW⟩⟩ rfl rfl hl.1 rfl (lv_room (Nat.le_of_ble_eq_true rfl)) dX0_duesAndGain_9 ⟨(Nat.le_of_ble_eq_true rfl), (Nat.le_of_ble_eq_true rfl)⟩) hS (fun q _ h => hFc q h) hFc (fun r7 u t H locs ht hvm hw8 hB _ _ hS => ?_)
  obtain ⟨hT, hF1⟩ := hB
  rw [ht] at hT hF1
  have m9 := (hF1.fld hr_o0 skc_3 (k := 7) (by decide) (by decide)).trans m1
  have m10 := (hF1.fld hr_o0 skc_3 (k := 5) (by decide) (by decide)).trans m4
  have hF := hF.more hF1 (by decide)
  try dsimp only at hw8
  refine lv_aload_n hx hb dX0_duesAndGain_12 rfl (lv_at hl 0 rfl) ?_
  refine tw_getM (v := .ref b5) hx hb hts bF2_X0 hown hK hT hr_o0 shc_3 rfl 5 (by decide) (ht_at2 hts 1 rfl) (fun _ h9 => h9) m10 dX0_duesAndGain_13 ?_
  refine lv_iconst (v := 1) hx hb dX0_duesAndGain_16 (by decide) ?_
  refine tw_lald (i := 1) hx hb hK hT hg6 shc_56 rfl (by unfold vp_in; decide) dX0_duesAndGain_17 (fun v9 m11 h9 => ?_)
  obtain ⟨y12, rfl⟩ := h9
  refine lv_lmul hx hb dX0_duesAndGain_18 ?_
  refine lv_topl (fun y13 _ => ?_)
  refine lv_ldc2 (v := 100) hx hb hown (ht_at2 hts 25 rfl) dX0_duesAndGain_19 ?_
  refine lv_ldiv hx hb dX0_duesAndGain_22 (by decide) ?_
  refine lv_topl (fun y14 _ => ?_)
  refine lv_lstore_n (lv' := [(1, .long y14), (0, .ref o0)]) hx hb dX0_duesAndGain_23 rfl hl (by decide) rfl (fun ls hl => ?_)
  refine lv_aload_n hx hb dX0_duesAndGain_24 rfl (lv_at hl 1 rfl) ?_
  refine tw_getM (v := .ref b2) hx hb hts bF2_X0 hown hK hT hr_o0 shc_3 rfl 7 (by decide) (ht_at2 hts 0 rfl) (fun _ h9 => h9) m9 dX0_duesAndGain_25 ?_
  refine lv_iconst (v := 0) hx hb dX0_duesAndGain_28 (by decide) ?_
  refine lv_aload_n hx hb dX0_duesAndGain_29 rfl (lv_at hl 1 rfl) ?_
  refine tw_getM (v := .ref b5) hx hb hts bF2_X0 hown hK hT hr_o0 shc_3 rfl 5 (by decide) (ht_at2 hts 1 rfl) (fun _ h9 => h9) m10 dX0_duesAndGain_30 ?_
  have hFc := gA_free hG hA hS
  refine va_calll (va_runV (As := [.int 0, .ref b5]) (rest := []) ⟨hx, hb, hml, hown, hts⟩ (c_sumThatHolds l dC dI kA adK adV G H nC nS b2 0 b5 hT hg6 hg3 (by omega) (by omega)) (cwV 2 hts (goodIn_app (goodIn_r _ [23, 24, 25, 18] rfl (by decide +kernel)) (goodIn_ca (goodIn_r _ [3, 4, 5, 6, 7, 8, 9, 10, 11, 12, 13, 14, 15, 16, 17, 18, 19, 20, 21, 22] rfl (by decide +kernel)) (bs2_in _ _))) rfl rfl rfl (by decide +kernel) ⟨(Nat.le_of_ble_eq_true rfl), (Nat.le_of_ble_eq_true rfl)⟩) ⟨fun a U g mk q => by obtain ⟨q0, q1, qK, qE⟩ := q; exact ⟨q0, q1, va_K.moved (u := U) (U := U.calling g mk a) (Vm.Alike.refl U.vm) qK, EVC.blind g mk a qE⟩, gH_rc hK hT hg3 shc_7 rfl, fun U hU hW => ⟨rfl, hU, va_K.moved hW.alike hK, hE.call hS hFc hU hW⟩⟩ rfl rfl hl.1 rfl (lv_room (Nat.le_of_ble_eq_true rfl)) dX0_duesAndGain_33 ⟨(Nat.le_of_ble_eq_true rfl), (Nat.le_of_ble_eq_true rfl)⟩) hS (fun q _ h => hFc q h) hFc (fun r15 u t H locs ht hvm hw16 hB _ _ hS => ?_)
  obtain ⟨hT, hF1⟩ := hB
  rw [ht] at hT hF1
  have hF := hF.more hF1 (by decide)
  try dsimp only at hw16
  refine lv_lload_n hx hb dX0_duesAndGain_36 rfl (lv_at hl 0 rfl) ?_
  refine lv_ladd hx hb dX0_duesAndGain_37 ?_
  refine lv_topl (fun y19 _ => ?_)
  refine lv_l2i (v := y19.toInt32) hx hb dX0_duesAndGain_38 rfl ?_
  refine lv_topi (fun x20 _ => ?_)
  exact W.iret (v := x20) hx hb hr (fun t ht hW => ⟨⟨x20, (), rfl, (by exact trivial), by (try dsimp only); rw [ht]; exact ⟨hT, hF⟩⟩, hS.F ht⟩) hS.2.2 dX0_duesAndGain_39
def w_c_buildingAllowed : List Cond := .code yX0_buildingAllowed cX0_buildingAllowed 3 (some .boolean) :: (HAppend.hAppend (α := List Cond) (β := List Cond) (γ := List Cond) [.code yX3_stepsToBank cX3_stepsToBank 4 (some .int), .fieldLink RX3 47 "SeaLand$Lake" "built" "I", .fieldLink RX3 27 "SeaLand$Lake" "works" "[LSeaLand$Work;", .code yX10_isBank cX10_isBank 1 (some .boolean), .fieldLink RX10 18 "SeaLand$Work" "kind" "I", .methodLink RX3 67 yX10_isBank, .instanceMethod yX10_isBank, .selects RX10 yX10_isBank yX10_isBank, .initialized RX10, .code yX11_stepsApart cX11_stepsApart 2 (some .int), .methodLink RX11 580 Lib.Math.abs.name, .static Lib.Math.abs.name, .initialized "java/lang/Math", .code Lib.Math.abs.name Lib.Math.abs.code 1 (some .int), .initialized RX11, .static yX11_stepsApart, .methodLink RX3 71 Lib.Math.min.name, .static Lib.Math.min.name, .code Lib.Math.min.name Lib.Math.min.code 2 (some .int), .methodLink RX0 138 yX3_stepsToBank, .instanceMethod yX3_stepsToBank, .selects RX3 yX3_stepsToBank yX3_stepsToBank, .initialized RX3, .fieldLink RX0 41 "SeaLand$Board" "force" "LSeaLand$Law;", .code yX4_lastOf cX4_lastOf 5 (some .int), .fieldLink RX4 60 "SeaLand$Law" "lines" "I", .fieldLink RX4 18 "SeaLand$Law" "kinds" "[I", .fieldLink RX4 21 "SeaLand$Law" "firsts" "[I", .methodLink RX0 94 yX4_lastOf, .instanceMethod yX4_lastOf, .selects RX4 yX4_lastOf yX4_lastOf, .initialized RX4] bs2)
set_option maxHeartbeats 4000000 in
set_option maxRecDepth 100000 in
theorem c_buildingAllowed (l : Launch) (dC : Nat → ClassId) (dI : Nat → Nat → Nat) (kA : Nat → ClassId) (adK adV : Nat → Nat) (G : gT) (H0 : Heap) (nC nS : Int) (o0 : Nat) (p0 : Int32) (p1 : Nat)  (hT : gH (dC, dI) kA (SHc nC nS) G H0) (hr_p1 : G p1 = some 6) (hr_o0 : G o0 = some 3) (hgC : 0 ≤ nC ∧ nC ≤ 40) (hgS : 0 ≤ nS ∧ nS ≤ 60) : Met l yX0_buildingAllowed w_c_buildingAllowed ({ frames := 3, cells := 0, slots := 0, locals := 84 }) (va_Pc [.ref o0, .int p0, .ref p1] (fun U => U.heap = H0 ∧ va_K (dC, dI) vwCl (tyl kA) U ∧ EVC adK adV (gA G H0.size) U U.heap)) (va_Qi (fun (r : Int32) (u : Unit) => (0 ≤ r.toInt ∧ r.toInt ≤ 1)) (fun (_ : Unit) (t : State) => gH (dC, dI) kA (SHc nC nS) G t.heap ∧ gF (dC, dI) SKc G ([] : List (Nat × Nat)) H0 t.heap) (gA G H0.size)) 0 0 (gA G H0.size) := by
  refine Met.ofW (cc := cX0_buildingAllowed) (maxL := 3) (ret := (some .boolean)) (by decide) rfl ?_
  intro p e s m args below meth c s₁ B hml hv
  obtain ⟨rfl, hH0, hK, hE⟩ := hv
  have hx := B.exec
  have hb := B.bytes
  have hr := B.returns
  have hts := atoms_spec (ws := w_c_buildingAllowed) B.pre
  have hown : s.vm.findClass RX0 = some m.cls := findClass_of_methodNamed B.named
  have hlocks := B.notSynchronized
  subst hH0
  generalize hAe : gA G s.heap.size = A at hE ⊢
  have hA : ∀ q : Nat, s.heap.size ≤ q → A q := fun q h => by rw [← hAe]; exact Or.inr h
  have hG := gA_of hAe
  have hS : va_S A s.heap s.heap [] := va_S.rf
  have hF : gF (dC, dI) SKc G ([] : List (Nat × Nat)) s.heap s.heap := gF.rf
  have hl := lv_entry ([.ref o0, .int p0, .ref p1]) (n := 3) (Nat.le_of_ble_eq_true rfl)
  rw [lg_entry_eq]
  generalize (lg_sl ([.ref o0, .int p0, .ref p1]) ++ List.replicate (3 - (lg_sl ([.ref o0, .int p0, .ref p1])).length) Slot.unset).toArray = ls at hl ⊢
  have hl : lv_has ls 3 [(0, .ref o0), (1, .int p0), (2, .ref p1)] := hl
  refine lv_aload_n hx hb dX0_buildingAllowed_0 rfl (lv_at hl 2 rfl) ?_
  refine lv_iload_n hx hb dX0_buildingAllowed_1 rfl (lv_at hl 1 rfl) ?_
  have hFc := gA_free hG hA hS
  refine va_calli (va_runV (As := [.int p0]) (rest := []) ⟨hx, hb, hml, hown, hts⟩ (c_stepsToBank l dC dI kA adK adV G s.heap nC nS p1 p0 hT hr_p1 (by omega) (by omega)) (cwV 1 hts (goodIn_app (goodIn_r _ [20, 21, 22, 23] rfl (by decide +kernel)) (goodIn_ca (goodIn_r _ [1, 2, 3, 4, 5, 6, 7, 8, 9, 10, 11, 12, 13, 14, 15, 16, 17, 18, 19] rfl (by decide +kernel)) (bs2_in _ _))) rfl rfl rfl (by decide +kernel) ⟨(Nat.le_of_ble_eq_true rfl), (Nat.le_of_ble_eq_true rfl)⟩) ⟨fun a U g mk q => by obtain ⟨q0, q1, qK, qE⟩ := q; exact ⟨q0, q1, va_K.moved (u := U) (U := U.calling g mk a) (Vm.Alike.refl U.vm) qK, EVC.blind g mk a qE⟩, gH_rc hK hT hr_p1 shc_6 rfl, fun U hU hW => ⟨rfl, hU, va_K.moved hW.alike hK, hE.call hS hFc hU hW⟩⟩ rfl rfl hl.1 rfl (lv_room (Nat.le_of_ble_eq_true rfl)) dX0_buildingAllowed_2 ⟨(Nat.le_of_ble_eq_true rfl), (Nat.le_of_ble_eq_true rfl)⟩) hS (fun q _ h => hFc q h) hFc (fun r1 u t H locs ht hvm hw2 hB _ _ hS => ?_)
  obtain ⟨hT, hF1⟩ := hB
  rw [ht] at hT hF1
  have hF := hF.more hF1 (by decide)
  try dsimp only at hw2
  have h3 := hw2
  refine lv_aload_n hx hb dX0_buildingAllowed_5 rfl (lv_at hl 0 rfl) ?_
  refine tw_get hx hb hts bF2_X0 hown hK hT hr_o0 shc_3 rfl 7 (by decide) (ht_at2 hts 23 rfl) (fun _ h9 => h9) dX0_buildingAllowed_6 (fun v9 m4 h9 => ?_)
  obtain ⟨b5, rfl, hg6⟩ := h9 _ rfl
  refine lv_bipush (v := 9) hx hb dX0_buildingAllowed_9 (by decide) ?_
  refine lv_iconst (v := 0) hx hb dX0_buildingAllowed_11 (by decide) ?_
  have hFc := gA_free hG hA hS
  refine va_calli (va_runV (As := [.int 9, .int 0]) (rest := [.int r1]) ⟨hx, hb, hml, hown, hts⟩ (c_lastOf l dC dI kA adK adV G H nC nS b5 9 0 hT hg6 (by omega) (by omega)) (cwV 2 hts (goodIn_app (goodIn_r _ [29, 30, 31, 32] rfl (by decide +kernel)) (goodIn_ca (goodIn_r _ [25, 26, 27, 28] rfl (by decide +kernel)) (bs2_in _ _))) rfl rfl rfl (by decide +kernel) ⟨(Nat.le_of_ble_eq_true rfl), (Nat.le_of_ble_eq_true rfl)⟩) ⟨fun a U g mk q => by obtain ⟨q0, q1, qK, qE⟩ := q; exact ⟨q0, q1, va_K.moved (u := U) (U := U.calling g mk a) (Vm.Alike.refl U.vm) qK, EVC.blind g mk a qE⟩, gH_rc hK hT hg6 shc_7 rfl, fun U hU hW => ⟨rfl, hU, va_K.moved hW.alike hK, hE.call hS hFc hU hW⟩⟩ rfl rfl hl.1 rfl (lv_room (Nat.le_of_ble_eq_true rfl)) dX0_buildingAllowed_12 ⟨(Nat.le_of_ble_eq_true rfl), (Nat.le_of_ble_eq_true rfl)⟩) hS (fun q _ h => hFc q h) hFc (fun r7 u t H locs ht hvm hw8 hB _ _ hS => ?_)
  obtain ⟨hT, hF1⟩ := hB
  rw [ht] at hT hF1
  have hF := hF.more hF1 (by decide)
  try dsimp only at hw8
  have t10 : -2147483648 ≤ r1.toInt ∧ r1.toInt ≤ 2147483647 := ti_all r1
  have t11 : -2147483648 ≤ r7.toInt ∧ r7.toInt ≤ 2147483647 := ti_all r7
  refine lv_icmp_lt (tgt := 22) hx hb dX0_buildingAllowed_15 (by decide) (fun c12 => ?_) (fun c12 => ?_)
  · have t13 : r1.toInt < r7.toInt := ti_lt c12 rfl rfl
    refine lv_iconst (v := 0) hx hb dX0_buildingAllowed_22 (by decide) ?_
    exact W.zret (v := 0) hx hb hr (by decide) (fun t ht hW => ⟨⟨0, (), rfl, (by exact (rg_t (a := 0) (by decide) (by first | decide | omega) (by first | decide | omega))), by (try dsimp only); rw [ht]; exact ⟨hT, hF⟩⟩, hS.F ht⟩) hS.2.2 dX0_buildingAllowed_23
  · have t14 : r7.toInt ≤ r1.toInt := ti_nlt c12 rfl rfl
    refine lv_iconst (v := 1) hx hb dX0_buildingAllowed_18 (by decide) ?_
    refine lv_goto (tgt := 23) hx hb dX0_buildingAllowed_19 (by decide) ?_
    exact W.zret (v := 1) hx hb hr (by decide) (fun t ht hW => ⟨⟨1, (), rfl, (by exact (rg_t (a := 1) (by decide) (by first | decide | omega) (by first | decide | omega))), by (try dsimp only); rw [ht]; exact ⟨hT, hF⟩⟩, hS.F ht⟩) hS.2.2 dX0_buildingAllowed_23
def w_c_hear : List Cond := .code yX0_hear cX0_hear 5 (some .int) :: (HAppend.hAppend (α := List Cond) (β := List Cond) (γ := List Cond) [.code yX0_gatherFacts cX0_gatherFacts 3 none, .fieldLink RX0 33 "SeaLand$Board" "facts" "[J", .code yX0_acresOf cX0_acresOf 4 (some .int), .fieldLink RX0 17 "SeaLand$Board" "farmOf" "[I", .methodLink RX0 98 yX0_acresOf, .instanceMethod yX0_acresOf, .selects RX0 yX0_acresOf yX0_acresOf, .initialized RX0, .code yX0_nearOf cX0_nearOf 5 (some .int), .code yX3_stepsToBank cX3_stepsToBank 4 (some .int), .fieldLink RX3 47 "SeaLand$Lake" "built" "I", .fieldLink RX3 27 "SeaLand$Lake" "works" "[LSeaLand$Work;", .code yX10_isBank cX10_isBank 1 (some .boolean), .fieldLink RX10 18 "SeaLand$Work" "kind" "I", .methodLink RX3 67 yX10_isBank, .instanceMethod yX10_isBank, .selects RX10 yX10_isBank yX10_isBank, .initialized RX10, .code yX11_stepsApart cX11_stepsApart 2 (some .int), .methodLink RX11 580 Lib.Math.abs.name, .static Lib.Math.abs.name, .initialized "java/lang/Math", .code Lib.Math.abs.name Lib.Math.abs.code 1 (some .int), .initialized RX11, .static yX11_stepsApart, .methodLink RX3 71 Lib.Math.min.name, .static Lib.Math.min.name, .code Lib.Math.min.name Lib.Math.min.code 2 (some .int), .methodLink RX0 138 yX3_stepsToBank, .instanceMethod yX3_stepsToBank, .selects RX3 yX3_stepsToBank yX3_stepsToBank, .initialized RX3, .methodLink RX0 166 Lib.Math.min.name, .methodLink RX0 123 yX0_nearOf, .instanceMethod yX0_nearOf, .selects RX0 yX0_nearOf yX0_nearOf, .methodLink RX0 84 yX0_gatherFacts, .instanceMethod yX0_gatherFacts, .selects RX0 yX0_gatherFacts yX0_gatherFacts, .code yX0_ruled cX0_ruled 2 (some .int), .fieldLink RX0 41 "SeaLand$Board" "force" "LSeaLand$Law;", .code yX4_sumThatHolds cX4_sumThatHolds 6 (some .long), .fieldLink RX4 60 "SeaLand$Law" "lines" "I", .fieldLink RX4 18 "SeaLand$Law" "kinds" "[I", .code yX4_lineHolds cX4_lineHolds 6 (some .boolean), .fieldLink RX4 33 "SeaLand$Law" "stepFrom" "[I", .fieldLink RX4 36 "SeaLand$Law" "stepTo" "[I", .fieldLink RX4 39 "SeaLand$Law" "steps" "[I", .fieldLink RX4 42 "SeaLand$Law" "stack" "[J", .code yX4_joined cX4_joined 5 (some .long), .methodLink RX4 199 Lib.MathLoose.max_long.x, .static Lib.MathLoose.max_long.x, .code Lib.MathLoose.max_long.x Lib.MathLoose.max_long.code 4 (some .long), .methodLink RX4 195 yX4_joined, .static yX4_joined, .initialized RX4, .methodLink RX4 203 yX4_lineHolds, .instanceMethod yX4_lineHolds, .selects RX4 yX4_lineHolds yX4_lineHolds, .fieldLink RX4 21 "SeaLand$Law" "firsts" "[I", .methodLink RX0 130 yX4_sumThatHolds, .instanceMethod yX4_sumThatHolds, .selects RX4 yX4_sumThatHolds yX4_sumThatHolds, .methodLink RX0 88 yX0_ruled, .instanceMethod yX0_ruled, .selects RX0 yX0_ruled yX0_ruled, .fieldLink RX0 72 "SeaLand$Board" "allVotes" "J", .fieldLink RX0 68 "SeaLand$Board" "yesVotes" "J"] bs2)
set_option maxHeartbeats 4000000 in
set_option maxRecDepth 100000 in
theorem c_hear (l : Launch) (dC : Nat → ClassId) (dI : Nat → Nat → Nat) (kA : Nat → ClassId) (adK adV : Nat → Nat) (G : gT) (H0 : Heap) (nC nS : Int) (o0 : Nat) (p0 : Nat) (p1 : Int32) (p2 : Nat)  (hT : gH (dC, dI) kA (SHc nC nS) G H0) (hr_p0 : G p0 = some 10) (hr_p2 : G p2 = some 6) (hr_o0 : G o0 = some 3) (hq0 : 0 ≤ p1.toInt ∧ p1.toInt ≤ 1) (hgC : 0 ≤ nC ∧ nC ≤ 40) (hgS : 0 ≤ nS ∧ nS ≤ 60) : Met l yX0_hear w_c_hear ({ frames := 5, cells := 0, slots := 0, locals := 135 }) (va_Pc [.ref o0, .ref p0, .int p1, .ref p2] (fun U => U.heap = H0 ∧ va_K (dC, dI) vwCl (tyl kA) U ∧ EVC adK adV (gA G H0.size) U U.heap)) (va_Qi (fun (r : Int32) (u : Unit) => True) (fun (_ : Unit) (t : State) => gH (dC, dI) kA (SHc nC nS) G t.heap ∧ gF (dC, dI) SKc G ([(3, 12), (3, 13), (10, 11), (50, 0), (56, 0)] : List (Nat × Nat)) H0 t.heap) (gA G H0.size)) 0 0 (gA G H0.size) := by
  refine Met.ofW (cc := cX0_hear) (maxL := 5) (ret := (some .int)) (by decide) rfl ?_
  intro p e s m args below meth c s₁ B hml hv
  obtain ⟨rfl, hH0, hK, hE⟩ := hv
  have hx := B.exec
  have hb := B.bytes
  have hr := B.returns
  have hts := atoms_spec (ws := w_c_hear) B.pre
  have hown : s.vm.findClass RX0 = some m.cls := findClass_of_methodNamed B.named
  have hlocks := B.notSynchronized
  subst hH0
  generalize hAe : gA G s.heap.size = A at hE ⊢
  have hA : ∀ q : Nat, s.heap.size ≤ q → A q := fun q h => by rw [← hAe]; exact Or.inr h
  have hG := gA_of hAe
  have hS : va_S A s.heap s.heap [] := va_S.rf
  have hF : gF (dC, dI) SKc G ([(3, 12), (3, 13), (10, 11), (50, 0), (56, 0)] : List (Nat × Nat)) s.heap s.heap := gF.rf
  have hl := lv_entry ([.ref o0, .ref p0, .int p1, .ref p2]) (n := 5) (Nat.le_of_ble_eq_true rfl)
  rw [lg_entry_eq]
  generalize (lg_sl ([.ref o0, .ref p0, .int p1, .ref p2]) ++ List.replicate (5 - (lg_sl ([.ref o0, .ref p0, .int p1, .ref p2])).length) Slot.unset).toArray = ls at hl ⊢
  have hl : lv_has ls 5 [(0, .ref o0), (1, .ref p0), (2, .int p1), (3, .ref p2)] := hl
  refine lv_aload_n hx hb dX0_hear_0 rfl (lv_at hl 1 rfl) ?_
  refine tw_getN hx hb hts bF2_X7 hown hK hT hr_p0 shc_10 rfl 7 (by decide) (hE.nw 61 rfl) (fun _ h9 => h9) dX0_hear_1 (fun v9 m1 h9 => ?_)
  obtain ⟨x2, rfl, gx2, kx2⟩ := h9 _ rfl
  refine lv_iconst (v := (-1)) hx hb dX0_hear_4 (by decide) ?_
  refine lv_icmp_eq (tgt := 15) hx hb dX0_hear_5 (by decide) (fun c3 => ?_) (fun c3 => ?_)
  · have t4 : x2.toInt = (-1) := ti_eq c3 rfl (by decide)
    refine lv_iconst (v := (-1)) hx hb dX0_hear_15 (by decide) ?_
    exact W.iret (v := (-1)) hx hb hr (fun t ht hW => ⟨⟨(-1), (), rfl, (by exact trivial), by (try dsimp only); rw [ht]; exact ⟨hT, hF⟩⟩, hS.F ht⟩) hS.2.2 dX0_hear_16
  · have t5 : x2.toInt ≠ (-1) := ti_ne c3 rfl (by decide)
    refine lv_aload_n hx hb dX0_hear_8 rfl (lv_at hl 1 rfl) ?_
    refine tw_getN hx hb hts bF2_X7 hown hK hT hr_p0 shc_10 rfl 11 (by decide) (hE.nw 60 rfl) (fun _ h9 => h9) dX0_hear_9 (fun v9 m6 h9 => ?_)
    obtain ⟨x7, rfl, gx7, kx7⟩ := h9 _ rfl
    refine lv_if_eq (tgt := 17) hx hb dX0_hear_12 (by decide) (fun c8 => ?_) (fun c8 => ?_)
    · have t9 : x7.toInt = 0 := ti_eq c8 rfl (by decide)
      refine lv_aload_n hx hb dX0_hear_17 rfl (lv_at hl 0 rfl) ?_
      refine lv_aload_n hx hb dX0_hear_18 rfl (lv_at hl 1 rfl) ?_
      refine lv_aload_n hx hb dX0_hear_19 rfl (lv_at hl 3 rfl) ?_
      have hFc := gA_free hG hA hS
      refine va_callv (va_runV (As := [.ref p0, .ref p2]) (rest := []) ⟨hx, hb, hml, hown, hts⟩ (c_gatherFacts l dC dI kA adK adV G s.heap nC nS o0 p0 p2 hT hr_p0 hr_p2 hr_o0 (by omega) (by omega)) (cwV 2 hts (goodIn_app (goodIn_r _ [37, 38, 39, 8] rfl (by decide +kernel)) (goodIn_ca (goodIn_r _ [1, 2, 3, 4, 5, 6, 7, 8, 9, 10, 11, 12, 13, 14, 15, 16, 17, 18, 19, 20, 21, 22, 23, 24, 25, 26, 27, 28, 29, 30, 31, 32, 33, 34, 35, 36] rfl (by decide +kernel)) (bs2_in _ _))) rfl rfl rfl (by decide +kernel) ⟨(Nat.le_of_ble_eq_true rfl), (Nat.le_of_ble_eq_true rfl)⟩) ⟨fun a U g mk q => by obtain ⟨q0, q1, qK, qE⟩ := q; exact ⟨q0, q1, va_K.moved (u := U) (U := U.calling g mk a) (Vm.Alike.refl U.vm) qK, EVC.blind g mk a qE⟩, gH_rc hK hT hr_o0 shc_3 rfl, fun U hU hW => ⟨rfl, hU, va_K.moved hW.alike hK, hE.call hS hFc hU hW⟩⟩ rfl rfl hl.1 rfl (lv_room (Nat.le_of_ble_eq_true rfl)) dX0_hear_20 ⟨(Nat.le_of_ble_eq_true rfl), (Nat.le_of_ble_eq_true rfl)⟩) hS (fun q _ h => hFc q h) hFc (fun u t H locs ht hvm hw11 hB _ _ hS => ?_)
      obtain ⟨hT, hF1⟩ := hB
      rw [ht] at hT hF1
      have hF := hF.more hF1 (by decide)
      try dsimp only at hw11
      refine lv_aload_n hx hb dX0_hear_23 rfl (lv_at hl 0 rfl) ?_
      refine lv_iconst (v := 2) hx hb dX0_hear_24 (by decide) ?_
      have hFc := gA_free hG hA hS
      refine va_calli (va_runV (As := [.int 2]) (rest := []) ⟨hx, hb, hml, hown, hts⟩ (c_ruled l dC dI kA adK adV G H nC nS o0 2 hT hr_o0 (by omega) (by omega)) (cwV 1 hts (goodIn_app (goodIn_r _ [64, 65, 66, 8] rfl (by decide +kernel)) (goodIn_ca (goodIn_r _ [40, 41, 2, 42, 43, 44, 45, 46, 47, 48, 49, 50, 51, 52, 22, 53, 54, 55, 56, 57, 58, 59, 60, 61, 62, 63] rfl (by decide +kernel)) (bs2_in _ _))) rfl rfl rfl (by decide +kernel) ⟨(Nat.le_of_ble_eq_true rfl), (Nat.le_of_ble_eq_true rfl)⟩) ⟨fun a U g mk q => by obtain ⟨q0, q1, qK, qE⟩ := q; exact ⟨q0, q1, va_K.moved (u := U) (U := U.calling g mk a) (Vm.Alike.refl U.vm) qK, EVC.blind g mk a qE⟩, gH_rc hK hT hr_o0 shc_3 rfl, fun U hU hW => ⟨rfl, hU, va_K.moved hW.alike hK, hE.call hS hFc hU hW⟩⟩ rfl rfl hl.1 rfl (lv_room (Nat.le_of_ble_eq_true rfl)) dX0_hear_25 ⟨(Nat.le_of_ble_eq_true rfl), (Nat.le_of_ble_eq_true rfl)⟩) hS (fun q _ h => hFc q h) hFc (fun r14 u t H locs ht hvm hw15 hB _ _ hS => ?_)
      obtain ⟨hT, hF1⟩ := hB
      rw [ht] at hT hF1
      have hF := hF.more hF1 (by decide)
      try dsimp only at hw15
      refine lv_istore (lv' := [(4, .int r14), (0, .ref o0), (1, .ref p0), (2, .int p1), (3, .ref p2)]) hx hb dX0_hear_28 hl (by decide) rfl (fun ls hl => ?_)
      refine lv_aload_n hx hb dX0_hear_30 rfl (lv_at hl 2 rfl) ?_
      refine lv_iconst (v := 1) hx hb dX0_hear_31 (by decide) ?_
      refine tw_putN (v := .int 1) (ty := .boolean) hx hb hts bF2_X7 tyX7 tyX7_ok nmX7 hown hK hT hG hS hr_p0 shc_10 rfl 11 (by decide) (hE.nw 60 rfl) (fun _ h9 => h9) rfl (by decide +kernel) rfl rfl (gl_at rfl (gi_of (show (1 : Int32).toInt = 1 from (by decide)) (by first | decide | omega) (by first | decide | omega))) dX0_hear_32 (fun H locs hT oq m18 oj hS => ?_)
      have hF := hF.put hr_p0 skc_10 oq oj (by decide)
      refine lv_aload_n hx hb dX0_hear_35 rfl (lv_at hl 1 rfl) ?_
      refine lv_dup hx hb dX0_hear_36 rfl ?_
      refine tw_get hx hb hts bF2_X0 hown hK hT hr_o0 shc_3 rfl 13 (by decide) (ht_at2 hts 66 rfl) (fun _ h9 => h9) dX0_hear_37 (fun v9 m20 h9 => ?_)
      obtain ⟨y21, rfl⟩ := h9 _ rfl
      refine lv_iload hx hb dX0_hear_40 (lv_at hl 0 rfl) ?_
      refine lv_i2l (v := r14.toInt64) hx hb dX0_hear_42 rfl ?_
      refine lv_ladd hx hb dX0_hear_43 ?_
      refine lv_topl (fun y22 _ => ?_)
      refine tw_put (v := .long y22) (ty := .long) hx hb hts bF2_X0 tyX0 tyX0_ok nmX0 hown hK hT hG hS hr_o0 shc_3 rfl 13 (by decide) (ht_at2 hts 66 rfl) (fun _ h9 => h9) rfl (by decide +kernel) rfl rfl (gl_at rfl ⟨_, rfl⟩) dX0_hear_44 (fun H locs hT oq m23 oj hS => ?_)
      have hF := hF.put hr_o0 skc_3 oq oj (by decide)
      refine lv_aload_n hx hb dX0_hear_47 rfl (lv_at hl 1 rfl) ?_
      refine lv_dup hx hb dX0_hear_48 rfl ?_
      refine tw_get hx hb hts bF2_X0 hown hK hT hr_o0 shc_3 rfl 12 (by decide) (ht_at2 hts 67 rfl) (fun _ h9 => h9) dX0_hear_49 (fun v9 m26 h9 => ?_)
      obtain ⟨y27, rfl⟩ := h9 _ rfl
      refine lv_iload_n hx hb dX0_hear_52 rfl (lv_at hl 3 rfl) ?_
      refine lv_if_eq (tgt := 62) hx hb dX0_hear_53 (by decide) (fun c28 => ?_) (fun c28 => ?_)
      · have t29 : p1.toInt = 0 := ti_eq c28 rfl (by decide)
        refine lv_lconst (v := 0) hx hb dX0_hear_62 (by decide) ?_
        refine lv_ladd hx hb dX0_hear_63 ?_
        refine lv_topl (fun y30 _ => ?_)
        refine tw_put (v := .long y30) (ty := .long) hx hb hts bF2_X0 tyX0 tyX0_ok nmX0 hown hK hT hG hS hr_o0 shc_3 rfl 12 (by decide) (ht_at2 hts 67 rfl) (fun _ h9 => h9) rfl (by decide +kernel) rfl rfl (gl_at rfl ⟨_, rfl⟩) dX0_hear_64 (fun H locs hT oq m31 oj hS => ?_)
        have hF := hF.put hr_o0 skc_3 oq oj (by decide)
        refine lv_iload hx hb dX0_hear_67 (lv_at hl 0 rfl) ?_
        exact W.iret (v := r14) hx hb hr (fun t ht hW => ⟨⟨r14, (), rfl, (by exact trivial), by (try dsimp only); rw [ht]; exact ⟨hT, hF⟩⟩, hS.F ht⟩) hS.2.2 dX0_hear_69
      · have t35 : p1.toInt ≠ 0 := ti_ne c28 rfl (by decide)
        refine lv_iload hx hb dX0_hear_56 (lv_at hl 0 rfl) ?_
        refine lv_i2l (v := r14.toInt64) hx hb dX0_hear_58 rfl ?_
        refine lv_goto (tgt := 63) hx hb dX0_hear_59 (by decide) ?_
        refine lv_ladd hx hb dX0_hear_63 ?_
        refine lv_topl (fun y36 _ => ?_)
        refine tw_put (v := .long y36) (ty := .long) hx hb hts bF2_X0 tyX0 tyX0_ok nmX0 hown hK hT hG hS hr_o0 shc_3 rfl 12 (by decide) (ht_at2 hts 67 rfl) (fun _ h9 => h9) rfl (by decide +kernel) rfl rfl (gl_at rfl ⟨_, rfl⟩) dX0_hear_64 (fun H locs hT oq m37 oj hS => ?_)
        have hF := hF.put hr_o0 skc_3 oq oj (by decide)
        refine lv_iload hx hb dX0_hear_67 (lv_at hl 0 rfl) ?_
        exact W.iret (v := r14) hx hb hr (fun t ht hW => ⟨⟨r14, (), rfl, (by exact trivial), by (try dsimp only); rw [ht]; exact ⟨hT, hF⟩⟩, hS.F ht⟩) hS.2.2 dX0_hear_69
    · have t41 : x7.toInt ≠ 0 := ti_ne c8 rfl (by decide)
      refine lv_iconst (v := (-1)) hx hb dX0_hear_15 (by decide) ?_
      exact W.iret (v := (-1)) hx hb hr (fun t ht hW => ⟨⟨(-1), (), rfl, (by exact trivial), by (try dsimp only); rw [ht]; exact ⟨hT, hF⟩⟩, hS.F ht⟩) hS.2.2 dX0_hear_16
def w_c_closeVote : List Cond := .code yX0_closeVote cX0_closeVote 3 (some .boolean) :: (HAppend.hAppend (α := List Cond) (β := List Cond) (γ := List Cond) [.fieldLink RX0 68 "SeaLand$Board" "yesVotes" "J", .constantLong RX0 92 100, .fieldLink RX0 72 "SeaLand$Board" "allVotes" "J", .fieldLink RX0 41 "SeaLand$Board" "force" "LSeaLand$Law;", .code yX4_lastOf cX4_lastOf 5 (some .int), .fieldLink RX4 60 "SeaLand$Law" "lines" "I", .fieldLink RX4 18 "SeaLand$Law" "kinds" "[I", .fieldLink RX4 21 "SeaLand$Law" "firsts" "[I", .methodLink RX0 94 yX4_lastOf, .instanceMethod yX4_lastOf, .selects RX4 yX4_lastOf yX4_lastOf, .initialized RX4, .fieldLink RX0 64 "SeaLand$Board" "voting" "Z", .fieldLink RX0 45 "SeaLand$Board" "proposed" "LSeaLand$Law;"] bs2)
set_option maxHeartbeats 4000000 in
set_option maxRecDepth 100000 in
theorem c_closeVote (l : Launch) (dC : Nat → ClassId) (dI : Nat → Nat → Nat) (kA : Nat → ClassId) (adK adV : Nat → Nat) (G : gT) (H0 : Heap) (nC nS : Int) (o0 : Nat)  (hT : gH (dC, dI) kA (SHc nC nS) G H0) (hr_o0 : G o0 = some 3) (hgC : 0 ≤ nC ∧ nC ≤ 40) (hgS : 0 ≤ nS ∧ nS ≤ 60) : Met l yX0_closeVote w_c_closeVote ({ frames := 1, cells := 0, slots := 0, locals := 24 }) (va_Pc [.ref o0] (fun U => U.heap = H0 ∧ va_K (dC, dI) vwCl (tyl kA) U ∧ EVC adK adV (gA G H0.size) U U.heap)) (va_Qi (fun (r : Int32) (u : Unit) => (0 ≤ r.toInt ∧ r.toInt ≤ 1)) (fun (_ : Unit) (t : State) => gH (dC, dI) kA (SHc nC nS) G t.heap ∧ gF (dC, dI) SKc G ([(3, 7), (3, 8), (3, 11)] : List (Nat × Nat)) H0 t.heap) (gA G H0.size)) 0 0 (gA G H0.size) := by
  refine Met.ofW (cc := cX0_closeVote) (maxL := 3) (ret := (some .boolean)) (by decide) rfl ?_
  intro p e s m args below meth c s₁ B hml hv
  obtain ⟨rfl, hH0, hK, hE⟩ := hv
  have hx := B.exec
  have hb := B.bytes
  have hr := B.returns
  have hts := atoms_spec (ws := w_c_closeVote) B.pre
  have hown : s.vm.findClass RX0 = some m.cls := findClass_of_methodNamed B.named
  have hlocks := B.notSynchronized
  subst hH0
  generalize hAe : gA G s.heap.size = A at hE ⊢
  have hA : ∀ q : Nat, s.heap.size ≤ q → A q := fun q h => by rw [← hAe]; exact Or.inr h
  have hG := gA_of hAe
  have hS : va_S A s.heap s.heap [] := va_S.rf
  have hF : gF (dC, dI) SKc G ([(3, 7), (3, 8), (3, 11)] : List (Nat × Nat)) s.heap s.heap := gF.rf
  have hl := lv_entry ([.ref o0]) (n := 3) (Nat.le_of_ble_eq_true rfl)
  rw [lg_entry_eq]
  generalize (lg_sl ([.ref o0]) ++ List.replicate (3 - (lg_sl ([.ref o0])).length) Slot.unset).toArray = ls at hl ⊢
  have hl : lv_has ls 3 [(0, .ref o0)] := hl
  refine lv_aload_n hx hb dX0_closeVote_0 rfl (lv_at hl 0 rfl) ?_
  refine tw_get hx hb hts bF2_X0 hown hK hT hr_o0 shc_3 rfl 12 (by decide) (ht_at2 hts 0 rfl) (fun _ h9 => h9) dX0_closeVote_1 (fun v9 m1 h9 => ?_)
  obtain ⟨y2, rfl⟩ := h9 _ rfl
  refine lv_ldc2 (v := 100) hx hb hown (ht_at2 hts 1 rfl) dX0_closeVote_4 ?_
  refine lv_lmul hx hb dX0_closeVote_7 ?_
  refine lv_topl (fun y3 _ => ?_)
  refine lv_aload_n hx hb dX0_closeVote_8 rfl (lv_at hl 0 rfl) ?_
  refine tw_get hx hb hts bF2_X0 hown hK hT hr_o0 shc_3 rfl 13 (by decide) (ht_at2 hts 2 rfl) (fun _ h9 => h9) dX0_closeVote_9 (fun v9 m4 h9 => ?_)
  obtain ⟨y5, rfl⟩ := h9 _ rfl
  refine lv_aload_n hx hb dX0_closeVote_12 rfl (lv_at hl 0 rfl) ?_
  refine tw_get hx hb hts bF2_X0 hown hK hT hr_o0 shc_3 rfl 7 (by decide) (ht_at2 hts 3 rfl) (fun _ h9 => h9) dX0_closeVote_13 (fun v9 m6 h9 => ?_)
  obtain ⟨b7, rfl, hg8⟩ := h9 _ rfl
  refine lv_bipush (v := 8) hx hb dX0_closeVote_16 (by decide) ?_
  refine lv_bipush (v := 50) hx hb dX0_closeVote_18 (by decide) ?_
  have hFc := gA_free hG hA hS
  refine va_calli (va_runV (As := [.int 8, .int 50]) (rest := [.long y5, .long y3]) ⟨hx, hb, hml, hown, hts⟩ (c_lastOf l dC dI kA adK adV G s.heap nC nS b7 8 50 hT hg8 (by omega) (by omega)) (cwV 2 hts (goodIn_app (goodIn_r _ [9, 10, 11, 12] rfl (by decide +kernel)) (goodIn_ca (goodIn_r _ [5, 6, 7, 8] rfl (by decide +kernel)) (bs2_in _ _))) rfl rfl rfl (by decide +kernel) ⟨(Nat.le_of_ble_eq_true rfl), (Nat.le_of_ble_eq_true rfl)⟩) ⟨fun a U g mk q => by obtain ⟨q0, q1, qK, qE⟩ := q; exact ⟨q0, q1, va_K.moved (u := U) (U := U.calling g mk a) (Vm.Alike.refl U.vm) qK, EVC.blind g mk a qE⟩, gH_rc hK hT hg8 shc_7 rfl, fun U hU hW => ⟨rfl, hU, va_K.moved hW.alike hK, hE.call hS hFc hU hW⟩⟩ rfl rfl hl.1 rfl (lv_room (Nat.le_of_ble_eq_true rfl)) dX0_closeVote_20 ⟨(Nat.le_of_ble_eq_true rfl), (Nat.le_of_ble_eq_true rfl)⟩) hS (fun q _ h => hFc q h) hFc (fun r9 u t H locs ht hvm hw10 hB _ _ hS => ?_)
  obtain ⟨hT, hF1⟩ := hB
  rw [ht] at hT hF1
  have m11 := (hF1.fld hr_o0 skc_3 (k := 12) (by decide) (by decide)).trans m1
  have m12 := (hF1.fld hr_o0 skc_3 (k := 13) (by decide) (by decide)).trans m4
  have m13 := (hF1.fld hr_o0 skc_3 (k := 7) (by decide) (by decide)).trans m6
  have hF := hF.more hF1 (by decide)
  try dsimp only at hw10
  refine lv_i2l (v := r9.toInt64) hx hb dX0_closeVote_23 rfl ?_
  refine lv_lmul hx hb dX0_closeVote_24 ?_
  refine lv_topl (fun y14 _ => ?_)
  refine W.lcmp hx hb dX0_closeVote_25 ?_
  refine lv_topi (fun x15 _ => ?_)
  have jn21 : ∀ (z16 : Int32), ((0 ≤ z16.toInt ∧ z16.toInt ≤ 1)) → ∀ (H : Heap) (locs : List Loc), gH (dC, dI) kA (SHc nC nS) G H → gF (dC, dI) SKc G ([(3, 7), (3, 8), (3, 11)] : List (Nat × Nat)) s.heap H → va_S A s.heap H locs → el H o0 (dI 3 12) = some (.long y2) → el H o0 (dI 3 13) = some (.long y5) → el H o0 (dI 3 7) = some (.ref b7) → ∀ ls : Array Slot, lv_has ls 3 [(0, .ref o0)] → W p l e (headSpec w_c_closeVote ({ frames := 1, cells := 0, slots := 0, locals := 24 })).room s m #[.ref o0] below meth c H locs 0 0 (MQ below (va_Qi (fun (r : Int32) (u : Unit) => (0 ≤ r.toInt ∧ r.toInt ≤ 1)) (fun (_ : Unit) (t : State) => gH (dC, dI) kA (SHc nC nS) G t.heap ∧ gF (dC, dI) SKc G ([(3, 7), (3, 8), (3, 11)] : List (Nat × Nat)) s.heap t.heap) A) #[.ref o0] s 0 0 A) (F0 m 34 ls [.int z16]) := by
    intro z16 h17 H locs hT hF hS m18 m19 m20 ls hl
    refine lv_istore_n (lv' := [(1, .int z16), (0, .ref o0)]) hx hb dX0_closeVote_34 rfl hl (by decide) rfl (fun ls hl => ?_)
    refine lv_aload_n hx hb dX0_closeVote_35 rfl (lv_at hl 1 rfl) ?_
    refine lv_iconst (v := 0) hx hb dX0_closeVote_36 (by decide) ?_
    refine tw_put (v := .int 0) (ty := .boolean) hx hb hts bF2_X0 tyX0 tyX0_ok nmX0 hown hK hT hG hS hr_o0 shc_3 rfl 11 (by decide) (ht_at2 hts 12 rfl) (fun _ h9 => h9) rfl (by decide +kernel) rfl rfl (gl_at rfl (gi_of (show (0 : Int32).toInt = 0 from (by decide)) (by first | decide | omega) (by first | decide | omega))) dX0_closeVote_37 (fun H locs hT oq m22 oj hS => ?_)
    have hF := hF.put hr_o0 skc_3 oq oj (by decide)
    have m25 := (oj 7 (by decide) (by decide)).trans m20
    refine lv_iload_n hx hb dX0_closeVote_40 rfl (lv_at hl 0 rfl) ?_
    refine lv_if_eq (tgt := 62) hx hb dX0_closeVote_41 (by decide) (fun c26 => ?_) (fun c26 => ?_)
    · have t27 : z16.toInt = 0 := ti_eq c26 rfl (by decide)
      refine lv_iload_n hx hb dX0_closeVote_62 rfl (lv_at hl 0 rfl) ?_
      exact W.zret (v := z16) hx hb hr (nar_b (by have q8 := ti_all z16; omega)) (fun t ht hW => ⟨⟨z16, (), rfl, (by exact (by have q8 := ti_all z16; omega)), by (try dsimp only); rw [ht]; exact ⟨hT, hF⟩⟩, hS.F ht⟩) hS.2.2 dX0_closeVote_63
    · have t28 : z16.toInt ≠ 0 := ti_ne c26 rfl (by decide)
      refine lv_aload_n hx hb dX0_closeVote_44 rfl (lv_at hl 1 rfl) ?_
      refine tw_getM (v := .ref b7) hx hb hts bF2_X0 hown hK hT hr_o0 shc_3 rfl 7 (by decide) (ht_at2 hts 3 rfl) (fun _ h9 => h9) m25 dX0_closeVote_45 ?_
      refine lv_astore_n (lv' := [(2, .ref b7), (1, .int z16), (0, .ref o0)]) hx hb dX0_closeVote_48 rfl hl (by decide) rfl (fun ls hl => ?_)
      refine lv_aload_n hx hb dX0_closeVote_49 rfl (lv_at hl 2 rfl) ?_
      refine lv_aload_n hx hb dX0_closeVote_50 rfl (lv_at hl 2 rfl) ?_
      refine tw_get hx hb hts bF2_X0 hown hK hT hr_o0 shc_3 rfl 8 (by decide) (ht_at2 hts 13 rfl) (fun _ h9 => h9) dX0_closeVote_51 (fun v9 m29 h9 => ?_)
      obtain ⟨b30, rfl, hg31⟩ := h9 _ rfl
      refine tw_put (v := .ref b30) (ty := (.object "SeaLand$Law")) hx hb hts bF2_X0 tyX0 tyX0_ok nmX0 hown hK hT hG hS hr_o0 shc_3 rfl 7 (by decide) (ht_at2 hts 3 rfl) (fun _ h9 => h9) rfl (by decide +kernel) rfl rfl (gl_at rfl ⟨_, rfl, hg31⟩) dX0_closeVote_54 (fun H locs hT oq m32 oj hS => ?_)
      have hF := hF.put hr_o0 skc_3 oq oj (by decide)
      refine lv_aload_n hx hb dX0_closeVote_57 rfl (lv_at hl 2 rfl) ?_
      refine lv_aload_n hx hb dX0_closeVote_58 rfl (lv_at hl 0 rfl) ?_
      refine tw_put (v := .ref b7) (ty := (.object "SeaLand$Law")) hx hb hts bF2_X0 tyX0 tyX0_ok nmX0 hown hK hT hG hS hr_o0 shc_3 rfl 8 (by decide) (ht_at2 hts 13 rfl) (fun _ h9 => h9) rfl (by decide +kernel) rfl rfl (gl_at rfl ⟨_, rfl, hg8⟩) dX0_closeVote_59 (fun H locs hT oq m37 oj hS => ?_)
      have hF := hF.put hr_o0 skc_3 oq oj (by decide)
      refine lv_iload_n hx hb dX0_closeVote_62 rfl (lv_at hl 1 rfl) ?_
      exact W.zret (v := z16) hx hb hr (nar_b (by have q8 := ti_all z16; omega)) (fun t ht hW => ⟨⟨z16, (), rfl, (by exact (by have q8 := ti_all z16; omega)), by (try dsimp only); rw [ht]; exact ⟨hT, hF⟩⟩, hS.F ht⟩) hS.2.2 dX0_closeVote_63
  have t42 : -2147483648 ≤ x15.toInt ∧ x15.toInt ≤ 2147483647 := ti_all x15
  refine lv_if_le (tgt := 33) hx hb dX0_closeVote_26 (by decide) (fun c43 => ?_) (fun c43 => ?_)
  · have t44 : x15.toInt ≤ 0 := ti_le c43 rfl (by decide)
    refine lv_iconst (v := 0) hx hb dX0_closeVote_33 (by decide) ?_
    exact jn21 0 (rg_t (a := 0) (by decide) (by first | decide | omega) (by first | decide | omega)) _ _ hT hF hS m11 m12 m13 ls (lv_sub hl [0] rfl)
  · have t45 : 0 < x15.toInt := ti_nle c43 rfl (by decide)
    refine lv_iconst (v := 1) hx hb dX0_closeVote_29 (by decide) ?_
    refine lv_goto (tgt := 34) hx hb dX0_closeVote_30 (by decide) ?_
    exact jn21 1 (rg_t (a := 1) (by decide) (by first | decide | omega) (by first | decide | omega)) _ _ hT hF hS m11 m12 m13 ls (lv_sub hl [0] rfl)
def w_c_farmMayBe : List Cond := .code yX0_farmMayBe cX0_farmMayBe 6 (some .boolean) :: (HAppend.hAppend (α := List Cond) (β := List Cond) (γ := List Cond) [.fieldLink RX0 143 "SeaLand$Board" "farms" "I", .code yX11_inRectangle cX11_inRectangle 3 (some .boolean), .code yX11_isBetween cX11_isBetween 3 (some .boolean), .methodLink RX11 588 Lib.Math.min.name, .static Lib.Math.min.name, .initialized "java/lang/Math", .code Lib.Math.min.name Lib.Math.min.code 2 (some .int), .methodLink RX11 591 Lib.Math.max.name, .static Lib.Math.max.name, .code Lib.Math.max.name Lib.Math.max.code 2 (some .int), .methodLink RX11 585 yX11_isBetween, .static yX11_isBetween, .initialized RX11, .static yX11_inRectangle, .fieldLink RX0 17 "SeaLand$Board" "farmOf" "[I"] bs2)
set_option maxHeartbeats 4000000 in
set_option maxRecDepth 100000 in
theorem c_farmMayBe (l : Launch) (dC : Nat → ClassId) (dI : Nat → Nat → Nat) (kA : Nat → ClassId) (adK adV : Nat → Nat) (G : gT) (H0 : Heap) (nC nS : Int) (o0 : Nat) (p0 : Int32) (p1 : Int32) (p2 : Nat) (fm : Int32)  (hT : gH (dC, dI) kA (SHc nC nS) G H0) (hr_p2 : G p2 = some 5) (hr_o0 : G o0 = some 3) (hm_fm : el H0 o0 (dI 3 16) = some (.int fm)) (hq0 : 0 ≤ fm.toInt ∧ fm.toInt ≤ 30) (hgC : 0 ≤ nC ∧ nC ≤ 40) (hgS : 0 ≤ nS ∧ nS ≤ 60) : Met l yX0_farmMayBe w_c_farmMayBe ({ frames := 3, cells := 0, slots := 0, locals := 84 }) (va_Pc [.ref o0, .int p0, .int p1, .ref p2] (fun U => U.heap = H0 ∧ va_K (dC, dI) vwCl (tyl kA) U ∧ EVC adK adV (gA G H0.size) U U.heap)) (va_Qi (fun (r : Int32) (u : Unit) => (0 ≤ r.toInt ∧ r.toInt ≤ 1) ∧ (r = 1 → 0 ≤ fm.toInt ∧ fm.toInt ≤ 29)) (fun (_ : Unit) (t : State) => gH (dC, dI) kA (SHc nC nS) G t.heap ∧ gF (dC, dI) SKc G ([] : List (Nat × Nat)) H0 t.heap) (gA G H0.size)) 0 0 (gA G H0.size) := by
  refine Met.ofW (cc := cX0_farmMayBe) (maxL := 6) (ret := (some .boolean)) (by decide) rfl ?_
  intro p e s m args below meth c s₁ B hml hv
  obtain ⟨rfl, hH0, hK, hE⟩ := hv
  have hx := B.exec
  have hb := B.bytes
  have hr := B.returns
  have hts := atoms_spec (ws := w_c_farmMayBe) B.pre
  have hown : s.vm.findClass RX0 = some m.cls := findClass_of_methodNamed B.named
  have hlocks := B.notSynchronized
  subst hH0
  generalize hAe : gA G s.heap.size = A at hE ⊢
  have hA : ∀ q : Nat, s.heap.size ≤ q → A q := fun q h => by rw [← hAe]; exact Or.inr h
  have hG := gA_of hAe
  have hS : va_S A s.heap s.heap [] := va_S.rf
  have hF : gF (dC, dI) SKc G ([] : List (Nat × Nat)) s.heap s.heap := gF.rf
  have hl := lv_entry ([.ref o0, .int p0, .int p1, .ref p2]) (n := 6) (Nat.le_of_ble_eq_true rfl)
  rw [lg_entry_eq]
  generalize (lg_sl ([.ref o0, .int p0, .int p1, .ref p2]) ++ List.replicate (6 - (lg_sl ([.ref o0, .int p0, .int p1, .ref p2])).length) Slot.unset).toArray = ls at hl ⊢
  have hl : lv_has ls 6 [(0, .ref o0), (1, .int p0), (2, .int p1), (3, .ref p2)] := hl
  refine lv_aload_n hx hb dX0_farmMayBe_0 rfl (lv_at hl 0 rfl) ?_
  refine tw_getM (v := .int fm) hx hb hts bF2_X0 hown hK hT hr_o0 shc_3 rfl 16 (by decide) (ht_at2 hts 0 rfl) (fun _ h9 => h9) hm_fm dX0_farmMayBe_1 ?_
  refine lv_bipush (v := 30) hx hb dX0_farmMayBe_4 (by decide) ?_
  refine lv_icmp_ge (tgt := 13) hx hb dX0_farmMayBe_6 (by decide) (fun c1 => ?_) (fun c1 => ?_)
  · have t2 : 30 ≤ fm.toInt := ti_le c1 (by decide) rfl
    refine lv_iconst (v := 0) hx hb dX0_farmMayBe_13 (by decide) ?_
    refine lv_istore (lv' := [(4, .int 0), (0, .ref o0), (1, .int p0), (2, .int p1), (3, .ref p2)]) hx hb dX0_farmMayBe_14 hl (by decide) rfl (fun ls hl => ?_)
    refine lv_iconst (v := 0) hx hb dX0_farmMayBe_16 (by decide) ?_
    refine lv_istore (lv' := [(5, .int 0), (4, .int 0), (0, .ref o0), (1, .int p0), (2, .int p1), (3, .ref p2)]) hx hb dX0_farmMayBe_17 hl (by decide) rfl (fun ls hl => ?_)
    have key8 : ∀ (n8 i3 : Nat), i3 + n8 = 96 → 0 ≤ i3 → ∀ (H : Heap) (locs : List Loc), gH (dC, dI) kA (SHc nC nS) G H → gF (dC, dI) SKc G ([] : List (Nat × Nat)) s.heap H → va_S A s.heap H locs → el H o0 (dI 3 16) = some (.int fm) → ∀ ls : Array Slot, lv_has ls 6 [(5, .int (nI i3)), (4, .int 0), (0, .ref o0), (1, .int p0), (2, .int p1), (3, .ref p2)] → W p l e (headSpec w_c_farmMayBe ({ frames := 3, cells := 0, slots := 0, locals := 84 })).room s m #[.ref o0, .int p0, .int p1, .ref p2] below meth c H locs 0 0 (MQ below (va_Qi (fun (r : Int32) (u : Unit) => (0 ≤ r.toInt ∧ r.toInt ≤ 1) ∧ (r = 1 → 0 ≤ fm.toInt ∧ fm.toInt ≤ 29)) (fun (_ : Unit) (t : State) => gH (dC, dI) kA (SHc nC nS) G t.heap ∧ gF (dC, dI) SKc G ([] : List (Nat × Nat)) s.heap t.heap) A) #[.ref o0, .int p0, .int p1, .ref p2] s 0 0 A) (F0 m 19 ls []) := by
      intro n8
      induction n8 with
      | zero =>
        intro i3 hn8 hlo9  H locs hT hF hS m4 ls hl
        obtain rfl : 96 = i3 := by omega
        refine lv_iload hx hb dX0_farmMayBe_19 (lv_at hl 0 rfl) ?_
        refine lv_bipush (v := 96) hx hb dX0_farmMayBe_21 (by decide) ?_
        refine lv_icmp_ge (tgt := 75) hx hb dX0_farmMayBe_23 (by decide) (fun c10 => ?_) (fun c10 => (by exfalso; have q9 : ((96 : Nat) : Int) < 96 := ti_nle c10 (by decide) (nI_toInt (by omega)); omega))
        have t11 : 96 ≤ ((96 : Nat) : Int) := ti_le c10 (by decide) (nI_toInt (by omega))
        refine lv_iload hx hb dX0_farmMayBe_75 (lv_at hl 1 rfl) ?_
        exact W.zret (v := 0) hx hb hr (by decide) (fun t ht hW => ⟨⟨0, (), rfl, (by exact ⟨(rg_t (a := 0) (by decide) (by first | decide | omega) (by first | decide | omega)), (fun h => absurd h (by decide))⟩), by (try dsimp only); rw [ht]; exact ⟨hT, hF⟩⟩, hS.F ht⟩) hS.2.2 dX0_farmMayBe_77
      | succ n8 ih8 =>
        intro i3 hn8 hlo9  H locs hT hF hS m4 ls hl
        have hlt11 : i3 < 96 := by omega
        refine lv_iload hx hb dX0_farmMayBe_19 (lv_at hl 0 rfl) ?_
        refine lv_bipush (v := 96) hx hb dX0_farmMayBe_21 (by decide) ?_
        refine lv_icmp_ge (tgt := 75) hx hb dX0_farmMayBe_23 (by decide) (fun c12 => (by exfalso; have q9 : 96 ≤ ((i3 : Nat) : Int) := ti_le c12 (by decide) (nI_toInt (by omega)); omega)) (fun c12 => ?_)
        have t13 : ((i3 : Nat) : Int) < 96 := ti_nle c12 (by decide) (nI_toInt (by omega))
        refine lv_iload hx hb dX0_farmMayBe_26 (lv_at hl 1 rfl) ?_
        refine lv_if_eq (tgt := 75) hx hb dX0_farmMayBe_28 (by decide) (fun c14 => ?_) (fun c14 => absurd c14 (by decide))
        refine lv_iload hx hb dX0_farmMayBe_75 (lv_at hl 1 rfl) ?_
        exact W.zret (v := 0) hx hb hr (by decide) (fun t ht hW => ⟨⟨0, (), rfl, (by exact ⟨(rg_t (a := 0) (by decide) (by first | decide | omega) (by first | decide | omega)), (fun h => absurd h (by decide))⟩), by (try dsimp only); rw [ht]; exact ⟨hT, hF⟩⟩, hS.F ht⟩) hS.2.2 dX0_farmMayBe_77
    exact key8 (96 - 0) 0 (by omega) (Nat.le_refl _) _ _ hT hF hS hm_fm ls (lv_sub hl [0, 1, 2, 3, 4, 5] rfl)
  · have t15 : fm.toInt < 30 := ti_nle c1 (by decide) rfl
    refine lv_iconst (v := 1) hx hb dX0_farmMayBe_9 (by decide) ?_
    refine lv_goto (tgt := 14) hx hb dX0_farmMayBe_10 (by decide) ?_
    refine lv_istore (lv' := [(4, .int 1), (0, .ref o0), (1, .int p0), (2, .int p1), (3, .ref p2)]) hx hb dX0_farmMayBe_14 hl (by decide) rfl (fun ls hl => ?_)
    refine lv_iconst (v := 0) hx hb dX0_farmMayBe_16 (by decide) ?_
    refine lv_istore (lv' := [(5, .int 0), (4, .int 1), (0, .ref o0), (1, .int p0), (2, .int p1), (3, .ref p2)]) hx hb dX0_farmMayBe_17 hl (by decide) rfl (fun ls hl => ?_)
    have key49 : ∀ (n49 i16 : Nat), i16 + n49 = 96 → 0 ≤ i16 → ∀ (z17 : Int32), ((0 ≤ z17.toInt ∧ z17.toInt ≤ 1)) → ∀ (H : Heap) (locs : List Loc), gH (dC, dI) kA (SHc nC nS) G H → gF (dC, dI) SKc G ([] : List (Nat × Nat)) s.heap H → va_S A s.heap H locs → el H o0 (dI 3 16) = some (.int fm) → ∀ ls : Array Slot, lv_has ls 6 [(5, .int (nI i16)), (4, .int z17), (0, .ref o0), (1, .int p0), (2, .int p1), (3, .ref p2)] → W p l e (headSpec w_c_farmMayBe ({ frames := 3, cells := 0, slots := 0, locals := 84 })).room s m #[.ref o0, .int p0, .int p1, .ref p2] below meth c H locs 0 0 (MQ below (va_Qi (fun (r : Int32) (u : Unit) => (0 ≤ r.toInt ∧ r.toInt ≤ 1) ∧ (r = 1 → 0 ≤ fm.toInt ∧ fm.toInt ≤ 29)) (fun (_ : Unit) (t : State) => gH (dC, dI) kA (SHc nC nS) G t.heap ∧ gF (dC, dI) SKc G ([] : List (Nat × Nat)) s.heap t.heap) A) #[.ref o0, .int p0, .int p1, .ref p2] s 0 0 A) (F0 m 19 ls []) := by
      intro n49
      induction n49 with
      | zero =>
        intro i16 hn49 hlo50 z17 h18 H locs hT hF hS m19 ls hl
        obtain rfl : 96 = i16 := by omega
        refine lv_iload hx hb dX0_farmMayBe_19 (lv_at hl 0 rfl) ?_
        refine lv_bipush (v := 96) hx hb dX0_farmMayBe_21 (by decide) ?_
        refine lv_icmp_ge (tgt := 75) hx hb dX0_farmMayBe_23 (by decide) (fun c51 => ?_) (fun c51 => (by exfalso; have q9 : ((96 : Nat) : Int) < 96 := ti_nle c51 (by decide) (nI_toInt (by omega)); omega))
        have t52 : 96 ≤ ((96 : Nat) : Int) := ti_le c51 (by decide) (nI_toInt (by omega))
        refine lv_iload hx hb dX0_farmMayBe_75 (lv_at hl 1 rfl) ?_
        exact W.zret (v := z17) hx hb hr (nar_b (by have q8 := ti_all z17; omega)) (fun t ht hW => ⟨⟨z17, (), rfl, (by exact ⟨(by have q8 := ti_all z17; omega), (fun h => by omega)⟩), by (try dsimp only); rw [ht]; exact ⟨hT, hF⟩⟩, hS.F ht⟩) hS.2.2 dX0_farmMayBe_77
      | succ n49 ih49 =>
        intro i16 hn49 hlo50 z17 h18 H locs hT hF hS m19 ls hl
        have hlt52 : i16 < 96 := by omega
        refine lv_iload hx hb dX0_farmMayBe_19 (lv_at hl 0 rfl) ?_
        refine lv_bipush (v := 96) hx hb dX0_farmMayBe_21 (by decide) ?_
        refine lv_icmp_ge (tgt := 75) hx hb dX0_farmMayBe_23 (by decide) (fun c53 => (by exfalso; have q9 : 96 ≤ ((i16 : Nat) : Int) := ti_le c53 (by decide) (nI_toInt (by omega)); omega)) (fun c53 => ?_)
        have t54 : ((i16 : Nat) : Int) < 96 := ti_nle c53 (by decide) (nI_toInt (by omega))
        refine lv_iload hx hb dX0_farmMayBe_26 (lv_at hl 1 rfl) ?_
        refine lv_if_eq (tgt := 75) hx hb dX0_farmMayBe_28 (by decide) (fun c55 => ?_) (fun c55 => ?_)
        · have t56 : z17.toInt = 0 := ti_eq c55 rfl (by decide)
          refine lv_iload hx hb dX0_farmMayBe_75 (lv_at hl 1 rfl) ?_
          exact W.zret (v := z17) hx hb hr (nar_b (by have q8 := ti_all z17; omega)) (fun t ht hW => ⟨⟨z17, (), rfl, (by exact ⟨(by have q8 := ti_all z17; omega), (fun h => absurd (congrArg Int32.toInt h) (by have : ((1 : Int32)).toInt = 1 := (by decide); omega))⟩), by (try dsimp only); rw [ht]; exact ⟨hT, hF⟩⟩, hS.F ht⟩) hS.2.2 dX0_farmMayBe_77
        · have t57 : z17.toInt ≠ 0 := ti_ne c55 rfl (by decide)
          refine lv_iload hx hb dX0_farmMayBe_31 (lv_at hl 0 rfl) ?_
          refine lv_iload_n hx hb dX0_farmMayBe_33 rfl (lv_at hl 3 rfl) ?_
          refine lv_iload_n hx hb dX0_farmMayBe_34 rfl (lv_at hl 4 rfl) ?_
          have hFc := gA_free hG hA hS
          refine va_calli (va_runSN (As := [.int (nI i16), .int p0, .int p1]) (rest := []) ⟨hx, hb, hml, hown, hts⟩ (c_inRectangle l dC dI kA adK adV G H nC nS (nI i16) p0 p1 hT (by omega) (by omega)) ⟨va_cnB 3 hts (goodIn_ca (goodIn_r _ [2, 3, 4, 5, 6, 7, 8, 9, 10, 11, 12, 13] rfl (by decide +kernel)) (bs2_in _ _)) rfl rfl rfl (hE.nm 105 rfl) (ht_at2 hts 12 rfl) (by decide +kernel) ⟨(Nat.le_of_ble_eq_true rfl), (Nat.le_of_ble_eq_true rfl)⟩, (ht_at2 hts 13 rfl), trivial⟩ ⟨fun a U g mk q => by obtain ⟨q0, q1, qK, qE⟩ := q; exact ⟨q0, q1, va_K.moved (u := U) (U := U.calling g mk a) (Vm.Alike.refl U.vm) qK, EVC.blind g mk a qE⟩, fun U hU hW => ⟨rfl, hU, va_K.moved hW.alike hK, hE.call hS hFc hU hW⟩⟩ rfl rfl hl.1 rfl (lv_room (Nat.le_of_ble_eq_true rfl)) dX0_farmMayBe_35 ⟨(Nat.le_of_ble_eq_true rfl), (Nat.le_of_ble_eq_true rfl)⟩) hS (fun q _ h => hFc q h) hFc (fun r58 u t H locs ht hvm hw59 hB _ _ hS => ?_)
          obtain ⟨hT, hF1⟩ := hB
          rw [ht] at hT hF1
          have m60 := (hF1.fld hr_o0 skc_3 (k := 16) (by decide) (by decide)).trans m19
          have hF := hF.more hF1 (by decide)
          try dsimp only at hw59
          have h61 := hw59
          refine lv_if_eq (tgt := 69) hx hb dX0_farmMayBe_38 (by decide) (fun c62 => ?_) (fun c62 => ?_)
          · have t63 : r58.toInt = 0 := ti_eq c62 rfl (by decide)
            refine lv_iinc (v := nI (i16 + 1)) (lv' := [(5, .int (nI (i16 + 1))), (4, .int z17), (0, .ref o0), (1, .int p0), (2, .int p1), (3, .ref p2)]) hx hb dX0_farmMayBe_69 hl (k := 0) rfl (nI_add i16 1) (by decide) rfl (fun ls hl => ?_)
            refine lv_goto (tgt := 19) hx hb dX0_farmMayBe_72 (by decide) ?_
            exact ih49 (i16 + 1) (by omega) (by omega) z17 (by have q8 := ti_all z17; omega) _ _ hT hF hS m60 ls (lv_sub hl [0, 1, 2, 3, 4, 5] rfl)
          · have t64 : r58.toInt ≠ 0 := ti_ne c62 rfl (by decide)
            refine lv_aload_n hx hb dX0_farmMayBe_41 rfl (lv_at hl 5 rfl) ?_
            refine tw_getN hx hb hts bF2_X2 hown hK hT hr_p2 shc_5 rfl 0 (by decide) (hE.nw 70 rfl) (fun _ h9 => h9) dX0_farmMayBe_42 (fun v9 m65 h9 => ?_)
            obtain ⟨b66, rfl, hg67⟩ := h9 _ rfl
            refine lv_iload hx hb dX0_farmMayBe_45 (lv_at hl 0 rfl) ?_
            refine tw_zald (i := (nI i16)) hx hb hK hT hg67 shc_25 rfl (vp_in_nI (by omega) (by decide)) dX0_farmMayBe_47 (fun v9 m68 h9 => ?_)
            obtain ⟨x69, rfl, gx69, kx69⟩ := h9
            refine lv_if_eq (tgt := 66) hx hb dX0_farmMayBe_48 (by decide) (fun c70 => ?_) (fun c70 => ?_)
            · have t71 : x69.toInt = 0 := ti_eq c70 rfl (by decide)
              refine lv_iconst (v := 0) hx hb dX0_farmMayBe_66 (by decide) ?_
              refine lv_istore (lv' := [(4, .int 0), (5, .int (nI i16)), (0, .ref o0), (1, .int p0), (2, .int p1), (3, .ref p2)]) hx hb dX0_farmMayBe_67 hl (by decide) rfl (fun ls hl => ?_)
              refine lv_iinc (v := nI (i16 + 1)) (lv' := [(5, .int (nI (i16 + 1))), (4, .int 0), (0, .ref o0), (1, .int p0), (2, .int p1), (3, .ref p2)]) hx hb dX0_farmMayBe_69 hl (k := 1) rfl (nI_add i16 1) (by decide) rfl (fun ls hl => ?_)
              refine lv_goto (tgt := 19) hx hb dX0_farmMayBe_72 (by decide) ?_
              exact ih49 (i16 + 1) (by omega) (by omega) 0 (rg_t (a := 0) (by decide) (by first | decide | omega) (by first | decide | omega)) _ _ hT hF hS m60 ls (lv_sub hl [0, 1, 2, 3, 4, 5] rfl)
            · have t72 : x69.toInt ≠ 0 := ti_ne c70 rfl (by decide)
              refine lv_aload_n hx hb dX0_farmMayBe_51 rfl (lv_at hl 2 rfl) ?_
              refine tw_get hx hb hts bF2_X0 hown hK hT hr_o0 shc_3 rfl 1 (by decide) (ht_at2 hts 14 rfl) (fun _ h9 => h9) dX0_farmMayBe_52 (fun v9 m73 h9 => ?_)
              obtain ⟨b74, rfl, hg75⟩ := h9 _ rfl
              refine lv_iload hx hb dX0_farmMayBe_55 (lv_at hl 0 rfl) ?_
              refine tw_iald (i := (nI i16)) hx hb hK hT hg75 shc_52 rfl (vp_in_nI (by omega) (by decide)) dX0_farmMayBe_57 (fun v9 m76 h9 => ?_)
              obtain ⟨x77, rfl, gx77, kx77⟩ := h9
              refine lv_iconst (v := (-1)) hx hb dX0_farmMayBe_58 (by decide) ?_
              have t78 : -2147483648 ≤ x77.toInt ∧ x77.toInt ≤ 2147483647 := ti_all x77
              refine lv_icmp_ne (tgt := 66) hx hb dX0_farmMayBe_59 (by decide) (fun c79 => ?_) (fun c79 => ?_)
              · have t80 : x77.toInt ≠ (-1) := ti_ne c79 rfl (by decide)
                refine lv_iconst (v := 0) hx hb dX0_farmMayBe_66 (by decide) ?_
                refine lv_istore (lv' := [(4, .int 0), (5, .int (nI i16)), (0, .ref o0), (1, .int p0), (2, .int p1), (3, .ref p2)]) hx hb dX0_farmMayBe_67 hl (by decide) rfl (fun ls hl => ?_)
                refine lv_iinc (v := nI (i16 + 1)) (lv' := [(5, .int (nI (i16 + 1))), (4, .int 0), (0, .ref o0), (1, .int p0), (2, .int p1), (3, .ref p2)]) hx hb dX0_farmMayBe_69 hl (k := 1) rfl (nI_add i16 1) (by decide) rfl (fun ls hl => ?_)
                refine lv_goto (tgt := 19) hx hb dX0_farmMayBe_72 (by decide) ?_
                exact ih49 (i16 + 1) (by omega) (by omega) 0 (rg_t (a := 0) (by decide) (by first | decide | omega) (by first | decide | omega)) _ _ hT hF hS m60 ls (lv_sub hl [0, 1, 2, 3, 4, 5] rfl)
              · have t81 : x77.toInt = (-1) := ti_eq c79 rfl (by decide)
                refine lv_iconst (v := 1) hx hb dX0_farmMayBe_62 (by decide) ?_
                refine lv_goto (tgt := 67) hx hb dX0_farmMayBe_63 (by decide) ?_
                refine lv_istore (lv' := [(4, .int 1), (5, .int (nI i16)), (0, .ref o0), (1, .int p0), (2, .int p1), (3, .ref p2)]) hx hb dX0_farmMayBe_67 hl (by decide) rfl (fun ls hl => ?_)
                refine lv_iinc (v := nI (i16 + 1)) (lv' := [(5, .int (nI (i16 + 1))), (4, .int 1), (0, .ref o0), (1, .int p0), (2, .int p1), (3, .ref p2)]) hx hb dX0_farmMayBe_69 hl (k := 1) rfl (nI_add i16 1) (by decide) rfl (fun ls hl => ?_)
                refine lv_goto (tgt := 19) hx hb dX0_farmMayBe_72 (by decide) ?_
                exact ih49 (i16 + 1) (by omega) (by omega) 1 (rg_t (a := 1) (by decide) (by first | decide | omega) (by first | decide | omega)) _ _ hT hF hS m60 ls (lv_sub hl [0, 1, 2, 3, 4, 5] rfl)
    exact key49 (96 - 0) 0 (by omega) (Nat.le_refl _) 1 (rg_t (a := 1) (by decide) (by first | decide | omega) (by first | decide | omega)) _ _ hT hF hS hm_fm ls (lv_sub hl [0, 1, 2, 3, 4, 5] rfl)
def w_c_layOut : List Cond := .code yX0_layOut cX0_layOut 4 (some .int) :: (HAppend.hAppend (α := List Cond) (β := List Cond) (γ := List Cond) [.code yX11_inRectangle cX11_inRectangle 3 (some .boolean), .code yX11_isBetween cX11_isBetween 3 (some .boolean), .methodLink RX11 588 Lib.Math.min.name, .static Lib.Math.min.name, .initialized "java/lang/Math", .code Lib.Math.min.name Lib.Math.min.code 2 (some .int), .methodLink RX11 591 Lib.Math.max.name, .static Lib.Math.max.name, .code Lib.Math.max.name Lib.Math.max.code 2 (some .int), .methodLink RX11 585 yX11_isBetween, .static yX11_isBetween, .initialized RX11, .static yX11_inRectangle, .fieldLink RX0 17 "SeaLand$Board" "farmOf" "[I", .fieldLink RX0 143 "SeaLand$Board" "farms" "I"] bs2)
set_option maxHeartbeats 4000000 in
set_option maxRecDepth 100000 in
theorem c_layOut (l : Launch) (dC : Nat → ClassId) (dI : Nat → Nat → Nat) (kA : Nat → ClassId) (adK adV : Nat → Nat) (G : gT) (H0 : Heap) (nC nS : Int) (o0 : Nat) (p0 : Int32) (p1 : Int32) (fm : Int32)  (hT : gH (dC, dI) kA (SHc nC nS) G H0) (hr_o0 : G o0 = some 3) (hm_fm : el H0 o0 (dI 3 16) = some (.int fm)) (hq0 : 0 ≤ fm.toInt ∧ fm.toInt ≤ 29) (hgC : 0 ≤ nC ∧ nC ≤ 40) (hgS : 0 ≤ nS ∧ nS ≤ 60) : Met l yX0_layOut w_c_layOut ({ frames := 3, cells := 0, slots := 0, locals := 84 }) (va_Pc [.ref o0, .int p0, .int p1] (fun U => U.heap = H0 ∧ va_K (dC, dI) vwCl (tyl kA) U ∧ EVC adK adV (gA G H0.size) U U.heap)) (va_Qi (fun (r : Int32) (u : Unit) => (0 ≤ r.toInt ∧ r.toInt ≤ 29)) (fun (_ : Unit) (t : State) => gH (dC, dI) kA (SHc nC nS) G t.heap ∧ gF (dC, dI) SKc G ([(3, 16), (52, 0)] : List (Nat × Nat)) H0 t.heap) (gA G H0.size)) 0 0 (gA G H0.size) := by
  refine Met.ofW (cc := cX0_layOut) (maxL := 4) (ret := (some .int)) (by decide) rfl ?_
  intro p e s m args below meth c s₁ B hml hv
  obtain ⟨rfl, hH0, hK, hE⟩ := hv
  have hx := B.exec
  have hb := B.bytes
  have hr := B.returns
  have hts := atoms_spec (ws := w_c_layOut) B.pre
  have hown : s.vm.findClass RX0 = some m.cls := findClass_of_methodNamed B.named
  have hlocks := B.notSynchronized
  subst hH0
  generalize hAe : gA G s.heap.size = A at hE ⊢
  have hA : ∀ q : Nat, s.heap.size ≤ q → A q := fun q h => by rw [← hAe]; exact Or.inr h
  have hG := gA_of hAe
  have hS : va_S A s.heap s.heap [] := va_S.rf
  have hF : gF (dC, dI) SKc G ([(3, 16), (52, 0)] : List (Nat × Nat)) s.heap s.heap := gF.rf
  have hl := lv_entry ([.ref o0, .int p0, .int p1]) (n := 4) (Nat.le_of_ble_eq_true rfl)
  rw [lg_entry_eq]
  generalize (lg_sl ([.ref o0, .int p0, .int p1]) ++ List.replicate (4 - (lg_sl ([.ref o0, .int p0, .int p1])).length) Slot.unset).toArray = ls at hl ⊢
  have hl : lv_has ls 4 [(0, .ref o0), (1, .int p0), (2, .int p1)] := hl
  refine lv_iconst (v := 0) hx hb dX0_layOut_0 (by decide) ?_
  refine lv_istore_n (lv' := [(3, .int 0), (0, .ref o0), (1, .int p0), (2, .int p1)]) hx hb dX0_layOut_1 rfl hl (by decide) rfl (fun ls hl => ?_)
  have jn36 : ∀ (H : Heap) (locs : List Loc), gH (dC, dI) kA (SHc nC nS) G H → gF (dC, dI) SKc G ([(3, 16), (52, 0)] : List (Nat × Nat)) s.heap H → va_S A s.heap H locs → el H o0 (dI 3 16) = some (.int fm) → ∀ ls : Array Slot, lv_has ls 4 [(3, .int (nI 96)), (0, .ref o0), (1, .int p0), (2, .int p1)] → W p l e (headSpec w_c_layOut ({ frames := 3, cells := 0, slots := 0, locals := 84 })).room s m #[.ref o0, .int p0, .int p1] below meth c H locs 0 0 (MQ below (va_Qi (fun (r : Int32) (u : Unit) => (0 ≤ r.toInt ∧ r.toInt ≤ 29)) (fun (_ : Unit) (t : State) => gH (dC, dI) kA (SHc nC nS) G t.heap ∧ gF (dC, dI) SKc G ([(3, 16), (52, 0)] : List (Nat × Nat)) s.heap t.heap) A) #[.ref o0, .int p0, .int p1] s 0 0 A) (F0 m 33 ls []) := by
    intro  H locs hT hF hS m35 ls hl
    refine lv_aload_n hx hb dX0_layOut_33 rfl (lv_at hl 1 rfl) ?_
    refine lv_dup hx hb dX0_layOut_34 rfl ?_
    refine tw_getM (v := .int fm) hx hb hts bF2_X0 hown hK hT hr_o0 shc_3 rfl 16 (by decide) (ht_at2 hts 14 rfl) (fun _ h9 => h9) m35 dX0_layOut_35 ?_
    refine lv_iconst (v := 1) hx hb dX0_layOut_38 (by decide) ?_
    refine lv_iadd hx hb dX0_layOut_39 ?_
    refine lv_topi (fun x37 ex37 => ?_)
    have t38 : x37.toInt = fm.toInt + 1 := ti_add ex37 rfl (by decide) (by omega) (by omega)
    refine tw_put (v := .int x37) (ty := .int) hx hb hts bF2_X0 tyX0 tyX0_ok nmX0 hown hK hT hG hS hr_o0 shc_3 rfl 16 (by decide) (ht_at2 hts 14 rfl) (fun _ h9 => h9) rfl (by decide +kernel) rfl rfl (gl_at rfl (gi_of (show x37.toInt = x37.toInt from rfl) (by omega) (by omega))) dX0_layOut_40 (fun H locs hT oq m39 oj hS => ?_)
    have hF := hF.put hr_o0 skc_3 oq oj (by decide)
    refine lv_aload_n hx hb dX0_layOut_43 rfl (lv_at hl 1 rfl) ?_
    refine tw_getM (v := .int x37) hx hb hts bF2_X0 hown hK hT hr_o0 shc_3 rfl 16 (by decide) (ht_at2 hts 14 rfl) (fun _ h9 => h9) m39 dX0_layOut_44 ?_
    refine lv_iconst (v := 1) hx hb dX0_layOut_47 (by decide) ?_
    refine lv_isub hx hb dX0_layOut_48 ?_
    refine lv_topi (fun x40 ex40 => ?_)
    have t41 : x40.toInt = x37.toInt - 1 := ti_sub ex40 rfl (by decide) (by omega) (by omega)
    exact W.iret (v := x40) hx hb hr (fun t ht hW => ⟨⟨x40, (), rfl, (by exact (by have q8 := ti_all x40; omega)), by (try dsimp only); rw [ht]; exact ⟨hT, hF⟩⟩, hS.F ht⟩) hS.2.2 dX0_layOut_49
  have key42 : ∀ (n42 i1 : Nat), i1 + n42 = 96 → 0 ≤ i1 → ∀ (H : Heap) (locs : List Loc), gH (dC, dI) kA (SHc nC nS) G H → gF (dC, dI) SKc G ([(3, 16), (52, 0)] : List (Nat × Nat)) s.heap H → va_S A s.heap H locs → el H o0 (dI 3 16) = some (.int fm) → ∀ ls : Array Slot, lv_has ls 4 [(3, .int (nI i1)), (0, .ref o0), (1, .int p0), (2, .int p1)] → W p l e (headSpec w_c_layOut ({ frames := 3, cells := 0, slots := 0, locals := 84 })).room s m #[.ref o0, .int p0, .int p1] below meth c H locs 0 0 (MQ below (va_Qi (fun (r : Int32) (u : Unit) => (0 ≤ r.toInt ∧ r.toInt ≤ 29)) (fun (_ : Unit) (t : State) => gH (dC, dI) kA (SHc nC nS) G t.heap ∧ gF (dC, dI) SKc G ([(3, 16), (52, 0)] : List (Nat × Nat)) s.heap t.heap) A) #[.ref o0, .int p0, .int p1] s 0 0 A) (F0 m 2 ls []) := by
    intro n42
    induction n42 with
    | zero =>
      intro i1 hn42 hlo43  H locs hT hF hS m2 ls hl
      obtain rfl : 96 = i1 := by omega
      refine lv_iload_n hx hb dX0_layOut_2 rfl (lv_at hl 0 rfl) ?_
      refine lv_bipush (v := 96) hx hb dX0_layOut_3 (by decide) ?_
      refine lv_icmp_ge (tgt := 33) hx hb dX0_layOut_5 (by decide) (fun c44 => ?_) (fun c44 => (by exfalso; have q9 : ((96 : Nat) : Int) < 96 := ti_nle c44 (by decide) (nI_toInt (by omega)); omega))
      have t45 : 96 ≤ ((96 : Nat) : Int) := ti_le c44 (by decide) (nI_toInt (by omega))
      exact jn36 _ _ hT hF hS m2 ls (lv_sub hl [0, 1, 2, 3] rfl)
    | succ n42 ih42 =>
      intro i1 hn42 hlo43  H locs hT hF hS m2 ls hl
      have hlt45 : i1 < 96 := by omega
      refine lv_iload_n hx hb dX0_layOut_2 rfl (lv_at hl 0 rfl) ?_
      refine lv_bipush (v := 96) hx hb dX0_layOut_3 (by decide) ?_
      refine lv_icmp_ge (tgt := 33) hx hb dX0_layOut_5 (by decide) (fun c46 => (by exfalso; have q9 : 96 ≤ ((i1 : Nat) : Int) := ti_le c46 (by decide) (nI_toInt (by omega)); omega)) (fun c46 => ?_)
      have t47 : ((i1 : Nat) : Int) < 96 := ti_nle c46 (by decide) (nI_toInt (by omega))
      refine lv_iload_n hx hb dX0_layOut_8 rfl (lv_at hl 0 rfl) ?_
      refine lv_iload_n hx hb dX0_layOut_9 rfl (lv_at hl 2 rfl) ?_
      refine lv_iload_n hx hb dX0_layOut_10 rfl (lv_at hl 3 rfl) ?_
      have hFc := gA_free hG hA hS
      refine va_calli (va_runSN (As := [.int (nI i1), .int p0, .int p1]) (rest := []) ⟨hx, hb, hml, hown, hts⟩ (c_inRectangle l dC dI kA adK adV G H nC nS (nI i1) p0 p1 hT (by omega) (by omega)) ⟨va_cnB 3 hts (goodIn_ca (goodIn_r _ [1, 2, 3, 4, 5, 6, 7, 8, 9, 10, 11, 12] rfl (by decide +kernel)) (bs2_in _ _)) rfl rfl rfl (hE.nm 105 rfl) (ht_at2 hts 11 rfl) (by decide +kernel) ⟨(Nat.le_of_ble_eq_true rfl), (Nat.le_of_ble_eq_true rfl)⟩, (ht_at2 hts 12 rfl), trivial⟩ ⟨fun a U g mk q => by obtain ⟨q0, q1, qK, qE⟩ := q; exact ⟨q0, q1, va_K.moved (u := U) (U := U.calling g mk a) (Vm.Alike.refl U.vm) qK, EVC.blind g mk a qE⟩, fun U hU hW => ⟨rfl, hU, va_K.moved hW.alike hK, hE.call hS hFc hU hW⟩⟩ rfl rfl hl.1 rfl (lv_room (Nat.le_of_ble_eq_true rfl)) dX0_layOut_11 ⟨(Nat.le_of_ble_eq_true rfl), (Nat.le_of_ble_eq_true rfl)⟩) hS (fun q _ h => hFc q h) hFc (fun r48 u t H locs ht hvm hw49 hB _ _ hS => ?_)
      obtain ⟨hT, hF1⟩ := hB
      rw [ht] at hT hF1
      have m50 := (hF1.fld hr_o0 skc_3 (k := 16) (by decide) (by decide)).trans m2
      have hF := hF.more hF1 (by decide)
      try dsimp only at hw49
      have h51 := hw49
      refine lv_if_eq (tgt := 27) hx hb dX0_layOut_14 (by decide) (fun c52 => ?_) (fun c52 => ?_)
      · have t53 : r48.toInt = 0 := ti_eq c52 rfl (by decide)
        refine lv_iinc (v := nI (i1 + 1)) (lv' := [(3, .int (nI (i1 + 1))), (0, .ref o0), (1, .int p0), (2, .int p1)]) hx hb dX0_layOut_27 hl (k := 0) rfl (nI_add i1 1) (by decide) rfl (fun ls hl => ?_)
        refine lv_goto (tgt := 2) hx hb dX0_layOut_30 (by decide) ?_
        exact ih42 (i1 + 1) (by omega) (by omega) _ _ hT hF hS m50 ls (lv_sub hl [0, 1, 2, 3] rfl)
      · have t54 : r48.toInt ≠ 0 := ti_ne c52 rfl (by decide)
        refine lv_aload_n hx hb dX0_layOut_17 rfl (lv_at hl 1 rfl) ?_
        refine tw_get hx hb hts bF2_X0 hown hK hT hr_o0 shc_3 rfl 1 (by decide) (ht_at2 hts 13 rfl) (fun _ h9 => h9) dX0_layOut_18 (fun v9 m55 h9 => ?_)
        obtain ⟨b56, rfl, hg57⟩ := h9 _ rfl
        refine lv_iload_n hx hb dX0_layOut_21 rfl (lv_at hl 0 rfl) ?_
        refine lv_aload_n hx hb dX0_layOut_22 rfl (lv_at hl 1 rfl) ?_
        refine tw_getM (v := .int fm) hx hb hts bF2_X0 hown hK hT hr_o0 shc_3 rfl 16 (by decide) (ht_at2 hts 14 rfl) (fun _ h9 => h9) m50 dX0_layOut_23 ?_
        refine tw_iast (i := (nI i1)) (x := fm) hx hb hK hT hG hS hg57 shc_52 rfl (vp_in_nI (by omega) (by decide)) (gi_all _) dX0_layOut_26 (fun H locs hT oq m58 oi hS => ?_)
        have hF := hF.ast hg57 skc_52 oq (by decide)
        have m59 := (el_kept (oq _ (gne hr_o0 hg57 (by decide)))).trans m50
        refine lv_iinc (v := nI (i1 + 1)) (lv' := [(3, .int (nI (i1 + 1))), (0, .ref o0), (1, .int p0), (2, .int p1)]) hx hb dX0_layOut_27 hl (k := 0) rfl (nI_add i1 1) (by decide) rfl (fun ls hl => ?_)
        refine lv_goto (tgt := 2) hx hb dX0_layOut_30 (by decide) ?_
        exact ih42 (i1 + 1) (by omega) (by omega) _ _ hT hF hS m59 ls (lv_sub hl [0, 1, 2, 3] rfl)
  exact key42 (96 - 0) 0 (by omega) (Nat.le_refl _) _ _ hT hF hS hm_fm ls (lv_sub hl [0, 1, 2, 3] rfl)
def w_c_worthOf : List Cond := .code yX0_worthOf cX0_worthOf 7 (some .int) :: (HAppend.hAppend (α := List Cond) (β := List Cond) (γ := List Cond) [.fieldLink RX0 17 "SeaLand$Board" "farmOf" "[I", .methodLink RX0 161 Lib.Math.max.name, .static Lib.Math.max.name, .initialized "java/lang/Math", .code Lib.Math.max.name Lib.Math.max.code 2 (some .int)] bs2)
set_option maxHeartbeats 4000000 in
set_option maxRecDepth 100000 in
theorem c_worthOf (l : Launch) (dC : Nat → ClassId) (dI : Nat → Nat → Nat) (kA : Nat → ClassId) (adK adV : Nat → Nat) (G : gT) (H0 : Heap) (nC nS : Int) (o0 : Nat) (p0 : Int32) (p1 : Nat)  (hT : gH (dC, dI) kA (SHc nC nS) G H0) (hr_p1 : G p1 = some 5) (hr_o0 : G o0 = some 3) (hgC : 0 ≤ nC ∧ nC ≤ 40) (hgS : 0 ≤ nS ∧ nS ≤ 60) : Met l yX0_worthOf w_c_worthOf ({ frames := 1, cells := 0, slots := 0, locals := 40 }) (va_Pc [.ref o0, .int p0, .ref p1] (fun U => U.heap = H0 ∧ va_K (dC, dI) vwCl (tyl kA) U ∧ EVC adK adV (gA G H0.size) U U.heap)) (va_Qi (fun (r : Int32) (u : Unit) => True) (fun (_ : Unit) (t : State) => gH (dC, dI) kA (SHc nC nS) G t.heap ∧ gF (dC, dI) SKc G ([] : List (Nat × Nat)) H0 t.heap) (gA G H0.size)) 0 0 (gA G H0.size) := by
  refine Met.ofW (cc := cX0_worthOf) (maxL := 7) (ret := (some .int)) (by decide) rfl ?_
  intro p e s m args below meth c s₁ B hml hv
  obtain ⟨rfl, hH0, hK, hE⟩ := hv
  have hx := B.exec
  have hb := B.bytes
  have hr := B.returns
  have hts := atoms_spec (ws := w_c_worthOf) B.pre
  have hown : s.vm.findClass RX0 = some m.cls := findClass_of_methodNamed B.named
  have hlocks := B.notSynchronized
  subst hH0
  generalize hAe : gA G s.heap.size = A at hE ⊢
  have hA : ∀ q : Nat, s.heap.size ≤ q → A q := fun q h => by rw [← hAe]; exact Or.inr h
  have hG := gA_of hAe
  have hS : va_S A s.heap s.heap [] := va_S.rf
  have hF : gF (dC, dI) SKc G ([] : List (Nat × Nat)) s.heap s.heap := gF.rf
  have hl := lv_entry ([.ref o0, .int p0, .ref p1]) (n := 7) (Nat.le_of_ble_eq_true rfl)
  rw [lg_entry_eq]
  generalize (lg_sl ([.ref o0, .int p0, .ref p1]) ++ List.replicate (7 - (lg_sl ([.ref o0, .int p0, .ref p1])).length) Slot.unset).toArray = ls at hl ⊢
  have hl : lv_has ls 7 [(0, .ref o0), (1, .int p0), (2, .ref p1)] := hl
  refine lv_iconst (v := 0) hx hb dX0_worthOf_0 (by decide) ?_
  refine lv_istore_n (lv' := [(3, .int 0), (0, .ref o0), (1, .int p0), (2, .ref p1)]) hx hb dX0_worthOf_1 rfl hl (by decide) rfl (fun ls hl => ?_)
  refine lv_iconst (v := 0) hx hb dX0_worthOf_2 (by decide) ?_
  refine lv_istore (lv' := [(4, .int 0), (3, .int 0), (0, .ref o0), (1, .int p0), (2, .ref p1)]) hx hb dX0_worthOf_3 hl (by decide) rfl (fun ls hl => ?_)
  have key51 : ∀ (n51 i1 : Nat), i1 + n51 = 96 → 0 ≤ i1 → ∀ (z2 : Int32), ∀ (H : Heap) (locs : List Loc), gH (dC, dI) kA (SHc nC nS) G H → gF (dC, dI) SKc G ([] : List (Nat × Nat)) s.heap H → va_S A s.heap H locs → ∀ ls : Array Slot, lv_has ls 7 [(4, .int (nI i1)), (3, .int z2), (0, .ref o0), (1, .int p0), (2, .ref p1)] → W p l e (headSpec w_c_worthOf ({ frames := 1, cells := 0, slots := 0, locals := 40 })).room s m #[.ref o0, .int p0, .ref p1] below meth c H locs 0 0 (MQ below (va_Qi (fun (r : Int32) (u : Unit) => True) (fun (_ : Unit) (t : State) => gH (dC, dI) kA (SHc nC nS) G t.heap ∧ gF (dC, dI) SKc G ([] : List (Nat × Nat)) s.heap t.heap) A) #[.ref o0, .int p0, .ref p1] s 0 0 A) (F0 m 5 ls []) := by
    intro n51
    induction n51 with
    | zero =>
      intro i1 hn51 hlo52 z2 H locs hT hF hS  ls hl
      obtain rfl : 96 = i1 := by omega
      refine lv_iload hx hb dX0_worthOf_5 (lv_at hl 0 rfl) ?_
      refine lv_bipush (v := 96) hx hb dX0_worthOf_7 (by decide) ?_
      refine lv_icmp_ge (tgt := 84) hx hb dX0_worthOf_9 (by decide) (fun c53 => ?_) (fun c53 => (by exfalso; have q9 : ((96 : Nat) : Int) < 96 := ti_nle c53 (by decide) (nI_toInt (by omega)); omega))
      have t54 : 96 ≤ ((96 : Nat) : Int) := ti_le c53 (by decide) (nI_toInt (by omega))
      refine lv_iload_n hx hb dX0_worthOf_84 rfl (lv_at hl 1 rfl) ?_
      exact W.iret (v := z2) hx hb hr (fun t ht hW => ⟨⟨z2, (), rfl, (by exact trivial), by (try dsimp only); rw [ht]; exact ⟨hT, hF⟩⟩, hS.F ht⟩) hS.2.2 dX0_worthOf_85
    | succ n51 ih51 =>
      intro i1 hn51 hlo52 z2 H locs hT hF hS  ls hl
      have hlt54 : i1 < 96 := by omega
      refine lv_iload hx hb dX0_worthOf_5 (lv_at hl 0 rfl) ?_
      refine lv_bipush (v := 96) hx hb dX0_worthOf_7 (by decide) ?_
      refine lv_icmp_ge (tgt := 84) hx hb dX0_worthOf_9 (by decide) (fun c55 => (by exfalso; have q9 : 96 ≤ ((i1 : Nat) : Int) := ti_le c55 (by decide) (nI_toInt (by omega)); omega)) (fun c55 => ?_)
      have t56 : ((i1 : Nat) : Int) < 96 := ti_nle c55 (by decide) (nI_toInt (by omega))
      refine lv_aload_n hx hb dX0_worthOf_12 rfl (lv_at hl 2 rfl) ?_
      refine tw_get hx hb hts bF2_X0 hown hK hT hr_o0 shc_3 rfl 1 (by decide) (ht_at2 hts 0 rfl) (fun _ h9 => h9) dX0_worthOf_13 (fun v9 m57 h9 => ?_)
      obtain ⟨b58, rfl, hg59⟩ := h9 _ rfl
      refine lv_iload hx hb dX0_worthOf_16 (lv_at hl 0 rfl) ?_
      refine tw_iald (i := (nI i1)) hx hb hK hT hg59 shc_52 rfl (vp_in_nI (by omega) (by decide)) dX0_worthOf_18 (fun v9 m60 h9 => ?_)
      obtain ⟨x61, rfl, gx61, kx61⟩ := h9
      refine lv_iload_n hx hb dX0_worthOf_19 rfl (lv_at hl 3 rfl) ?_
      have t62 : -2147483648 ≤ x61.toInt ∧ x61.toInt ≤ 2147483647 := ti_all x61
      have t63 : -2147483648 ≤ p0.toInt ∧ p0.toInt ≤ 2147483647 := ti_all p0
      refine lv_icmp_ne (tgt := 78) hx hb dX0_worthOf_20 (by decide) (fun c64 => ?_) (fun c64 => ?_)
      · have t65 : x61.toInt ≠ p0.toInt := ti_ne c64 rfl rfl
        refine lv_iinc (v := nI (i1 + 1)) (lv' := [(4, .int (nI (i1 + 1))), (3, .int z2), (0, .ref o0), (1, .int p0), (2, .ref p1)]) hx hb dX0_worthOf_78 hl (k := 0) rfl (nI_add i1 1) (by decide) rfl (fun ls hl => ?_)
        refine lv_goto (tgt := 5) hx hb dX0_worthOf_81 (by decide) ?_
        exact ih51 (i1 + 1) (by omega) (by omega) z2 _ _ hT hF hS ls (lv_sub hl [0, 1, 2, 3, 4] rfl)
      · have t66 : x61.toInt = p0.toInt := ti_eq c64 rfl rfl
        refine lv_aload_n hx hb dX0_worthOf_23 rfl (lv_at hl 4 rfl) ?_
        refine tw_getN hx hb hts bF2_X2 hown hK hT hr_p1 shc_5 rfl 2 (by decide) (hE.nw 71 rfl) (fun _ h9 => h9) dX0_worthOf_24 (fun v9 m67 h9 => ?_)
        obtain ⟨b68, rfl, hg69⟩ := h9 _ rfl
        refine lv_iload hx hb dX0_worthOf_27 (lv_at hl 0 rfl) ?_
        refine tw_iald (i := (nI i1)) hx hb hK hT hg69 shc_27 rfl (vp_in_nI (by omega) (by decide)) dX0_worthOf_29 (fun v9 m70 h9 => ?_)
        obtain ⟨x71, rfl, gx71, kx71⟩ := h9
        refine lv_istore (lv' := [(5, .int x71), (4, .int (nI i1)), (3, .int z2), (0, .ref o0), (1, .int p0), (2, .ref p1)]) hx hb dX0_worthOf_30 hl (by decide) rfl (fun ls hl => ?_)
        refine lv_iload hx hb dX0_worthOf_32 (lv_at hl 0 rfl) ?_
        have jn82 : ∀ (z76 : Int32), ((60 ≤ z76.toInt ∧ z76.toInt ≤ 150)) → ∀ (H : Heap) (locs : List Loc), gH (dC, dI) kA (SHc nC nS) G H → gF (dC, dI) SKc G ([] : List (Nat × Nat)) s.heap H → va_S A s.heap H locs → el H o0 (dI 3 1) = some (.ref b58) → el H b58 (nI i1).toNatClampNeg = some (.int x61) → el H p1 (dI 5 2) = some (.ref b68) → el H b68 (nI i1).toNatClampNeg = some (.int x71) → ∀ ls : Array Slot, lv_has ls 7 [(5, .int x71), (4, .int (nI i1)), (3, .int z2), (0, .ref o0), (1, .int p0), (2, .ref p1)] → W p l e (headSpec w_c_worthOf ({ frames := 1, cells := 0, slots := 0, locals := 40 })).room s m #[.ref o0, .int p0, .ref p1] below meth c H locs 0 0 (MQ below (va_Qi (fun (r : Int32) (u : Unit) => True) (fun (_ : Unit) (t : State) => gH (dC, dI) kA (SHc nC nS) G t.heap ∧ gF (dC, dI) SKc G ([] : List (Nat × Nat)) s.heap t.heap) A) #[.ref o0, .int p0, .ref p1] s 0 0 A) (F0 m 56 ls [.int z76]) := by
          intro z76 h77 H locs hT hF hS m78 m79 m80 m81 ls hl
          refine lv_istore (lv' := [(6, .int z76), (5, .int x71), (4, .int (nI i1)), (3, .int z2), (0, .ref o0), (1, .int p0), (2, .ref p1)]) hx hb dX0_worthOf_56 hl (by decide) rfl (fun ls hl => ?_)
          refine lv_iload_n hx hb dX0_worthOf_58 rfl (lv_at hl 3 rfl) ?_
          refine lv_iconst (v := 0) hx hb dX0_worthOf_59 (by decide) ?_
          refine lv_iload hx hb dX0_worthOf_60 (lv_at hl 0 rfl) ?_
          refine lv_aload_n hx hb dX0_worthOf_62 rfl (lv_at hl 6 rfl) ?_
          refine tw_getN hx hb hts bF2_X2 hown hK hT hr_p1 shc_5 rfl 5 (by decide) (hE.nw 72 rfl) (fun _ h9 => h9) dX0_worthOf_63 (fun v9 m83 h9 => ?_)
          obtain ⟨b84, rfl, hg85⟩ := h9 _ rfl
          refine lv_iload hx hb dX0_worthOf_66 (lv_at hl 2 rfl) ?_
          refine tw_iald (i := (nI i1)) hx hb hK hT hg85 shc_30 rfl (vp_in_nI (by omega) (by decide)) dX0_worthOf_68 (fun v9 m86 h9 => ?_)
          obtain ⟨x87, rfl, gx87, kx87⟩ := h9
          refine lv_bipush (v := 100) hx hb dX0_worthOf_69 (by decide) ?_
          have t88 : -2147483648 ≤ x87.toInt ∧ x87.toInt ≤ 2147483647 := ti_all x87
          refine lv_idiv hx hb dX0_worthOf_71 (by decide) ?_
          refine lv_topi (fun x89 ex89 => ?_)
          have t90 : (0 ≤ x87.toInt ∧ x89.toInt = x87.toInt / 100) ∨ (x87.toInt < 0 ∧ x89.toInt = -((-x87.toInt) / 100)) := ti_divs ex89 rfl (by decide) (by decide)
          refine lv_isub hx hb dX0_worthOf_72 ?_
          refine lv_topi (fun x91 ex91 => ?_)
          have t92 : x91.toInt = z76.toInt - x89.toInt := ti_sub ex91 rfl rfl (by omega) (by omega)
          refine va_mmax hx hb (hml.trans hl.1.symm) hown (ht_at2 hts 1 rfl) (ht_at2 hts 2 rfl) (ht_at2 hts 3 rfl) (ht_at2 hts 4 rfl) (Nat.le_of_ble_eq_true rfl) (Nat.le_of_ble_eq_true rfl) (Nat.le_of_ble_eq_true rfl) (Nat.le_of_ble_eq_true rfl) dX0_worthOf_73 ?_
          refine lv_topi (fun x93 ex93 => ?_)
          have t94 : 0 ≤ x93.toInt ∧ x91.toInt ≤ x93.toInt ∧ (x93.toInt = 0 ∨ x93.toInt = x91.toInt) := mx_f ex93 (by decide) rfl
          refine lv_iadd hx hb dX0_worthOf_76 ?_
          refine lv_topi (fun x95 ex95 => ?_)
          refine lv_istore_n (lv' := [(3, .int x95), (6, .int z76), (5, .int x71), (4, .int (nI i1)), (0, .ref o0), (1, .int p0), (2, .ref p1)]) hx hb dX0_worthOf_77 rfl hl (by decide) rfl (fun ls hl => ?_)
          refine lv_iinc (v := nI (i1 + 1)) (lv' := [(4, .int (nI (i1 + 1))), (3, .int x95), (6, .int z76), (5, .int x71), (0, .ref o0), (1, .int p0), (2, .ref p1)]) hx hb dX0_worthOf_78 hl (k := 3) rfl (nI_add i1 1) (by decide) rfl (fun ls hl => ?_)
          refine lv_goto (tgt := 5) hx hb dX0_worthOf_81 (by decide) ?_
          exact ih51 (i1 + 1) (by omega) (by omega) x95 _ _ hT hF hS ls (lv_sub hl [0, 1, 4, 5, 6] rfl)
        have t96 : -2147483648 ≤ x71.toInt ∧ x71.toInt ≤ 2147483647 := ti_all x71
        refine lv_if_ne (tgt := 42) hx hb dX0_worthOf_34 (by decide) (fun c97 => ?_) (fun c97 => ?_)
        · have t98 : x71.toInt ≠ 0 := ti_ne c97 rfl (by decide)
          refine lv_iload hx hb dX0_worthOf_42 (lv_at hl 0 rfl) ?_
          refine lv_iconst (v := 1) hx hb dX0_worthOf_44 (by decide) ?_
          refine lv_icmp_ne (tgt := 54) hx hb dX0_worthOf_45 (by decide) (fun c99 => ?_) (fun c99 => ?_)
          · have t100 : x71.toInt ≠ 1 := ti_ne c99 rfl (by decide)
            refine lv_bipush (v := 60) hx hb dX0_worthOf_54 (by decide) ?_
            exact jn82 60 (rg_t (a := 60) (by decide) (by first | decide | omega) (by first | decide | omega)) _ _ hT hF hS m57 m60 m67 m70 ls (lv_sub hl [0, 1, 2, 3, 4, 5] rfl)
          · have t101 : x71.toInt = 1 := ti_eq c99 rfl (by decide)
            refine lv_sipush (v := 150) hx hb dX0_worthOf_48 (by decide) ?_
            refine lv_goto (tgt := 56) hx hb dX0_worthOf_51 (by decide) ?_
            exact jn82 150 (rg_t (a := 150) (by decide) (by first | decide | omega) (by first | decide | omega)) _ _ hT hF hS m57 m60 m67 m70 ls (lv_sub hl [0, 1, 2, 3, 4, 5] rfl)
        · have t102 : x71.toInt = 0 := ti_eq c97 rfl (by decide)
          refine lv_bipush (v := 100) hx hb dX0_worthOf_37 (by decide) ?_
          refine lv_goto (tgt := 56) hx hb dX0_worthOf_39 (by decide) ?_
          exact jn82 100 (rg_t (a := 100) (by decide) (by first | decide | omega) (by first | decide | omega)) _ _ hT hF hS m57 m60 m67 m70 ls (lv_sub hl [0, 1, 2, 3, 4, 5] rfl)
  exact key51 (96 - 0) 0 (by omega) (Nat.le_refl _) 0 _ _ hT hF hS ls (lv_sub hl [0, 1, 2, 3, 4] rfl)
def w_c_bestFreeFarm : List Cond := .code yX0_bestFreeFarm cX0_bestFreeFarm 6 (some .int) :: (HAppend.hAppend (α := List Cond) (β := List Cond) (γ := List Cond) [.fieldLink RX0 143 "SeaLand$Board" "farms" "I", .fieldLink RX0 24 "SeaLand$Board" "held" "[Z", .code yX0_worthOf cX0_worthOf 7 (some .int), .fieldLink RX0 17 "SeaLand$Board" "farmOf" "[I", .methodLink RX0 161 Lib.Math.max.name, .static Lib.Math.max.name, .initialized "java/lang/Math", .code Lib.Math.max.name Lib.Math.max.code 2 (some .int), .methodLink RX0 191 yX0_worthOf, .instanceMethod yX0_worthOf, .selects RX0 yX0_worthOf yX0_worthOf, .initialized RX0] bs2)
set_option maxHeartbeats 4000000 in
set_option maxRecDepth 100000 in
theorem c_bestFreeFarm (l : Launch) (dC : Nat → ClassId) (dI : Nat → Nat → Nat) (kA : Nat → ClassId) (adK adV : Nat → Nat) (G : gT) (H0 : Heap) (nC nS : Int) (o0 : Nat) (p0 : Nat)  (hT : gH (dC, dI) kA (SHc nC nS) G H0) (hr_p0 : G p0 = some 5) (hr_o0 : G o0 = some 3) (hgC : 0 ≤ nC ∧ nC ≤ 40) (hgS : 0 ≤ nS ∧ nS ≤ 60) : Met l yX0_bestFreeFarm w_c_bestFreeFarm ({ frames := 2, cells := 0, slots := 0, locals := 66 }) (va_Pc [.ref o0, .ref p0] (fun U => U.heap = H0 ∧ va_K (dC, dI) vwCl (tyl kA) U ∧ EVC adK adV (gA G H0.size) U U.heap)) (va_Qi (fun (r : Int32) (u : Unit) => (-1 ≤ r.toInt ∧ r.toInt ≤ 29)) (fun (_ : Unit) (t : State) => gH (dC, dI) kA (SHc nC nS) G t.heap ∧ gF (dC, dI) SKc G ([] : List (Nat × Nat)) H0 t.heap) (gA G H0.size)) 0 0 (gA G H0.size) := by
  refine Met.ofW (cc := cX0_bestFreeFarm) (maxL := 6) (ret := (some .int)) (by decide) rfl ?_
  intro p e s m args below meth c s₁ B hml hv
  obtain ⟨rfl, hH0, hK, hE⟩ := hv
  have hx := B.exec
  have hb := B.bytes
  have hr := B.returns
  have hts := atoms_spec (ws := w_c_bestFreeFarm) B.pre
  have hown : s.vm.findClass RX0 = some m.cls := findClass_of_methodNamed B.named
  have hlocks := B.notSynchronized
  subst hH0
  generalize hAe : gA G s.heap.size = A at hE ⊢
  have hA : ∀ q : Nat, s.heap.size ≤ q → A q := fun q h => by rw [← hAe]; exact Or.inr h
  have hG := gA_of hAe
  have hS : va_S A s.heap s.heap [] := va_S.rf
  have hF : gF (dC, dI) SKc G ([] : List (Nat × Nat)) s.heap s.heap := gF.rf
  have hl := lv_entry ([.ref o0, .ref p0]) (n := 6) (Nat.le_of_ble_eq_true rfl)
  rw [lg_entry_eq]
  generalize (lg_sl ([.ref o0, .ref p0]) ++ List.replicate (6 - (lg_sl ([.ref o0, .ref p0])).length) Slot.unset).toArray = ls at hl ⊢
  have hl : lv_has ls 6 [(0, .ref o0), (1, .ref p0)] := hl
  refine lv_iconst (v := (-1)) hx hb dX0_bestFreeFarm_0 (by decide) ?_
  refine lv_istore_n (lv' := [(2, .int (-1)), (0, .ref o0), (1, .ref p0)]) hx hb dX0_bestFreeFarm_1 rfl hl (by decide) rfl (fun ls hl => ?_)
  refine lv_iconst (v := (-1)) hx hb dX0_bestFreeFarm_2 (by decide) ?_
  refine lv_istore_n (lv' := [(3, .int (-1)), (2, .int (-1)), (0, .ref o0), (1, .ref p0)]) hx hb dX0_bestFreeFarm_3 rfl hl (by decide) rfl (fun ls hl => ?_)
  refine lv_iconst (v := 0) hx hb dX0_bestFreeFarm_4 (by decide) ?_
  refine lv_istore (lv' := [(4, .int 0), (3, .int (-1)), (2, .int (-1)), (0, .ref o0), (1, .ref p0)]) hx hb dX0_bestFreeFarm_5 hl (by decide) rfl (fun ls hl => ?_)
  have key39 : ∀ (n39 i1 : Nat), i1 + n39 = 30 → 0 ≤ i1 → ∀ (z2 : Int32), ∀ (z4 : Int32), ((-1 ≤ z2.toInt ∧ z2.toInt ≤ 2147483647) ∧ (-1 ≤ z4.toInt ∧ z4.toInt ≤ 29)) → ∀ (H : Heap) (locs : List Loc), gH (dC, dI) kA (SHc nC nS) G H → gF (dC, dI) SKc G ([] : List (Nat × Nat)) s.heap H → va_S A s.heap H locs → ∀ ls : Array Slot, lv_has ls 6 [(4, .int (nI i1)), (3, .int z2), (2, .int z4), (0, .ref o0), (1, .ref p0)] → W p l e (headSpec w_c_bestFreeFarm ({ frames := 2, cells := 0, slots := 0, locals := 66 })).room s m #[.ref o0, .ref p0] below meth c H locs 0 0 (MQ below (va_Qi (fun (r : Int32) (u : Unit) => (-1 ≤ r.toInt ∧ r.toInt ≤ 29)) (fun (_ : Unit) (t : State) => gH (dC, dI) kA (SHc nC nS) G t.heap ∧ gF (dC, dI) SKc G ([] : List (Nat × Nat)) s.heap t.heap) A) #[.ref o0, .ref p0] s 0 0 A) (F0 m 7 ls []) := by
    intro n39
    induction n39 with
    | zero =>
      intro i1 hn39 hlo40 z2 z4 ⟨h3, h5⟩ H locs hT hF hS  ls hl
      obtain rfl : 30 = i1 := by omega
      refine lv_iload hx hb dX0_bestFreeFarm_7 (lv_at hl 0 rfl) ?_
      refine lv_aload_n hx hb dX0_bestFreeFarm_9 rfl (lv_at hl 3 rfl) ?_
      refine tw_get hx hb hts bF2_X0 hown hK hT hr_o0 shc_3 rfl 16 (by decide) (ht_at2 hts 0 rfl) (fun _ h9 => h9) dX0_bestFreeFarm_10 (fun v9 m41 h9 => ?_)
      obtain ⟨x42, rfl, gx42, kx42⟩ := h9 _ rfl
      refine lv_icmp_ge (tgt := 57) hx hb dX0_bestFreeFarm_13 (by decide) (fun c43 => ?_) (fun c43 => (by exfalso; have q9 : ((30 : Nat) : Int) < x42.toInt := ti_nle c43 rfl (nI_toInt (by omega)); omega))
      have t44 : x42.toInt ≤ ((30 : Nat) : Int) := ti_le c43 rfl (nI_toInt (by omega))
      refine lv_iload_n hx hb dX0_bestFreeFarm_57 rfl (lv_at hl 2 rfl) ?_
      exact W.iret (v := z4) hx hb hr (fun t ht hW => ⟨⟨z4, (), rfl, (by exact (by have q8 := ti_all z4; omega)), by (try dsimp only); rw [ht]; exact ⟨hT, hF⟩⟩, hS.F ht⟩) hS.2.2 dX0_bestFreeFarm_58
    | succ n39 ih39 =>
      intro i1 hn39 hlo40 z2 z4 ⟨h3, h5⟩ H locs hT hF hS  ls hl
      have hlt44 : i1 < 30 := by omega
      refine lv_iload hx hb dX0_bestFreeFarm_7 (lv_at hl 0 rfl) ?_
      refine lv_aload_n hx hb dX0_bestFreeFarm_9 rfl (lv_at hl 3 rfl) ?_
      refine tw_get hx hb hts bF2_X0 hown hK hT hr_o0 shc_3 rfl 16 (by decide) (ht_at2 hts 0 rfl) (fun _ h9 => h9) dX0_bestFreeFarm_10 (fun v9 m45 h9 => ?_)
      obtain ⟨x46, rfl, gx46, kx46⟩ := h9 _ rfl
      refine lv_icmp_ge (tgt := 57) hx hb dX0_bestFreeFarm_13 (by decide) (fun c47 => ?_) (fun c47 => ?_)
      · have t48 : x46.toInt ≤ ((i1 : Nat) : Int) := ti_le c47 rfl (nI_toInt (by omega))
        refine lv_iload_n hx hb dX0_bestFreeFarm_57 rfl (lv_at hl 2 rfl) ?_
        exact W.iret (v := z4) hx hb hr (fun t ht hW => ⟨⟨z4, (), rfl, (by exact (by have q8 := ti_all z4; omega)), by (try dsimp only); rw [ht]; exact ⟨hT, hF⟩⟩, hS.F ht⟩) hS.2.2 dX0_bestFreeFarm_58
      · have t49 : ((i1 : Nat) : Int) < x46.toInt := ti_nle c47 rfl (nI_toInt (by omega))
        refine lv_aload_n hx hb dX0_bestFreeFarm_16 rfl (lv_at hl 3 rfl) ?_
        refine tw_get hx hb hts bF2_X0 hown hK hT hr_o0 shc_3 rfl 3 (by decide) (ht_at2 hts 1 rfl) (fun _ h9 => h9) dX0_bestFreeFarm_17 (fun v9 m50 h9 => ?_)
        obtain ⟨b51, rfl, hg52⟩ := h9 _ rfl
        refine lv_iload hx hb dX0_bestFreeFarm_20 (lv_at hl 0 rfl) ?_
        refine tw_zald (i := (nI i1)) hx hb hK hT hg52 shc_54 rfl (vp_in_nI (by omega) (by decide)) dX0_bestFreeFarm_22 (fun v9 m53 h9 => ?_)
        obtain ⟨x54, rfl, gx54, kx54⟩ := h9
        have jn64 : ∀ (z60 : Int32), ∀ (H : Heap) (locs : List Loc), gH (dC, dI) kA (SHc nC nS) G H → gF (dC, dI) SKc G ([] : List (Nat × Nat)) s.heap H → va_S A s.heap H locs → el H o0 (dI 3 16) = some (.int x46) → el H o0 (dI 3 3) = some (.ref b51) → el H b51 (nI i1).toNatClampNeg = some (.int x54) → ∀ ls : Array Slot, lv_has ls 6 [(4, .int (nI i1)), (3, .int z2), (2, .int z4), (0, .ref o0), (1, .ref p0)] → W p l e (headSpec w_c_bestFreeFarm ({ frames := 2, cells := 0, slots := 0, locals := 66 })).room s m #[.ref o0, .ref p0] below meth c H locs 0 0 (MQ below (va_Qi (fun (r : Int32) (u : Unit) => (-1 ≤ r.toInt ∧ r.toInt ≤ 29)) (fun (_ : Unit) (t : State) => gH (dC, dI) kA (SHc nC nS) G t.heap ∧ gF (dC, dI) SKc G ([] : List (Nat × Nat)) s.heap t.heap) A) #[.ref o0, .ref p0] s 0 0 A) (F0 m 37 ls [.int z60]) := by
          intro z60 H locs hT hF hS m61 m62 m63 ls hl
          refine lv_istore (lv' := [(5, .int z60), (4, .int (nI i1)), (3, .int z2), (2, .int z4), (0, .ref o0), (1, .ref p0)]) hx hb dX0_bestFreeFarm_37 hl (by decide) rfl (fun ls hl => ?_)
          refine lv_iload hx hb dX0_bestFreeFarm_39 (lv_at hl 0 rfl) ?_
          refine lv_iload_n hx hb dX0_bestFreeFarm_41 rfl (lv_at hl 2 rfl) ?_
          have t65 : -2147483648 ≤ z60.toInt ∧ z60.toInt ≤ 2147483647 := ti_all z60
          have t66 : -2147483648 ≤ z2.toInt ∧ z2.toInt ≤ 2147483647 := ti_all z2
          refine lv_icmp_le (tgt := 51) hx hb dX0_bestFreeFarm_42 (by decide) (fun c67 => ?_) (fun c67 => ?_)
          · have t68 : z60.toInt ≤ z2.toInt := ti_le c67 rfl rfl
            refine lv_iinc (v := nI (i1 + 1)) (lv' := [(4, .int (nI (i1 + 1))), (5, .int z60), (3, .int z2), (2, .int z4), (0, .ref o0), (1, .ref p0)]) hx hb dX0_bestFreeFarm_51 hl (k := 1) rfl (nI_add i1 1) (by decide) rfl (fun ls hl => ?_)
            refine lv_goto (tgt := 7) hx hb dX0_bestFreeFarm_54 (by decide) ?_
            exact ih39 (i1 + 1) (by omega) (by omega) z2 z4 ⟨(by have q8 := ti_all z2; omega), (by have q8 := ti_all z4; omega)⟩ _ _ hT hF hS ls (lv_sub hl [0, 2, 3, 4, 5] rfl)
          · have t69 : z2.toInt < z60.toInt := ti_nle c67 rfl rfl
            refine lv_iload hx hb dX0_bestFreeFarm_45 (lv_at hl 0 rfl) ?_
            refine lv_istore_n (lv' := [(3, .int z60), (5, .int z60), (4, .int (nI i1)), (2, .int z4), (0, .ref o0), (1, .ref p0)]) hx hb dX0_bestFreeFarm_47 rfl hl (by decide) rfl (fun ls hl => ?_)
            refine lv_iload hx hb dX0_bestFreeFarm_48 (lv_at hl 2 rfl) ?_
            refine lv_istore_n (lv' := [(2, .int (nI i1)), (3, .int z60), (5, .int z60), (4, .int (nI i1)), (0, .ref o0), (1, .ref p0)]) hx hb dX0_bestFreeFarm_50 rfl hl (by decide) rfl (fun ls hl => ?_)
            refine lv_iinc (v := nI (i1 + 1)) (lv' := [(4, .int (nI (i1 + 1))), (2, .int (nI i1)), (3, .int z60), (5, .int z60), (0, .ref o0), (1, .ref p0)]) hx hb dX0_bestFreeFarm_51 hl (k := 3) rfl (nI_add i1 1) (by decide) rfl (fun ls hl => ?_)
            refine lv_goto (tgt := 7) hx hb dX0_bestFreeFarm_54 (by decide) ?_
            exact ih39 (i1 + 1) (by omega) (by omega) z60 (nI i1) ⟨(by have q8 := ti_all z60; omega), (rg_t (a := ((i1 : Nat) : Int)) (nI_toInt (by omega)) (by omega) (by omega))⟩ _ _ hT hF hS ls (lv_sub hl [0, 2, 1, 4, 5] rfl)
        refine lv_if_eq (tgt := 30) hx hb dX0_bestFreeFarm_23 (by decide) (fun c70 => ?_) (fun c70 => ?_)
        · have t71 : x54.toInt = 0 := ti_eq c70 rfl (by decide)
          refine lv_aload_n hx hb dX0_bestFreeFarm_30 rfl (lv_at hl 3 rfl) ?_
          refine lv_iload hx hb dX0_bestFreeFarm_31 (lv_at hl 0 rfl) ?_
          refine lv_aload_n hx hb dX0_bestFreeFarm_33 rfl (lv_at hl 4 rfl) ?_
          have hFc := gA_free hG hA hS
          refine va_calli (va_runV (As := [.int (nI i1), .ref p0]) (rest := []) ⟨hx, hb, hml, hown, hts⟩ (c_worthOf l dC dI kA adK adV G H nC nS o0 (nI i1) p0 hT hr_p0 hr_o0 (by omega) (by omega)) (cwV 2 hts (goodIn_app (goodIn_r _ [9, 10, 11, 12] rfl (by decide +kernel)) (goodIn_ca (goodIn_r _ [3, 4, 5, 6, 7, 8] rfl (by decide +kernel)) (bs2_in _ _))) rfl rfl rfl (by decide +kernel) ⟨(Nat.le_of_ble_eq_true rfl), (Nat.le_of_ble_eq_true rfl)⟩) ⟨fun a U g mk q => by obtain ⟨q0, q1, qK, qE⟩ := q; exact ⟨q0, q1, va_K.moved (u := U) (U := U.calling g mk a) (Vm.Alike.refl U.vm) qK, EVC.blind g mk a qE⟩, gH_rc hK hT hr_o0 shc_3 rfl, fun U hU hW => ⟨rfl, hU, va_K.moved hW.alike hK, hE.call hS hFc hU hW⟩⟩ rfl rfl hl.1 rfl (lv_room (Nat.le_of_ble_eq_true rfl)) dX0_bestFreeFarm_34 ⟨(Nat.le_of_ble_eq_true rfl), (Nat.le_of_ble_eq_true rfl)⟩) hS (fun q _ h => hFc q h) hFc (fun r72 u t H locs ht hvm hw73 hB _ _ hS => ?_)
          obtain ⟨hT, hF1⟩ := hB
          rw [ht] at hT hF1
          have m74 := (hF1.fld hr_o0 skc_3 (k := 16) (by decide) (by decide)).trans m45
          have m75 := (hF1.fld hr_o0 skc_3 (k := 3) (by decide) (by decide)).trans m50
          have m76 := (el_kept (hF1.arr hg52 skc_54 (by decide))).trans m53
          have hF := hF.more hF1 (by decide)
          try dsimp only at hw73
          exact jn64 r72 _ _ hT hF hS m74 m75 m76 ls (lv_sub hl [0, 1, 2, 3, 4] rfl)
        · have t77 : x54.toInt ≠ 0 := ti_ne c70 rfl (by decide)
          refine lv_iconst (v := (-1)) hx hb dX0_bestFreeFarm_26 (by decide) ?_
          refine lv_goto (tgt := 37) hx hb dX0_bestFreeFarm_27 (by decide) ?_
          exact jn64 (-1) _ _ hT hF hS m45 m50 m53 ls (lv_sub hl [0, 1, 2, 3, 4] rfl)
  exact key39 (30 - 0) 0 (by omega) (Nat.le_refl _) (-1) (-1) ⟨(rg_t (a := (-1)) (by decide) (by first | decide | omega) (by first | decide | omega)), (rg_t (a := (-1)) (by decide) (by first | decide | omega) (by first | decide | omega))⟩ _ _ hT hF hS ls (lv_sub hl [0, 1, 2, 3, 4] rfl)
def w_c_firstByMark : List Cond := .code yX0_firstByMark cX0_firstByMark 3 (some .int) :: (HAppend.hAppend (α := List Cond) (β := List Cond) (γ := List Cond) [.fieldLink RX0 75 "SeaLand$Board" "settled" "I", .fieldLink RX0 37 "SeaLand$Board" "marks" "[I", .fieldLink RX0 11 "SeaLand$Board" "settlers" "[LSeaLand$Settler;"] bs2)
set_option maxHeartbeats 4000000 in
set_option maxRecDepth 100000 in
theorem c_firstByMark (l : Launch) (dC : Nat → ClassId) (dI : Nat → Nat → Nat) (kA : Nat → ClassId) (adK adV : Nat → Nat) (G : gT) (H0 : Heap) (nC nS : Int) (o0 : Nat)  (hT : gH (dC, dI) kA (SHc nC nS) G H0) (hr_o0 : G o0 = some 3) (hgC : 0 ≤ nC ∧ nC ≤ 40) (hgS : 0 ≤ nS ∧ nS ≤ 60) : Met l yX0_firstByMark w_c_firstByMark ({ frames := 0, cells := 0, slots := 0, locals := 0 }) (va_Pc [.ref o0] (fun U => U.heap = H0 ∧ va_K (dC, dI) vwCl (tyl kA) U ∧ EVC adK adV (gA G H0.size) U U.heap)) (va_Qi (fun (r : Int32) (u : Unit) => (-1 ≤ r.toInt ∧ r.toInt ≤ 59) ∧ (r.toInt < nS)) (fun (_ : Unit) (t : State) => gH (dC, dI) kA (SHc nC nS) G t.heap ∧ gF (dC, dI) SKc G ([] : List (Nat × Nat)) H0 t.heap) (gA G H0.size)) 0 0 (gA G H0.size) := by
  refine Met.ofW (cc := cX0_firstByMark) (maxL := 3) (ret := (some .int)) (by decide) rfl ?_
  intro p e s m args below meth c s₁ B hml hv
  obtain ⟨rfl, hH0, hK, hE⟩ := hv
  have hx := B.exec
  have hb := B.bytes
  have hr := B.returns
  have hts := atoms_spec (ws := w_c_firstByMark) B.pre
  have hown : s.vm.findClass RX0 = some m.cls := findClass_of_methodNamed B.named
  have hlocks := B.notSynchronized
  subst hH0
  generalize hAe : gA G s.heap.size = A at hE ⊢
  have hA : ∀ q : Nat, s.heap.size ≤ q → A q := fun q h => by rw [← hAe]; exact Or.inr h
  have hG := gA_of hAe
  have hS : va_S A s.heap s.heap [] := va_S.rf
  have hF : gF (dC, dI) SKc G ([] : List (Nat × Nat)) s.heap s.heap := gF.rf
  have hl := lv_entry ([.ref o0]) (n := 3) (Nat.le_of_ble_eq_true rfl)
  rw [lg_entry_eq]
  generalize (lg_sl ([.ref o0]) ++ List.replicate (3 - (lg_sl ([.ref o0])).length) Slot.unset).toArray = ls at hl ⊢
  have hl : lv_has ls 3 [(0, .ref o0)] := hl
  refine lv_iconst (v := (-1)) hx hb dX0_firstByMark_0 (by decide) ?_
  refine lv_istore_n (lv' := [(1, .int (-1)), (0, .ref o0)]) hx hb dX0_firstByMark_1 rfl hl (by decide) rfl (fun ls hl => ?_)
  refine lv_iconst (v := 0) hx hb dX0_firstByMark_2 (by decide) ?_
  refine lv_istore_n (lv' := [(2, .int 0), (1, .int (-1)), (0, .ref o0)]) hx hb dX0_firstByMark_3 rfl hl (by decide) rfl (fun ls hl => ?_)
  have key55 : ∀ (n55 i1 : Nat), i1 + n55 = 60 → 0 ≤ i1 → ∀ (z2 : Int32), ((-1 ≤ z2.toInt ∧ z2.toInt ≤ 59) ∧ (z2.toInt < nS)) → ∀ (H : Heap) (locs : List Loc), gH (dC, dI) kA (SHc nC nS) G H → gF (dC, dI) SKc G ([] : List (Nat × Nat)) s.heap H → va_S A s.heap H locs → ∀ ls : Array Slot, lv_has ls 3 [(2, .int (nI i1)), (1, .int z2), (0, .ref o0)] → W p l e (headSpec w_c_firstByMark ({ frames := 0, cells := 0, slots := 0, locals := 0 })).room s m #[.ref o0] below meth c H locs 0 0 (MQ below (va_Qi (fun (r : Int32) (u : Unit) => (-1 ≤ r.toInt ∧ r.toInt ≤ 59) ∧ (r.toInt < nS)) (fun (_ : Unit) (t : State) => gH (dC, dI) kA (SHc nC nS) G t.heap ∧ gF (dC, dI) SKc G ([] : List (Nat × Nat)) s.heap t.heap) A) #[.ref o0] s 0 0 A) (F0 m 4 ls []) := by
    intro n55
    induction n55 with
    | zero =>
      intro i1 hn55 hlo56 z2 ⟨h3, hj4⟩ H locs hT hF hS  ls hl
      obtain rfl : 60 = i1 := by omega
      refine lv_iload_n hx hb dX0_firstByMark_4 rfl (lv_at hl 0 rfl) ?_
      refine lv_aload_n hx hb dX0_firstByMark_5 rfl (lv_at hl 2 rfl) ?_
      refine tw_get hx hb hts bF2_X0 hown hK hT hr_o0 shc_3 rfl 14 (by decide) (ht_at2 hts 0 rfl) (fun _ h9 => h9) dX0_firstByMark_6 (fun v9 m57 h9 => ?_)
      obtain ⟨x58, rfl, gx58, kx58⟩ := h9 _ rfl
      refine lv_icmp_ge (tgt := 86) hx hb dX0_firstByMark_9 (by decide) (fun c59 => ?_) (fun c59 => (by exfalso; have q9 : ((60 : Nat) : Int) < x58.toInt := ti_nle c59 rfl (nI_toInt (by omega)); omega))
      have t60 : x58.toInt ≤ ((60 : Nat) : Int) := ti_le c59 rfl (nI_toInt (by omega))
      refine lv_iload_n hx hb dX0_firstByMark_86 rfl (lv_at hl 1 rfl) ?_
      exact W.iret (v := z2) hx hb hr (fun t ht hW => ⟨⟨z2, (), rfl, (by exact ⟨(by have q8 := ti_all z2; omega), (by omega)⟩), by (try dsimp only); rw [ht]; exact ⟨hT, hF⟩⟩, hS.F ht⟩) hS.2.2 dX0_firstByMark_87
    | succ n55 ih55 =>
      intro i1 hn55 hlo56 z2 ⟨h3, hj4⟩ H locs hT hF hS  ls hl
      have hlt60 : i1 < 60 := by omega
      refine lv_iload_n hx hb dX0_firstByMark_4 rfl (lv_at hl 0 rfl) ?_
      refine lv_aload_n hx hb dX0_firstByMark_5 rfl (lv_at hl 2 rfl) ?_
      refine tw_get hx hb hts bF2_X0 hown hK hT hr_o0 shc_3 rfl 14 (by decide) (ht_at2 hts 0 rfl) (fun _ h9 => h9) dX0_firstByMark_6 (fun v9 m61 h9 => ?_)
      obtain ⟨x62, rfl, gx62, kx62⟩ := h9 _ rfl
      refine lv_icmp_ge (tgt := 86) hx hb dX0_firstByMark_9 (by decide) (fun c63 => ?_) (fun c63 => ?_)
      · have t64 : x62.toInt ≤ ((i1 : Nat) : Int) := ti_le c63 rfl (nI_toInt (by omega))
        refine lv_iload_n hx hb dX0_firstByMark_86 rfl (lv_at hl 1 rfl) ?_
        exact W.iret (v := z2) hx hb hr (fun t ht hW => ⟨⟨z2, (), rfl, (by exact ⟨(by have q8 := ti_all z2; omega), (by omega)⟩), by (try dsimp only); rw [ht]; exact ⟨hT, hF⟩⟩, hS.F ht⟩) hS.2.2 dX0_firstByMark_87
      · have t65 : ((i1 : Nat) : Int) < x62.toInt := ti_nle c63 rfl (nI_toInt (by omega))
        refine lv_aload_n hx hb dX0_firstByMark_12 rfl (lv_at hl 2 rfl) ?_
        refine tw_get hx hb hts bF2_X0 hown hK hT hr_o0 shc_3 rfl 6 (by decide) (ht_at2 hts 1 rfl) (fun _ h9 => h9) dX0_firstByMark_13 (fun v9 m66 h9 => ?_)
        obtain ⟨b67, rfl, hg68⟩ := h9 _ rfl
        refine lv_iload_n hx hb dX0_firstByMark_16 rfl (lv_at hl 0 rfl) ?_
        refine tw_iald (i := (nI i1)) hx hb hK hT hg68 shc_57 rfl (vp_in_nI (by omega) (by decide)) dX0_firstByMark_17 (fun v9 m69 h9 => ?_)
        obtain ⟨x70, rfl, gx70, kx70⟩ := h9
        refine lv_iconst (v := (-1)) hx hb dX0_firstByMark_18 (by decide) ?_
        have t71 : -2147483648 ≤ x70.toInt ∧ x70.toInt ≤ 2147483647 := ti_all x70
        refine lv_icmp_eq (tgt := 80) hx hb dX0_firstByMark_19 (by decide) (fun c72 => ?_) (fun c72 => ?_)
        · have t73 : x70.toInt = (-1) := ti_eq c72 rfl (by decide)
          refine lv_iinc (v := nI (i1 + 1)) (lv' := [(2, .int (nI (i1 + 1))), (1, .int z2), (0, .ref o0)]) hx hb dX0_firstByMark_80 hl (k := 0) rfl (nI_add i1 1) (by decide) rfl (fun ls hl => ?_)
          refine lv_goto (tgt := 4) hx hb dX0_firstByMark_83 (by decide) ?_
          exact ih55 (i1 + 1) (by omega) (by omega) z2 ⟨(by have q8 := ti_all z2; omega), (by have := (show z2.toInt = z2.toInt from rfl); omega)⟩ _ _ hT hF hS ls (lv_sub hl [0, 1, 2] rfl)
        · have t74 : x70.toInt ≠ (-1) := ti_ne c72 rfl (by decide)
          refine lv_iload_n hx hb dX0_firstByMark_22 rfl (lv_at hl 1 rfl) ?_
          refine lv_iconst (v := (-1)) hx hb dX0_firstByMark_23 (by decide) ?_
          refine lv_icmp_eq (tgt := 78) hx hb dX0_firstByMark_24 (by decide) (fun c75 => ?_) (fun c75 => ?_)
          · have t76 : z2.toInt = (-1) := ti_eq c75 rfl (by decide)
            refine lv_iload_n hx hb dX0_firstByMark_78 rfl (lv_at hl 0 rfl) ?_
            refine lv_istore_n (lv' := [(1, .int (nI i1)), (2, .int (nI i1)), (0, .ref o0)]) hx hb dX0_firstByMark_79 rfl hl (by decide) rfl (fun ls hl => ?_)
            refine lv_iinc (v := nI (i1 + 1)) (lv' := [(2, .int (nI (i1 + 1))), (1, .int (nI i1)), (0, .ref o0)]) hx hb dX0_firstByMark_80 hl (k := 1) rfl (nI_add i1 1) (by decide) rfl (fun ls hl => ?_)
            refine lv_goto (tgt := 4) hx hb dX0_firstByMark_83 (by decide) ?_
            exact ih55 (i1 + 1) (by omega) (by omega) (nI i1) ⟨(rg_t (a := ((i1 : Nat) : Int)) (nI_toInt (by omega)) (by omega) (by omega)), (by have := (show (nI i1).toInt = ((i1 : Nat) : Int) from (nI_toInt (by omega))); omega)⟩ _ _ hT hF hS ls (lv_sub hl [0, 1, 2] rfl)
          · have t77 : z2.toInt ≠ (-1) := ti_ne c75 rfl (by decide)
            refine lv_aload_n hx hb dX0_firstByMark_27 rfl (lv_at hl 2 rfl) ?_
            refine tw_getM (v := .ref b67) hx hb hts bF2_X0 hown hK hT hr_o0 shc_3 rfl 6 (by decide) (ht_at2 hts 1 rfl) (fun _ h9 => h9) m66 dX0_firstByMark_28 ?_
            refine lv_iload_n hx hb dX0_firstByMark_31 rfl (lv_at hl 0 rfl) ?_
            refine tw_iald (i := (nI i1)) hx hb hK hT hg68 shc_57 rfl (vp_in_nI (by omega) (by decide)) dX0_firstByMark_32 (fun v9 m78 h9 => ?_)
            obtain ⟨x79, rfl, gx79, kx79⟩ := h9
            obtain rfl : x70 = x79 := (el_same m78 m69 rfl).symm
            refine lv_aload_n hx hb dX0_firstByMark_33 rfl (lv_at hl 2 rfl) ?_
            refine tw_getM (v := .ref b67) hx hb hts bF2_X0 hown hK hT hr_o0 shc_3 rfl 6 (by decide) (ht_at2 hts 1 rfl) (fun _ h9 => h9) m66 dX0_firstByMark_34 ?_
            refine lv_iload_n hx hb dX0_firstByMark_37 rfl (lv_at hl 1 rfl) ?_
            refine tw_iald (i := z2) hx hb hK hT hg68 shc_57 rfl (vin_t (a := z2.toInt) rfl (by omega) (by omega)) dX0_firstByMark_38 (fun v9 m80 h9 => ?_)
            obtain ⟨x81, rfl, gx81, kx81⟩ := h9
            have t82 : -2147483648 ≤ x81.toInt ∧ x81.toInt ≤ 2147483647 := ti_all x81
            refine lv_icmp_gt (tgt := 78) hx hb dX0_firstByMark_39 (by decide) (fun c83 => ?_) (fun c83 => ?_)
            · have t84 : x81.toInt < x70.toInt := ti_lt c83 rfl rfl
              refine lv_iload_n hx hb dX0_firstByMark_78 rfl (lv_at hl 0 rfl) ?_
              refine lv_istore_n (lv' := [(1, .int (nI i1)), (2, .int (nI i1)), (0, .ref o0)]) hx hb dX0_firstByMark_79 rfl hl (by decide) rfl (fun ls hl => ?_)
              refine lv_iinc (v := nI (i1 + 1)) (lv' := [(2, .int (nI (i1 + 1))), (1, .int (nI i1)), (0, .ref o0)]) hx hb dX0_firstByMark_80 hl (k := 1) rfl (nI_add i1 1) (by decide) rfl (fun ls hl => ?_)
              refine lv_goto (tgt := 4) hx hb dX0_firstByMark_83 (by decide) ?_
              exact ih55 (i1 + 1) (by omega) (by omega) (nI i1) ⟨(rg_t (a := ((i1 : Nat) : Int)) (nI_toInt (by omega)) (by omega) (by omega)), (by have := (show (nI i1).toInt = ((i1 : Nat) : Int) from (nI_toInt (by omega))); omega)⟩ _ _ hT hF hS ls (lv_sub hl [0, 1, 2] rfl)
            · have t85 : x70.toInt ≤ x81.toInt := ti_nlt c83 rfl rfl
              refine lv_aload_n hx hb dX0_firstByMark_42 rfl (lv_at hl 2 rfl) ?_
              refine tw_getM (v := .ref b67) hx hb hts bF2_X0 hown hK hT hr_o0 shc_3 rfl 6 (by decide) (ht_at2 hts 1 rfl) (fun _ h9 => h9) m66 dX0_firstByMark_43 ?_
              refine lv_iload_n hx hb dX0_firstByMark_46 rfl (lv_at hl 0 rfl) ?_
              refine tw_iald (i := (nI i1)) hx hb hK hT hg68 shc_57 rfl (vp_in_nI (by omega) (by decide)) dX0_firstByMark_47 (fun v9 m86 h9 => ?_)
              obtain ⟨x87, rfl, gx87, kx87⟩ := h9
              obtain rfl : x70 = x87 := (el_same m86 m69 rfl).symm
              refine lv_aload_n hx hb dX0_firstByMark_48 rfl (lv_at hl 2 rfl) ?_
              refine tw_getM (v := .ref b67) hx hb hts bF2_X0 hown hK hT hr_o0 shc_3 rfl 6 (by decide) (ht_at2 hts 1 rfl) (fun _ h9 => h9) m66 dX0_firstByMark_49 ?_
              refine lv_iload_n hx hb dX0_firstByMark_52 rfl (lv_at hl 1 rfl) ?_
              refine tw_iald (i := z2) hx hb hK hT hg68 shc_57 rfl (vin_t (a := z2.toInt) rfl (by omega) (by omega)) dX0_firstByMark_53 (fun v9 m88 h9 => ?_)
              obtain ⟨x89, rfl, gx89, kx89⟩ := h9
              obtain rfl : x81 = x89 := (el_same m88 m80 rfl).symm
              refine lv_icmp_ne (tgt := 80) hx hb dX0_firstByMark_54 (by decide) (fun c90 => ?_) (fun c90 => ?_)
              · have t91 : x70.toInt ≠ x81.toInt := ti_ne c90 rfl rfl
                refine lv_iinc (v := nI (i1 + 1)) (lv' := [(2, .int (nI (i1 + 1))), (1, .int z2), (0, .ref o0)]) hx hb dX0_firstByMark_80 hl (k := 0) rfl (nI_add i1 1) (by decide) rfl (fun ls hl => ?_)
                refine lv_goto (tgt := 4) hx hb dX0_firstByMark_83 (by decide) ?_
                exact ih55 (i1 + 1) (by omega) (by omega) z2 ⟨(by have q8 := ti_all z2; omega), (by have := (show z2.toInt = z2.toInt from rfl); omega)⟩ _ _ hT hF hS ls (lv_sub hl [0, 1, 2] rfl)
              · have t92 : x70.toInt = x81.toInt := ti_eq c90 rfl rfl
                refine lv_aload_n hx hb dX0_firstByMark_57 rfl (lv_at hl 2 rfl) ?_
                refine tw_get hx hb hts bF2_X0 hown hK hT hr_o0 shc_3 rfl 0 (by decide) (ht_at2 hts 2 rfl) (fun _ h9 => h9) dX0_firstByMark_58 (fun v9 m93 h9 => ?_)
                obtain ⟨b94, rfl, hg95⟩ := h9 _ rfl
                refine lv_iload_n hx hb dX0_firstByMark_61 rfl (lv_at hl 0 rfl) ?_
                refine tw_aald (i := (nI i1)) hx hb hK hT hg95 shc_51 rfl (vp_in_nI (by omega) (by decide)) dX0_firstByMark_62 (fun v9 m96 h9 => ?_)
                obtain ⟨b97, rfl, hg98⟩ := (h9.1 (by have q9 := tn_of (show (nI i1).toInt = ((i1 : Nat) : Int) from (nI_toInt (by omega))) (by omega); omega))
                refine tw_getN hx hb hts bF2_X7 hown hK hT hg98 shc_10 rfl 5 (by decide) (hE.nw 74 rfl) (fun _ h9 => h9) dX0_firstByMark_63 (fun v9 m99 h9 => ?_)
                obtain ⟨x100, rfl, gx100, kx100⟩ := h9 _ rfl
                refine lv_aload_n hx hb dX0_firstByMark_66 rfl (lv_at hl 2 rfl) ?_
                refine tw_getM (v := .ref b94) hx hb hts bF2_X0 hown hK hT hr_o0 shc_3 rfl 0 (by decide) (ht_at2 hts 2 rfl) (fun _ h9 => h9) m93 dX0_firstByMark_67 ?_
                refine lv_iload_n hx hb dX0_firstByMark_70 rfl (lv_at hl 1 rfl) ?_
                refine tw_aald (i := z2) hx hb hK hT hg95 shc_51 rfl (vin_t (a := z2.toInt) rfl (by omega) (by omega)) dX0_firstByMark_71 (fun v9 m101 h9 => ?_)
                obtain ⟨b102, rfl, hg103⟩ := (h9.1 (by have q9 := tn_of (show z2.toInt = z2.toInt from rfl) (by omega); omega))
                refine tw_getN hx hb hts bF2_X7 hown hK hT hg103 shc_10 rfl 5 (by decide) (hE.nw 74 rfl) (fun _ h9 => h9) dX0_firstByMark_72 (fun v9 m104 h9 => ?_)
                obtain ⟨x105, rfl, gx105, kx105⟩ := h9 _ rfl
                have t106 : -2147483648 ≤ x100.toInt ∧ x100.toInt ≤ 2147483647 := ti_all x100
                have t107 : -2147483648 ≤ x105.toInt ∧ x105.toInt ≤ 2147483647 := ti_all x105
                refine lv_icmp_ge (tgt := 80) hx hb dX0_firstByMark_75 (by decide) (fun c108 => ?_) (fun c108 => ?_)
                · have t109 : x105.toInt ≤ x100.toInt := ti_le c108 rfl rfl
                  refine lv_iinc (v := nI (i1 + 1)) (lv' := [(2, .int (nI (i1 + 1))), (1, .int z2), (0, .ref o0)]) hx hb dX0_firstByMark_80 hl (k := 0) rfl (nI_add i1 1) (by decide) rfl (fun ls hl => ?_)
                  refine lv_goto (tgt := 4) hx hb dX0_firstByMark_83 (by decide) ?_
                  exact ih55 (i1 + 1) (by omega) (by omega) z2 ⟨(by have q8 := ti_all z2; omega), (by have := (show z2.toInt = z2.toInt from rfl); omega)⟩ _ _ hT hF hS ls (lv_sub hl [0, 1, 2] rfl)
                · have t110 : x100.toInt < x105.toInt := ti_nle c108 rfl rfl
                  refine lv_iload_n hx hb dX0_firstByMark_78 rfl (lv_at hl 0 rfl) ?_
                  refine lv_istore_n (lv' := [(1, .int (nI i1)), (2, .int (nI i1)), (0, .ref o0)]) hx hb dX0_firstByMark_79 rfl hl (by decide) rfl (fun ls hl => ?_)
                  refine lv_iinc (v := nI (i1 + 1)) (lv' := [(2, .int (nI (i1 + 1))), (1, .int (nI i1)), (0, .ref o0)]) hx hb dX0_firstByMark_80 hl (k := 1) rfl (nI_add i1 1) (by decide) rfl (fun ls hl => ?_)
                  refine lv_goto (tgt := 4) hx hb dX0_firstByMark_83 (by decide) ?_
                  exact ih55 (i1 + 1) (by omega) (by omega) (nI i1) ⟨(rg_t (a := ((i1 : Nat) : Int)) (nI_toInt (by omega)) (by omega) (by omega)), (by have := (show (nI i1).toInt = ((i1 : Nat) : Int) from (nI_toInt (by omega))); omega)⟩ _ _ hT hF hS ls (lv_sub hl [0, 1, 2] rfl)
  exact key55 (60 - 0) 0 (by omega) (Nat.le_refl _) (-1) ⟨(rg_t (a := (-1)) (by decide) (by first | decide | omega) (by first | decide | omega)), (by have := (show (-1 : Int32).toInt = (-1) from (by decide)); omega)⟩ _ _ hT hF hS ls (lv_sub hl [0, 1, 2] rfl)
